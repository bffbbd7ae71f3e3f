theorem dX2_init_0 : decode cX2_init 0 = .ok (.aload_n 0, 1) := by decide +kernel
theorem dX2_init_1 : decode cX2_init 1 = .ok (.invokespecial 1, 3) := by decide +kernel
theorem dX2_init_4 : decode cX2_init 4 = .ok (.aload_n 0, 1) := by decide +kernel
theorem dX2_init_5 : decode cX2_init 5 = .ok (.new 7, 3) := by decide +kernel
theorem dX2_init_8 : decode cX2_init 8 = .ok (.dup, 1) := by decide +kernel
theorem dX2_init_9 : decode cX2_init 9 = .ok (.invokespecial 9, 3) := by decide +kernel
theorem dX2_init_12 : decode cX2_init 12 = .ok (.putfield 10, 3) := by decide +kernel
theorem dX2_init_15 : decode cX2_init 15 = .ok (.aload_n 0, 1) := by decide +kernel
theorem dX2_init_16 : decode cX2_init 16 = .ok (.new 16, 3) := by decide +kernel
theorem dX2_init_19 : decode cX2_init 19 = .ok (.dup, 1) := by decide +kernel
theorem dX2_init_20 : decode cX2_init 20 = .ok (.aload_n 0, 1) := by decide +kernel
theorem dX2_init_21 : decode cX2_init 21 = .ok (.getfield 10, 3) := by decide +kernel
theorem dX2_init_24 : decode cX2_init 24 = .ok (.invokespecial 18, 3) := by decide +kernel
theorem dX2_init_27 : decode cX2_init 27 = .ok (.putfield 21, 3) := by decide +kernel
theorem dX2_init_30 : decode cX2_init 30 = .ok (.aload_n 0, 1) := by decide +kernel
theorem dX2_init_31 : decode cX2_init 31 = .ok (.iconst 1, 1) := by decide +kernel
theorem dX2_init_32 : decode cX2_init 32 = .ok (.putfield 25, 3) := by decide +kernel
theorem dX2_init_35 : decode cX2_init 35 = .ok (.aload_n 0, 1) := by decide +kernel
theorem dX2_init_36 : decode cX2_init 36 = .ok (.ldc 29, 2) := by decide +kernel
theorem dX2_init_38 : decode cX2_init 38 = .ok (.putfield 30, 3) := by decide +kernel
theorem dX2_init_41 : decode cX2_init 41 = .ok (.aload_n 0, 1) := by decide +kernel
theorem dX2_init_42 : decode cX2_init 42 = .ok (.iconst 0, 1) := by decide +kernel
theorem dX2_init_43 : decode cX2_init 43 = .ok (.putfield 34, 3) := by decide +kernel
theorem dX2_init_46 : decode cX2_init 46 = .ok (.aload_n 0, 1) := by decide +kernel
theorem dX2_init_47 : decode cX2_init 47 = .ok (.ldc 29, 2) := by decide +kernel
theorem dX2_init_49 : decode cX2_init 49 = .ok (.putfield 37, 3) := by decide +kernel
theorem dX2_init_52 : decode cX2_init 52 = .ok (.aload_n 0, 1) := by decide +kernel
theorem dX2_init_53 : decode cX2_init 53 = .ok (.iload_n 1, 1) := by decide +kernel
theorem dX2_init_54 : decode cX2_init 54 = .ok (.invokestatic 40, 3) := by decide +kernel
theorem dX2_init_57 : decode cX2_init 57 = .ok (.ifCond .eq 7, 3) := by decide +kernel
theorem dX2_init_60 : decode cX2_init 60 = .ok (.iload_n 1, 1) := by decide +kernel
theorem dX2_init_61 : decode cX2_init 61 = .ok (.goto 5, 3) := by decide +kernel
theorem dX2_init_64 : decode cX2_init 64 = .ok (.bipush 8, 2) := by decide +kernel
theorem dX2_init_66 : decode cX2_init 66 = .ok (.invokevirtual 44, 3) := by decide +kernel
theorem dX2_init_69 : decode cX2_init 69 = .ok (.return_, 1) := by decide +kernel
theorem dX2_open_0 : decode cX2_open 0 = .ok (.iload_n 1, 1) := by decide +kernel
theorem dX2_open_1 : decode cX2_open 1 = .ok (.invokestatic 40, 3) := by decide +kernel
theorem dX2_open_4 : decode cX2_open 4 = .ok (.ifCond .ne 13, 3) := by decide +kernel
theorem dX2_open_7 : decode cX2_open 7 = .ok (.new 48, 3) := by decide +kernel
theorem dX2_open_10 : decode cX2_open 10 = .ok (.dup, 1) := by decide +kernel
theorem dX2_open_11 : decode cX2_open 11 = .ok (.ldc 50, 2) := by decide +kernel
theorem dX2_open_13 : decode cX2_open 13 = .ok (.invokespecial 52, 3) := by decide +kernel
theorem dX2_open_16 : decode cX2_open 16 = .ok (.athrow, 1) := by decide +kernel
theorem dX2_open_17 : decode cX2_open 17 = .ok (.aload_n 0, 1) := by decide +kernel
theorem dX2_open_18 : decode cX2_open 18 = .ok (.iload_n 1, 1) := by decide +kernel
theorem dX2_open_19 : decode cX2_open 19 = .ok (.invokevirtual 44, 3) := by decide +kernel
theorem dX2_open_22 : decode cX2_open 22 = .ok (.return_, 1) := by decide +kernel
theorem dX2_weigh_0 : decode cX2_weigh 0 = .ok (.iload_n 1, 1) := by decide +kernel
theorem dX2_weigh_1 : decode cX2_weigh 1 = .ok (.invokestatic 55, 3) := by decide +kernel
theorem dX2_weigh_4 : decode cX2_weigh 4 = .ok (.iload_n 2, 1) := by decide +kernel
theorem dX2_weigh_5 : decode cX2_weigh 5 = .ok (.invokestatic 58, 3) := by decide +kernel
theorem dX2_weigh_8 : decode cX2_weigh 8 = .ok (.aload_n 0, 1) := by decide +kernel
theorem dX2_weigh_9 : decode cX2_weigh 9 = .ok (.invokevirtual 61, 3) := by decide +kernel
theorem dX2_weigh_12 : decode cX2_weigh 12 = .ok (.istore_n 3, 1) := by decide +kernel
theorem dX2_weigh_13 : decode cX2_weigh 13 = .ok (.iload_n 1, 1) := by decide +kernel
theorem dX2_weigh_14 : decode cX2_weigh 14 = .ok (.bipush 10, 2) := by decide +kernel
theorem dX2_weigh_16 : decode cX2_weigh 16 = .ok (.idiv, 1) := by decide +kernel
theorem dX2_weigh_17 : decode cX2_weigh 17 = .ok (.istore 4, 2) := by decide +kernel
theorem dX2_weigh_19 : decode cX2_weigh 19 = .ok (.aload_n 0, 1) := by decide +kernel
theorem dX2_weigh_20 : decode cX2_weigh 20 = .ok (.iload_n 2, 1) := by decide +kernel
theorem dX2_weigh_21 : decode cX2_weigh 21 = .ok (.invokevirtual 65, 3) := by decide +kernel
theorem dX2_weigh_24 : decode cX2_weigh 24 = .ok (.istore 5, 2) := by decide +kernel
theorem dX2_weigh_26 : decode cX2_weigh 26 = .ok (.aload_n 0, 1) := by decide +kernel
theorem dX2_weigh_27 : decode cX2_weigh 27 = .ok (.getfield 10, 3) := by decide +kernel
theorem dX2_weigh_30 : decode cX2_weigh 30 = .ok (.iload_n 3, 1) := by decide +kernel
theorem dX2_weigh_31 : decode cX2_weigh 31 = .ok (.aload_n 0, 1) := by decide +kernel
theorem dX2_weigh_32 : decode cX2_weigh 32 = .ok (.getfield 21, 3) := by decide +kernel
theorem dX2_weigh_35 : decode cX2_weigh 35 = .ok (.invokevirtual 69, 3) := by decide +kernel
theorem dX2_weigh_38 : decode cX2_weigh 38 = .ok (.iload 4, 2) := by decide +kernel
theorem dX2_weigh_40 : decode cX2_weigh 40 = .ok (.iload 5, 2) := by decide +kernel
theorem dX2_weigh_42 : decode cX2_weigh 42 = .ok (.iconst 0, 1) := by decide +kernel
theorem dX2_weigh_43 : decode cX2_weigh 43 = .ok (.invokevirtual 72, 3) := by decide +kernel
theorem dX2_weigh_46 : decode cX2_weigh 46 = .ok (.aload_n 0, 1) := by decide +kernel
theorem dX2_weigh_47 : decode cX2_weigh 47 = .ok (.iload 4, 2) := by decide +kernel
theorem dX2_weigh_49 : decode cX2_weigh 49 = .ok (.iload 5, 2) := by decide +kernel
theorem dX2_weigh_51 : decode cX2_weigh 51 = .ok (.invokevirtual 76, 3) := by decide +kernel
theorem dX2_weigh_54 : decode cX2_weigh 54 = .ok (.aload_n 0, 1) := by decide +kernel
theorem dX2_weigh_55 : decode cX2_weigh 55 = .ok (.getfield 21, 3) := by decide +kernel
theorem dX2_weigh_58 : decode cX2_weigh 58 = .ok (.invokevirtual 80, 3) := by decide +kernel
theorem dX2_weigh_61 : decode cX2_weigh 61 = .ok (.iload 4, 2) := by decide +kernel
theorem dX2_weigh_63 : decode cX2_weigh 63 = .ok (.ireturn, 1) := by decide +kernel
theorem dX2_crack_0 : decode cX2_crack 0 = .ok (.iload_n 1, 1) := by decide +kernel
theorem dX2_crack_1 : decode cX2_crack 1 = .ok (.ifCond .eq 7, 3) := by decide +kernel
theorem dX2_crack_4 : decode cX2_crack 4 = .ok (.iload_n 1, 1) := by decide +kernel
theorem dX2_crack_5 : decode cX2_crack 5 = .ok (.invokestatic 55, 3) := by decide +kernel
theorem dX2_crack_8 : decode cX2_crack 8 = .ok (.iload_n 2, 1) := by decide +kernel
theorem dX2_crack_9 : decode cX2_crack 9 = .ok (.invokestatic 58, 3) := by decide +kernel
theorem dX2_crack_12 : decode cX2_crack 12 = .ok (.aload_n 0, 1) := by decide +kernel
theorem dX2_crack_13 : decode cX2_crack 13 = .ok (.invokevirtual 61, 3) := by decide +kernel
theorem dX2_crack_16 : decode cX2_crack 16 = .ok (.istore_n 3, 1) := by decide +kernel
theorem dX2_crack_17 : decode cX2_crack 17 = .ok (.aload_n 0, 1) := by decide +kernel
theorem dX2_crack_18 : decode cX2_crack 18 = .ok (.getfield 10, 3) := by decide +kernel
theorem dX2_crack_21 : decode cX2_crack 21 = .ok (.iload_n 3, 1) := by decide +kernel
theorem dX2_crack_22 : decode cX2_crack 22 = .ok (.aload_n 0, 1) := by decide +kernel
theorem dX2_crack_23 : decode cX2_crack 23 = .ok (.getfield 21, 3) := by decide +kernel
theorem dX2_crack_26 : decode cX2_crack 26 = .ok (.invokevirtual 69, 3) := by decide +kernel
theorem dX2_crack_29 : decode cX2_crack 29 = .ok (.iconst (-1), 1) := by decide +kernel
theorem dX2_crack_30 : decode cX2_crack 30 = .ok (.aload_n 0, 1) := by decide +kernel
theorem dX2_crack_31 : decode cX2_crack 31 = .ok (.iload_n 2, 1) := by decide +kernel
theorem dX2_crack_32 : decode cX2_crack 32 = .ok (.invokevirtual 65, 3) := by decide +kernel
theorem dX2_crack_35 : decode cX2_crack 35 = .ok (.iload_n 1, 1) := by decide +kernel
theorem dX2_crack_36 : decode cX2_crack 36 = .ok (.bipush 10, 2) := by decide +kernel
theorem dX2_crack_38 : decode cX2_crack 38 = .ok (.idiv, 1) := by decide +kernel
theorem dX2_crack_39 : decode cX2_crack 39 = .ok (.invokevirtual 72, 3) := by decide +kernel
theorem dX2_crack_42 : decode cX2_crack 42 = .ok (.aload_n 0, 1) := by decide +kernel
theorem dX2_crack_43 : decode cX2_crack 43 = .ok (.getfield 21, 3) := by decide +kernel
theorem dX2_crack_46 : decode cX2_crack 46 = .ok (.invokevirtual 80, 3) := by decide +kernel
theorem dX2_crack_49 : decode cX2_crack 49 = .ok (.return_, 1) := by decide +kernel
theorem dX2_pass_0 : decode cX2_pass 0 = .ok (.aload_n 0, 1) := by decide +kernel
theorem dX2_pass_1 : decode cX2_pass 1 = .ok (.invokevirtual 61, 3) := by decide +kernel
theorem dX2_pass_4 : decode cX2_pass 4 = .ok (.istore_n 1, 1) := by decide +kernel
theorem dX2_pass_5 : decode cX2_pass 5 = .ok (.aload_n 0, 1) := by decide +kernel
theorem dX2_pass_6 : decode cX2_pass 6 = .ok (.getfield 10, 3) := by decide +kernel
theorem dX2_pass_9 : decode cX2_pass 9 = .ok (.iload_n 1, 1) := by decide +kernel
theorem dX2_pass_10 : decode cX2_pass 10 = .ok (.aload_n 0, 1) := by decide +kernel
theorem dX2_pass_11 : decode cX2_pass 11 = .ok (.getfield 21, 3) := by decide +kernel
theorem dX2_pass_14 : decode cX2_pass 14 = .ok (.invokevirtual 69, 3) := by decide +kernel
theorem dX2_pass_17 : decode cX2_pass 17 = .ok (.bipush (-2), 2) := by decide +kernel
theorem dX2_pass_19 : decode cX2_pass 19 = .ok (.ldc 29, 2) := by decide +kernel
theorem dX2_pass_21 : decode cX2_pass 21 = .ok (.iconst 0, 1) := by decide +kernel
theorem dX2_pass_22 : decode cX2_pass 22 = .ok (.invokevirtual 72, 3) := by decide +kernel
theorem dX2_pass_25 : decode cX2_pass 25 = .ok (.aload_n 0, 1) := by decide +kernel
theorem dX2_pass_26 : decode cX2_pass 26 = .ok (.getfield 21, 3) := by decide +kernel
theorem dX2_pass_29 : decode cX2_pass 29 = .ok (.invokevirtual 80, 3) := by decide +kernel
theorem dX2_pass_32 : decode cX2_pass 32 = .ok (.return_, 1) := by decide +kernel
theorem dX2_leave_0 : decode cX2_leave 0 = .ok (.aload_n 0, 1) := by decide +kernel
theorem dX2_leave_1 : decode cX2_leave 1 = .ok (.iload_n 1, 1) := by decide +kernel
theorem dX2_leave_2 : decode cX2_leave 2 = .ok (.invokevirtual 83, 3) := by decide +kernel
theorem dX2_leave_5 : decode cX2_leave 5 = .ok (.aload_n 0, 1) := by decide +kernel
theorem dX2_leave_6 : decode cX2_leave 6 = .ok (.getfield 21, 3) := by decide +kernel
theorem dX2_leave_9 : decode cX2_leave 9 = .ok (.iload_n 1, 1) := by decide +kernel
theorem dX2_leave_10 : decode cX2_leave 10 = .ok (.invokevirtual 86, 3) := by decide +kernel
theorem dX2_leave_13 : decode cX2_leave 13 = .ok (.ifCond .eq 13, 3) := by decide +kernel
theorem dX2_leave_16 : decode cX2_leave 16 = .ok (.new 89, 3) := by decide +kernel
theorem dX2_leave_19 : decode cX2_leave 19 = .ok (.dup, 1) := by decide +kernel
theorem dX2_leave_20 : decode cX2_leave 20 = .ok (.ldc 91, 2) := by decide +kernel
theorem dX2_leave_22 : decode cX2_leave 22 = .ok (.invokespecial 93, 3) := by decide +kernel
theorem dX2_leave_25 : decode cX2_leave 25 = .ok (.athrow, 1) := by decide +kernel
theorem dX2_leave_26 : decode cX2_leave 26 = .ok (.aload_n 0, 1) := by decide +kernel
theorem dX2_leave_27 : decode cX2_leave 27 = .ok (.getfield 21, 3) := by decide +kernel
theorem dX2_leave_30 : decode cX2_leave 30 = .ok (.iload_n 1, 1) := by decide +kernel
theorem dX2_leave_31 : decode cX2_leave 31 = .ok (.invokevirtual 94, 3) := by decide +kernel
theorem dX2_leave_34 : decode cX2_leave 34 = .ok (.return_, 1) := by decide +kernel
theorem dX2_appeal_0 : decode cX2_appeal 0 = .ok (.aload_n 0, 1) := by decide +kernel
theorem dX2_appeal_1 : decode cX2_appeal 1 = .ok (.iload_n 1, 1) := by decide +kernel
theorem dX2_appeal_2 : decode cX2_appeal 2 = .ok (.invokevirtual 83, 3) := by decide +kernel
theorem dX2_appeal_5 : decode cX2_appeal 5 = .ok (.iload_n 2, 1) := by decide +kernel
theorem dX2_appeal_6 : decode cX2_appeal 6 = .ok (.invokestatic 97, 3) := by decide +kernel
theorem dX2_appeal_9 : decode cX2_appeal 9 = .ok (.aload_n 0, 1) := by decide +kernel
theorem dX2_appeal_10 : decode cX2_appeal 10 = .ok (.getfield 10, 3) := by decide +kernel
theorem dX2_appeal_13 : decode cX2_appeal 13 = .ok (.iload_n 1, 1) := by decide +kernel
theorem dX2_appeal_14 : decode cX2_appeal 14 = .ok (.iload_n 2, 1) := by decide +kernel
theorem dX2_appeal_15 : decode cX2_appeal 15 = .ok (.invokevirtual 100, 3) := by decide +kernel
theorem dX2_appeal_18 : decode cX2_appeal 18 = .ok (.ifCond .ne 13, 3) := by decide +kernel
theorem dX2_appeal_21 : decode cX2_appeal 21 = .ok (.new 89, 3) := by decide +kernel
theorem dX2_appeal_24 : decode cX2_appeal 24 = .ok (.dup, 1) := by decide +kernel
theorem dX2_appeal_25 : decode cX2_appeal 25 = .ok (.ldc 104, 2) := by decide +kernel
theorem dX2_appeal_27 : decode cX2_appeal 27 = .ok (.invokespecial 93, 3) := by decide +kernel
theorem dX2_appeal_30 : decode cX2_appeal 30 = .ok (.athrow, 1) := by decide +kernel
theorem dX2_appeal_31 : decode cX2_appeal 31 = .ok (.aload_n 0, 1) := by decide +kernel
theorem dX2_appeal_32 : decode cX2_appeal 32 = .ok (.getfield 10, 3) := by decide +kernel
theorem dX2_appeal_35 : decode cX2_appeal 35 = .ok (.iload_n 1, 1) := by decide +kernel
theorem dX2_appeal_36 : decode cX2_appeal 36 = .ok (.iload_n 2, 1) := by decide +kernel
theorem dX2_appeal_37 : decode cX2_appeal 37 = .ok (.invokevirtual 106, 3) := by decide +kernel
theorem dX2_appeal_40 : decode cX2_appeal 40 = .ok (.istore_n 3, 1) := by decide +kernel
theorem dX2_appeal_41 : decode cX2_appeal 41 = .ok (.aload_n 0, 1) := by decide +kernel
theorem dX2_appeal_42 : decode cX2_appeal 42 = .ok (.iload_n 3, 1) := by decide +kernel
theorem dX2_appeal_43 : decode cX2_appeal 43 = .ok (.aload_n 0, 1) := by decide +kernel
theorem dX2_appeal_44 : decode cX2_appeal 44 = .ok (.getfield 10, 3) := by decide +kernel
theorem dX2_appeal_47 : decode cX2_appeal 47 = .ok (.iload_n 1, 1) := by decide +kernel
theorem dX2_appeal_48 : decode cX2_appeal 48 = .ok (.iload_n 2, 1) := by decide +kernel
theorem dX2_appeal_49 : decode cX2_appeal 49 = .ok (.invokevirtual 110, 3) := by decide +kernel
theorem dX2_appeal_52 : decode cX2_appeal 52 = .ok (.invokevirtual 76, 3) := by decide +kernel
theorem dX2_appeal_55 : decode cX2_appeal 55 = .ok (.iload_n 3, 1) := by decide +kernel
theorem dX2_appeal_56 : decode cX2_appeal 56 = .ok (.ireturn, 1) := by decide +kernel
theorem dX2_level_0 : decode cX2_level 0 = .ok (.iload_n 1, 1) := by decide +kernel
theorem dX2_level_1 : decode cX2_level 1 = .ok (.aload_n 0, 1) := by decide +kernel
theorem dX2_level_2 : decode cX2_level 2 = .ok (.getfield 25, 3) := by decide +kernel
theorem dX2_level_5 : decode cX2_level 5 = .ok (.if_icmp .eq 7, 3) := by decide +kernel
theorem dX2_level_8 : decode cX2_level 8 = .ok (.iconst 1, 1) := by decide +kernel
theorem dX2_level_9 : decode cX2_level 9 = .ok (.goto 4, 3) := by decide +kernel
theorem dX2_level_12 : decode cX2_level 12 = .ok (.iconst 0, 1) := by decide +kernel
theorem dX2_level_13 : decode cX2_level 13 = .ok (.istore_n 2, 1) := by decide +kernel
theorem dX2_level_14 : decode cX2_level 14 = .ok (.aload_n 0, 1) := by decide +kernel
theorem dX2_level_15 : decode cX2_level 15 = .ok (.iload_n 1, 1) := by decide +kernel
theorem dX2_level_16 : decode cX2_level 16 = .ok (.putfield 25, 3) := by decide +kernel
theorem dX2_level_19 : decode cX2_level 19 = .ok (.iload_n 2, 1) := by decide +kernel
theorem dX2_level_20 : decode cX2_level 20 = .ok (.ireturn, 1) := by decide +kernel
theorem dX2_record_0 : decode cX2_record 0 = .ok (.iload_n 1, 1) := by decide +kernel
theorem dX2_record_1 : decode cX2_record 1 = .ok (.invokestatic 113, 3) := by decide +kernel
theorem dX2_record_4 : decode cX2_record 4 = .ok (.aload_n 0, 1) := by decide +kernel
theorem dX2_record_5 : decode cX2_record 5 = .ok (.iload_n 1, 1) := by decide +kernel
theorem dX2_record_6 : decode cX2_record 6 = .ok (.invokestatic 116, 3) := by decide +kernel
theorem dX2_record_9 : decode cX2_record 9 = .ok (.putfield 30, 3) := by decide +kernel
theorem dX2_record_12 : decode cX2_record 12 = .ok (.return_, 1) := by decide +kernel
theorem dX2_prize_0 : decode cX2_prize 0 = .ok (.iload_n 1, 1) := by decide +kernel
theorem dX2_prize_1 : decode cX2_prize 1 = .ok (.invokestatic 113, 3) := by decide +kernel
theorem dX2_prize_4 : decode cX2_prize 4 = .ok (.aload_n 0, 1) := by decide +kernel
theorem dX2_prize_5 : decode cX2_prize 5 = .ok (.iload_n 1, 1) := by decide +kernel
theorem dX2_prize_6 : decode cX2_prize 6 = .ok (.invokestatic 116, 3) := by decide +kernel
theorem dX2_prize_9 : decode cX2_prize 9 = .ok (.putfield 37, 3) := by decide +kernel
theorem dX2_prize_12 : decode cX2_prize 12 = .ok (.return_, 1) := by decide +kernel
theorem dX2_turn_0 : decode cX2_turn 0 = .ok (.aload_n 0, 1) := by decide +kernel
theorem dX2_turn_1 : decode cX2_turn 1 = .ok (.getfield 21, 3) := by decide +kernel
theorem dX2_turn_4 : decode cX2_turn 4 = .ok (.invokevirtual 119, 3) := by decide +kernel
theorem dX2_turn_7 : decode cX2_turn 7 = .ok (.ireturn, 1) := by decide +kernel
theorem dX2_day_0 : decode cX2_day 0 = .ok (.aload_n 0, 1) := by decide +kernel
theorem dX2_day_1 : decode cX2_day 1 = .ok (.getfield 21, 3) := by decide +kernel
theorem dX2_day_4 : decode cX2_day 4 = .ok (.invokevirtual 69, 3) := by decide +kernel
theorem dX2_day_7 : decode cX2_day 7 = .ok (.ireturn, 1) := by decide +kernel
theorem dX2_weight_0 : decode cX2_weight 0 = .ok (.aload_n 0, 1) := by decide +kernel
theorem dX2_weight_1 : decode cX2_weight 1 = .ok (.iload_n 1, 1) := by decide +kernel
theorem dX2_weight_2 : decode cX2_weight 2 = .ok (.invokevirtual 83, 3) := by decide +kernel
theorem dX2_weight_5 : decode cX2_weight 5 = .ok (.iload_n 2, 1) := by decide +kernel
theorem dX2_weight_6 : decode cX2_weight 6 = .ok (.invokestatic 97, 3) := by decide +kernel
theorem dX2_weight_9 : decode cX2_weight 9 = .ok (.aload_n 0, 1) := by decide +kernel
theorem dX2_weight_10 : decode cX2_weight 10 = .ok (.getfield 10, 3) := by decide +kernel
theorem dX2_weight_13 : decode cX2_weight 13 = .ok (.iload_n 1, 1) := by decide +kernel
theorem dX2_weight_14 : decode cX2_weight 14 = .ok (.iload_n 2, 1) := by decide +kernel
theorem dX2_weight_15 : decode cX2_weight 15 = .ok (.invokevirtual 122, 3) := by decide +kernel
theorem dX2_weight_18 : decode cX2_weight 18 = .ok (.ireturn, 1) := by decide +kernel
theorem dX2_tilt_0 : decode cX2_tilt 0 = .ok (.aload_n 0, 1) := by decide +kernel
theorem dX2_tilt_1 : decode cX2_tilt 1 = .ok (.iload_n 1, 1) := by decide +kernel
theorem dX2_tilt_2 : decode cX2_tilt 2 = .ok (.invokevirtual 83, 3) := by decide +kernel
theorem dX2_tilt_5 : decode cX2_tilt 5 = .ok (.iload_n 2, 1) := by decide +kernel
theorem dX2_tilt_6 : decode cX2_tilt 6 = .ok (.invokestatic 97, 3) := by decide +kernel
theorem dX2_tilt_9 : decode cX2_tilt 9 = .ok (.aload_n 0, 1) := by decide +kernel
theorem dX2_tilt_10 : decode cX2_tilt 10 = .ok (.getfield 10, 3) := by decide +kernel
theorem dX2_tilt_13 : decode cX2_tilt 13 = .ok (.iload_n 1, 1) := by decide +kernel
theorem dX2_tilt_14 : decode cX2_tilt 14 = .ok (.iload_n 2, 1) := by decide +kernel
theorem dX2_tilt_15 : decode cX2_tilt 15 = .ok (.invokevirtual 110, 3) := by decide +kernel
theorem dX2_tilt_18 : decode cX2_tilt 18 = .ok (.ireturn, 1) := by decide +kernel
theorem dX2_best_0 : decode cX2_best 0 = .ok (.aload_n 0, 1) := by decide +kernel
theorem dX2_best_1 : decode cX2_best 1 = .ok (.iload_n 1, 1) := by decide +kernel
theorem dX2_best_2 : decode cX2_best 2 = .ok (.invokevirtual 83, 3) := by decide +kernel
theorem dX2_best_5 : decode cX2_best 5 = .ok (.aload_n 0, 1) := by decide +kernel
theorem dX2_best_6 : decode cX2_best 6 = .ok (.getfield 10, 3) := by decide +kernel
theorem dX2_best_9 : decode cX2_best 9 = .ok (.iload_n 1, 1) := by decide +kernel
theorem dX2_best_10 : decode cX2_best 10 = .ok (.invokevirtual 125, 3) := by decide +kernel
theorem dX2_best_13 : decode cX2_best 13 = .ok (.ireturn, 1) := by decide +kernel
theorem dX2_place_0 : decode cX2_place 0 = .ok (.aload_n 0, 1) := by decide +kernel
theorem dX2_place_1 : decode cX2_place 1 = .ok (.iload_n 1, 1) := by decide +kernel
theorem dX2_place_2 : decode cX2_place 2 = .ok (.invokevirtual 83, 3) := by decide +kernel
theorem dX2_place_5 : decode cX2_place 5 = .ok (.aload_n 0, 1) := by decide +kernel
theorem dX2_place_6 : decode cX2_place 6 = .ok (.getfield 10, 3) := by decide +kernel
theorem dX2_place_9 : decode cX2_place 9 = .ok (.iload_n 1, 1) := by decide +kernel
theorem dX2_place_10 : decode cX2_place 10 = .ok (.invokevirtual 128, 3) := by decide +kernel
theorem dX2_place_13 : decode cX2_place 13 = .ok (.ireturn, 1) := by decide +kernel
theorem dX2_wins_0 : decode cX2_wins 0 = .ok (.aload_n 0, 1) := by decide +kernel
theorem dX2_wins_1 : decode cX2_wins 1 = .ok (.iload_n 1, 1) := by decide +kernel
theorem dX2_wins_2 : decode cX2_wins 2 = .ok (.invokevirtual 83, 3) := by decide +kernel
theorem dX2_wins_5 : decode cX2_wins 5 = .ok (.aload_n 0, 1) := by decide +kernel
theorem dX2_wins_6 : decode cX2_wins 6 = .ok (.getfield 10, 3) := by decide +kernel
theorem dX2_wins_9 : decode cX2_wins 9 = .ok (.iload_n 1, 1) := by decide +kernel
theorem dX2_wins_10 : decode cX2_wins 10 = .ok (.invokevirtual 125, 3) := by decide +kernel
theorem dX2_wins_13 : decode cX2_wins 13 = .ok (.istore_n 2, 1) := by decide +kernel
theorem dX2_wins_14 : decode cX2_wins 14 = .ok (.aload_n 0, 1) := by decide +kernel
theorem dX2_wins_15 : decode cX2_wins 15 = .ok (.getfield 37, 3) := by decide +kernel
theorem dX2_wins_18 : decode cX2_wins 18 = .ok (.ldc 29, 2) := by decide +kernel
theorem dX2_wins_20 : decode cX2_wins 20 = .ok (.if_icmp .eq 21, 3) := by decide +kernel
theorem dX2_wins_23 : decode cX2_wins 23 = .ok (.iload_n 2, 1) := by decide +kernel
theorem dX2_wins_24 : decode cX2_wins 24 = .ok (.ldc 29, 2) := by decide +kernel
theorem dX2_wins_26 : decode cX2_wins 26 = .ok (.if_icmp .eq 15, 3) := by decide +kernel
theorem dX2_wins_29 : decode cX2_wins 29 = .ok (.iload_n 2, 1) := by decide +kernel
theorem dX2_wins_30 : decode cX2_wins 30 = .ok (.aload_n 0, 1) := by decide +kernel
theorem dX2_wins_31 : decode cX2_wins 31 = .ok (.getfield 37, 3) := by decide +kernel
theorem dX2_wins_34 : decode cX2_wins 34 = .ok (.if_icmp .lt 7, 3) := by decide +kernel
theorem dX2_wins_37 : decode cX2_wins 37 = .ok (.iconst 1, 1) := by decide +kernel
theorem dX2_wins_38 : decode cX2_wins 38 = .ok (.goto 4, 3) := by decide +kernel
theorem dX2_wins_41 : decode cX2_wins 41 = .ok (.iconst 0, 1) := by decide +kernel
theorem dX2_wins_42 : decode cX2_wins 42 = .ok (.ireturn, 1) := by decide +kernel
theorem dX2_count_0 : decode cX2_count 0 = .ok (.iload_n 1, 1) := by decide +kernel
theorem dX2_count_1 : decode cX2_count 1 = .ok (.invokestatic 131, 3) := by decide +kernel
theorem dX2_count_4 : decode cX2_count 4 = .ok (.iload_n 2, 1) := by decide +kernel
theorem dX2_count_5 : decode cX2_count 5 = .ok (.invokestatic 134, 3) := by decide +kernel
theorem dX2_count_8 : decode cX2_count 8 = .ok (.iconst 0, 1) := by decide +kernel
theorem dX2_count_9 : decode cX2_count 9 = .ok (.istore 4, 2) := by decide +kernel
theorem dX2_count_11 : decode cX2_count 11 = .ok (.iconst 0, 1) := by decide +kernel
theorem dX2_count_12 : decode cX2_count 12 = .ok (.istore 5, 2) := by decide +kernel
theorem dX2_count_14 : decode cX2_count 14 = .ok (.iload 5, 2) := by decide +kernel
theorem dX2_count_16 : decode cX2_count 16 = .ok (.aload_n 0, 1) := by decide +kernel
theorem dX2_count_17 : decode cX2_count 17 = .ok (.getfield 10, 3) := by decide +kernel
theorem dX2_count_20 : decode cX2_count 20 = .ok (.invokevirtual 137, 3) := by decide +kernel
theorem dX2_count_23 : decode cX2_count 23 = .ok (.if_icmp .ge 62, 3) := by decide +kernel
theorem dX2_count_26 : decode cX2_count 26 = .ok (.iconst 1, 1) := by decide +kernel
theorem dX2_count_27 : decode cX2_count 27 = .ok (.istore 6, 2) := by decide +kernel
theorem dX2_count_29 : decode cX2_count 29 = .ok (.iload 6, 2) := by decide +kernel
theorem dX2_count_31 : decode cX2_count 31 = .ok (.bipush 6, 2) := by decide +kernel
theorem dX2_count_33 : decode cX2_count 33 = .ok (.if_icmp .gt 46, 3) := by decide +kernel
theorem dX2_count_36 : decode cX2_count 36 = .ok (.aload_n 0, 1) := by decide +kernel
theorem dX2_count_37 : decode cX2_count 37 = .ok (.getfield 10, 3) := by decide +kernel
theorem dX2_count_40 : decode cX2_count 40 = .ok (.iload 5, 2) := by decide +kernel
theorem dX2_count_42 : decode cX2_count 42 = .ok (.iload 6, 2) := by decide +kernel
theorem dX2_count_44 : decode cX2_count 44 = .ok (.invokevirtual 140, 3) := by decide +kernel
theorem dX2_count_47 : decode cX2_count 47 = .ok (.ifCond .eq 26, 3) := by decide +kernel
theorem dX2_count_50 : decode cX2_count 50 = .ok (.iload_n 2, 1) := by decide +kernel
theorem dX2_count_51 : decode cX2_count 51 = .ok (.aload_n 0, 1) := by decide +kernel
theorem dX2_count_52 : decode cX2_count 52 = .ok (.getfield 10, 3) := by decide +kernel
theorem dX2_count_55 : decode cX2_count 55 = .ok (.iload_n 1, 1) := by decide +kernel
theorem dX2_count_56 : decode cX2_count 56 = .ok (.iload 5, 2) := by decide +kernel
theorem dX2_count_58 : decode cX2_count 58 = .ok (.iload 6, 2) := by decide +kernel
theorem dX2_count_60 : decode cX2_count 60 = .ok (.invokevirtual 143, 3) := by decide +kernel
theorem dX2_count_63 : decode cX2_count 63 = .ok (.iload_n 3, 1) := by decide +kernel
theorem dX2_count_64 : decode cX2_count 64 = .ok (.invokestatic 147, 3) := by decide +kernel
theorem dX2_count_67 : decode cX2_count 67 = .ok (.ifCond .eq 6, 3) := by decide +kernel
theorem dX2_count_70 : decode cX2_count 70 = .ok (.iinc 4 1, 3) := by decide +kernel
theorem dX2_count_73 : decode cX2_count 73 = .ok (.iinc 6 1, 3) := by decide +kernel
theorem dX2_count_76 : decode cX2_count 76 = .ok (.goto (-47), 3) := by decide +kernel
theorem dX2_count_79 : decode cX2_count 79 = .ok (.iinc 5 1, 3) := by decide +kernel
theorem dX2_count_82 : decode cX2_count 82 = .ok (.goto (-68), 3) := by decide +kernel
theorem dX2_count_85 : decode cX2_count 85 = .ok (.iload 4, 2) := by decide +kernel
theorem dX2_count_87 : decode cX2_count 87 = .ok (.ireturn, 1) := by decide +kernel
theorem dX2_first_0 : decode cX2_first 0 = .ok (.iload_n 1, 1) := by decide +kernel
theorem dX2_first_1 : decode cX2_first 1 = .ok (.invokestatic 131, 3) := by decide +kernel
theorem dX2_first_4 : decode cX2_first 4 = .ok (.iload_n 2, 1) := by decide +kernel
theorem dX2_first_5 : decode cX2_first 5 = .ok (.invokestatic 134, 3) := by decide +kernel
theorem dX2_first_8 : decode cX2_first 8 = .ok (.iconst 0, 1) := by decide +kernel
theorem dX2_first_9 : decode cX2_first 9 = .ok (.istore 4, 2) := by decide +kernel
theorem dX2_first_11 : decode cX2_first 11 = .ok (.iload 4, 2) := by decide +kernel
theorem dX2_first_13 : decode cX2_first 13 = .ok (.aload_n 0, 1) := by decide +kernel
theorem dX2_first_14 : decode cX2_first 14 = .ok (.getfield 10, 3) := by decide +kernel
theorem dX2_first_17 : decode cX2_first 17 = .ok (.invokevirtual 137, 3) := by decide +kernel
theorem dX2_first_20 : decode cX2_first 20 = .ok (.if_icmp .ge 50, 3) := by decide +kernel
theorem dX2_first_23 : decode cX2_first 23 = .ok (.aload_n 0, 1) := by decide +kernel
theorem dX2_first_24 : decode cX2_first 24 = .ok (.getfield 10, 3) := by decide +kernel
theorem dX2_first_27 : decode cX2_first 27 = .ok (.iload 4, 2) := by decide +kernel
theorem dX2_first_29 : decode cX2_first 29 = .ok (.invokevirtual 151, 3) := by decide +kernel
theorem dX2_first_32 : decode cX2_first 32 = .ok (.istore 5, 2) := by decide +kernel
theorem dX2_first_34 : decode cX2_first 34 = .ok (.iload 5, 2) := by decide +kernel
theorem dX2_first_36 : decode cX2_first 36 = .ok (.ldc 29, 2) := by decide +kernel
theorem dX2_first_38 : decode cX2_first 38 = .ok (.if_icmp .eq 26, 3) := by decide +kernel
theorem dX2_first_41 : decode cX2_first 41 = .ok (.iload_n 2, 1) := by decide +kernel
theorem dX2_first_42 : decode cX2_first 42 = .ok (.aload_n 0, 1) := by decide +kernel
theorem dX2_first_43 : decode cX2_first 43 = .ok (.getfield 10, 3) := by decide +kernel
theorem dX2_first_46 : decode cX2_first 46 = .ok (.iload_n 1, 1) := by decide +kernel
theorem dX2_first_47 : decode cX2_first 47 = .ok (.iload 4, 2) := by decide +kernel
theorem dX2_first_49 : decode cX2_first 49 = .ok (.iload 5, 2) := by decide +kernel
theorem dX2_first_51 : decode cX2_first 51 = .ok (.invokevirtual 143, 3) := by decide +kernel
theorem dX2_first_54 : decode cX2_first 54 = .ok (.iload_n 3, 1) := by decide +kernel
theorem dX2_first_55 : decode cX2_first 55 = .ok (.invokestatic 147, 3) := by decide +kernel
theorem dX2_first_58 : decode cX2_first 58 = .ok (.ifCond .eq 6, 3) := by decide +kernel
theorem dX2_first_61 : decode cX2_first 61 = .ok (.iload 4, 2) := by decide +kernel
theorem dX2_first_63 : decode cX2_first 63 = .ok (.ireturn, 1) := by decide +kernel
theorem dX2_first_64 : decode cX2_first 64 = .ok (.iinc 4 1, 3) := by decide +kernel
theorem dX2_first_67 : decode cX2_first 67 = .ok (.goto (-56), 3) := by decide +kernel
theorem dX2_first_70 : decode cX2_first 70 = .ok (.ldc 29, 2) := by decide +kernel
theorem dX2_first_72 : decode cX2_first 72 = .ok (.ireturn, 1) := by decide +kernel
theorem dX2_lamps_0 : decode cX2_lamps 0 = .ok (.iload_n 1, 1) := by decide +kernel
theorem dX2_lamps_1 : decode cX2_lamps 1 = .ok (.invokestatic 131, 3) := by decide +kernel
theorem dX2_lamps_4 : decode cX2_lamps 4 = .ok (.iload_n 2, 1) := by decide +kernel
theorem dX2_lamps_5 : decode cX2_lamps 5 = .ok (.invokestatic 134, 3) := by decide +kernel
theorem dX2_lamps_8 : decode cX2_lamps 8 = .ok (.iconst 0, 1) := by decide +kernel
theorem dX2_lamps_9 : decode cX2_lamps 9 = .ok (.istore 4, 2) := by decide +kernel
theorem dX2_lamps_11 : decode cX2_lamps 11 = .ok (.iconst 0, 1) := by decide +kernel
theorem dX2_lamps_12 : decode cX2_lamps 12 = .ok (.istore 5, 2) := by decide +kernel
theorem dX2_lamps_14 : decode cX2_lamps 14 = .ok (.iload 5, 2) := by decide +kernel
theorem dX2_lamps_16 : decode cX2_lamps 16 = .ok (.aload_n 0, 1) := by decide +kernel
theorem dX2_lamps_17 : decode cX2_lamps 17 = .ok (.getfield 10, 3) := by decide +kernel
theorem dX2_lamps_20 : decode cX2_lamps 20 = .ok (.invokevirtual 137, 3) := by decide +kernel
theorem dX2_lamps_23 : decode cX2_lamps 23 = .ok (.if_icmp .ge 33, 3) := by decide +kernel
theorem dX2_lamps_26 : decode cX2_lamps 26 = .ok (.iload_n 2, 1) := by decide +kernel
theorem dX2_lamps_27 : decode cX2_lamps 27 = .ok (.aload_n 0, 1) := by decide +kernel
theorem dX2_lamps_28 : decode cX2_lamps 28 = .ok (.iload_n 1, 1) := by decide +kernel
theorem dX2_lamps_29 : decode cX2_lamps 29 = .ok (.iload 5, 2) := by decide +kernel
theorem dX2_lamps_31 : decode cX2_lamps 31 = .ok (.invokevirtual 154, 3) := by decide +kernel
theorem dX2_lamps_34 : decode cX2_lamps 34 = .ok (.iload_n 3, 1) := by decide +kernel
theorem dX2_lamps_35 : decode cX2_lamps 35 = .ok (.invokestatic 147, 3) := by decide +kernel
theorem dX2_lamps_38 : decode cX2_lamps 38 = .ok (.ifCond .eq 12, 3) := by decide +kernel
theorem dX2_lamps_41 : decode cX2_lamps 41 = .ok (.iload 4, 2) := by decide +kernel
theorem dX2_lamps_43 : decode cX2_lamps 43 = .ok (.iconst 1, 1) := by decide +kernel
theorem dX2_lamps_44 : decode cX2_lamps 44 = .ok (.iload 5, 2) := by decide +kernel
theorem dX2_lamps_46 : decode cX2_lamps 46 = .ok (.ishl, 1) := by decide +kernel
theorem dX2_lamps_47 : decode cX2_lamps 47 = .ok (.ior, 1) := by decide +kernel
theorem dX2_lamps_48 : decode cX2_lamps 48 = .ok (.istore 4, 2) := by decide +kernel
theorem dX2_lamps_50 : decode cX2_lamps 50 = .ok (.iinc 5 1, 3) := by decide +kernel
theorem dX2_lamps_53 : decode cX2_lamps 53 = .ok (.goto (-39), 3) := by decide +kernel
theorem dX2_lamps_56 : decode cX2_lamps 56 = .ok (.iload 4, 2) := by decide +kernel
theorem dX2_lamps_58 : decode cX2_lamps 58 = .ok (.ireturn, 1) := by decide +kernel
theorem dX2_stands_0 : decode cX2_stands 0 = .ok (.iload_n 1, 1) := by decide +kernel
theorem dX2_stands_1 : decode cX2_stands 1 = .ok (.invokestatic 131, 3) := by decide +kernel
theorem dX2_stands_4 : decode cX2_stands 4 = .ok (.aload_n 0, 1) := by decide +kernel
theorem dX2_stands_5 : decode cX2_stands 5 = .ok (.iload_n 2, 1) := by decide +kernel
theorem dX2_stands_6 : decode cX2_stands 6 = .ok (.invokevirtual 83, 3) := by decide +kernel
theorem dX2_stands_9 : decode cX2_stands 9 = .ok (.aload_n 0, 1) := by decide +kernel
theorem dX2_stands_10 : decode cX2_stands 10 = .ok (.iload_n 3, 1) := by decide +kernel
theorem dX2_stands_11 : decode cX2_stands 11 = .ok (.invokevirtual 83, 3) := by decide +kernel
theorem dX2_stands_14 : decode cX2_stands 14 = .ok (.aload_n 0, 1) := by decide +kernel
theorem dX2_stands_15 : decode cX2_stands 15 = .ok (.iload_n 1, 1) := by decide +kernel
theorem dX2_stands_16 : decode cX2_stands 16 = .ok (.iload_n 2, 1) := by decide +kernel
theorem dX2_stands_17 : decode cX2_stands 17 = .ok (.invokevirtual 154, 3) := by decide +kernel
theorem dX2_stands_20 : decode cX2_stands 20 = .ok (.istore 4, 2) := by decide +kernel
theorem dX2_stands_22 : decode cX2_stands 22 = .ok (.aload_n 0, 1) := by decide +kernel
theorem dX2_stands_23 : decode cX2_stands 23 = .ok (.iload_n 1, 1) := by decide +kernel
theorem dX2_stands_24 : decode cX2_stands 24 = .ok (.iload_n 3, 1) := by decide +kernel
theorem dX2_stands_25 : decode cX2_stands 25 = .ok (.invokevirtual 154, 3) := by decide +kernel
theorem dX2_stands_28 : decode cX2_stands 28 = .ok (.istore 5, 2) := by decide +kernel
theorem dX2_stands_30 : decode cX2_stands 30 = .ok (.iconst 0, 1) := by decide +kernel
theorem dX2_stands_31 : decode cX2_stands 31 = .ok (.istore 6, 2) := by decide +kernel
theorem dX2_stands_33 : decode cX2_stands 33 = .ok (.iconst 0, 1) := by decide +kernel
theorem dX2_stands_34 : decode cX2_stands 34 = .ok (.istore 7, 2) := by decide +kernel
theorem dX2_stands_36 : decode cX2_stands 36 = .ok (.iload 7, 2) := by decide +kernel
theorem dX2_stands_38 : decode cX2_stands 38 = .ok (.bipush 6, 2) := by decide +kernel
theorem dX2_stands_40 : decode cX2_stands 40 = .ok (.if_icmp .ge 30, 3) := by decide +kernel
theorem dX2_stands_43 : decode cX2_stands 43 = .ok (.iload 7, 2) := by decide +kernel
theorem dX2_stands_45 : decode cX2_stands 45 = .ok (.iload 4, 2) := by decide +kernel
theorem dX2_stands_47 : decode cX2_stands 47 = .ok (.iload 5, 2) := by decide +kernel
theorem dX2_stands_49 : decode cX2_stands 49 = .ok (.invokestatic 147, 3) := by decide +kernel
theorem dX2_stands_52 : decode cX2_stands 52 = .ok (.ifCond .eq 12, 3) := by decide +kernel
theorem dX2_stands_55 : decode cX2_stands 55 = .ok (.iload 6, 2) := by decide +kernel
theorem dX2_stands_57 : decode cX2_stands 57 = .ok (.iconst 1, 1) := by decide +kernel
theorem dX2_stands_58 : decode cX2_stands 58 = .ok (.iload 7, 2) := by decide +kernel
theorem dX2_stands_60 : decode cX2_stands 60 = .ok (.ishl, 1) := by decide +kernel
theorem dX2_stands_61 : decode cX2_stands 61 = .ok (.ior, 1) := by decide +kernel
theorem dX2_stands_62 : decode cX2_stands 62 = .ok (.istore 6, 2) := by decide +kernel
theorem dX2_stands_64 : decode cX2_stands 64 = .ok (.iinc 7 1, 3) := by decide +kernel
theorem dX2_stands_67 : decode cX2_stands 67 = .ok (.goto (-31), 3) := by decide +kernel
theorem dX2_stands_70 : decode cX2_stands 70 = .ok (.iload 6, 2) := by decide +kernel
theorem dX2_stands_72 : decode cX2_stands 72 = .ok (.ireturn, 1) := by decide +kernel
theorem dX2_lean_0 : decode cX2_lean 0 = .ok (.iload_n 1, 1) := by decide +kernel
theorem dX2_lean_1 : decode cX2_lean 1 = .ok (.invokestatic 97, 3) := by decide +kernel
theorem dX2_lean_4 : decode cX2_lean 4 = .ok (.ldc 29, 2) := by decide +kernel
theorem dX2_lean_6 : decode cX2_lean 6 = .ok (.istore_n 3, 1) := by decide +kernel
theorem dX2_lean_7 : decode cX2_lean 7 = .ok (.iconst 0, 1) := by decide +kernel
theorem dX2_lean_8 : decode cX2_lean 8 = .ok (.istore 4, 2) := by decide +kernel
theorem dX2_lean_10 : decode cX2_lean 10 = .ok (.iload 4, 2) := by decide +kernel
theorem dX2_lean_12 : decode cX2_lean 12 = .ok (.aload_n 0, 1) := by decide +kernel
theorem dX2_lean_13 : decode cX2_lean 13 = .ok (.getfield 10, 3) := by decide +kernel
theorem dX2_lean_16 : decode cX2_lean 16 = .ok (.invokevirtual 137, 3) := by decide +kernel
theorem dX2_lean_19 : decode cX2_lean 19 = .ok (.if_icmp .ge 56, 3) := by decide +kernel
theorem dX2_lean_22 : decode cX2_lean 22 = .ok (.aload_n 0, 1) := by decide +kernel
theorem dX2_lean_23 : decode cX2_lean 23 = .ok (.getfield 10, 3) := by decide +kernel
theorem dX2_lean_26 : decode cX2_lean 26 = .ok (.iload 4, 2) := by decide +kernel
theorem dX2_lean_28 : decode cX2_lean 28 = .ok (.iload_n 1, 1) := by decide +kernel
theorem dX2_lean_29 : decode cX2_lean 29 = .ok (.invokevirtual 110, 3) := by decide +kernel
theorem dX2_lean_32 : decode cX2_lean 32 = .ok (.istore 5, 2) := by decide +kernel
theorem dX2_lean_34 : decode cX2_lean 34 = .ok (.iload 5, 2) := by decide +kernel
theorem dX2_lean_36 : decode cX2_lean 36 = .ok (.ldc 29, 2) := by decide +kernel
theorem dX2_lean_38 : decode cX2_lean 38 = .ok (.if_icmp .eq 31, 3) := by decide +kernel
theorem dX2_lean_41 : decode cX2_lean 41 = .ok (.iload_n 3, 1) := by decide +kernel
theorem dX2_lean_42 : decode cX2_lean 42 = .ok (.ldc 29, 2) := by decide +kernel
theorem dX2_lean_44 : decode cX2_lean 44 = .ok (.if_icmp .eq 22, 3) := by decide +kernel
theorem dX2_lean_47 : decode cX2_lean 47 = .ok (.iload_n 2, 1) := by decide +kernel
theorem dX2_lean_48 : decode cX2_lean 48 = .ok (.ifCond .eq 12, 3) := by decide +kernel
theorem dX2_lean_51 : decode cX2_lean 51 = .ok (.iload 5, 2) := by decide +kernel
theorem dX2_lean_53 : decode cX2_lean 53 = .ok (.iload_n 3, 1) := by decide +kernel
theorem dX2_lean_54 : decode cX2_lean 54 = .ok (.if_icmp .ge 15, 3) := by decide +kernel
theorem dX2_lean_57 : decode cX2_lean 57 = .ok (.goto 9, 3) := by decide +kernel
theorem dX2_lean_60 : decode cX2_lean 60 = .ok (.iload 5, 2) := by decide +kernel
theorem dX2_lean_62 : decode cX2_lean 62 = .ok (.iload_n 3, 1) := by decide +kernel
theorem dX2_lean_63 : decode cX2_lean 63 = .ok (.if_icmp .le 6, 3) := by decide +kernel
theorem dX2_lean_66 : decode cX2_lean 66 = .ok (.iload 5, 2) := by decide +kernel
theorem dX2_lean_68 : decode cX2_lean 68 = .ok (.istore_n 3, 1) := by decide +kernel
theorem dX2_lean_69 : decode cX2_lean 69 = .ok (.iinc 4 1, 3) := by decide +kernel
theorem dX2_lean_72 : decode cX2_lean 72 = .ok (.goto (-62), 3) := by decide +kernel
theorem dX2_lean_75 : decode cX2_lean 75 = .ok (.iload_n 3, 1) := by decide +kernel
theorem dX2_lean_76 : decode cX2_lean 76 = .ok (.ireturn, 1) := by decide +kernel
theorem dX2_look_0 : decode cX2_look 0 = .ok (.iload_n 1, 1) := by decide +kernel
theorem dX2_look_1 : decode cX2_look 1 = .ok (.tableswitch 78 0 5 #[39, 44, 49, 54, 62, 70], 39) := by decide +kernel
theorem dX2_look_40 : decode cX2_look 40 = .ok (.aload_n 0, 1) := by decide +kernel
theorem dX2_look_41 : decode cX2_look 41 = .ok (.getfield 30, 3) := by decide +kernel
theorem dX2_look_44 : decode cX2_look 44 = .ok (.ireturn, 1) := by decide +kernel
theorem dX2_look_45 : decode cX2_look 45 = .ok (.aload_n 0, 1) := by decide +kernel
theorem dX2_look_46 : decode cX2_look 46 = .ok (.getfield 37, 3) := by decide +kernel
theorem dX2_look_49 : decode cX2_look 49 = .ok (.ireturn, 1) := by decide +kernel
theorem dX2_look_50 : decode cX2_look 50 = .ok (.aload_n 0, 1) := by decide +kernel
theorem dX2_look_51 : decode cX2_look 51 = .ok (.getfield 34, 3) := by decide +kernel
theorem dX2_look_54 : decode cX2_look 54 = .ok (.ireturn, 1) := by decide +kernel
theorem dX2_look_55 : decode cX2_look 55 = .ok (.aload_n 0, 1) := by decide +kernel
theorem dX2_look_56 : decode cX2_look 56 = .ok (.getfield 10, 3) := by decide +kernel
theorem dX2_look_59 : decode cX2_look 59 = .ok (.invokevirtual 157, 3) := by decide +kernel
theorem dX2_look_62 : decode cX2_look 62 = .ok (.ireturn, 1) := by decide +kernel
theorem dX2_look_63 : decode cX2_look 63 = .ok (.aload_n 0, 1) := by decide +kernel
theorem dX2_look_64 : decode cX2_look 64 = .ok (.getfield 10, 3) := by decide +kernel
theorem dX2_look_67 : decode cX2_look 67 = .ok (.invokevirtual 137, 3) := by decide +kernel
theorem dX2_look_70 : decode cX2_look 70 = .ok (.ireturn, 1) := by decide +kernel
theorem dX2_look_71 : decode cX2_look 71 = .ok (.aload_n 0, 1) := by decide +kernel
theorem dX2_look_72 : decode cX2_look 72 = .ok (.getfield 21, 3) := by decide +kernel
theorem dX2_look_75 : decode cX2_look 75 = .ok (.invokevirtual 160, 3) := by decide +kernel
theorem dX2_look_78 : decode cX2_look 78 = .ok (.ireturn, 1) := by decide +kernel
theorem dX2_look_79 : decode cX2_look 79 = .ok (.new 48, 3) := by decide +kernel
theorem dX2_look_82 : decode cX2_look 82 = .ok (.dup, 1) := by decide +kernel
theorem dX2_look_83 : decode cX2_look 83 = .ok (.ldc 163, 2) := by decide +kernel
theorem dX2_look_85 : decode cX2_look 85 = .ok (.invokespecial 52, 3) := by decide +kernel
theorem dX2_look_88 : decode cX2_look 88 = .ok (.athrow, 1) := by decide +kernel
theorem dX2_begin_0 : decode cX2_begin 0 = .ok (.aload_n 0, 1) := by decide +kernel
theorem dX2_begin_1 : decode cX2_begin 1 = .ok (.getfield 10, 3) := by decide +kernel
theorem dX2_begin_4 : decode cX2_begin 4 = .ok (.iload_n 1, 1) := by decide +kernel
theorem dX2_begin_5 : decode cX2_begin 5 = .ok (.invokevirtual 165, 3) := by decide +kernel
theorem dX2_begin_8 : decode cX2_begin 8 = .ok (.aload_n 0, 1) := by decide +kernel
theorem dX2_begin_9 : decode cX2_begin 9 = .ok (.getfield 21, 3) := by decide +kernel
theorem dX2_begin_12 : decode cX2_begin 12 = .ok (.invokevirtual 168, 3) := by decide +kernel
theorem dX2_begin_15 : decode cX2_begin 15 = .ok (.return_, 1) := by decide +kernel
theorem dX2_tiltIfLevel_0 : decode cX2_tiltIfLevel 0 = .ok (.aload_n 0, 1) := by decide +kernel
theorem dX2_tiltIfLevel_1 : decode cX2_tiltIfLevel 1 = .ok (.getfield 25, 3) := by decide +kernel
theorem dX2_tiltIfLevel_4 : decode cX2_tiltIfLevel 4 = .ok (.ifCond .eq 7, 3) := by decide +kernel
theorem dX2_tiltIfLevel_7 : decode cX2_tiltIfLevel 7 = .ok (.iload_n 1, 1) := by decide +kernel
theorem dX2_tiltIfLevel_8 : decode cX2_tiltIfLevel 8 = .ok (.goto 5, 3) := by decide +kernel
theorem dX2_tiltIfLevel_11 : decode cX2_tiltIfLevel 11 = .ok (.ldc 29, 2) := by decide +kernel
theorem dX2_tiltIfLevel_13 : decode cX2_tiltIfLevel 13 = .ok (.ireturn, 1) := by decide +kernel
theorem dX2_noteRecord_0 : decode cX2_noteRecord 0 = .ok (.iload_n 2, 1) := by decide +kernel
theorem dX2_noteRecord_1 : decode cX2_noteRecord 1 = .ok (.ldc 29, 2) := by decide +kernel
theorem dX2_noteRecord_3 : decode cX2_noteRecord 3 = .ok (.if_icmp .eq 9, 3) := by decide +kernel
theorem dX2_noteRecord_6 : decode cX2_noteRecord 6 = .ok (.iload_n 2, 1) := by decide +kernel
theorem dX2_noteRecord_7 : decode cX2_noteRecord 7 = .ok (.bipush 20, 2) := by decide +kernel
theorem dX2_noteRecord_9 : decode cX2_noteRecord 9 = .ok (.if_icmp .le 4, 3) := by decide +kernel
theorem dX2_noteRecord_12 : decode cX2_noteRecord 12 = .ok (.return_, 1) := by decide +kernel
theorem dX2_noteRecord_13 : decode cX2_noteRecord 13 = .ok (.aload_n 0, 1) := by decide +kernel
theorem dX2_noteRecord_14 : decode cX2_noteRecord 14 = .ok (.getfield 30, 3) := by decide +kernel
theorem dX2_noteRecord_17 : decode cX2_noteRecord 17 = .ok (.ldc 29, 2) := by decide +kernel
theorem dX2_noteRecord_19 : decode cX2_noteRecord 19 = .ok (.if_icmp .eq 11, 3) := by decide +kernel
theorem dX2_noteRecord_22 : decode cX2_noteRecord 22 = .ok (.iload_n 1, 1) := by decide +kernel
theorem dX2_noteRecord_23 : decode cX2_noteRecord 23 = .ok (.aload_n 0, 1) := by decide +kernel
theorem dX2_noteRecord_24 : decode cX2_noteRecord 24 = .ok (.getfield 30, 3) := by decide +kernel
theorem dX2_noteRecord_27 : decode cX2_noteRecord 27 = .ok (.if_icmp .le 18, 3) := by decide +kernel
theorem dX2_noteRecord_30 : decode cX2_noteRecord 30 = .ok (.aload_n 0, 1) := by decide +kernel
theorem dX2_noteRecord_31 : decode cX2_noteRecord 31 = .ok (.iload_n 1, 1) := by decide +kernel
theorem dX2_noteRecord_32 : decode cX2_noteRecord 32 = .ok (.putfield 30, 3) := by decide +kernel
theorem dX2_noteRecord_35 : decode cX2_noteRecord 35 = .ok (.aload_n 0, 1) := by decide +kernel
theorem dX2_noteRecord_36 : decode cX2_noteRecord 36 = .ok (.dup, 1) := by decide +kernel
theorem dX2_noteRecord_37 : decode cX2_noteRecord 37 = .ok (.getfield 34, 3) := by decide +kernel
theorem dX2_noteRecord_40 : decode cX2_noteRecord 40 = .ok (.iconst 1, 1) := by decide +kernel
theorem dX2_noteRecord_41 : decode cX2_noteRecord 41 = .ok (.iadd, 1) := by decide +kernel
theorem dX2_noteRecord_42 : decode cX2_noteRecord 42 = .ok (.putfield 34, 3) := by decide +kernel
theorem dX2_noteRecord_45 : decode cX2_noteRecord 45 = .ok (.return_, 1) := by decide +kernel
theorem dX2_bestOrLatestTilt_0 : decode cX2_bestOrLatestTilt 0 = .ok (.iload_n 1, 1) := by decide +kernel
theorem dX2_bestOrLatestTilt_1 : decode cX2_bestOrLatestTilt 1 = .ok (.ifCond .ne 14, 3) := by decide +kernel
theorem dX2_bestOrLatestTilt_4 : decode cX2_bestOrLatestTilt 4 = .ok (.aload_n 0, 1) := by decide +kernel
theorem dX2_bestOrLatestTilt_5 : decode cX2_bestOrLatestTilt 5 = .ok (.getfield 10, 3) := by decide +kernel
theorem dX2_bestOrLatestTilt_8 : decode cX2_bestOrLatestTilt 8 = .ok (.iload_n 2, 1) := by decide +kernel
theorem dX2_bestOrLatestTilt_9 : decode cX2_bestOrLatestTilt 9 = .ok (.invokevirtual 125, 3) := by decide +kernel
theorem dX2_bestOrLatestTilt_12 : decode cX2_bestOrLatestTilt 12 = .ok (.goto 11, 3) := by decide +kernel
theorem dX2_bestOrLatestTilt_15 : decode cX2_bestOrLatestTilt 15 = .ok (.aload_n 0, 1) := by decide +kernel
theorem dX2_bestOrLatestTilt_16 : decode cX2_bestOrLatestTilt 16 = .ok (.getfield 10, 3) := by decide +kernel
theorem dX2_bestOrLatestTilt_19 : decode cX2_bestOrLatestTilt 19 = .ok (.iload_n 2, 1) := by decide +kernel
theorem dX2_bestOrLatestTilt_20 : decode cX2_bestOrLatestTilt 20 = .ok (.invokevirtual 171, 3) := by decide +kernel
theorem dX2_bestOrLatestTilt_23 : decode cX2_bestOrLatestTilt 23 = .ok (.ireturn, 1) := by decide +kernel
theorem dX2_requireTurn_0 : decode cX2_requireTurn 0 = .ok (.aload_n 0, 1) := by decide +kernel
theorem dX2_requireTurn_1 : decode cX2_requireTurn 1 = .ok (.getfield 21, 3) := by decide +kernel
theorem dX2_requireTurn_4 : decode cX2_requireTurn 4 = .ok (.invokevirtual 119, 3) := by decide +kernel
theorem dX2_requireTurn_7 : decode cX2_requireTurn 7 = .ok (.istore_n 1, 1) := by decide +kernel
theorem dX2_requireTurn_8 : decode cX2_requireTurn 8 = .ok (.iload_n 1, 1) := by decide +kernel
theorem dX2_requireTurn_9 : decode cX2_requireTurn 9 = .ok (.ldc 29, 2) := by decide +kernel
theorem dX2_requireTurn_11 : decode cX2_requireTurn 11 = .ok (.if_icmp .ne 13, 3) := by decide +kernel
theorem dX2_requireTurn_14 : decode cX2_requireTurn 14 = .ok (.new 89, 3) := by decide +kernel
theorem dX2_requireTurn_17 : decode cX2_requireTurn 17 = .ok (.dup, 1) := by decide +kernel
theorem dX2_requireTurn_18 : decode cX2_requireTurn 18 = .ok (.ldc 174, 2) := by decide +kernel
theorem dX2_requireTurn_20 : decode cX2_requireTurn 20 = .ok (.invokespecial 93, 3) := by decide +kernel
theorem dX2_requireTurn_23 : decode cX2_requireTurn 23 = .ok (.athrow, 1) := by decide +kernel
theorem dX2_requireTurn_24 : decode cX2_requireTurn 24 = .ok (.iload_n 1, 1) := by decide +kernel
theorem dX2_requireTurn_25 : decode cX2_requireTurn 25 = .ok (.ireturn, 1) := by decide +kernel
theorem dX2_requireGrower_0 : decode cX2_requireGrower 0 = .ok (.iload_n 1, 1) := by decide +kernel
theorem dX2_requireGrower_1 : decode cX2_requireGrower 1 = .ok (.ifCond .lt 14, 3) := by decide +kernel
theorem dX2_requireGrower_4 : decode cX2_requireGrower 4 = .ok (.iload_n 1, 1) := by decide +kernel
theorem dX2_requireGrower_5 : decode cX2_requireGrower 5 = .ok (.aload_n 0, 1) := by decide +kernel
theorem dX2_requireGrower_6 : decode cX2_requireGrower 6 = .ok (.getfield 10, 3) := by decide +kernel
theorem dX2_requireGrower_9 : decode cX2_requireGrower 9 = .ok (.invokevirtual 137, 3) := by decide +kernel
theorem dX2_requireGrower_12 : decode cX2_requireGrower 12 = .ok (.if_icmp .lt 13, 3) := by decide +kernel
theorem dX2_requireGrower_15 : decode cX2_requireGrower 15 = .ok (.new 48, 3) := by decide +kernel
theorem dX2_requireGrower_18 : decode cX2_requireGrower 18 = .ok (.dup, 1) := by decide +kernel
theorem dX2_requireGrower_19 : decode cX2_requireGrower 19 = .ok (.ldc 176, 2) := by decide +kernel
theorem dX2_requireGrower_21 : decode cX2_requireGrower 21 = .ok (.invokespecial 52, 3) := by decide +kernel
theorem dX2_requireGrower_24 : decode cX2_requireGrower 24 = .ok (.athrow, 1) := by decide +kernel
theorem dX2_requireGrower_25 : decode cX2_requireGrower 25 = .ok (.return_, 1) := by decide +kernel
theorem dX2_requireDay_0 : decode cX2_requireDay 0 = .ok (.iload_n 0, 1) := by decide +kernel
theorem dX2_requireDay_1 : decode cX2_requireDay 1 = .ok (.iconst 1, 1) := by decide +kernel
theorem dX2_requireDay_2 : decode cX2_requireDay 2 = .ok (.if_icmp .lt 9, 3) := by decide +kernel
theorem dX2_requireDay_5 : decode cX2_requireDay 5 = .ok (.iload_n 0, 1) := by decide +kernel
theorem dX2_requireDay_6 : decode cX2_requireDay 6 = .ok (.bipush 6, 2) := by decide +kernel
theorem dX2_requireDay_8 : decode cX2_requireDay 8 = .ok (.if_icmp .le 13, 3) := by decide +kernel
theorem dX2_requireDay_11 : decode cX2_requireDay 11 = .ok (.new 48, 3) := by decide +kernel
theorem dX2_requireDay_14 : decode cX2_requireDay 14 = .ok (.dup, 1) := by decide +kernel
theorem dX2_requireDay_15 : decode cX2_requireDay 15 = .ok (.ldc 178, 2) := by decide +kernel
theorem dX2_requireDay_17 : decode cX2_requireDay 17 = .ok (.invokespecial 52, 3) := by decide +kernel
theorem dX2_requireDay_20 : decode cX2_requireDay 20 = .ok (.athrow, 1) := by decide +kernel
theorem dX2_requireDay_21 : decode cX2_requireDay 21 = .ok (.return_, 1) := by decide +kernel
theorem dX2_requireTenthPounds_0 : decode cX2_requireTenthPounds 0 = .ok (.iload_n 0, 1) := by decide +kernel
theorem dX2_requireTenthPounds_1 : decode cX2_requireTenthPounds 1 = .ok (.bipush 100, 2) := by decide +kernel
theorem dX2_requireTenthPounds_3 : decode cX2_requireTenthPounds 3 = .ok (.if_icmp .lt 10, 3) := by decide +kernel
theorem dX2_requireTenthPounds_6 : decode cX2_requireTenthPounds 6 = .ok (.iload_n 0, 1) := by decide +kernel
theorem dX2_requireTenthPounds_7 : decode cX2_requireTenthPounds 7 = .ok (.sipush 9999, 3) := by decide +kernel
theorem dX2_requireTenthPounds_10 : decode cX2_requireTenthPounds 10 = .ok (.if_icmp .le 13, 3) := by decide +kernel
theorem dX2_requireTenthPounds_13 : decode cX2_requireTenthPounds 13 = .ok (.new 48, 3) := by decide +kernel
theorem dX2_requireTenthPounds_16 : decode cX2_requireTenthPounds 16 = .ok (.dup, 1) := by decide +kernel
theorem dX2_requireTenthPounds_17 : decode cX2_requireTenthPounds 17 = .ok (.ldc 180, 2) := by decide +kernel
theorem dX2_requireTenthPounds_19 : decode cX2_requireTenthPounds 19 = .ok (.invokespecial 52, 3) := by decide +kernel
theorem dX2_requireTenthPounds_22 : decode cX2_requireTenthPounds 22 = .ok (.athrow, 1) := by decide +kernel
theorem dX2_requireTenthPounds_23 : decode cX2_requireTenthPounds 23 = .ok (.return_, 1) := by decide +kernel
theorem dX2_requireTenths_0 : decode cX2_requireTenths 0 = .ok (.iload_n 0, 1) := by decide +kernel
theorem dX2_requireTenths_1 : decode cX2_requireTenths 1 = .ok (.bipush (-99), 2) := by decide +kernel
theorem dX2_requireTenths_3 : decode cX2_requireTenths 3 = .ok (.if_icmp .lt 9, 3) := by decide +kernel
theorem dX2_requireTenths_6 : decode cX2_requireTenths 6 = .ok (.iload_n 0, 1) := by decide +kernel
theorem dX2_requireTenths_7 : decode cX2_requireTenths 7 = .ok (.bipush 99, 2) := by decide +kernel
theorem dX2_requireTenths_9 : decode cX2_requireTenths 9 = .ok (.if_icmp .le 13, 3) := by decide +kernel
theorem dX2_requireTenths_12 : decode cX2_requireTenths 12 = .ok (.new 48, 3) := by decide +kernel
theorem dX2_requireTenths_15 : decode cX2_requireTenths 15 = .ok (.dup, 1) := by decide +kernel
theorem dX2_requireTenths_16 : decode cX2_requireTenths 16 = .ok (.ldc 182, 2) := by decide +kernel
theorem dX2_requireTenths_18 : decode cX2_requireTenths 18 = .ok (.invokespecial 52, 3) := by decide +kernel
theorem dX2_requireTenths_21 : decode cX2_requireTenths 21 = .ok (.athrow, 1) := by decide +kernel
theorem dX2_requireTenths_22 : decode cX2_requireTenths 22 = .ok (.return_, 1) := by decide +kernel
theorem dX2_requirePounds_0 : decode cX2_requirePounds 0 = .ok (.iload_n 0, 1) := by decide +kernel
theorem dX2_requirePounds_1 : decode cX2_requirePounds 1 = .ok (.ifCond .lt 10, 3) := by decide +kernel
theorem dX2_requirePounds_4 : decode cX2_requirePounds 4 = .ok (.iload_n 0, 1) := by decide +kernel
theorem dX2_requirePounds_5 : decode cX2_requirePounds 5 = .ok (.sipush 999, 3) := by decide +kernel
theorem dX2_requirePounds_8 : decode cX2_requirePounds 8 = .ok (.if_icmp .le 13, 3) := by decide +kernel
theorem dX2_requirePounds_11 : decode cX2_requirePounds 11 = .ok (.new 48, 3) := by decide +kernel
theorem dX2_requirePounds_14 : decode cX2_requirePounds 14 = .ok (.dup, 1) := by decide +kernel
theorem dX2_requirePounds_15 : decode cX2_requirePounds 15 = .ok (.ldc 184, 2) := by decide +kernel
theorem dX2_requirePounds_17 : decode cX2_requirePounds 17 = .ok (.invokespecial 52, 3) := by decide +kernel
theorem dX2_requirePounds_20 : decode cX2_requirePounds 20 = .ok (.athrow, 1) := by decide +kernel
theorem dX2_requirePounds_21 : decode cX2_requirePounds 21 = .ok (.return_, 1) := by decide +kernel
theorem dX2_requireWhat_0 : decode cX2_requireWhat 0 = .ok (.iload_n 0, 1) := by decide +kernel
theorem dX2_requireWhat_1 : decode cX2_requireWhat 1 = .ok (.ifCond .eq 18, 3) := by decide +kernel
theorem dX2_requireWhat_4 : decode cX2_requireWhat 4 = .ok (.iload_n 0, 1) := by decide +kernel
theorem dX2_requireWhat_5 : decode cX2_requireWhat 5 = .ok (.iconst 1, 1) := by decide +kernel
theorem dX2_requireWhat_6 : decode cX2_requireWhat 6 = .ok (.if_icmp .eq 13, 3) := by decide +kernel
theorem dX2_requireWhat_9 : decode cX2_requireWhat 9 = .ok (.new 48, 3) := by decide +kernel
theorem dX2_requireWhat_12 : decode cX2_requireWhat 12 = .ok (.dup, 1) := by decide +kernel
theorem dX2_requireWhat_13 : decode cX2_requireWhat 13 = .ok (.ldc 186, 2) := by decide +kernel
theorem dX2_requireWhat_15 : decode cX2_requireWhat 15 = .ok (.invokespecial 52, 3) := by decide +kernel
theorem dX2_requireWhat_18 : decode cX2_requireWhat 18 = .ok (.athrow, 1) := by decide +kernel
theorem dX2_requireWhat_19 : decode cX2_requireWhat 19 = .ok (.return_, 1) := by decide +kernel
theorem dX2_requireSign_0 : decode cX2_requireSign 0 = .ok (.iload_n 0, 1) := by decide +kernel
theorem dX2_requireSign_1 : decode cX2_requireSign 1 = .ok (.ifCond .lt 9, 3) := by decide +kernel
theorem dX2_requireSign_4 : decode cX2_requireSign 4 = .ok (.iload_n 0, 1) := by decide +kernel
theorem dX2_requireSign_5 : decode cX2_requireSign 5 = .ok (.bipush 6, 2) := by decide +kernel
theorem dX2_requireSign_7 : decode cX2_requireSign 7 = .ok (.if_icmp .lt 13, 3) := by decide +kernel
theorem dX2_requireSign_10 : decode cX2_requireSign 10 = .ok (.new 48, 3) := by decide +kernel
theorem dX2_requireSign_13 : decode cX2_requireSign 13 = .ok (.dup, 1) := by decide +kernel
theorem dX2_requireSign_14 : decode cX2_requireSign 14 = .ok (.ldc 188, 2) := by decide +kernel
theorem dX2_requireSign_16 : decode cX2_requireSign 16 = .ok (.invokespecial 52, 3) := by decide +kernel
theorem dX2_requireSign_19 : decode cX2_requireSign 19 = .ok (.athrow, 1) := by decide +kernel
theorem dX2_requireSign_20 : decode cX2_requireSign 20 = .ok (.return_, 1) := by decide +kernel
theorem dX2_mayTakePart_0 : decode cX2_mayTakePart 0 = .ok (.iload_n 0, 1) := by decide +kernel
theorem dX2_mayTakePart_1 : decode cX2_mayTakePart 1 = .ok (.iconst 3, 1) := by decide +kernel
theorem dX2_mayTakePart_2 : decode cX2_mayTakePart 2 = .ok (.if_icmp .lt 13, 3) := by decide +kernel
theorem dX2_mayTakePart_5 : decode cX2_mayTakePart 5 = .ok (.iload_n 0, 1) := by decide +kernel
theorem dX2_mayTakePart_6 : decode cX2_mayTakePart 6 = .ok (.bipush 12, 2) := by decide +kernel
theorem dX2_mayTakePart_8 : decode cX2_mayTakePart 8 = .ok (.if_icmp .gt 7, 3) := by decide +kernel
theorem dX2_mayTakePart_11 : decode cX2_mayTakePart 11 = .ok (.iconst 1, 1) := by decide +kernel
theorem dX2_mayTakePart_12 : decode cX2_mayTakePart 12 = .ok (.goto 4, 3) := by decide +kernel
theorem dX2_mayTakePart_15 : decode cX2_mayTakePart 15 = .ok (.iconst 0, 1) := by decide +kernel
theorem dX2_mayTakePart_16 : decode cX2_mayTakePart 16 = .ok (.ireturn, 1) := by decide +kernel
theorem dX2_poundsOrNone_0 : decode cX2_poundsOrNone 0 = .ok (.iload_n 0, 1) := by decide +kernel
theorem dX2_poundsOrNone_1 : decode cX2_poundsOrNone 1 = .ok (.ifCond .ne 8, 3) := by decide +kernel
theorem dX2_poundsOrNone_4 : decode cX2_poundsOrNone 4 = .ok (.ldc 29, 2) := by decide +kernel
theorem dX2_poundsOrNone_6 : decode cX2_poundsOrNone 6 = .ok (.goto 4, 3) := by decide +kernel
theorem dX2_poundsOrNone_9 : decode cX2_poundsOrNone 9 = .ok (.iload_n 0, 1) := by decide +kernel
theorem dX2_poundsOrNone_10 : decode cX2_poundsOrNone 10 = .ok (.ireturn, 1) := by decide +kernel
theorem dX2_holds_0 : decode cX2_holds 0 = .ok (.iload_n 1, 1) := by decide +kernel
theorem dX2_holds_1 : decode cX2_holds 1 = .ok (.ldc 29, 2) := by decide +kernel
theorem dX2_holds_3 : decode cX2_holds 3 = .ok (.if_icmp .eq 9, 3) := by decide +kernel
theorem dX2_holds_6 : decode cX2_holds 6 = .ok (.iload_n 2, 1) := by decide +kernel
theorem dX2_holds_7 : decode cX2_holds 7 = .ok (.ldc 29, 2) := by decide +kernel
theorem dX2_holds_9 : decode cX2_holds 9 = .ok (.if_icmp .ne 14, 3) := by decide +kernel
theorem dX2_holds_12 : decode cX2_holds 12 = .ok (.iload_n 0, 1) := by decide +kernel
theorem dX2_holds_13 : decode cX2_holds 13 = .ok (.iconst 5, 1) := by decide +kernel
theorem dX2_holds_14 : decode cX2_holds 14 = .ok (.if_icmp .ne 7, 3) := by decide +kernel
theorem dX2_holds_17 : decode cX2_holds 17 = .ok (.iconst 1, 1) := by decide +kernel
theorem dX2_holds_18 : decode cX2_holds 18 = .ok (.goto 4, 3) := by decide +kernel
theorem dX2_holds_21 : decode cX2_holds 21 = .ok (.iconst 0, 1) := by decide +kernel
theorem dX2_holds_22 : decode cX2_holds 22 = .ok (.ireturn, 1) := by decide +kernel
theorem dX2_holds_23 : decode cX2_holds 23 = .ok (.iload_n 0, 1) := by decide +kernel
theorem dX2_holds_24 : decode cX2_holds 24 = .ok (.tableswitch 91 0 4 #[36, 47, 58, 69, 80], 36) := by decide +kernel
theorem dX2_holds_60 : decode cX2_holds 60 = .ok (.iload_n 1, 1) := by decide +kernel
theorem dX2_holds_61 : decode cX2_holds 61 = .ok (.iload_n 2, 1) := by decide +kernel
theorem dX2_holds_62 : decode cX2_holds 62 = .ok (.if_icmp .ge 7, 3) := by decide +kernel
theorem dX2_holds_65 : decode cX2_holds 65 = .ok (.iconst 1, 1) := by decide +kernel
theorem dX2_holds_66 : decode cX2_holds 66 = .ok (.goto 4, 3) := by decide +kernel
theorem dX2_holds_69 : decode cX2_holds 69 = .ok (.iconst 0, 1) := by decide +kernel
theorem dX2_holds_70 : decode cX2_holds 70 = .ok (.ireturn, 1) := by decide +kernel
theorem dX2_holds_71 : decode cX2_holds 71 = .ok (.iload_n 1, 1) := by decide +kernel
theorem dX2_holds_72 : decode cX2_holds 72 = .ok (.iload_n 2, 1) := by decide +kernel
theorem dX2_holds_73 : decode cX2_holds 73 = .ok (.if_icmp .gt 7, 3) := by decide +kernel
theorem dX2_holds_76 : decode cX2_holds 76 = .ok (.iconst 1, 1) := by decide +kernel
theorem dX2_holds_77 : decode cX2_holds 77 = .ok (.goto 4, 3) := by decide +kernel
theorem dX2_holds_80 : decode cX2_holds 80 = .ok (.iconst 0, 1) := by decide +kernel
theorem dX2_holds_81 : decode cX2_holds 81 = .ok (.ireturn, 1) := by decide +kernel
theorem dX2_holds_82 : decode cX2_holds 82 = .ok (.iload_n 1, 1) := by decide +kernel
theorem dX2_holds_83 : decode cX2_holds 83 = .ok (.iload_n 2, 1) := by decide +kernel
theorem dX2_holds_84 : decode cX2_holds 84 = .ok (.if_icmp .le 7, 3) := by decide +kernel
theorem dX2_holds_87 : decode cX2_holds 87 = .ok (.iconst 1, 1) := by decide +kernel
theorem dX2_holds_88 : decode cX2_holds 88 = .ok (.goto 4, 3) := by decide +kernel
theorem dX2_holds_91 : decode cX2_holds 91 = .ok (.iconst 0, 1) := by decide +kernel
theorem dX2_holds_92 : decode cX2_holds 92 = .ok (.ireturn, 1) := by decide +kernel
theorem dX2_holds_93 : decode cX2_holds 93 = .ok (.iload_n 1, 1) := by decide +kernel
theorem dX2_holds_94 : decode cX2_holds 94 = .ok (.iload_n 2, 1) := by decide +kernel
theorem dX2_holds_95 : decode cX2_holds 95 = .ok (.if_icmp .lt 7, 3) := by decide +kernel
theorem dX2_holds_98 : decode cX2_holds 98 = .ok (.iconst 1, 1) := by decide +kernel
theorem dX2_holds_99 : decode cX2_holds 99 = .ok (.goto 4, 3) := by decide +kernel
theorem dX2_holds_102 : decode cX2_holds 102 = .ok (.iconst 0, 1) := by decide +kernel
theorem dX2_holds_103 : decode cX2_holds 103 = .ok (.ireturn, 1) := by decide +kernel
theorem dX2_holds_104 : decode cX2_holds 104 = .ok (.iload_n 1, 1) := by decide +kernel
theorem dX2_holds_105 : decode cX2_holds 105 = .ok (.iload_n 2, 1) := by decide +kernel
theorem dX2_holds_106 : decode cX2_holds 106 = .ok (.if_icmp .ne 7, 3) := by decide +kernel
theorem dX2_holds_109 : decode cX2_holds 109 = .ok (.iconst 1, 1) := by decide +kernel
theorem dX2_holds_110 : decode cX2_holds 110 = .ok (.goto 4, 3) := by decide +kernel
theorem dX2_holds_113 : decode cX2_holds 113 = .ok (.iconst 0, 1) := by decide +kernel
theorem dX2_holds_114 : decode cX2_holds 114 = .ok (.ireturn, 1) := by decide +kernel
theorem dX2_holds_115 : decode cX2_holds 115 = .ok (.iload_n 1, 1) := by decide +kernel
theorem dX2_holds_116 : decode cX2_holds 116 = .ok (.iload_n 2, 1) := by decide +kernel
theorem dX2_holds_117 : decode cX2_holds 117 = .ok (.if_icmp .eq 7, 3) := by decide +kernel
theorem dX2_holds_120 : decode cX2_holds 120 = .ok (.iconst 1, 1) := by decide +kernel
theorem dX2_holds_121 : decode cX2_holds 121 = .ok (.goto 4, 3) := by decide +kernel
theorem dX2_holds_124 : decode cX2_holds 124 = .ok (.iconst 0, 1) := by decide +kernel
theorem dX2_holds_125 : decode cX2_holds 125 = .ok (.ireturn, 1) := by decide +kernel
