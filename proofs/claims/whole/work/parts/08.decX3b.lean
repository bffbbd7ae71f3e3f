theorem dX3_weightsOf_93 : decode cX3_weightsOf 93 = .ok (.ireturn, 1) := by decide +kernel
theorem dX3_isBefore_0 : decode cX3_isBefore 0 = .ok (.aload_n 0, 1) := by decide +kernel
theorem dX3_isBefore_1 : decode cX3_isBefore 1 = .ok (.iload_n 1, 1) := by decide +kernel
theorem dX3_isBefore_2 : decode cX3_isBefore 2 = .ok (.aload_n 0, 1) := by decide +kernel
theorem dX3_isBefore_3 : decode cX3_isBefore 3 = .ok (.getfield 42, 3) := by decide +kernel
theorem dX3_isBefore_6 : decode cX3_isBefore 6 = .ok (.invokevirtual 69, 3) := by decide +kernel
theorem dX3_isBefore_9 : decode cX3_isBefore 9 = .ok (.istore_n 3, 1) := by decide +kernel
theorem dX3_isBefore_10 : decode cX3_isBefore 10 = .ok (.aload_n 0, 1) := by decide +kernel
theorem dX3_isBefore_11 : decode cX3_isBefore 11 = .ok (.iload_n 2, 1) := by decide +kernel
theorem dX3_isBefore_12 : decode cX3_isBefore 12 = .ok (.aload_n 0, 1) := by decide +kernel
theorem dX3_isBefore_13 : decode cX3_isBefore 13 = .ok (.getfield 45, 3) := by decide +kernel
theorem dX3_isBefore_16 : decode cX3_isBefore 16 = .ok (.invokevirtual 69, 3) := by decide +kernel
theorem dX3_isBefore_19 : decode cX3_isBefore 19 = .ok (.istore 4, 2) := by decide +kernel
theorem dX3_isBefore_21 : decode cX3_isBefore 21 = .ok (.iconst 0, 1) := by decide +kernel
theorem dX3_isBefore_22 : decode cX3_isBefore 22 = .ok (.istore 5, 2) := by decide +kernel
theorem dX3_isBefore_24 : decode cX3_isBefore 24 = .ok (.iload 5, 2) := by decide +kernel
theorem dX3_isBefore_26 : decode cX3_isBefore 26 = .ok (.iload_n 3, 1) := by decide +kernel
theorem dX3_isBefore_27 : decode cX3_isBefore 27 = .ok (.if_icmp .ge 33, 3) := by decide +kernel
theorem dX3_isBefore_30 : decode cX3_isBefore 30 = .ok (.iload 5, 2) := by decide +kernel
theorem dX3_isBefore_32 : decode cX3_isBefore 32 = .ok (.iload 4, 2) := by decide +kernel
theorem dX3_isBefore_34 : decode cX3_isBefore 34 = .ok (.if_icmp .ge 26, 3) := by decide +kernel
theorem dX3_isBefore_37 : decode cX3_isBefore 37 = .ok (.aload_n 0, 1) := by decide +kernel
theorem dX3_isBefore_38 : decode cX3_isBefore 38 = .ok (.getfield 42, 3) := by decide +kernel
theorem dX3_isBefore_41 : decode cX3_isBefore 41 = .ok (.iload 5, 2) := by decide +kernel
theorem dX3_isBefore_43 : decode cX3_isBefore 43 = .ok (.iaload, 1) := by decide +kernel
theorem dX3_isBefore_44 : decode cX3_isBefore 44 = .ok (.aload_n 0, 1) := by decide +kernel
theorem dX3_isBefore_45 : decode cX3_isBefore 45 = .ok (.getfield 45, 3) := by decide +kernel
theorem dX3_isBefore_48 : decode cX3_isBefore 48 = .ok (.iload 5, 2) := by decide +kernel
theorem dX3_isBefore_50 : decode cX3_isBefore 50 = .ok (.iaload, 1) := by decide +kernel
theorem dX3_isBefore_51 : decode cX3_isBefore 51 = .ok (.if_icmp .ne 9, 3) := by decide +kernel
theorem dX3_isBefore_54 : decode cX3_isBefore 54 = .ok (.iinc 5 1, 3) := by decide +kernel
theorem dX3_isBefore_57 : decode cX3_isBefore 57 = .ok (.goto (-33), 3) := by decide +kernel
theorem dX3_isBefore_60 : decode cX3_isBefore 60 = .ok (.iload 5, 2) := by decide +kernel
theorem dX3_isBefore_62 : decode cX3_isBefore 62 = .ok (.iload_n 3, 1) := by decide +kernel
theorem dX3_isBefore_63 : decode cX3_isBefore 63 = .ok (.if_icmp .ge 31, 3) := by decide +kernel
theorem dX3_isBefore_66 : decode cX3_isBefore 66 = .ok (.iload 5, 2) := by decide +kernel
theorem dX3_isBefore_68 : decode cX3_isBefore 68 = .ok (.iload 4, 2) := by decide +kernel
theorem dX3_isBefore_70 : decode cX3_isBefore 70 = .ok (.if_icmp .eq 20, 3) := by decide +kernel
theorem dX3_isBefore_73 : decode cX3_isBefore 73 = .ok (.aload_n 0, 1) := by decide +kernel
theorem dX3_isBefore_74 : decode cX3_isBefore 74 = .ok (.getfield 42, 3) := by decide +kernel
theorem dX3_isBefore_77 : decode cX3_isBefore 77 = .ok (.iload 5, 2) := by decide +kernel
theorem dX3_isBefore_79 : decode cX3_isBefore 79 = .ok (.iaload, 1) := by decide +kernel
theorem dX3_isBefore_80 : decode cX3_isBefore 80 = .ok (.aload_n 0, 1) := by decide +kernel
theorem dX3_isBefore_81 : decode cX3_isBefore 81 = .ok (.getfield 45, 3) := by decide +kernel
theorem dX3_isBefore_84 : decode cX3_isBefore 84 = .ok (.iload 5, 2) := by decide +kernel
theorem dX3_isBefore_86 : decode cX3_isBefore 86 = .ok (.iaload, 1) := by decide +kernel
theorem dX3_isBefore_87 : decode cX3_isBefore 87 = .ok (.if_icmp .le 7, 3) := by decide +kernel
theorem dX3_isBefore_90 : decode cX3_isBefore 90 = .ok (.iconst 1, 1) := by decide +kernel
theorem dX3_isBefore_91 : decode cX3_isBefore 91 = .ok (.goto 4, 3) := by decide +kernel
theorem dX3_isBefore_94 : decode cX3_isBefore 94 = .ok (.iconst 0, 1) := by decide +kernel
theorem dX3_isBefore_95 : decode cX3_isBefore 95 = .ok (.ireturn, 1) := by decide +kernel
theorem dX3_placeOf_0 : decode cX3_placeOf 0 = .ok (.iconst 1, 1) := by decide +kernel
theorem dX3_placeOf_1 : decode cX3_placeOf 1 = .ok (.istore_n 2, 1) := by decide +kernel
theorem dX3_placeOf_2 : decode cX3_placeOf 2 = .ok (.iconst 0, 1) := by decide +kernel
theorem dX3_placeOf_3 : decode cX3_placeOf 3 = .ok (.istore_n 3, 1) := by decide +kernel
theorem dX3_placeOf_4 : decode cX3_placeOf 4 = .ok (.iload_n 3, 1) := by decide +kernel
theorem dX3_placeOf_5 : decode cX3_placeOf 5 = .ok (.aload_n 0, 1) := by decide +kernel
theorem dX3_placeOf_6 : decode cX3_placeOf 6 = .ok (.getfield 60, 3) := by decide +kernel
theorem dX3_placeOf_9 : decode cX3_placeOf 9 = .ok (.if_icmp .ge 31, 3) := by decide +kernel
theorem dX3_placeOf_12 : decode cX3_placeOf 12 = .ok (.iload_n 3, 1) := by decide +kernel
theorem dX3_placeOf_13 : decode cX3_placeOf 13 = .ok (.iload_n 1, 1) := by decide +kernel
theorem dX3_placeOf_14 : decode cX3_placeOf 14 = .ok (.if_icmp .eq 18, 3) := by decide +kernel
theorem dX3_placeOf_17 : decode cX3_placeOf 17 = .ok (.aload_n 0, 1) := by decide +kernel
theorem dX3_placeOf_18 : decode cX3_placeOf 18 = .ok (.iload_n 3, 1) := by decide +kernel
theorem dX3_placeOf_19 : decode cX3_placeOf 19 = .ok (.iload_n 1, 1) := by decide +kernel
theorem dX3_placeOf_20 : decode cX3_placeOf 20 = .ok (.invokevirtual 121, 3) := by decide +kernel
theorem dX3_placeOf_23 : decode cX3_placeOf 23 = .ok (.ifCond .eq 9, 3) := by decide +kernel
theorem dX3_placeOf_26 : decode cX3_placeOf 26 = .ok (.iload_n 2, 1) := by decide +kernel
theorem dX3_placeOf_27 : decode cX3_placeOf 27 = .ok (.iconst 1, 1) := by decide +kernel
theorem dX3_placeOf_28 : decode cX3_placeOf 28 = .ok (.iadd, 1) := by decide +kernel
theorem dX3_placeOf_29 : decode cX3_placeOf 29 = .ok (.goto 4, 3) := by decide +kernel
theorem dX3_placeOf_32 : decode cX3_placeOf 32 = .ok (.iload_n 2, 1) := by decide +kernel
theorem dX3_placeOf_33 : decode cX3_placeOf 33 = .ok (.istore_n 2, 1) := by decide +kernel
theorem dX3_placeOf_34 : decode cX3_placeOf 34 = .ok (.iinc 3 1, 3) := by decide +kernel
theorem dX3_placeOf_37 : decode cX3_placeOf 37 = .ok (.goto (-33), 3) := by decide +kernel
theorem dX3_placeOf_40 : decode cX3_placeOf 40 = .ok (.iload_n 2, 1) := by decide +kernel
theorem dX3_placeOf_41 : decode cX3_placeOf 41 = .ok (.ireturn, 1) := by decide +kernel
theorem dX3_turn_0 : decode cX3_turn 0 = .ok (.aload_n 0, 1) := by decide +kernel
theorem dX3_turn_1 : decode cX3_turn 1 = .ok (.iconst 0, 1) := by decide +kernel
theorem dX3_turn_2 : decode cX3_turn 2 = .ok (.putfield 56, 3) := by decide +kernel
theorem dX3_turn_5 : decode cX3_turn 5 = .ok (.aload_n 0, 1) := by decide +kernel
theorem dX3_turn_6 : decode cX3_turn 6 = .ok (.getfield 63, 3) := by decide +kernel
theorem dX3_turn_9 : decode cX3_turn 9 = .ok (.bipush 7, 2) := by decide +kernel
theorem dX3_turn_11 : decode cX3_turn 11 = .ok (.if_icmp .ne 8, 3) := by decide +kernel
theorem dX3_turn_14 : decode cX3_turn 14 = .ok (.ldc 124, 2) := by decide +kernel
theorem dX3_turn_16 : decode cX3_turn 16 = .ok (.goto 12, 3) := by decide +kernel
theorem dX3_turn_19 : decode cX3_turn 19 = .ok (.aload_n 0, 1) := by decide +kernel
theorem dX3_turn_20 : decode cX3_turn 20 = .ok (.getfield 35, 3) := by decide +kernel
theorem dX3_turn_23 : decode cX3_turn 23 = .ok (.aload_n 0, 1) := by decide +kernel
theorem dX3_turn_24 : decode cX3_turn 24 = .ok (.getfield 83, 3) := by decide +kernel
theorem dX3_turn_27 : decode cX3_turn 27 = .ok (.iaload, 1) := by decide +kernel
theorem dX3_turn_28 : decode cX3_turn 28 = .ok (.ireturn, 1) := by decide +kernel
theorem dX3_day_0 : decode cX3_day 0 = .ok (.aload_n 0, 1) := by decide +kernel
theorem dX3_day_1 : decode cX3_day 1 = .ok (.iconst 0, 1) := by decide +kernel
theorem dX3_day_2 : decode cX3_day 2 = .ok (.putfield 56, 3) := by decide +kernel
theorem dX3_day_5 : decode cX3_day 5 = .ok (.aload_n 0, 1) := by decide +kernel
theorem dX3_day_6 : decode cX3_day 6 = .ok (.getfield 63, 3) := by decide +kernel
theorem dX3_day_9 : decode cX3_day 9 = .ok (.ireturn, 1) := by decide +kernel
theorem dX3_weight_0 : decode cX3_weight 0 = .ok (.aload_n 0, 1) := by decide +kernel
theorem dX3_weight_1 : decode cX3_weight 1 = .ok (.aload_n 0, 1) := by decide +kernel
theorem dX3_weight_2 : decode cX3_weight 2 = .ok (.iload_n 1, 1) := by decide +kernel
theorem dX3_weight_3 : decode cX3_weight 3 = .ok (.iload_n 2, 1) := by decide +kernel
theorem dX3_weight_4 : decode cX3_weight 4 = .ok (.invokevirtual 111, 3) := by decide +kernel
theorem dX3_weight_7 : decode cX3_weight 7 = .ok (.ifCond .eq 7, 3) := by decide +kernel
theorem dX3_weight_10 : decode cX3_weight 10 = .ok (.iconst 0, 1) := by decide +kernel
theorem dX3_weight_11 : decode cX3_weight 11 = .ok (.goto 4, 3) := by decide +kernel
theorem dX3_weight_14 : decode cX3_weight 14 = .ok (.iconst 1, 1) := by decide +kernel
theorem dX3_weight_15 : decode cX3_weight 15 = .ok (.putfield 56, 3) := by decide +kernel
theorem dX3_weight_18 : decode cX3_weight 18 = .ok (.aload_n 0, 1) := by decide +kernel
theorem dX3_weight_19 : decode cX3_weight 19 = .ok (.getfield 56, 3) := by decide +kernel
theorem dX3_weight_22 : decode cX3_weight 22 = .ok (.ifCond .le 5, 3) := by decide +kernel
theorem dX3_weight_25 : decode cX3_weight 25 = .ok (.iconst 0, 1) := by decide +kernel
theorem dX3_weight_26 : decode cX3_weight 26 = .ok (.ireturn, 1) := by decide +kernel
theorem dX3_weight_27 : decode cX3_weight 27 = .ok (.bipush 7, 2) := by decide +kernel
theorem dX3_weight_29 : decode cX3_weight 29 = .ok (.iload_n 1, 1) := by decide +kernel
theorem dX3_weight_30 : decode cX3_weight 30 = .ok (.imul, 1) := by decide +kernel
theorem dX3_weight_31 : decode cX3_weight 31 = .ok (.iload_n 2, 1) := by decide +kernel
theorem dX3_weight_32 : decode cX3_weight 32 = .ok (.iadd, 1) := by decide +kernel
theorem dX3_weight_33 : decode cX3_weight 33 = .ok (.istore_n 3, 1) := by decide +kernel
theorem dX3_weight_34 : decode cX3_weight 34 = .ok (.aload_n 0, 1) := by decide +kernel
theorem dX3_weight_35 : decode cX3_weight 35 = .ok (.getfield 7, 3) := by decide +kernel
theorem dX3_weight_38 : decode cX3_weight 38 = .ok (.iload_n 3, 1) := by decide +kernel
theorem dX3_weight_39 : decode cX3_weight 39 = .ok (.iaload, 1) := by decide +kernel
theorem dX3_weight_40 : decode cX3_weight 40 = .ok (.iconst 1, 1) := by decide +kernel
theorem dX3_weight_41 : decode cX3_weight 41 = .ok (.if_icmp .ne 12, 3) := by decide +kernel
theorem dX3_weight_44 : decode cX3_weight 44 = .ok (.aload_n 0, 1) := by decide +kernel
theorem dX3_weight_45 : decode cX3_weight 45 = .ok (.getfield 13, 3) := by decide +kernel
theorem dX3_weight_48 : decode cX3_weight 48 = .ok (.iload_n 3, 1) := by decide +kernel
theorem dX3_weight_49 : decode cX3_weight 49 = .ok (.iaload, 1) := by decide +kernel
theorem dX3_weight_50 : decode cX3_weight 50 = .ok (.goto 34, 3) := by decide +kernel
theorem dX3_weight_53 : decode cX3_weight 53 = .ok (.aload_n 0, 1) := by decide +kernel
theorem dX3_weight_54 : decode cX3_weight 54 = .ok (.getfield 7, 3) := by decide +kernel
theorem dX3_weight_57 : decode cX3_weight 57 = .ok (.iload_n 3, 1) := by decide +kernel
theorem dX3_weight_58 : decode cX3_weight 58 = .ok (.iaload, 1) := by decide +kernel
theorem dX3_weight_59 : decode cX3_weight 59 = .ok (.iconst 2, 1) := by decide +kernel
theorem dX3_weight_60 : decode cX3_weight 60 = .ok (.if_icmp .ne 7, 3) := by decide +kernel
theorem dX3_weight_63 : decode cX3_weight 63 = .ok (.iconst (-1), 1) := by decide +kernel
theorem dX3_weight_64 : decode cX3_weight 64 = .ok (.goto 20, 3) := by decide +kernel
theorem dX3_weight_67 : decode cX3_weight 67 = .ok (.aload_n 0, 1) := by decide +kernel
theorem dX3_weight_68 : decode cX3_weight 68 = .ok (.getfield 7, 3) := by decide +kernel
theorem dX3_weight_71 : decode cX3_weight 71 = .ok (.iload_n 3, 1) := by decide +kernel
theorem dX3_weight_72 : decode cX3_weight 72 = .ok (.iaload, 1) := by decide +kernel
theorem dX3_weight_73 : decode cX3_weight 73 = .ok (.iconst 3, 1) := by decide +kernel
theorem dX3_weight_74 : decode cX3_weight 74 = .ok (.if_icmp .ne 8, 3) := by decide +kernel
theorem dX3_weight_77 : decode cX3_weight 77 = .ok (.bipush (-2), 2) := by decide +kernel
theorem dX3_weight_79 : decode cX3_weight 79 = .ok (.goto 5, 3) := by decide +kernel
theorem dX3_weight_82 : decode cX3_weight 82 = .ok (.ldc 124, 2) := by decide +kernel
theorem dX3_weight_84 : decode cX3_weight 84 = .ok (.ireturn, 1) := by decide +kernel
theorem dX3_tilt_0 : decode cX3_tilt 0 = .ok (.aload_n 0, 1) := by decide +kernel
theorem dX3_tilt_1 : decode cX3_tilt 1 = .ok (.aload_n 0, 1) := by decide +kernel
theorem dX3_tilt_2 : decode cX3_tilt 2 = .ok (.iload_n 1, 1) := by decide +kernel
theorem dX3_tilt_3 : decode cX3_tilt 3 = .ok (.iload_n 2, 1) := by decide +kernel
theorem dX3_tilt_4 : decode cX3_tilt 4 = .ok (.invokevirtual 111, 3) := by decide +kernel
theorem dX3_tilt_7 : decode cX3_tilt 7 = .ok (.ifCond .eq 7, 3) := by decide +kernel
theorem dX3_tilt_10 : decode cX3_tilt 10 = .ok (.iconst 0, 1) := by decide +kernel
theorem dX3_tilt_11 : decode cX3_tilt 11 = .ok (.goto 4, 3) := by decide +kernel
theorem dX3_tilt_14 : decode cX3_tilt 14 = .ok (.iconst 1, 1) := by decide +kernel
theorem dX3_tilt_15 : decode cX3_tilt 15 = .ok (.putfield 56, 3) := by decide +kernel
theorem dX3_tilt_18 : decode cX3_tilt 18 = .ok (.aload_n 0, 1) := by decide +kernel
theorem dX3_tilt_19 : decode cX3_tilt 19 = .ok (.getfield 56, 3) := by decide +kernel
theorem dX3_tilt_22 : decode cX3_tilt 22 = .ok (.ifCond .ne 31, 3) := by decide +kernel
theorem dX3_tilt_25 : decode cX3_tilt 25 = .ok (.aload_n 0, 1) := by decide +kernel
theorem dX3_tilt_26 : decode cX3_tilt 26 = .ok (.getfield 23, 3) := by decide +kernel
theorem dX3_tilt_29 : decode cX3_tilt 29 = .ok (.bipush 7, 2) := by decide +kernel
theorem dX3_tilt_31 : decode cX3_tilt 31 = .ok (.iload_n 1, 1) := by decide +kernel
theorem dX3_tilt_32 : decode cX3_tilt 32 = .ok (.imul, 1) := by decide +kernel
theorem dX3_tilt_33 : decode cX3_tilt 33 = .ok (.iload_n 2, 1) := by decide +kernel
theorem dX3_tilt_34 : decode cX3_tilt 34 = .ok (.iadd, 1) := by decide +kernel
theorem dX3_tilt_35 : decode cX3_tilt 35 = .ok (.baload, 1) := by decide +kernel
theorem dX3_tilt_36 : decode cX3_tilt 36 = .ok (.ifCond .eq 17, 3) := by decide +kernel
theorem dX3_tilt_39 : decode cX3_tilt 39 = .ok (.aload_n 0, 1) := by decide +kernel
theorem dX3_tilt_40 : decode cX3_tilt 40 = .ok (.getfield 20, 3) := by decide +kernel
theorem dX3_tilt_43 : decode cX3_tilt 43 = .ok (.bipush 7, 2) := by decide +kernel
theorem dX3_tilt_45 : decode cX3_tilt 45 = .ok (.iload_n 1, 1) := by decide +kernel
theorem dX3_tilt_46 : decode cX3_tilt 46 = .ok (.imul, 1) := by decide +kernel
theorem dX3_tilt_47 : decode cX3_tilt 47 = .ok (.iload_n 2, 1) := by decide +kernel
theorem dX3_tilt_48 : decode cX3_tilt 48 = .ok (.iadd, 1) := by decide +kernel
theorem dX3_tilt_49 : decode cX3_tilt 49 = .ok (.iaload, 1) := by decide +kernel
theorem dX3_tilt_50 : decode cX3_tilt 50 = .ok (.goto 16, 3) := by decide +kernel
theorem dX3_tilt_53 : decode cX3_tilt 53 = .ok (.aload_n 0, 1) := by decide +kernel
theorem dX3_tilt_54 : decode cX3_tilt 54 = .ok (.getfield 56, 3) := by decide +kernel
theorem dX3_tilt_57 : decode cX3_tilt 57 = .ok (.ifCond .ne 8, 3) := by decide +kernel
theorem dX3_tilt_60 : decode cX3_tilt 60 = .ok (.ldc 124, 2) := by decide +kernel
theorem dX3_tilt_62 : decode cX3_tilt 62 = .ok (.goto 4, 3) := by decide +kernel
theorem dX3_tilt_65 : decode cX3_tilt 65 = .ok (.iconst 0, 1) := by decide +kernel
theorem dX3_tilt_66 : decode cX3_tilt 66 = .ok (.ireturn, 1) := by decide +kernel
theorem dX3_best_0 : decode cX3_best 0 = .ok (.aload_n 0, 1) := by decide +kernel
theorem dX3_best_1 : decode cX3_best 1 = .ok (.iload_n 1, 1) := by decide +kernel
theorem dX3_best_2 : decode cX3_best 2 = .ok (.iconst 0, 1) := by decide +kernel
theorem dX3_best_3 : decode cX3_best 3 = .ok (.aload_n 0, 1) := by decide +kernel
theorem dX3_best_4 : decode cX3_best 4 = .ok (.getfield 60, 3) := by decide +kernel
theorem dX3_best_7 : decode cX3_best 7 = .ok (.iconst 1, 1) := by decide +kernel
theorem dX3_best_8 : decode cX3_best 8 = .ok (.isub, 1) := by decide +kernel
theorem dX3_best_9 : decode cX3_best 9 = .ok (.invokestatic 48, 3) := by decide +kernel
theorem dX3_best_12 : decode cX3_best 12 = .ok (.ifCond .eq 7, 3) := by decide +kernel
theorem dX3_best_15 : decode cX3_best 15 = .ok (.iconst 0, 1) := by decide +kernel
theorem dX3_best_16 : decode cX3_best 16 = .ok (.goto 4, 3) := by decide +kernel
theorem dX3_best_19 : decode cX3_best 19 = .ok (.iconst 1, 1) := by decide +kernel
theorem dX3_best_20 : decode cX3_best 20 = .ok (.putfield 56, 3) := by decide +kernel
theorem dX3_best_23 : decode cX3_best 23 = .ok (.aload_n 0, 1) := by decide +kernel
theorem dX3_best_24 : decode cX3_best 24 = .ok (.getfield 56, 3) := by decide +kernel
theorem dX3_best_27 : decode cX3_best 27 = .ok (.ifCond .le 5, 3) := by decide +kernel
theorem dX3_best_30 : decode cX3_best 30 = .ok (.iconst 0, 1) := by decide +kernel
theorem dX3_best_31 : decode cX3_best 31 = .ok (.ireturn, 1) := by decide +kernel
theorem dX3_best_32 : decode cX3_best 32 = .ok (.aload_n 0, 1) := by decide +kernel
theorem dX3_best_33 : decode cX3_best 33 = .ok (.iload_n 1, 1) := by decide +kernel
theorem dX3_best_34 : decode cX3_best 34 = .ok (.aload_n 0, 1) := by decide +kernel
theorem dX3_best_35 : decode cX3_best 35 = .ok (.getfield 42, 3) := by decide +kernel
theorem dX3_best_38 : decode cX3_best 38 = .ok (.invokevirtual 69, 3) := by decide +kernel
theorem dX3_best_41 : decode cX3_best 41 = .ok (.ifCond .le 12, 3) := by decide +kernel
theorem dX3_best_44 : decode cX3_best 44 = .ok (.aload_n 0, 1) := by decide +kernel
theorem dX3_best_45 : decode cX3_best 45 = .ok (.getfield 42, 3) := by decide +kernel
theorem dX3_best_48 : decode cX3_best 48 = .ok (.iconst 0, 1) := by decide +kernel
theorem dX3_best_49 : decode cX3_best 49 = .ok (.iaload, 1) := by decide +kernel
theorem dX3_best_50 : decode cX3_best 50 = .ok (.goto 5, 3) := by decide +kernel
theorem dX3_best_53 : decode cX3_best 53 = .ok (.ldc 124, 2) := by decide +kernel
theorem dX3_best_55 : decode cX3_best 55 = .ok (.ireturn, 1) := by decide +kernel
theorem dX3_place_0 : decode cX3_place 0 = .ok (.aload_n 0, 1) := by decide +kernel
theorem dX3_place_1 : decode cX3_place 1 = .ok (.iload_n 1, 1) := by decide +kernel
theorem dX3_place_2 : decode cX3_place 2 = .ok (.iconst 0, 1) := by decide +kernel
theorem dX3_place_3 : decode cX3_place 3 = .ok (.aload_n 0, 1) := by decide +kernel
theorem dX3_place_4 : decode cX3_place 4 = .ok (.getfield 60, 3) := by decide +kernel
theorem dX3_place_7 : decode cX3_place 7 = .ok (.iconst 1, 1) := by decide +kernel
theorem dX3_place_8 : decode cX3_place 8 = .ok (.isub, 1) := by decide +kernel
theorem dX3_place_9 : decode cX3_place 9 = .ok (.invokestatic 48, 3) := by decide +kernel
theorem dX3_place_12 : decode cX3_place 12 = .ok (.ifCond .eq 7, 3) := by decide +kernel
theorem dX3_place_15 : decode cX3_place 15 = .ok (.iconst 0, 1) := by decide +kernel
theorem dX3_place_16 : decode cX3_place 16 = .ok (.goto 4, 3) := by decide +kernel
theorem dX3_place_19 : decode cX3_place 19 = .ok (.iconst 1, 1) := by decide +kernel
theorem dX3_place_20 : decode cX3_place 20 = .ok (.putfield 56, 3) := by decide +kernel
theorem dX3_place_23 : decode cX3_place 23 = .ok (.aload_n 0, 1) := by decide +kernel
theorem dX3_place_24 : decode cX3_place 24 = .ok (.getfield 56, 3) := by decide +kernel
theorem dX3_place_27 : decode cX3_place 27 = .ok (.ifCond .ne 11, 3) := by decide +kernel
theorem dX3_place_30 : decode cX3_place 30 = .ok (.aload_n 0, 1) := by decide +kernel
theorem dX3_place_31 : decode cX3_place 31 = .ok (.iload_n 1, 1) := by decide +kernel
theorem dX3_place_32 : decode cX3_place 32 = .ok (.invokevirtual 73, 3) := by decide +kernel
theorem dX3_place_35 : decode cX3_place 35 = .ok (.goto 4, 3) := by decide +kernel
theorem dX3_place_38 : decode cX3_place 38 = .ok (.iconst 0, 1) := by decide +kernel
theorem dX3_place_39 : decode cX3_place 39 = .ok (.ireturn, 1) := by decide +kernel
theorem dX3_wins_0 : decode cX3_wins 0 = .ok (.aload_n 0, 1) := by decide +kernel
theorem dX3_wins_1 : decode cX3_wins 1 = .ok (.iload_n 1, 1) := by decide +kernel
theorem dX3_wins_2 : decode cX3_wins 2 = .ok (.iconst 0, 1) := by decide +kernel
theorem dX3_wins_3 : decode cX3_wins 3 = .ok (.aload_n 0, 1) := by decide +kernel
theorem dX3_wins_4 : decode cX3_wins 4 = .ok (.getfield 60, 3) := by decide +kernel
theorem dX3_wins_7 : decode cX3_wins 7 = .ok (.iconst 1, 1) := by decide +kernel
theorem dX3_wins_8 : decode cX3_wins 8 = .ok (.isub, 1) := by decide +kernel
theorem dX3_wins_9 : decode cX3_wins 9 = .ok (.invokestatic 48, 3) := by decide +kernel
theorem dX3_wins_12 : decode cX3_wins 12 = .ok (.ifCond .eq 7, 3) := by decide +kernel
theorem dX3_wins_15 : decode cX3_wins 15 = .ok (.iconst 0, 1) := by decide +kernel
theorem dX3_wins_16 : decode cX3_wins 16 = .ok (.goto 4, 3) := by decide +kernel
theorem dX3_wins_19 : decode cX3_wins 19 = .ok (.iconst 1, 1) := by decide +kernel
theorem dX3_wins_20 : decode cX3_wins 20 = .ok (.putfield 56, 3) := by decide +kernel
theorem dX3_wins_23 : decode cX3_wins 23 = .ok (.aload_n 0, 1) := by decide +kernel
theorem dX3_wins_24 : decode cX3_wins 24 = .ok (.getfield 56, 3) := by decide +kernel
theorem dX3_wins_27 : decode cX3_wins 27 = .ok (.ifCond .ne 39, 3) := by decide +kernel
theorem dX3_wins_30 : decode cX3_wins 30 = .ok (.aload_n 0, 1) := by decide +kernel
theorem dX3_wins_31 : decode cX3_wins 31 = .ok (.getfield 115, 3) := by decide +kernel
theorem dX3_wins_34 : decode cX3_wins 34 = .ok (.ifCond .eq 32, 3) := by decide +kernel
theorem dX3_wins_37 : decode cX3_wins 37 = .ok (.aload_n 0, 1) := by decide +kernel
theorem dX3_wins_38 : decode cX3_wins 38 = .ok (.iload_n 1, 1) := by decide +kernel
theorem dX3_wins_39 : decode cX3_wins 39 = .ok (.aload_n 0, 1) := by decide +kernel
theorem dX3_wins_40 : decode cX3_wins 40 = .ok (.getfield 42, 3) := by decide +kernel
theorem dX3_wins_43 : decode cX3_wins 43 = .ok (.invokevirtual 69, 3) := by decide +kernel
theorem dX3_wins_46 : decode cX3_wins 46 = .ok (.ifCond .le 20, 3) := by decide +kernel
theorem dX3_wins_49 : decode cX3_wins 49 = .ok (.aload_n 0, 1) := by decide +kernel
theorem dX3_wins_50 : decode cX3_wins 50 = .ok (.getfield 42, 3) := by decide +kernel
theorem dX3_wins_53 : decode cX3_wins 53 = .ok (.iconst 0, 1) := by decide +kernel
theorem dX3_wins_54 : decode cX3_wins 54 = .ok (.iaload, 1) := by decide +kernel
theorem dX3_wins_55 : decode cX3_wins 55 = .ok (.aload_n 0, 1) := by decide +kernel
theorem dX3_wins_56 : decode cX3_wins 56 = .ok (.getfield 118, 3) := by decide +kernel
theorem dX3_wins_59 : decode cX3_wins 59 = .ok (.if_icmp .lt 7, 3) := by decide +kernel
theorem dX3_wins_62 : decode cX3_wins 62 = .ok (.iconst 1, 1) := by decide +kernel
theorem dX3_wins_63 : decode cX3_wins 63 = .ok (.goto 4, 3) := by decide +kernel
theorem dX3_wins_66 : decode cX3_wins 66 = .ok (.iconst 0, 1) := by decide +kernel
theorem dX3_wins_67 : decode cX3_wins 67 = .ok (.ireturn, 1) := by decide +kernel
theorem dX3_stand_0 : decode cX3_stand 0 = .ok (.iload_n 0, 1) := by decide +kernel
theorem dX3_stand_1 : decode cX3_stand 1 = .ok (.ifCond .eq 7, 3) := by decide +kernel
theorem dX3_stand_4 : decode cX3_stand 4 = .ok (.iload_n 2, 1) := by decide +kernel
theorem dX3_stand_5 : decode cX3_stand 5 = .ok (.ifCond .ne 15, 3) := by decide +kernel
theorem dX3_stand_8 : decode cX3_stand 8 = .ok (.iload 4, 2) := by decide +kernel
theorem dX3_stand_10 : decode cX3_stand 10 = .ok (.iconst 5, 1) := by decide +kernel
theorem dX3_stand_11 : decode cX3_stand 11 = .ok (.if_icmp .ne 7, 3) := by decide +kernel
theorem dX3_stand_14 : decode cX3_stand 14 = .ok (.iconst 1, 1) := by decide +kernel
theorem dX3_stand_15 : decode cX3_stand 15 = .ok (.goto 4, 3) := by decide +kernel
theorem dX3_stand_18 : decode cX3_stand 18 = .ok (.iconst 0, 1) := by decide +kernel
theorem dX3_stand_19 : decode cX3_stand 19 = .ok (.ireturn, 1) := by decide +kernel
theorem dX3_stand_20 : decode cX3_stand 20 = .ok (.iload 4, 2) := by decide +kernel
theorem dX3_stand_22 : decode cX3_stand 22 = .ok (.tableswitch 89 0 4 #[34, 45, 56, 67, 78], 34) := by decide +kernel
theorem dX3_stand_56 : decode cX3_stand 56 = .ok (.iload_n 1, 1) := by decide +kernel
theorem dX3_stand_57 : decode cX3_stand 57 = .ok (.iload_n 3, 1) := by decide +kernel
theorem dX3_stand_58 : decode cX3_stand 58 = .ok (.if_icmp .ge 7, 3) := by decide +kernel
theorem dX3_stand_61 : decode cX3_stand 61 = .ok (.iconst 1, 1) := by decide +kernel
theorem dX3_stand_62 : decode cX3_stand 62 = .ok (.goto 4, 3) := by decide +kernel
theorem dX3_stand_65 : decode cX3_stand 65 = .ok (.iconst 0, 1) := by decide +kernel
theorem dX3_stand_66 : decode cX3_stand 66 = .ok (.ireturn, 1) := by decide +kernel
theorem dX3_stand_67 : decode cX3_stand 67 = .ok (.iload_n 1, 1) := by decide +kernel
theorem dX3_stand_68 : decode cX3_stand 68 = .ok (.iload_n 3, 1) := by decide +kernel
theorem dX3_stand_69 : decode cX3_stand 69 = .ok (.if_icmp .gt 7, 3) := by decide +kernel
theorem dX3_stand_72 : decode cX3_stand 72 = .ok (.iconst 1, 1) := by decide +kernel
theorem dX3_stand_73 : decode cX3_stand 73 = .ok (.goto 4, 3) := by decide +kernel
theorem dX3_stand_76 : decode cX3_stand 76 = .ok (.iconst 0, 1) := by decide +kernel
theorem dX3_stand_77 : decode cX3_stand 77 = .ok (.ireturn, 1) := by decide +kernel
theorem dX3_stand_78 : decode cX3_stand 78 = .ok (.iload_n 1, 1) := by decide +kernel
theorem dX3_stand_79 : decode cX3_stand 79 = .ok (.iload_n 3, 1) := by decide +kernel
theorem dX3_stand_80 : decode cX3_stand 80 = .ok (.if_icmp .le 7, 3) := by decide +kernel
theorem dX3_stand_83 : decode cX3_stand 83 = .ok (.iconst 1, 1) := by decide +kernel
theorem dX3_stand_84 : decode cX3_stand 84 = .ok (.goto 4, 3) := by decide +kernel
theorem dX3_stand_87 : decode cX3_stand 87 = .ok (.iconst 0, 1) := by decide +kernel
theorem dX3_stand_88 : decode cX3_stand 88 = .ok (.ireturn, 1) := by decide +kernel
theorem dX3_stand_89 : decode cX3_stand 89 = .ok (.iload_n 1, 1) := by decide +kernel
theorem dX3_stand_90 : decode cX3_stand 90 = .ok (.iload_n 3, 1) := by decide +kernel
theorem dX3_stand_91 : decode cX3_stand 91 = .ok (.if_icmp .lt 7, 3) := by decide +kernel
theorem dX3_stand_94 : decode cX3_stand 94 = .ok (.iconst 1, 1) := by decide +kernel
theorem dX3_stand_95 : decode cX3_stand 95 = .ok (.goto 4, 3) := by decide +kernel
theorem dX3_stand_98 : decode cX3_stand 98 = .ok (.iconst 0, 1) := by decide +kernel
theorem dX3_stand_99 : decode cX3_stand 99 = .ok (.ireturn, 1) := by decide +kernel
theorem dX3_stand_100 : decode cX3_stand 100 = .ok (.iload_n 1, 1) := by decide +kernel
theorem dX3_stand_101 : decode cX3_stand 101 = .ok (.iload_n 3, 1) := by decide +kernel
theorem dX3_stand_102 : decode cX3_stand 102 = .ok (.if_icmp .ne 7, 3) := by decide +kernel
theorem dX3_stand_105 : decode cX3_stand 105 = .ok (.iconst 1, 1) := by decide +kernel
theorem dX3_stand_106 : decode cX3_stand 106 = .ok (.goto 4, 3) := by decide +kernel
theorem dX3_stand_109 : decode cX3_stand 109 = .ok (.iconst 0, 1) := by decide +kernel
theorem dX3_stand_110 : decode cX3_stand 110 = .ok (.ireturn, 1) := by decide +kernel
theorem dX3_stand_111 : decode cX3_stand 111 = .ok (.iload_n 1, 1) := by decide +kernel
theorem dX3_stand_112 : decode cX3_stand 112 = .ok (.iload_n 3, 1) := by decide +kernel
theorem dX3_stand_113 : decode cX3_stand 113 = .ok (.if_icmp .eq 7, 3) := by decide +kernel
theorem dX3_stand_116 : decode cX3_stand 116 = .ok (.iconst 1, 1) := by decide +kernel
theorem dX3_stand_117 : decode cX3_stand 117 = .ok (.goto 4, 3) := by decide +kernel
theorem dX3_stand_120 : decode cX3_stand 120 = .ok (.iconst 0, 1) := by decide +kernel
theorem dX3_stand_121 : decode cX3_stand 121 = .ok (.ireturn, 1) := by decide +kernel
theorem dX3_entryStands_0 : decode cX3_entryStands 0 = .ok (.iload_n 2, 1) := by decide +kernel
theorem dX3_entryStands_1 : decode cX3_entryStands 1 = .ok (.ifCond .ne 21, 3) := by decide +kernel
theorem dX3_entryStands_4 : decode cX3_entryStands 4 = .ok (.aload_n 0, 1) := by decide +kernel
theorem dX3_entryStands_5 : decode cX3_entryStands 5 = .ok (.getfield 7, 3) := by decide +kernel
theorem dX3_entryStands_8 : decode cX3_entryStands 8 = .ok (.iload_n 1, 1) := by decide +kernel
theorem dX3_entryStands_9 : decode cX3_entryStands 9 = .ok (.iaload, 1) := by decide +kernel
theorem dX3_entryStands_10 : decode cX3_entryStands 10 = .ok (.iconst 1, 1) := by decide +kernel
theorem dX3_entryStands_11 : decode cX3_entryStands 11 = .ok (.if_icmp .ne 7, 3) := by decide +kernel
theorem dX3_entryStands_14 : decode cX3_entryStands 14 = .ok (.iconst 1, 1) := by decide +kernel
theorem dX3_entryStands_15 : decode cX3_entryStands 15 = .ok (.goto 13, 3) := by decide +kernel
theorem dX3_entryStands_18 : decode cX3_entryStands 18 = .ok (.iconst 0, 1) := by decide +kernel
theorem dX3_entryStands_19 : decode cX3_entryStands 19 = .ok (.goto 9, 3) := by decide +kernel
theorem dX3_entryStands_22 : decode cX3_entryStands 22 = .ok (.aload_n 0, 1) := by decide +kernel
theorem dX3_entryStands_23 : decode cX3_entryStands 23 = .ok (.getfield 23, 3) := by decide +kernel
theorem dX3_entryStands_26 : decode cX3_entryStands 26 = .ok (.iload_n 1, 1) := by decide +kernel
theorem dX3_entryStands_27 : decode cX3_entryStands 27 = .ok (.baload, 1) := by decide +kernel
theorem dX3_entryStands_28 : decode cX3_entryStands 28 = .ok (.istore 5, 2) := by decide +kernel
theorem dX3_entryStands_30 : decode cX3_entryStands 30 = .ok (.iload 5, 2) := by decide +kernel
theorem dX3_entryStands_32 : decode cX3_entryStands 32 = .ok (.iload_n 2, 1) := by decide +kernel
theorem dX3_entryStands_33 : decode cX3_entryStands 33 = .ok (.ifCond .ne 12, 3) := by decide +kernel
theorem dX3_entryStands_36 : decode cX3_entryStands 36 = .ok (.aload_n 0, 1) := by decide +kernel
theorem dX3_entryStands_37 : decode cX3_entryStands 37 = .ok (.getfield 13, 3) := by decide +kernel
theorem dX3_entryStands_40 : decode cX3_entryStands 40 = .ok (.iload_n 1, 1) := by decide +kernel
theorem dX3_entryStands_41 : decode cX3_entryStands 41 = .ok (.iaload, 1) := by decide +kernel
theorem dX3_entryStands_42 : decode cX3_entryStands 42 = .ok (.goto 9, 3) := by decide +kernel
theorem dX3_entryStands_45 : decode cX3_entryStands 45 = .ok (.aload_n 0, 1) := by decide +kernel
theorem dX3_entryStands_46 : decode cX3_entryStands 46 = .ok (.getfield 20, 3) := by decide +kernel
theorem dX3_entryStands_49 : decode cX3_entryStands 49 = .ok (.iload_n 1, 1) := by decide +kernel
theorem dX3_entryStands_50 : decode cX3_entryStands 50 = .ok (.iaload, 1) := by decide +kernel
theorem dX3_entryStands_51 : decode cX3_entryStands 51 = .ok (.iload 4, 2) := by decide +kernel
theorem dX3_entryStands_53 : decode cX3_entryStands 53 = .ok (.ldc 124, 2) := by decide +kernel
theorem dX3_entryStands_55 : decode cX3_entryStands 55 = .ok (.if_icmp .eq 7, 3) := by decide +kernel
theorem dX3_entryStands_58 : decode cX3_entryStands 58 = .ok (.iconst 1, 1) := by decide +kernel
theorem dX3_entryStands_59 : decode cX3_entryStands 59 = .ok (.goto 4, 3) := by decide +kernel
theorem dX3_entryStands_62 : decode cX3_entryStands 62 = .ok (.iconst 0, 1) := by decide +kernel
theorem dX3_entryStands_63 : decode cX3_entryStands 63 = .ok (.iload 4, 2) := by decide +kernel
theorem dX3_entryStands_65 : decode cX3_entryStands 65 = .ok (.iload_n 3, 1) := by decide +kernel
theorem dX3_entryStands_66 : decode cX3_entryStands 66 = .ok (.invokestatic 125, 3) := by decide +kernel
theorem dX3_entryStands_69 : decode cX3_entryStands 69 = .ok (.ireturn, 1) := by decide +kernel
theorem dX3_isAsked_0 : decode cX3_isAsked 0 = .ok (.aload_n 0, 1) := by decide +kernel
theorem dX3_isAsked_1 : decode cX3_isAsked 1 = .ok (.iload_n 1, 1) := by decide +kernel
theorem dX3_isAsked_2 : decode cX3_isAsked 2 = .ok (.iconst 0, 1) := by decide +kernel
theorem dX3_isAsked_3 : decode cX3_isAsked 3 = .ok (.iconst 1, 1) := by decide +kernel
theorem dX3_isAsked_4 : decode cX3_isAsked 4 = .ok (.invokestatic 48, 3) := by decide +kernel
theorem dX3_isAsked_7 : decode cX3_isAsked 7 = .ok (.ifCond .eq 16, 3) := by decide +kernel
theorem dX3_isAsked_10 : decode cX3_isAsked 10 = .ok (.iload_n 2, 1) := by decide +kernel
theorem dX3_isAsked_11 : decode cX3_isAsked 11 = .ok (.iconst 0, 1) := by decide +kernel
theorem dX3_isAsked_12 : decode cX3_isAsked 12 = .ok (.iconst 5, 1) := by decide +kernel
theorem dX3_isAsked_13 : decode cX3_isAsked 13 = .ok (.invokestatic 48, 3) := by decide +kernel
theorem dX3_isAsked_16 : decode cX3_isAsked 16 = .ok (.ifCond .eq 7, 3) := by decide +kernel
theorem dX3_isAsked_19 : decode cX3_isAsked 19 = .ok (.iconst 0, 1) := by decide +kernel
theorem dX3_isAsked_20 : decode cX3_isAsked 20 = .ok (.goto 4, 3) := by decide +kernel
theorem dX3_isAsked_23 : decode cX3_isAsked 23 = .ok (.iconst 1, 1) := by decide +kernel
theorem dX3_isAsked_24 : decode cX3_isAsked 24 = .ok (.putfield 56, 3) := by decide +kernel
theorem dX3_isAsked_27 : decode cX3_isAsked 27 = .ok (.aload_n 0, 1) := by decide +kernel
theorem dX3_isAsked_28 : decode cX3_isAsked 28 = .ok (.getfield 56, 3) := by decide +kernel
theorem dX3_isAsked_31 : decode cX3_isAsked 31 = .ok (.ifCond .ne 7, 3) := by decide +kernel
theorem dX3_isAsked_34 : decode cX3_isAsked 34 = .ok (.iconst 1, 1) := by decide +kernel
theorem dX3_isAsked_35 : decode cX3_isAsked 35 = .ok (.goto 4, 3) := by decide +kernel
theorem dX3_isAsked_38 : decode cX3_isAsked 38 = .ok (.iconst 0, 1) := by decide +kernel
theorem dX3_isAsked_39 : decode cX3_isAsked 39 = .ok (.ireturn, 1) := by decide +kernel
theorem dX3_count_0 : decode cX3_count 0 = .ok (.iconst 0, 1) := by decide +kernel
theorem dX3_count_1 : decode cX3_count 1 = .ok (.istore 4, 2) := by decide +kernel
theorem dX3_count_3 : decode cX3_count 3 = .ok (.aload_n 0, 1) := by decide +kernel
theorem dX3_count_4 : decode cX3_count 4 = .ok (.iload_n 1, 1) := by decide +kernel
theorem dX3_count_5 : decode cX3_count 5 = .ok (.iload_n 2, 1) := by decide +kernel
theorem dX3_count_6 : decode cX3_count 6 = .ok (.invokevirtual 129, 3) := by decide +kernel
theorem dX3_count_9 : decode cX3_count 9 = .ok (.ifCond .eq 52, 3) := by decide +kernel
theorem dX3_count_12 : decode cX3_count 12 = .ok (.iconst 0, 1) := by decide +kernel
theorem dX3_count_13 : decode cX3_count 13 = .ok (.istore 5, 2) := by decide +kernel
theorem dX3_count_15 : decode cX3_count 15 = .ok (.iload 5, 2) := by decide +kernel
theorem dX3_count_17 : decode cX3_count 17 = .ok (.bipush 84, 2) := by decide +kernel
theorem dX3_count_19 : decode cX3_count 19 = .ok (.if_icmp .ge 42, 3) := by decide +kernel
theorem dX3_count_22 : decode cX3_count 22 = .ok (.aload_n 0, 1) := by decide +kernel
theorem dX3_count_23 : decode cX3_count 23 = .ok (.getfield 7, 3) := by decide +kernel
theorem dX3_count_26 : decode cX3_count 26 = .ok (.iload 5, 2) := by decide +kernel
theorem dX3_count_28 : decode cX3_count 28 = .ok (.iaload, 1) := by decide +kernel
theorem dX3_count_29 : decode cX3_count 29 = .ok (.ifCond .eq 22, 3) := by decide +kernel
theorem dX3_count_32 : decode cX3_count 32 = .ok (.aload_n 0, 1) := by decide +kernel
theorem dX3_count_33 : decode cX3_count 33 = .ok (.iload 5, 2) := by decide +kernel
theorem dX3_count_35 : decode cX3_count 35 = .ok (.iload_n 1, 1) := by decide +kernel
theorem dX3_count_36 : decode cX3_count 36 = .ok (.iload_n 2, 1) := by decide +kernel
theorem dX3_count_37 : decode cX3_count 37 = .ok (.iload_n 3, 1) := by decide +kernel
theorem dX3_count_38 : decode cX3_count 38 = .ok (.invokevirtual 132, 3) := by decide +kernel
theorem dX3_count_41 : decode cX3_count 41 = .ok (.ifCond .eq 10, 3) := by decide +kernel
theorem dX3_count_44 : decode cX3_count 44 = .ok (.iload 4, 2) := by decide +kernel
theorem dX3_count_46 : decode cX3_count 46 = .ok (.iconst 1, 1) := by decide +kernel
theorem dX3_count_47 : decode cX3_count 47 = .ok (.iadd, 1) := by decide +kernel
theorem dX3_count_48 : decode cX3_count 48 = .ok (.goto 5, 3) := by decide +kernel
theorem dX3_count_51 : decode cX3_count 51 = .ok (.iload 4, 2) := by decide +kernel
theorem dX3_count_53 : decode cX3_count 53 = .ok (.istore 4, 2) := by decide +kernel
theorem dX3_count_55 : decode cX3_count 55 = .ok (.iinc 5 1, 3) := by decide +kernel
theorem dX3_count_58 : decode cX3_count 58 = .ok (.goto (-43), 3) := by decide +kernel
theorem dX3_count_61 : decode cX3_count 61 = .ok (.iload 4, 2) := by decide +kernel
theorem dX3_count_63 : decode cX3_count 63 = .ok (.ireturn, 1) := by decide +kernel
theorem dX3_first_0 : decode cX3_first 0 = .ok (.aload_n 0, 1) := by decide +kernel
theorem dX3_first_1 : decode cX3_first 1 = .ok (.iload_n 1, 1) := by decide +kernel
theorem dX3_first_2 : decode cX3_first 2 = .ok (.iload_n 2, 1) := by decide +kernel
theorem dX3_first_3 : decode cX3_first 3 = .ok (.invokevirtual 129, 3) := by decide +kernel
theorem dX3_first_6 : decode cX3_first 6 = .ok (.ifCond .ne 5, 3) := by decide +kernel
theorem dX3_first_9 : decode cX3_first 9 = .ok (.iconst 0, 1) := by decide +kernel
theorem dX3_first_10 : decode cX3_first 10 = .ok (.ireturn, 1) := by decide +kernel
theorem dX3_first_11 : decode cX3_first 11 = .ok (.iconst 0, 1) := by decide +kernel
theorem dX3_first_12 : decode cX3_first 12 = .ok (.istore 4, 2) := by decide +kernel
theorem dX3_first_14 : decode cX3_first 14 = .ok (.iload 4, 2) := by decide +kernel
theorem dX3_first_16 : decode cX3_first 16 = .ok (.aload_n 0, 1) := by decide +kernel
theorem dX3_first_17 : decode cX3_first 17 = .ok (.getfield 60, 3) := by decide +kernel
theorem dX3_first_20 : decode cX3_first 20 = .ok (.if_icmp .ge 45, 3) := by decide +kernel
theorem dX3_first_23 : decode cX3_first 23 = .ok (.aload_n 0, 1) := by decide +kernel
theorem dX3_first_24 : decode cX3_first 24 = .ok (.getfield 26, 3) := by decide +kernel
theorem dX3_first_27 : decode cX3_first 27 = .ok (.iload 4, 2) := by decide +kernel
theorem dX3_first_29 : decode cX3_first 29 = .ok (.iaload, 1) := by decide +kernel
theorem dX3_first_30 : decode cX3_first 30 = .ok (.ifCond .le 29, 3) := by decide +kernel
theorem dX3_first_33 : decode cX3_first 33 = .ok (.aload_n 0, 1) := by decide +kernel
theorem dX3_first_34 : decode cX3_first 34 = .ok (.bipush 7, 2) := by decide +kernel
theorem dX3_first_36 : decode cX3_first 36 = .ok (.iload 4, 2) := by decide +kernel
theorem dX3_first_38 : decode cX3_first 38 = .ok (.imul, 1) := by decide +kernel
theorem dX3_first_39 : decode cX3_first 39 = .ok (.aload_n 0, 1) := by decide +kernel
theorem dX3_first_40 : decode cX3_first 40 = .ok (.getfield 26, 3) := by decide +kernel
theorem dX3_first_43 : decode cX3_first 43 = .ok (.iload 4, 2) := by decide +kernel
theorem dX3_first_45 : decode cX3_first 45 = .ok (.iaload, 1) := by decide +kernel
theorem dX3_first_46 : decode cX3_first 46 = .ok (.iadd, 1) := by decide +kernel
theorem dX3_first_47 : decode cX3_first 47 = .ok (.iload_n 1, 1) := by decide +kernel
theorem dX3_first_48 : decode cX3_first 48 = .ok (.iload_n 2, 1) := by decide +kernel
theorem dX3_first_49 : decode cX3_first 49 = .ok (.iload_n 3, 1) := by decide +kernel
theorem dX3_first_50 : decode cX3_first 50 = .ok (.invokevirtual 132, 3) := by decide +kernel
theorem dX3_first_53 : decode cX3_first 53 = .ok (.ifCond .eq 6, 3) := by decide +kernel
theorem dX3_first_56 : decode cX3_first 56 = .ok (.iload 4, 2) := by decide +kernel
theorem dX3_first_58 : decode cX3_first 58 = .ok (.ireturn, 1) := by decide +kernel
theorem dX3_first_59 : decode cX3_first 59 = .ok (.iinc 4 1, 3) := by decide +kernel
theorem dX3_first_62 : decode cX3_first 62 = .ok (.goto (-48), 3) := by decide +kernel
theorem dX3_first_65 : decode cX3_first 65 = .ok (.ldc 124, 2) := by decide +kernel
theorem dX3_first_67 : decode cX3_first 67 = .ok (.ireturn, 1) := by decide +kernel
theorem dX3_has_0 : decode cX3_has 0 = .ok (.iload_n 1, 1) := by decide +kernel
theorem dX3_has_1 : decode cX3_has 1 = .ok (.ifCond .ne 23, 3) := by decide +kernel
theorem dX3_has_4 : decode cX3_has 4 = .ok (.aload_n 0, 1) := by decide +kernel
theorem dX3_has_5 : decode cX3_has 5 = .ok (.iload_n 2, 1) := by decide +kernel
theorem dX3_has_6 : decode cX3_has 6 = .ok (.aload_n 0, 1) := by decide +kernel
theorem dX3_has_7 : decode cX3_has 7 = .ok (.getfield 42, 3) := by decide +kernel
theorem dX3_has_10 : decode cX3_has 10 = .ok (.invokevirtual 69, 3) := by decide +kernel
theorem dX3_has_13 : decode cX3_has 13 = .ok (.ifCond .le 7, 3) := by decide +kernel
theorem dX3_has_16 : decode cX3_has 16 = .ok (.iconst 1, 1) := by decide +kernel
theorem dX3_has_17 : decode cX3_has 17 = .ok (.goto 40, 3) := by decide +kernel
theorem dX3_has_20 : decode cX3_has 20 = .ok (.iconst 0, 1) := by decide +kernel
theorem dX3_has_21 : decode cX3_has 21 = .ok (.goto 36, 3) := by decide +kernel
theorem dX3_has_24 : decode cX3_has 24 = .ok (.aload_n 0, 1) := by decide +kernel
theorem dX3_has_25 : decode cX3_has 25 = .ok (.getfield 26, 3) := by decide +kernel
theorem dX3_has_28 : decode cX3_has 28 = .ok (.iload_n 2, 1) := by decide +kernel
theorem dX3_has_29 : decode cX3_has 29 = .ok (.iaload, 1) := by decide +kernel
theorem dX3_has_30 : decode cX3_has 30 = .ok (.ifCond .le 26, 3) := by decide +kernel
theorem dX3_has_33 : decode cX3_has 33 = .ok (.aload_n 0, 1) := by decide +kernel
theorem dX3_has_34 : decode cX3_has 34 = .ok (.getfield 23, 3) := by decide +kernel
theorem dX3_has_37 : decode cX3_has 37 = .ok (.bipush 7, 2) := by decide +kernel
theorem dX3_has_39 : decode cX3_has 39 = .ok (.iload_n 2, 1) := by decide +kernel
theorem dX3_has_40 : decode cX3_has 40 = .ok (.imul, 1) := by decide +kernel
theorem dX3_has_41 : decode cX3_has 41 = .ok (.aload_n 0, 1) := by decide +kernel
theorem dX3_has_42 : decode cX3_has 42 = .ok (.getfield 26, 3) := by decide +kernel
theorem dX3_has_45 : decode cX3_has 45 = .ok (.iload_n 2, 1) := by decide +kernel
theorem dX3_has_46 : decode cX3_has 46 = .ok (.iaload, 1) := by decide +kernel
theorem dX3_has_47 : decode cX3_has 47 = .ok (.iadd, 1) := by decide +kernel
theorem dX3_has_48 : decode cX3_has 48 = .ok (.baload, 1) := by decide +kernel
theorem dX3_has_49 : decode cX3_has 49 = .ok (.ifCond .eq 7, 3) := by decide +kernel
theorem dX3_has_52 : decode cX3_has 52 = .ok (.iconst 1, 1) := by decide +kernel
theorem dX3_has_53 : decode cX3_has 53 = .ok (.goto 4, 3) := by decide +kernel
theorem dX3_has_56 : decode cX3_has 56 = .ok (.iconst 0, 1) := by decide +kernel
theorem dX3_has_57 : decode cX3_has 57 = .ok (.ireturn, 1) := by decide +kernel
theorem dX3_told_0 : decode cX3_told 0 = .ok (.aload_n 0, 1) := by decide +kernel
theorem dX3_told_1 : decode cX3_told 1 = .ok (.iload_n 2, 1) := by decide +kernel
theorem dX3_told_2 : decode cX3_told 2 = .ok (.aload_n 0, 1) := by decide +kernel
theorem dX3_told_3 : decode cX3_told 3 = .ok (.getfield 42, 3) := by decide +kernel
theorem dX3_told_6 : decode cX3_told 6 = .ok (.invokevirtual 69, 3) := by decide +kernel
theorem dX3_told_9 : decode cX3_told 9 = .ok (.istore_n 3, 1) := by decide +kernel
theorem dX3_told_10 : decode cX3_told 10 = .ok (.iload_n 1, 1) := by decide +kernel
theorem dX3_told_11 : decode cX3_told 11 = .ok (.ifCond .ne 20, 3) := by decide +kernel
theorem dX3_told_14 : decode cX3_told 14 = .ok (.iload_n 3, 1) := by decide +kernel
theorem dX3_told_15 : decode cX3_told 15 = .ok (.ifCond .le 12, 3) := by decide +kernel
theorem dX3_told_18 : decode cX3_told 18 = .ok (.aload_n 0, 1) := by decide +kernel
theorem dX3_told_19 : decode cX3_told 19 = .ok (.getfield 42, 3) := by decide +kernel
theorem dX3_told_22 : decode cX3_told 22 = .ok (.iconst 0, 1) := by decide +kernel
theorem dX3_told_23 : decode cX3_told 23 = .ok (.iaload, 1) := by decide +kernel
theorem dX3_told_24 : decode cX3_told 24 = .ok (.goto 23, 3) := by decide +kernel
theorem dX3_told_27 : decode cX3_told 27 = .ok (.iconst 0, 1) := by decide +kernel
theorem dX3_told_28 : decode cX3_told 28 = .ok (.goto 19, 3) := by decide +kernel
theorem dX3_told_31 : decode cX3_told 31 = .ok (.aload_n 0, 1) := by decide +kernel
theorem dX3_told_32 : decode cX3_told 32 = .ok (.getfield 20, 3) := by decide +kernel
theorem dX3_told_35 : decode cX3_told 35 = .ok (.bipush 7, 2) := by decide +kernel
theorem dX3_told_37 : decode cX3_told 37 = .ok (.iload_n 2, 1) := by decide +kernel
theorem dX3_told_38 : decode cX3_told 38 = .ok (.imul, 1) := by decide +kernel
theorem dX3_told_39 : decode cX3_told 39 = .ok (.aload_n 0, 1) := by decide +kernel
theorem dX3_told_40 : decode cX3_told 40 = .ok (.getfield 26, 3) := by decide +kernel
theorem dX3_told_43 : decode cX3_told 43 = .ok (.iload_n 2, 1) := by decide +kernel
theorem dX3_told_44 : decode cX3_told 44 = .ok (.iaload, 1) := by decide +kernel
theorem dX3_told_45 : decode cX3_told 45 = .ok (.iadd, 1) := by decide +kernel
theorem dX3_told_46 : decode cX3_told 46 = .ok (.iaload, 1) := by decide +kernel
theorem dX3_told_47 : decode cX3_told 47 = .ok (.ireturn, 1) := by decide +kernel
theorem dX3_lamps_0 : decode cX3_lamps 0 = .ok (.iconst 0, 1) := by decide +kernel
theorem dX3_lamps_1 : decode cX3_lamps 1 = .ok (.istore 4, 2) := by decide +kernel
theorem dX3_lamps_3 : decode cX3_lamps 3 = .ok (.aload_n 0, 1) := by decide +kernel
theorem dX3_lamps_4 : decode cX3_lamps 4 = .ok (.iload_n 1, 1) := by decide +kernel
theorem dX3_lamps_5 : decode cX3_lamps 5 = .ok (.iload_n 2, 1) := by decide +kernel
theorem dX3_lamps_6 : decode cX3_lamps 6 = .ok (.invokevirtual 129, 3) := by decide +kernel
theorem dX3_lamps_9 : decode cX3_lamps 9 = .ok (.ifCond .eq 68, 3) := by decide +kernel
theorem dX3_lamps_12 : decode cX3_lamps 12 = .ok (.iconst 0, 1) := by decide +kernel
theorem dX3_lamps_13 : decode cX3_lamps 13 = .ok (.istore 5, 2) := by decide +kernel
theorem dX3_lamps_15 : decode cX3_lamps 15 = .ok (.iload 5, 2) := by decide +kernel
theorem dX3_lamps_17 : decode cX3_lamps 17 = .ok (.aload_n 0, 1) := by decide +kernel
theorem dX3_lamps_18 : decode cX3_lamps 18 = .ok (.getfield 60, 3) := by decide +kernel
theorem dX3_lamps_21 : decode cX3_lamps 21 = .ok (.if_icmp .ge 56, 3) := by decide +kernel
theorem dX3_lamps_24 : decode cX3_lamps 24 = .ok (.aload_n 0, 1) := by decide +kernel
theorem dX3_lamps_25 : decode cX3_lamps 25 = .ok (.iload_n 1, 1) := by decide +kernel
theorem dX3_lamps_26 : decode cX3_lamps 26 = .ok (.iload 5, 2) := by decide +kernel
theorem dX3_lamps_28 : decode cX3_lamps 28 = .ok (.invokevirtual 136, 3) := by decide +kernel
theorem dX3_lamps_31 : decode cX3_lamps 31 = .ok (.aload_n 0, 1) := by decide +kernel
theorem dX3_lamps_32 : decode cX3_lamps 32 = .ok (.iload_n 1, 1) := by decide +kernel
theorem dX3_lamps_33 : decode cX3_lamps 33 = .ok (.iload 5, 2) := by decide +kernel
theorem dX3_lamps_35 : decode cX3_lamps 35 = .ok (.invokevirtual 139, 3) := by decide +kernel
theorem dX3_lamps_38 : decode cX3_lamps 38 = .ok (.iload_n 3, 1) := by decide +kernel
theorem dX3_lamps_39 : decode cX3_lamps 39 = .ok (.ldc 124, 2) := by decide +kernel
theorem dX3_lamps_41 : decode cX3_lamps 41 = .ok (.if_icmp .eq 7, 3) := by decide +kernel
theorem dX3_lamps_44 : decode cX3_lamps 44 = .ok (.iconst 1, 1) := by decide +kernel
theorem dX3_lamps_45 : decode cX3_lamps 45 = .ok (.goto 4, 3) := by decide +kernel
theorem dX3_lamps_48 : decode cX3_lamps 48 = .ok (.iconst 0, 1) := by decide +kernel
theorem dX3_lamps_49 : decode cX3_lamps 49 = .ok (.iload_n 3, 1) := by decide +kernel
theorem dX3_lamps_50 : decode cX3_lamps 50 = .ok (.iload_n 2, 1) := by decide +kernel
theorem dX3_lamps_51 : decode cX3_lamps 51 = .ok (.invokestatic 125, 3) := by decide +kernel
theorem dX3_lamps_54 : decode cX3_lamps 54 = .ok (.ifCond .eq 13, 3) := by decide +kernel
theorem dX3_lamps_57 : decode cX3_lamps 57 = .ok (.iload 4, 2) := by decide +kernel
theorem dX3_lamps_59 : decode cX3_lamps 59 = .ok (.iconst 1, 1) := by decide +kernel
theorem dX3_lamps_60 : decode cX3_lamps 60 = .ok (.iload 5, 2) := by decide +kernel
theorem dX3_lamps_62 : decode cX3_lamps 62 = .ok (.ishl, 1) := by decide +kernel
theorem dX3_lamps_63 : decode cX3_lamps 63 = .ok (.ior, 1) := by decide +kernel
theorem dX3_lamps_64 : decode cX3_lamps 64 = .ok (.goto 5, 3) := by decide +kernel
theorem dX3_lamps_67 : decode cX3_lamps 67 = .ok (.iload 4, 2) := by decide +kernel
theorem dX3_lamps_69 : decode cX3_lamps 69 = .ok (.istore 4, 2) := by decide +kernel
theorem dX3_lamps_71 : decode cX3_lamps 71 = .ok (.iinc 5 1, 3) := by decide +kernel
theorem dX3_lamps_74 : decode cX3_lamps 74 = .ok (.goto (-59), 3) := by decide +kernel
theorem dX3_lamps_77 : decode cX3_lamps 77 = .ok (.iload 4, 2) := by decide +kernel
theorem dX3_lamps_79 : decode cX3_lamps 79 = .ok (.ireturn, 1) := by decide +kernel
theorem dX3_stands_0 : decode cX3_stands 0 = .ok (.aload_n 0, 1) := by decide +kernel
theorem dX3_stands_1 : decode cX3_stands 1 = .ok (.iload_n 1, 1) := by decide +kernel
theorem dX3_stands_2 : decode cX3_stands 2 = .ok (.iconst 0, 1) := by decide +kernel
theorem dX3_stands_3 : decode cX3_stands 3 = .ok (.iconst 1, 1) := by decide +kernel
theorem dX3_stands_4 : decode cX3_stands 4 = .ok (.invokestatic 48, 3) := by decide +kernel
theorem dX3_stands_7 : decode cX3_stands 7 = .ok (.ifCond .eq 35, 3) := by decide +kernel
theorem dX3_stands_10 : decode cX3_stands 10 = .ok (.iload_n 2, 1) := by decide +kernel
theorem dX3_stands_11 : decode cX3_stands 11 = .ok (.iconst 0, 1) := by decide +kernel
theorem dX3_stands_12 : decode cX3_stands 12 = .ok (.aload_n 0, 1) := by decide +kernel
theorem dX3_stands_13 : decode cX3_stands 13 = .ok (.getfield 60, 3) := by decide +kernel
theorem dX3_stands_16 : decode cX3_stands 16 = .ok (.iconst 1, 1) := by decide +kernel
theorem dX3_stands_17 : decode cX3_stands 17 = .ok (.isub, 1) := by decide +kernel
theorem dX3_stands_18 : decode cX3_stands 18 = .ok (.invokestatic 48, 3) := by decide +kernel
theorem dX3_stands_21 : decode cX3_stands 21 = .ok (.ifCond .eq 21, 3) := by decide +kernel
theorem dX3_stands_24 : decode cX3_stands 24 = .ok (.iload_n 3, 1) := by decide +kernel
theorem dX3_stands_25 : decode cX3_stands 25 = .ok (.iconst 0, 1) := by decide +kernel
theorem dX3_stands_26 : decode cX3_stands 26 = .ok (.aload_n 0, 1) := by decide +kernel
theorem dX3_stands_27 : decode cX3_stands 27 = .ok (.getfield 60, 3) := by decide +kernel
theorem dX3_stands_30 : decode cX3_stands 30 = .ok (.iconst 1, 1) := by decide +kernel
theorem dX3_stands_31 : decode cX3_stands 31 = .ok (.isub, 1) := by decide +kernel
theorem dX3_stands_32 : decode cX3_stands 32 = .ok (.invokestatic 48, 3) := by decide +kernel
theorem dX3_stands_35 : decode cX3_stands 35 = .ok (.ifCond .eq 7, 3) := by decide +kernel
theorem dX3_stands_38 : decode cX3_stands 38 = .ok (.iconst 0, 1) := by decide +kernel
theorem dX3_stands_39 : decode cX3_stands 39 = .ok (.goto 4, 3) := by decide +kernel
theorem dX3_stands_42 : decode cX3_stands 42 = .ok (.iconst 1, 1) := by decide +kernel
theorem dX3_stands_43 : decode cX3_stands 43 = .ok (.putfield 56, 3) := by decide +kernel
theorem dX3_stands_46 : decode cX3_stands 46 = .ok (.iconst 0, 1) := by decide +kernel
theorem dX3_stands_47 : decode cX3_stands 47 = .ok (.istore 4, 2) := by decide +kernel
theorem dX3_stands_49 : decode cX3_stands 49 = .ok (.iconst 0, 1) := by decide +kernel
theorem dX3_stands_50 : decode cX3_stands 50 = .ok (.istore 5, 2) := by decide +kernel
theorem dX3_stands_52 : decode cX3_stands 52 = .ok (.iload 5, 2) := by decide +kernel
theorem dX3_stands_54 : decode cX3_stands 54 = .ok (.bipush 6, 2) := by decide +kernel
theorem dX3_stands_56 : decode cX3_stands 56 = .ok (.if_icmp .ge 62, 3) := by decide +kernel
theorem dX3_stands_59 : decode cX3_stands 59 = .ok (.aload_n 0, 1) := by decide +kernel
theorem dX3_stands_60 : decode cX3_stands 60 = .ok (.getfield 56, 3) := by decide +kernel
theorem dX3_stands_63 : decode cX3_stands 63 = .ok (.ifCond .ne 55, 3) := by decide +kernel
theorem dX3_stands_66 : decode cX3_stands 66 = .ok (.aload_n 0, 1) := by decide +kernel
theorem dX3_stands_67 : decode cX3_stands 67 = .ok (.iload_n 1, 1) := by decide +kernel
theorem dX3_stands_68 : decode cX3_stands 68 = .ok (.iload_n 2, 1) := by decide +kernel
theorem dX3_stands_69 : decode cX3_stands 69 = .ok (.invokevirtual 136, 3) := by decide +kernel
theorem dX3_stands_72 : decode cX3_stands 72 = .ok (.aload_n 0, 1) := by decide +kernel
theorem dX3_stands_73 : decode cX3_stands 73 = .ok (.iload_n 1, 1) := by decide +kernel
theorem dX3_stands_74 : decode cX3_stands 74 = .ok (.iload_n 2, 1) := by decide +kernel
theorem dX3_stands_75 : decode cX3_stands 75 = .ok (.invokevirtual 139, 3) := by decide +kernel
theorem dX3_stands_78 : decode cX3_stands 78 = .ok (.aload_n 0, 1) := by decide +kernel
theorem dX3_stands_79 : decode cX3_stands 79 = .ok (.iload_n 1, 1) := by decide +kernel
theorem dX3_stands_80 : decode cX3_stands 80 = .ok (.iload_n 3, 1) := by decide +kernel
theorem dX3_stands_81 : decode cX3_stands 81 = .ok (.invokevirtual 136, 3) := by decide +kernel
theorem dX3_stands_84 : decode cX3_stands 84 = .ok (.aload_n 0, 1) := by decide +kernel
theorem dX3_stands_85 : decode cX3_stands 85 = .ok (.iload_n 1, 1) := by decide +kernel
theorem dX3_stands_86 : decode cX3_stands 86 = .ok (.iload_n 3, 1) := by decide +kernel
theorem dX3_stands_87 : decode cX3_stands 87 = .ok (.invokevirtual 139, 3) := by decide +kernel
theorem dX3_stands_90 : decode cX3_stands 90 = .ok (.iload 5, 2) := by decide +kernel
theorem dX3_stands_92 : decode cX3_stands 92 = .ok (.invokestatic 125, 3) := by decide +kernel
theorem dX3_stands_95 : decode cX3_stands 95 = .ok (.ifCond .eq 13, 3) := by decide +kernel
theorem dX3_stands_98 : decode cX3_stands 98 = .ok (.iload 4, 2) := by decide +kernel
theorem dX3_stands_100 : decode cX3_stands 100 = .ok (.iconst 1, 1) := by decide +kernel
theorem dX3_stands_101 : decode cX3_stands 101 = .ok (.iload 5, 2) := by decide +kernel
theorem dX3_stands_103 : decode cX3_stands 103 = .ok (.ishl, 1) := by decide +kernel
theorem dX3_stands_104 : decode cX3_stands 104 = .ok (.ior, 1) := by decide +kernel
theorem dX3_stands_105 : decode cX3_stands 105 = .ok (.goto 5, 3) := by decide +kernel
theorem dX3_stands_108 : decode cX3_stands 108 = .ok (.iload 4, 2) := by decide +kernel
theorem dX3_stands_110 : decode cX3_stands 110 = .ok (.istore 4, 2) := by decide +kernel
theorem dX3_stands_112 : decode cX3_stands 112 = .ok (.iinc 5 1, 3) := by decide +kernel
theorem dX3_stands_115 : decode cX3_stands 115 = .ok (.goto (-63), 3) := by decide +kernel
theorem dX3_stands_118 : decode cX3_stands 118 = .ok (.iload 4, 2) := by decide +kernel
theorem dX3_stands_120 : decode cX3_stands 120 = .ok (.ireturn, 1) := by decide +kernel
theorem dX3_lean_0 : decode cX3_lean 0 = .ok (.aload_n 0, 1) := by decide +kernel
theorem dX3_lean_1 : decode cX3_lean 1 = .ok (.iload_n 1, 1) := by decide +kernel
theorem dX3_lean_2 : decode cX3_lean 2 = .ok (.iconst 1, 1) := by decide +kernel
theorem dX3_lean_3 : decode cX3_lean 3 = .ok (.bipush 6, 2) := by decide +kernel
theorem dX3_lean_5 : decode cX3_lean 5 = .ok (.invokestatic 48, 3) := by decide +kernel
theorem dX3_lean_8 : decode cX3_lean 8 = .ok (.ifCond .eq 7, 3) := by decide +kernel
theorem dX3_lean_11 : decode cX3_lean 11 = .ok (.iconst 0, 1) := by decide +kernel
theorem dX3_lean_12 : decode cX3_lean 12 = .ok (.goto 4, 3) := by decide +kernel
theorem dX3_lean_15 : decode cX3_lean 15 = .ok (.iconst 1, 1) := by decide +kernel
theorem dX3_lean_16 : decode cX3_lean 16 = .ok (.putfield 56, 3) := by decide +kernel
theorem dX3_lean_19 : decode cX3_lean 19 = .ok (.aload_n 0, 1) := by decide +kernel
theorem dX3_lean_20 : decode cX3_lean 20 = .ok (.getfield 56, 3) := by decide +kernel
theorem dX3_lean_23 : decode cX3_lean 23 = .ok (.ifCond .le 5, 3) := by decide +kernel
theorem dX3_lean_26 : decode cX3_lean 26 = .ok (.iconst 0, 1) := by decide +kernel
theorem dX3_lean_27 : decode cX3_lean 27 = .ok (.ireturn, 1) := by decide +kernel
theorem dX3_lean_28 : decode cX3_lean 28 = .ok (.ldc 124, 2) := by decide +kernel
theorem dX3_lean_30 : decode cX3_lean 30 = .ok (.istore_n 3, 1) := by decide +kernel
theorem dX3_lean_31 : decode cX3_lean 31 = .ok (.iconst 0, 1) := by decide +kernel
theorem dX3_lean_32 : decode cX3_lean 32 = .ok (.istore 4, 2) := by decide +kernel
theorem dX3_lean_34 : decode cX3_lean 34 = .ok (.iload 4, 2) := by decide +kernel
theorem dX3_lean_36 : decode cX3_lean 36 = .ok (.aload_n 0, 1) := by decide +kernel
theorem dX3_lean_37 : decode cX3_lean 37 = .ok (.getfield 60, 3) := by decide +kernel
theorem dX3_lean_40 : decode cX3_lean 40 = .ok (.if_icmp .ge 71, 3) := by decide +kernel
theorem dX3_lean_43 : decode cX3_lean 43 = .ok (.bipush 7, 2) := by decide +kernel
theorem dX3_lean_45 : decode cX3_lean 45 = .ok (.iload 4, 2) := by decide +kernel
theorem dX3_lean_47 : decode cX3_lean 47 = .ok (.imul, 1) := by decide +kernel
theorem dX3_lean_48 : decode cX3_lean 48 = .ok (.iload_n 1, 1) := by decide +kernel
theorem dX3_lean_49 : decode cX3_lean 49 = .ok (.iadd, 1) := by decide +kernel
theorem dX3_lean_50 : decode cX3_lean 50 = .ok (.istore 5, 2) := by decide +kernel
theorem dX3_lean_52 : decode cX3_lean 52 = .ok (.aload_n 0, 1) := by decide +kernel
theorem dX3_lean_53 : decode cX3_lean 53 = .ok (.getfield 23, 3) := by decide +kernel
theorem dX3_lean_56 : decode cX3_lean 56 = .ok (.iload 5, 2) := by decide +kernel
theorem dX3_lean_58 : decode cX3_lean 58 = .ok (.baload, 1) := by decide +kernel
theorem dX3_lean_59 : decode cX3_lean 59 = .ok (.ifCond .eq 46, 3) := by decide +kernel
theorem dX3_lean_62 : decode cX3_lean 62 = .ok (.iload_n 3, 1) := by decide +kernel
theorem dX3_lean_63 : decode cX3_lean 63 = .ok (.ldc 124, 2) := by decide +kernel
theorem dX3_lean_65 : decode cX3_lean 65 = .ok (.if_icmp .eq 32, 3) := by decide +kernel
theorem dX3_lean_68 : decode cX3_lean 68 = .ok (.iload_n 2, 1) := by decide +kernel
theorem dX3_lean_69 : decode cX3_lean 69 = .ok (.ifCond .eq 17, 3) := by decide +kernel
theorem dX3_lean_72 : decode cX3_lean 72 = .ok (.aload_n 0, 1) := by decide +kernel
theorem dX3_lean_73 : decode cX3_lean 73 = .ok (.getfield 20, 3) := by decide +kernel
theorem dX3_lean_76 : decode cX3_lean 76 = .ok (.iload 5, 2) := by decide +kernel
theorem dX3_lean_78 : decode cX3_lean 78 = .ok (.iaload, 1) := by decide +kernel
theorem dX3_lean_79 : decode cX3_lean 79 = .ok (.iload_n 3, 1) := by decide +kernel
theorem dX3_lean_80 : decode cX3_lean 80 = .ok (.if_icmp .ge 25, 3) := by decide +kernel
theorem dX3_lean_83 : decode cX3_lean 83 = .ok (.goto 14, 3) := by decide +kernel
theorem dX3_lean_86 : decode cX3_lean 86 = .ok (.aload_n 0, 1) := by decide +kernel
theorem dX3_lean_87 : decode cX3_lean 87 = .ok (.getfield 20, 3) := by decide +kernel
theorem dX3_lean_90 : decode cX3_lean 90 = .ok (.iload 5, 2) := by decide +kernel
theorem dX3_lean_92 : decode cX3_lean 92 = .ok (.iaload, 1) := by decide +kernel
theorem dX3_lean_93 : decode cX3_lean 93 = .ok (.iload_n 3, 1) := by decide +kernel
theorem dX3_lean_94 : decode cX3_lean 94 = .ok (.if_icmp .le 11, 3) := by decide +kernel
theorem dX3_lean_97 : decode cX3_lean 97 = .ok (.aload_n 0, 1) := by decide +kernel
theorem dX3_lean_98 : decode cX3_lean 98 = .ok (.getfield 20, 3) := by decide +kernel
theorem dX3_lean_101 : decode cX3_lean 101 = .ok (.iload 5, 2) := by decide +kernel
theorem dX3_lean_103 : decode cX3_lean 103 = .ok (.iaload, 1) := by decide +kernel
theorem dX3_lean_104 : decode cX3_lean 104 = .ok (.istore_n 3, 1) := by decide +kernel
theorem dX3_lean_105 : decode cX3_lean 105 = .ok (.iinc 4 1, 3) := by decide +kernel
theorem dX3_lean_108 : decode cX3_lean 108 = .ok (.goto (-74), 3) := by decide +kernel
theorem dX3_lean_111 : decode cX3_lean 111 = .ok (.iload_n 3, 1) := by decide +kernel
theorem dX3_lean_112 : decode cX3_lean 112 = .ok (.ireturn, 1) := by decide +kernel
theorem dX3_look_0 : decode cX3_look 0 = .ok (.aload_n 0, 1) := by decide +kernel
theorem dX3_look_1 : decode cX3_look 1 = .ok (.iload_n 1, 1) := by decide +kernel
theorem dX3_look_2 : decode cX3_look 2 = .ok (.iconst 0, 1) := by decide +kernel
theorem dX3_look_3 : decode cX3_look 3 = .ok (.iconst 5, 1) := by decide +kernel
theorem dX3_look_4 : decode cX3_look 4 = .ok (.invokestatic 48, 3) := by decide +kernel
theorem dX3_look_7 : decode cX3_look 7 = .ok (.ifCond .eq 7, 3) := by decide +kernel
theorem dX3_look_10 : decode cX3_look 10 = .ok (.iconst 0, 1) := by decide +kernel
theorem dX3_look_11 : decode cX3_look 11 = .ok (.goto 4, 3) := by decide +kernel
theorem dX3_look_14 : decode cX3_look 14 = .ok (.iconst 1, 1) := by decide +kernel
theorem dX3_look_15 : decode cX3_look 15 = .ok (.putfield 56, 3) := by decide +kernel
theorem dX3_look_18 : decode cX3_look 18 = .ok (.iconst 0, 1) := by decide +kernel
theorem dX3_look_19 : decode cX3_look 19 = .ok (.istore_n 2, 1) := by decide +kernel
theorem dX3_look_20 : decode cX3_look 20 = .ok (.iload_n 1, 1) := by decide +kernel
theorem dX3_look_21 : decode cX3_look 21 = .ok (.tableswitch 151 0 5 #[39, 56, 73, 78, 111, 116], 39) := by decide +kernel
theorem dX3_look_60 : decode cX3_look 60 = .ok (.aload_n 0, 1) := by decide +kernel
theorem dX3_look_61 : decode cX3_look 61 = .ok (.getfield 102, 3) := by decide +kernel
theorem dX3_look_64 : decode cX3_look 64 = .ok (.ifCond .eq 10, 3) := by decide +kernel
theorem dX3_look_67 : decode cX3_look 67 = .ok (.aload_n 0, 1) := by decide +kernel
theorem dX3_look_68 : decode cX3_look 68 = .ok (.getfield 105, 3) := by decide +kernel
theorem dX3_look_71 : decode cX3_look 71 = .ok (.goto 5, 3) := by decide +kernel
theorem dX3_look_74 : decode cX3_look 74 = .ok (.ldc 124, 2) := by decide +kernel
theorem dX3_look_76 : decode cX3_look 76 = .ok (.ireturn, 1) := by decide +kernel
theorem dX3_look_77 : decode cX3_look 77 = .ok (.aload_n 0, 1) := by decide +kernel
theorem dX3_look_78 : decode cX3_look 78 = .ok (.getfield 115, 3) := by decide +kernel
theorem dX3_look_81 : decode cX3_look 81 = .ok (.ifCond .eq 10, 3) := by decide +kernel
theorem dX3_look_84 : decode cX3_look 84 = .ok (.aload_n 0, 1) := by decide +kernel
theorem dX3_look_85 : decode cX3_look 85 = .ok (.getfield 118, 3) := by decide +kernel
theorem dX3_look_88 : decode cX3_look 88 = .ok (.goto 5, 3) := by decide +kernel
theorem dX3_look_91 : decode cX3_look 91 = .ok (.ldc 124, 2) := by decide +kernel
theorem dX3_look_93 : decode cX3_look 93 = .ok (.ireturn, 1) := by decide +kernel
theorem dX3_look_94 : decode cX3_look 94 = .ok (.aload_n 0, 1) := by decide +kernel
theorem dX3_look_95 : decode cX3_look 95 = .ok (.getfield 108, 3) := by decide +kernel
theorem dX3_look_98 : decode cX3_look 98 = .ok (.ireturn, 1) := by decide +kernel
theorem dX3_look_99 : decode cX3_look 99 = .ok (.iconst 0, 1) := by decide +kernel
theorem dX3_look_100 : decode cX3_look 100 = .ok (.istore_n 3, 1) := by decide +kernel
theorem dX3_look_101 : decode cX3_look 101 = .ok (.iload_n 3, 1) := by decide +kernel
theorem dX3_look_102 : decode cX3_look 102 = .ok (.bipush 84, 2) := by decide +kernel
theorem dX3_look_104 : decode cX3_look 104 = .ok (.if_icmp .ge 26, 3) := by decide +kernel
theorem dX3_look_107 : decode cX3_look 107 = .ok (.aload_n 0, 1) := by decide +kernel
theorem dX3_look_108 : decode cX3_look 108 = .ok (.getfield 7, 3) := by decide +kernel
theorem dX3_look_111 : decode cX3_look 111 = .ok (.iload_n 3, 1) := by decide +kernel
theorem dX3_look_112 : decode cX3_look 112 = .ok (.iaload, 1) := by decide +kernel
theorem dX3_look_113 : decode cX3_look 113 = .ok (.ifCond .eq 9, 3) := by decide +kernel
theorem dX3_look_116 : decode cX3_look 116 = .ok (.iload_n 2, 1) := by decide +kernel
theorem dX3_look_117 : decode cX3_look 117 = .ok (.iconst 1, 1) := by decide +kernel
theorem dX3_look_118 : decode cX3_look 118 = .ok (.iadd, 1) := by decide +kernel
theorem dX3_look_119 : decode cX3_look 119 = .ok (.goto 4, 3) := by decide +kernel
theorem dX3_look_122 : decode cX3_look 122 = .ok (.iload_n 2, 1) := by decide +kernel
theorem dX3_look_123 : decode cX3_look 123 = .ok (.istore_n 2, 1) := by decide +kernel
theorem dX3_look_124 : decode cX3_look 124 = .ok (.iinc 3 1, 3) := by decide +kernel
theorem dX3_look_127 : decode cX3_look 127 = .ok (.goto (-26), 3) := by decide +kernel
theorem dX3_look_130 : decode cX3_look 130 = .ok (.iload_n 2, 1) := by decide +kernel
theorem dX3_look_131 : decode cX3_look 131 = .ok (.ireturn, 1) := by decide +kernel
theorem dX3_look_132 : decode cX3_look 132 = .ok (.aload_n 0, 1) := by decide +kernel
theorem dX3_look_133 : decode cX3_look 133 = .ok (.getfield 60, 3) := by decide +kernel
theorem dX3_look_136 : decode cX3_look 136 = .ok (.ireturn, 1) := by decide +kernel
theorem dX3_look_137 : decode cX3_look 137 = .ok (.iconst 0, 1) := by decide +kernel
theorem dX3_look_138 : decode cX3_look 138 = .ok (.istore_n 3, 1) := by decide +kernel
theorem dX3_look_139 : decode cX3_look 139 = .ok (.iload_n 3, 1) := by decide +kernel
theorem dX3_look_140 : decode cX3_look 140 = .ok (.aload_n 0, 1) := by decide +kernel
theorem dX3_look_141 : decode cX3_look 141 = .ok (.getfield 60, 3) := by decide +kernel
theorem dX3_look_144 : decode cX3_look 144 = .ok (.if_icmp .ge 26, 3) := by decide +kernel
theorem dX3_look_147 : decode cX3_look 147 = .ok (.aload_n 0, 1) := by decide +kernel
theorem dX3_look_148 : decode cX3_look 148 = .ok (.getfield 29, 3) := by decide +kernel
theorem dX3_look_151 : decode cX3_look 151 = .ok (.iload_n 3, 1) := by decide +kernel
theorem dX3_look_152 : decode cX3_look 152 = .ok (.baload, 1) := by decide +kernel
theorem dX3_look_153 : decode cX3_look 153 = .ok (.ifCond .eq 9, 3) := by decide +kernel
theorem dX3_look_156 : decode cX3_look 156 = .ok (.iload_n 2, 1) := by decide +kernel
theorem dX3_look_157 : decode cX3_look 157 = .ok (.iconst 1, 1) := by decide +kernel
theorem dX3_look_158 : decode cX3_look 158 = .ok (.iadd, 1) := by decide +kernel
theorem dX3_look_159 : decode cX3_look 159 = .ok (.goto 4, 3) := by decide +kernel
theorem dX3_look_162 : decode cX3_look 162 = .ok (.iload_n 2, 1) := by decide +kernel
theorem dX3_look_163 : decode cX3_look 163 = .ok (.istore_n 2, 1) := by decide +kernel
theorem dX3_look_164 : decode cX3_look 164 = .ok (.iinc 3 1, 3) := by decide +kernel
theorem dX3_look_167 : decode cX3_look 167 = .ok (.goto (-28), 3) := by decide +kernel
theorem dX3_look_170 : decode cX3_look 170 = .ok (.iload_n 2, 1) := by decide +kernel
theorem dX3_look_171 : decode cX3_look 171 = .ok (.ireturn, 1) := by decide +kernel
theorem dX3_look_172 : decode cX3_look 172 = .ok (.iconst 0, 1) := by decide +kernel
theorem dX3_look_173 : decode cX3_look 173 = .ok (.ireturn, 1) := by decide +kernel
