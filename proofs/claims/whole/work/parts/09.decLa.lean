theorem dL_cell_0 : decode cL_cell 0 = .ok (.iload_n 1, 1) := by decide +kernel
theorem dL_cell_1 : decode cL_cell 1 = .ok (.aload_n 0, 1) := by decide +kernel
theorem dL_cell_2 : decode cL_cell 2 = .ok (.arraylength, 1) := by decide +kernel
theorem dL_cell_3 : decode cL_cell 3 = .ok (.if_icmp .ge 9, 3) := by decide +kernel
theorem dL_cell_6 : decode cL_cell 6 = .ok (.aload_n 0, 1) := by decide +kernel
theorem dL_cell_7 : decode cL_cell 7 = .ok (.iload_n 1, 1) := by decide +kernel
theorem dL_cell_8 : decode cL_cell 8 = .ok (.iaload, 1) := by decide +kernel
theorem dL_cell_9 : decode cL_cell 9 = .ok (.goto 4, 3) := by decide +kernel
theorem dL_cell_12 : decode cL_cell 12 = .ok (.iconst 0, 1) := by decide +kernel
theorem dL_cell_13 : decode cL_cell 13 = .ok (.ireturn, 1) := by decide +kernel
theorem dL_open_0 : decode cL_open 0 = .ok (.aload_n 0, 1) := by decide +kernel
theorem dL_open_1 : decode cL_open 1 = .ok (.iload_n 1, 1) := by decide +kernel
theorem dL_open_2 : decode cL_open 2 = .ok (.invokevirtual 7, 3) := by decide +kernel
theorem dL_open_5 : decode cL_open 5 = .ok (.goto 6, 3) := by decide +kernel
theorem dL_open_8 : decode cL_open 8 = .ok (.astore_n 2, 1) := by decide +kernel
theorem dL_open_9 : decode cL_open 9 = .ok (.iconst 1, 1) := by decide +kernel
theorem dL_open_10 : decode cL_open 10 = .ok (.ireturn, 1) := by decide +kernel
theorem dL_open_11 : decode cL_open 11 = .ok (.iconst 0, 1) := by decide +kernel
theorem dL_open_12 : decode cL_open 12 = .ok (.ireturn, 1) := by decide +kernel
theorem dL_weigh_0 : decode cL_weigh 0 = .ok (.aload_n 3, 1) := by decide +kernel
theorem dL_weigh_1 : decode cL_weigh 1 = .ok (.iconst 0, 1) := by decide +kernel
theorem dL_weigh_2 : decode cL_weigh 2 = .ok (.aload_n 0, 1) := by decide +kernel
theorem dL_weigh_3 : decode cL_weigh 3 = .ok (.iload_n 1, 1) := by decide +kernel
theorem dL_weigh_4 : decode cL_weigh 4 = .ok (.iload_n 2, 1) := by decide +kernel
theorem dL_weigh_5 : decode cL_weigh 5 = .ok (.invokevirtual 15, 3) := by decide +kernel
theorem dL_weigh_8 : decode cL_weigh 8 = .ok (.i2l, 1) := by decide +kernel
theorem dL_weigh_9 : decode cL_weigh 9 = .ok (.lastore, 1) := by decide +kernel
theorem dL_weigh_10 : decode cL_weigh 10 = .ok (.goto 11, 3) := by decide +kernel
theorem dL_weigh_13 : decode cL_weigh 13 = .ok (.astore 4, 2) := by decide +kernel
theorem dL_weigh_15 : decode cL_weigh 15 = .ok (.iconst 1, 1) := by decide +kernel
theorem dL_weigh_16 : decode cL_weigh 16 = .ok (.ireturn, 1) := by decide +kernel
theorem dL_weigh_17 : decode cL_weigh 17 = .ok (.astore 4, 2) := by decide +kernel
theorem dL_weigh_19 : decode cL_weigh 19 = .ok (.iconst 2, 1) := by decide +kernel
theorem dL_weigh_20 : decode cL_weigh 20 = .ok (.ireturn, 1) := by decide +kernel
theorem dL_weigh_21 : decode cL_weigh 21 = .ok (.iconst 0, 1) := by decide +kernel
theorem dL_weigh_22 : decode cL_weigh 22 = .ok (.ireturn, 1) := by decide +kernel
theorem dL_crack_0 : decode cL_crack 0 = .ok (.aload_n 0, 1) := by decide +kernel
theorem dL_crack_1 : decode cL_crack 1 = .ok (.iload_n 1, 1) := by decide +kernel
theorem dL_crack_2 : decode cL_crack 2 = .ok (.iload_n 2, 1) := by decide +kernel
theorem dL_crack_3 : decode cL_crack 3 = .ok (.invokevirtual 21, 3) := by decide +kernel
theorem dL_crack_6 : decode cL_crack 6 = .ok (.goto 9, 3) := by decide +kernel
theorem dL_crack_9 : decode cL_crack 9 = .ok (.astore_n 3, 1) := by decide +kernel
theorem dL_crack_10 : decode cL_crack 10 = .ok (.iconst 1, 1) := by decide +kernel
theorem dL_crack_11 : decode cL_crack 11 = .ok (.ireturn, 1) := by decide +kernel
theorem dL_crack_12 : decode cL_crack 12 = .ok (.astore_n 3, 1) := by decide +kernel
theorem dL_crack_13 : decode cL_crack 13 = .ok (.iconst 2, 1) := by decide +kernel
theorem dL_crack_14 : decode cL_crack 14 = .ok (.ireturn, 1) := by decide +kernel
theorem dL_crack_15 : decode cL_crack 15 = .ok (.iconst 0, 1) := by decide +kernel
theorem dL_crack_16 : decode cL_crack 16 = .ok (.ireturn, 1) := by decide +kernel
theorem dL_pass_0 : decode cL_pass 0 = .ok (.aload_n 0, 1) := by decide +kernel
theorem dL_pass_1 : decode cL_pass 1 = .ok (.invokevirtual 25, 3) := by decide +kernel
theorem dL_pass_4 : decode cL_pass 4 = .ok (.goto 6, 3) := by decide +kernel
theorem dL_pass_7 : decode cL_pass 7 = .ok (.astore_n 1, 1) := by decide +kernel
theorem dL_pass_8 : decode cL_pass 8 = .ok (.iconst 1, 1) := by decide +kernel
theorem dL_pass_9 : decode cL_pass 9 = .ok (.ireturn, 1) := by decide +kernel
theorem dL_pass_10 : decode cL_pass 10 = .ok (.iconst 0, 1) := by decide +kernel
theorem dL_pass_11 : decode cL_pass 11 = .ok (.ireturn, 1) := by decide +kernel
theorem dL_leave_0 : decode cL_leave 0 = .ok (.aload_n 0, 1) := by decide +kernel
theorem dL_leave_1 : decode cL_leave 1 = .ok (.iload_n 1, 1) := by decide +kernel
theorem dL_leave_2 : decode cL_leave 2 = .ok (.invokevirtual 28, 3) := by decide +kernel
theorem dL_leave_5 : decode cL_leave 5 = .ok (.goto 9, 3) := by decide +kernel
theorem dL_leave_8 : decode cL_leave 8 = .ok (.astore_n 2, 1) := by decide +kernel
theorem dL_leave_9 : decode cL_leave 9 = .ok (.iconst 1, 1) := by decide +kernel
theorem dL_leave_10 : decode cL_leave 10 = .ok (.ireturn, 1) := by decide +kernel
theorem dL_leave_11 : decode cL_leave 11 = .ok (.astore_n 2, 1) := by decide +kernel
theorem dL_leave_12 : decode cL_leave 12 = .ok (.iconst 2, 1) := by decide +kernel
theorem dL_leave_13 : decode cL_leave 13 = .ok (.ireturn, 1) := by decide +kernel
theorem dL_leave_14 : decode cL_leave 14 = .ok (.iconst 0, 1) := by decide +kernel
theorem dL_leave_15 : decode cL_leave 15 = .ok (.ireturn, 1) := by decide +kernel
theorem dL_appeal_0 : decode cL_appeal 0 = .ok (.aload_n 3, 1) := by decide +kernel
theorem dL_appeal_1 : decode cL_appeal 1 = .ok (.iconst 0, 1) := by decide +kernel
theorem dL_appeal_2 : decode cL_appeal 2 = .ok (.aload_n 0, 1) := by decide +kernel
theorem dL_appeal_3 : decode cL_appeal 3 = .ok (.iload_n 1, 1) := by decide +kernel
theorem dL_appeal_4 : decode cL_appeal 4 = .ok (.iload_n 2, 1) := by decide +kernel
theorem dL_appeal_5 : decode cL_appeal 5 = .ok (.invokevirtual 31, 3) := by decide +kernel
theorem dL_appeal_8 : decode cL_appeal 8 = .ok (.i2l, 1) := by decide +kernel
theorem dL_appeal_9 : decode cL_appeal 9 = .ok (.lastore, 1) := by decide +kernel
theorem dL_appeal_10 : decode cL_appeal 10 = .ok (.goto 11, 3) := by decide +kernel
theorem dL_appeal_13 : decode cL_appeal 13 = .ok (.astore 4, 2) := by decide +kernel
theorem dL_appeal_15 : decode cL_appeal 15 = .ok (.iconst 1, 1) := by decide +kernel
theorem dL_appeal_16 : decode cL_appeal 16 = .ok (.ireturn, 1) := by decide +kernel
theorem dL_appeal_17 : decode cL_appeal 17 = .ok (.astore 4, 2) := by decide +kernel
theorem dL_appeal_19 : decode cL_appeal 19 = .ok (.iconst 2, 1) := by decide +kernel
theorem dL_appeal_20 : decode cL_appeal 20 = .ok (.ireturn, 1) := by decide +kernel
theorem dL_appeal_21 : decode cL_appeal 21 = .ok (.iconst 0, 1) := by decide +kernel
theorem dL_appeal_22 : decode cL_appeal 22 = .ok (.ireturn, 1) := by decide +kernel
theorem dL_record_0 : decode cL_record 0 = .ok (.aload_n 0, 1) := by decide +kernel
theorem dL_record_1 : decode cL_record 1 = .ok (.iload_n 1, 1) := by decide +kernel
theorem dL_record_2 : decode cL_record 2 = .ok (.invokevirtual 34, 3) := by decide +kernel
theorem dL_record_5 : decode cL_record 5 = .ok (.goto 6, 3) := by decide +kernel
theorem dL_record_8 : decode cL_record 8 = .ok (.astore_n 2, 1) := by decide +kernel
theorem dL_record_9 : decode cL_record 9 = .ok (.iconst 1, 1) := by decide +kernel
theorem dL_record_10 : decode cL_record 10 = .ok (.ireturn, 1) := by decide +kernel
theorem dL_record_11 : decode cL_record 11 = .ok (.iconst 0, 1) := by decide +kernel
theorem dL_record_12 : decode cL_record 12 = .ok (.ireturn, 1) := by decide +kernel
theorem dL_prize_0 : decode cL_prize 0 = .ok (.aload_n 0, 1) := by decide +kernel
theorem dL_prize_1 : decode cL_prize 1 = .ok (.iload_n 1, 1) := by decide +kernel
theorem dL_prize_2 : decode cL_prize 2 = .ok (.invokevirtual 37, 3) := by decide +kernel
theorem dL_prize_5 : decode cL_prize 5 = .ok (.goto 6, 3) := by decide +kernel
theorem dL_prize_8 : decode cL_prize 8 = .ok (.astore_n 2, 1) := by decide +kernel
theorem dL_prize_9 : decode cL_prize 9 = .ok (.iconst 1, 1) := by decide +kernel
theorem dL_prize_10 : decode cL_prize 10 = .ok (.ireturn, 1) := by decide +kernel
theorem dL_prize_11 : decode cL_prize 11 = .ok (.iconst 0, 1) := by decide +kernel
theorem dL_prize_12 : decode cL_prize 12 = .ok (.ireturn, 1) := by decide +kernel
theorem dL_weight_0 : decode cL_weight 0 = .ok (.aload_n 3, 1) := by decide +kernel
theorem dL_weight_1 : decode cL_weight 1 = .ok (.iconst 0, 1) := by decide +kernel
theorem dL_weight_2 : decode cL_weight 2 = .ok (.aload_n 0, 1) := by decide +kernel
theorem dL_weight_3 : decode cL_weight 3 = .ok (.iload_n 1, 1) := by decide +kernel
theorem dL_weight_4 : decode cL_weight 4 = .ok (.iload_n 2, 1) := by decide +kernel
theorem dL_weight_5 : decode cL_weight 5 = .ok (.invokevirtual 40, 3) := by decide +kernel
theorem dL_weight_8 : decode cL_weight 8 = .ok (.i2l, 1) := by decide +kernel
theorem dL_weight_9 : decode cL_weight 9 = .ok (.lastore, 1) := by decide +kernel
theorem dL_weight_10 : decode cL_weight 10 = .ok (.goto 7, 3) := by decide +kernel
theorem dL_weight_13 : decode cL_weight 13 = .ok (.astore 4, 2) := by decide +kernel
theorem dL_weight_15 : decode cL_weight 15 = .ok (.iconst 1, 1) := by decide +kernel
theorem dL_weight_16 : decode cL_weight 16 = .ok (.ireturn, 1) := by decide +kernel
theorem dL_weight_17 : decode cL_weight 17 = .ok (.iconst 0, 1) := by decide +kernel
theorem dL_weight_18 : decode cL_weight 18 = .ok (.ireturn, 1) := by decide +kernel
theorem dL_tilt_0 : decode cL_tilt 0 = .ok (.aload_n 3, 1) := by decide +kernel
theorem dL_tilt_1 : decode cL_tilt 1 = .ok (.iconst 0, 1) := by decide +kernel
theorem dL_tilt_2 : decode cL_tilt 2 = .ok (.aload_n 0, 1) := by decide +kernel
theorem dL_tilt_3 : decode cL_tilt 3 = .ok (.iload_n 1, 1) := by decide +kernel
theorem dL_tilt_4 : decode cL_tilt 4 = .ok (.iload_n 2, 1) := by decide +kernel
theorem dL_tilt_5 : decode cL_tilt 5 = .ok (.invokevirtual 43, 3) := by decide +kernel
theorem dL_tilt_8 : decode cL_tilt 8 = .ok (.i2l, 1) := by decide +kernel
theorem dL_tilt_9 : decode cL_tilt 9 = .ok (.lastore, 1) := by decide +kernel
theorem dL_tilt_10 : decode cL_tilt 10 = .ok (.goto 7, 3) := by decide +kernel
theorem dL_tilt_13 : decode cL_tilt 13 = .ok (.astore 4, 2) := by decide +kernel
theorem dL_tilt_15 : decode cL_tilt 15 = .ok (.iconst 1, 1) := by decide +kernel
theorem dL_tilt_16 : decode cL_tilt 16 = .ok (.ireturn, 1) := by decide +kernel
theorem dL_tilt_17 : decode cL_tilt 17 = .ok (.iconst 0, 1) := by decide +kernel
theorem dL_tilt_18 : decode cL_tilt 18 = .ok (.ireturn, 1) := by decide +kernel
theorem dL_best_0 : decode cL_best 0 = .ok (.aload_n 2, 1) := by decide +kernel
theorem dL_best_1 : decode cL_best 1 = .ok (.iconst 0, 1) := by decide +kernel
theorem dL_best_2 : decode cL_best 2 = .ok (.aload_n 0, 1) := by decide +kernel
theorem dL_best_3 : decode cL_best 3 = .ok (.iload_n 1, 1) := by decide +kernel
theorem dL_best_4 : decode cL_best 4 = .ok (.invokevirtual 46, 3) := by decide +kernel
theorem dL_best_7 : decode cL_best 7 = .ok (.i2l, 1) := by decide +kernel
theorem dL_best_8 : decode cL_best 8 = .ok (.lastore, 1) := by decide +kernel
theorem dL_best_9 : decode cL_best 9 = .ok (.goto 6, 3) := by decide +kernel
theorem dL_best_12 : decode cL_best 12 = .ok (.astore_n 3, 1) := by decide +kernel
theorem dL_best_13 : decode cL_best 13 = .ok (.iconst 1, 1) := by decide +kernel
theorem dL_best_14 : decode cL_best 14 = .ok (.ireturn, 1) := by decide +kernel
theorem dL_best_15 : decode cL_best 15 = .ok (.iconst 0, 1) := by decide +kernel
theorem dL_best_16 : decode cL_best 16 = .ok (.ireturn, 1) := by decide +kernel
theorem dL_place_0 : decode cL_place 0 = .ok (.aload_n 2, 1) := by decide +kernel
theorem dL_place_1 : decode cL_place 1 = .ok (.iconst 0, 1) := by decide +kernel
theorem dL_place_2 : decode cL_place 2 = .ok (.aload_n 0, 1) := by decide +kernel
theorem dL_place_3 : decode cL_place 3 = .ok (.iload_n 1, 1) := by decide +kernel
theorem dL_place_4 : decode cL_place 4 = .ok (.invokevirtual 50, 3) := by decide +kernel
theorem dL_place_7 : decode cL_place 7 = .ok (.i2l, 1) := by decide +kernel
theorem dL_place_8 : decode cL_place 8 = .ok (.lastore, 1) := by decide +kernel
theorem dL_place_9 : decode cL_place 9 = .ok (.goto 6, 3) := by decide +kernel
theorem dL_place_12 : decode cL_place 12 = .ok (.astore_n 3, 1) := by decide +kernel
theorem dL_place_13 : decode cL_place 13 = .ok (.iconst 1, 1) := by decide +kernel
theorem dL_place_14 : decode cL_place 14 = .ok (.ireturn, 1) := by decide +kernel
theorem dL_place_15 : decode cL_place 15 = .ok (.iconst 0, 1) := by decide +kernel
theorem dL_place_16 : decode cL_place 16 = .ok (.ireturn, 1) := by decide +kernel
theorem dL_wins_0 : decode cL_wins 0 = .ok (.aload_n 2, 1) := by decide +kernel
theorem dL_wins_1 : decode cL_wins 1 = .ok (.iconst 0, 1) := by decide +kernel
theorem dL_wins_2 : decode cL_wins 2 = .ok (.aload_n 0, 1) := by decide +kernel
theorem dL_wins_3 : decode cL_wins 3 = .ok (.iload_n 1, 1) := by decide +kernel
theorem dL_wins_4 : decode cL_wins 4 = .ok (.invokevirtual 53, 3) := by decide +kernel
theorem dL_wins_7 : decode cL_wins 7 = .ok (.ifCond .eq 7, 3) := by decide +kernel
theorem dL_wins_10 : decode cL_wins 10 = .ok (.lconst 1, 1) := by decide +kernel
theorem dL_wins_11 : decode cL_wins 11 = .ok (.goto 4, 3) := by decide +kernel
theorem dL_wins_14 : decode cL_wins 14 = .ok (.lconst 0, 1) := by decide +kernel
theorem dL_wins_15 : decode cL_wins 15 = .ok (.lastore, 1) := by decide +kernel
theorem dL_wins_16 : decode cL_wins 16 = .ok (.goto 6, 3) := by decide +kernel
theorem dL_wins_19 : decode cL_wins 19 = .ok (.astore_n 3, 1) := by decide +kernel
theorem dL_wins_20 : decode cL_wins 20 = .ok (.iconst 1, 1) := by decide +kernel
theorem dL_wins_21 : decode cL_wins 21 = .ok (.ireturn, 1) := by decide +kernel
theorem dL_wins_22 : decode cL_wins 22 = .ok (.iconst 0, 1) := by decide +kernel
theorem dL_wins_23 : decode cL_wins 23 = .ok (.ireturn, 1) := by decide +kernel
theorem dL_count_0 : decode cL_count 0 = .ok (.aload 4, 2) := by decide +kernel
theorem dL_count_2 : decode cL_count 2 = .ok (.iconst 0, 1) := by decide +kernel
theorem dL_count_3 : decode cL_count 3 = .ok (.aload_n 0, 1) := by decide +kernel
theorem dL_count_4 : decode cL_count 4 = .ok (.iload_n 1, 1) := by decide +kernel
theorem dL_count_5 : decode cL_count 5 = .ok (.iload_n 2, 1) := by decide +kernel
theorem dL_count_6 : decode cL_count 6 = .ok (.iload_n 3, 1) := by decide +kernel
theorem dL_count_7 : decode cL_count 7 = .ok (.invokevirtual 57, 3) := by decide +kernel
theorem dL_count_10 : decode cL_count 10 = .ok (.i2l, 1) := by decide +kernel
theorem dL_count_11 : decode cL_count 11 = .ok (.lastore, 1) := by decide +kernel
theorem dL_count_12 : decode cL_count 12 = .ok (.goto 7, 3) := by decide +kernel
theorem dL_count_15 : decode cL_count 15 = .ok (.astore 5, 2) := by decide +kernel
theorem dL_count_17 : decode cL_count 17 = .ok (.iconst 1, 1) := by decide +kernel
theorem dL_count_18 : decode cL_count 18 = .ok (.ireturn, 1) := by decide +kernel
theorem dL_count_19 : decode cL_count 19 = .ok (.iconst 0, 1) := by decide +kernel
theorem dL_count_20 : decode cL_count 20 = .ok (.ireturn, 1) := by decide +kernel
theorem dL_first_0 : decode cL_first 0 = .ok (.aload 4, 2) := by decide +kernel
theorem dL_first_2 : decode cL_first 2 = .ok (.iconst 0, 1) := by decide +kernel
theorem dL_first_3 : decode cL_first 3 = .ok (.aload_n 0, 1) := by decide +kernel
theorem dL_first_4 : decode cL_first 4 = .ok (.iload_n 1, 1) := by decide +kernel
theorem dL_first_5 : decode cL_first 5 = .ok (.iload_n 2, 1) := by decide +kernel
theorem dL_first_6 : decode cL_first 6 = .ok (.iload_n 3, 1) := by decide +kernel
theorem dL_first_7 : decode cL_first 7 = .ok (.invokevirtual 61, 3) := by decide +kernel
theorem dL_first_10 : decode cL_first 10 = .ok (.i2l, 1) := by decide +kernel
theorem dL_first_11 : decode cL_first 11 = .ok (.lastore, 1) := by decide +kernel
theorem dL_first_12 : decode cL_first 12 = .ok (.goto 7, 3) := by decide +kernel
theorem dL_first_15 : decode cL_first 15 = .ok (.astore 5, 2) := by decide +kernel
theorem dL_first_17 : decode cL_first 17 = .ok (.iconst 1, 1) := by decide +kernel
theorem dL_first_18 : decode cL_first 18 = .ok (.ireturn, 1) := by decide +kernel
theorem dL_first_19 : decode cL_first 19 = .ok (.iconst 0, 1) := by decide +kernel
theorem dL_first_20 : decode cL_first 20 = .ok (.ireturn, 1) := by decide +kernel
theorem dL_lamps_0 : decode cL_lamps 0 = .ok (.aload 4, 2) := by decide +kernel
theorem dL_lamps_2 : decode cL_lamps 2 = .ok (.iconst 0, 1) := by decide +kernel
theorem dL_lamps_3 : decode cL_lamps 3 = .ok (.aload_n 0, 1) := by decide +kernel
theorem dL_lamps_4 : decode cL_lamps 4 = .ok (.iload_n 1, 1) := by decide +kernel
theorem dL_lamps_5 : decode cL_lamps 5 = .ok (.iload_n 2, 1) := by decide +kernel
theorem dL_lamps_6 : decode cL_lamps 6 = .ok (.iload_n 3, 1) := by decide +kernel
theorem dL_lamps_7 : decode cL_lamps 7 = .ok (.invokevirtual 64, 3) := by decide +kernel
theorem dL_lamps_10 : decode cL_lamps 10 = .ok (.i2l, 1) := by decide +kernel
theorem dL_lamps_11 : decode cL_lamps 11 = .ok (.lastore, 1) := by decide +kernel
theorem dL_lamps_12 : decode cL_lamps 12 = .ok (.goto 7, 3) := by decide +kernel
theorem dL_lamps_15 : decode cL_lamps 15 = .ok (.astore 5, 2) := by decide +kernel
theorem dL_lamps_17 : decode cL_lamps 17 = .ok (.iconst 1, 1) := by decide +kernel
theorem dL_lamps_18 : decode cL_lamps 18 = .ok (.ireturn, 1) := by decide +kernel
theorem dL_lamps_19 : decode cL_lamps 19 = .ok (.iconst 0, 1) := by decide +kernel
theorem dL_lamps_20 : decode cL_lamps 20 = .ok (.ireturn, 1) := by decide +kernel
theorem dL_stands_0 : decode cL_stands 0 = .ok (.aload 4, 2) := by decide +kernel
theorem dL_stands_2 : decode cL_stands 2 = .ok (.iconst 0, 1) := by decide +kernel
theorem dL_stands_3 : decode cL_stands 3 = .ok (.aload_n 0, 1) := by decide +kernel
theorem dL_stands_4 : decode cL_stands 4 = .ok (.iload_n 1, 1) := by decide +kernel
theorem dL_stands_5 : decode cL_stands 5 = .ok (.iload_n 2, 1) := by decide +kernel
theorem dL_stands_6 : decode cL_stands 6 = .ok (.iload_n 3, 1) := by decide +kernel
theorem dL_stands_7 : decode cL_stands 7 = .ok (.invokevirtual 67, 3) := by decide +kernel
theorem dL_stands_10 : decode cL_stands 10 = .ok (.i2l, 1) := by decide +kernel
theorem dL_stands_11 : decode cL_stands 11 = .ok (.lastore, 1) := by decide +kernel
theorem dL_stands_12 : decode cL_stands 12 = .ok (.goto 7, 3) := by decide +kernel
theorem dL_stands_15 : decode cL_stands 15 = .ok (.astore 5, 2) := by decide +kernel
theorem dL_stands_17 : decode cL_stands 17 = .ok (.iconst 1, 1) := by decide +kernel
theorem dL_stands_18 : decode cL_stands 18 = .ok (.ireturn, 1) := by decide +kernel
theorem dL_stands_19 : decode cL_stands 19 = .ok (.iconst 0, 1) := by decide +kernel
theorem dL_stands_20 : decode cL_stands 20 = .ok (.ireturn, 1) := by decide +kernel
theorem dL_lean_0 : decode cL_lean 0 = .ok (.aload_n 3, 1) := by decide +kernel
theorem dL_lean_1 : decode cL_lean 1 = .ok (.iconst 0, 1) := by decide +kernel
theorem dL_lean_2 : decode cL_lean 2 = .ok (.aload_n 0, 1) := by decide +kernel
theorem dL_lean_3 : decode cL_lean 3 = .ok (.iload_n 1, 1) := by decide +kernel
theorem dL_lean_4 : decode cL_lean 4 = .ok (.iload_n 2, 1) := by decide +kernel
theorem dL_lean_5 : decode cL_lean 5 = .ok (.invokevirtual 70, 3) := by decide +kernel
theorem dL_lean_8 : decode cL_lean 8 = .ok (.i2l, 1) := by decide +kernel
theorem dL_lean_9 : decode cL_lean 9 = .ok (.lastore, 1) := by decide +kernel
theorem dL_lean_10 : decode cL_lean 10 = .ok (.goto 7, 3) := by decide +kernel
theorem dL_lean_13 : decode cL_lean 13 = .ok (.astore 4, 2) := by decide +kernel
theorem dL_lean_15 : decode cL_lean 15 = .ok (.iconst 1, 1) := by decide +kernel
theorem dL_lean_16 : decode cL_lean 16 = .ok (.ireturn, 1) := by decide +kernel
theorem dL_lean_17 : decode cL_lean 17 = .ok (.iconst 0, 1) := by decide +kernel
theorem dL_lean_18 : decode cL_lean 18 = .ok (.ireturn, 1) := by decide +kernel
theorem dL_look_0 : decode cL_look 0 = .ok (.aload_n 2, 1) := by decide +kernel
theorem dL_look_1 : decode cL_look 1 = .ok (.iconst 0, 1) := by decide +kernel
theorem dL_look_2 : decode cL_look 2 = .ok (.aload_n 0, 1) := by decide +kernel
theorem dL_look_3 : decode cL_look 3 = .ok (.iload_n 1, 1) := by decide +kernel
theorem dL_look_4 : decode cL_look 4 = .ok (.invokevirtual 74, 3) := by decide +kernel
theorem dL_look_7 : decode cL_look 7 = .ok (.i2l, 1) := by decide +kernel
theorem dL_look_8 : decode cL_look 8 = .ok (.lastore, 1) := by decide +kernel
theorem dL_look_9 : decode cL_look 9 = .ok (.goto 6, 3) := by decide +kernel
theorem dL_look_12 : decode cL_look 12 = .ok (.astore_n 3, 1) := by decide +kernel
theorem dL_look_13 : decode cL_look 13 = .ok (.iconst 1, 1) := by decide +kernel
theorem dL_look_14 : decode cL_look 14 = .ok (.ireturn, 1) := by decide +kernel
theorem dL_look_15 : decode cL_look 15 = .ok (.iconst 0, 1) := by decide +kernel
theorem dL_look_16 : decode cL_look 16 = .ok (.ireturn, 1) := by decide +kernel
theorem dL_law_0 : decode cL_law 0 = .ok (.new 8, 3) := by decide +kernel
theorem dL_law_3 : decode cL_law 3 = .ok (.dup, 1) := by decide +kernel
theorem dL_law_4 : decode cL_law 4 = .ok (.aload_n 0, 1) := by decide +kernel
theorem dL_law_5 : decode cL_law 5 = .ok (.iconst 0, 1) := by decide +kernel
theorem dL_law_6 : decode cL_law 6 = .ok (.invokestatic 77, 3) := by decide +kernel
theorem dL_law_9 : decode cL_law 9 = .ok (.invokespecial 83, 3) := by decide +kernel
theorem dL_law_12 : decode cL_law 12 = .ok (.astore_n 1, 1) := by decide +kernel
theorem dL_law_13 : decode cL_law 13 = .ok (.new 85, 3) := by decide +kernel
theorem dL_law_16 : decode cL_law 16 = .ok (.dup, 1) := by decide +kernel
theorem dL_law_17 : decode cL_law 17 = .ok (.aload_n 0, 1) := by decide +kernel
theorem dL_law_18 : decode cL_law 18 = .ok (.iconst 0, 1) := by decide +kernel
theorem dL_law_19 : decode cL_law 19 = .ok (.invokestatic 77, 3) := by decide +kernel
theorem dL_law_22 : decode cL_law 22 = .ok (.invokespecial 87, 3) := by decide +kernel
theorem dL_law_25 : decode cL_law 25 = .ok (.astore_n 2, 1) := by decide +kernel
theorem dL_law_26 : decode cL_law 26 = .ok (.iconst 1, 1) := by decide +kernel
theorem dL_law_27 : decode cL_law 27 = .ok (.newarray .long, 2) := by decide +kernel
theorem dL_law_29 : decode cL_law 29 = .ok (.astore_n 3, 1) := by decide +kernel
theorem dL_law_30 : decode cL_law 30 = .ok (.iconst 1, 1) := by decide +kernel
theorem dL_law_31 : decode cL_law 31 = .ok (.istore 4, 2) := by decide +kernel
theorem dL_law_33 : decode cL_law 33 = .ok (.iload 4, 2) := by decide +kernel
theorem dL_law_35 : decode cL_law 35 = .ok (.aload_n 0, 1) := by decide +kernel
theorem dL_law_36 : decode cL_law 36 = .ok (.arraylength, 1) := by decide +kernel
theorem dL_law_37 : decode cL_law 37 = .ok (.iconst 4, 1) := by decide +kernel
theorem dL_law_38 : decode cL_law 38 = .ok (.isub, 1) := by decide +kernel
theorem dL_law_39 : decode cL_law 39 = .ok (.if_icmp .gt 1309, 3) := by decide +kernel
theorem dL_law_42 : decode cL_law 42 = .ok (.aload_n 0, 1) := by decide +kernel
theorem dL_law_43 : decode cL_law 43 = .ok (.iload 4, 2) := by decide +kernel
theorem dL_law_45 : decode cL_law 45 = .ok (.iaload, 1) := by decide +kernel
theorem dL_law_46 : decode cL_law 46 = .ok (.bipush 31, 2) := by decide +kernel
theorem dL_law_48 : decode cL_law 48 = .ok (.iand, 1) := by decide +kernel
theorem dL_law_49 : decode cL_law 49 = .ok (.tableswitch 1293 0 21 #[103, 139, 207, 255, 279, 315, 383, 424, 460, 496, 509, 522, 590, 658, 714, 770, 833, 913, 993, 1073, 1153, 1237], 103) := by decide +kernel
theorem dL_law_152 : decode cL_law 152 = .ok (.aload_n 1, 1) := by decide +kernel
theorem dL_law_153 : decode cL_law 153 = .ok (.aload_n 0, 1) := by decide +kernel
theorem dL_law_154 : decode cL_law 154 = .ok (.iload 4, 2) := by decide +kernel
theorem dL_law_156 : decode cL_law 156 = .ok (.iconst 1, 1) := by decide +kernel
theorem dL_law_157 : decode cL_law 157 = .ok (.iadd, 1) := by decide +kernel
theorem dL_law_158 : decode cL_law 158 = .ok (.iaload, 1) := by decide +kernel
theorem dL_law_159 : decode cL_law 159 = .ok (.invokestatic 88, 3) := by decide +kernel
theorem dL_law_162 : decode cL_law 162 = .ok (.istore 5, 2) := by decide +kernel
theorem dL_law_164 : decode cL_law 164 = .ok (.aload_n 2, 1) := by decide +kernel
theorem dL_law_165 : decode cL_law 165 = .ok (.aload_n 0, 1) := by decide +kernel
theorem dL_law_166 : decode cL_law 166 = .ok (.iload 4, 2) := by decide +kernel
theorem dL_law_168 : decode cL_law 168 = .ok (.iconst 1, 1) := by decide +kernel
theorem dL_law_169 : decode cL_law 169 = .ok (.iadd, 1) := by decide +kernel
theorem dL_law_170 : decode cL_law 170 = .ok (.iaload, 1) := by decide +kernel
theorem dL_law_171 : decode cL_law 171 = .ok (.invokevirtual 91, 3) := by decide +kernel
theorem dL_law_174 : decode cL_law 174 = .ok (.aload_n 2, 1) := by decide +kernel
theorem dL_law_175 : decode cL_law 175 = .ok (.invokevirtual 92, 3) := by decide +kernel
theorem dL_law_178 : decode cL_law 178 = .ok (.iload 5, 2) := by decide +kernel
theorem dL_law_180 : decode cL_law 180 = .ok (.if_icmp .eq 5, 3) := by decide +kernel
theorem dL_law_183 : decode cL_law 183 = .ok (.iconst 0, 1) := by decide +kernel
theorem dL_law_184 : decode cL_law 184 = .ok (.ireturn, 1) := by decide +kernel
theorem dL_law_185 : decode cL_law 185 = .ok (.goto 1157, 3) := by decide +kernel
theorem dL_law_188 : decode cL_law 188 = .ok (.aload_n 1, 1) := by decide +kernel
theorem dL_law_189 : decode cL_law 189 = .ok (.aload_n 0, 1) := by decide +kernel
theorem dL_law_190 : decode cL_law 190 = .ok (.iload 4, 2) := by decide +kernel
theorem dL_law_192 : decode cL_law 192 = .ok (.iconst 1, 1) := by decide +kernel
theorem dL_law_193 : decode cL_law 193 = .ok (.iadd, 1) := by decide +kernel
theorem dL_law_194 : decode cL_law 194 = .ok (.iaload, 1) := by decide +kernel
theorem dL_law_195 : decode cL_law 195 = .ok (.aload_n 0, 1) := by decide +kernel
theorem dL_law_196 : decode cL_law 196 = .ok (.iload 4, 2) := by decide +kernel
theorem dL_law_198 : decode cL_law 198 = .ok (.iconst 2, 1) := by decide +kernel
theorem dL_law_199 : decode cL_law 199 = .ok (.iadd, 1) := by decide +kernel
theorem dL_law_200 : decode cL_law 200 = .ok (.iaload, 1) := by decide +kernel
theorem dL_law_201 : decode cL_law 201 = .ok (.aload_n 3, 1) := by decide +kernel
theorem dL_law_202 : decode cL_law 202 = .ok (.invokestatic 96, 3) := by decide +kernel
theorem dL_law_205 : decode cL_law 205 = .ok (.istore 5, 2) := by decide +kernel
theorem dL_law_207 : decode cL_law 207 = .ok (.aload_n 2, 1) := by decide +kernel
theorem dL_law_208 : decode cL_law 208 = .ok (.aload_n 0, 1) := by decide +kernel
theorem dL_law_209 : decode cL_law 209 = .ok (.iload 4, 2) := by decide +kernel
theorem dL_law_211 : decode cL_law 211 = .ok (.iconst 1, 1) := by decide +kernel
theorem dL_law_212 : decode cL_law 212 = .ok (.iadd, 1) := by decide +kernel
theorem dL_law_213 : decode cL_law 213 = .ok (.iaload, 1) := by decide +kernel
theorem dL_law_214 : decode cL_law 214 = .ok (.aload_n 0, 1) := by decide +kernel
theorem dL_law_215 : decode cL_law 215 = .ok (.iload 4, 2) := by decide +kernel
theorem dL_law_217 : decode cL_law 217 = .ok (.iconst 2, 1) := by decide +kernel
theorem dL_law_218 : decode cL_law 218 = .ok (.iadd, 1) := by decide +kernel
theorem dL_law_219 : decode cL_law 219 = .ok (.iaload, 1) := by decide +kernel
theorem dL_law_220 : decode cL_law 220 = .ok (.invokevirtual 99, 3) := by decide +kernel
theorem dL_law_223 : decode cL_law 223 = .ok (.istore 6, 2) := by decide +kernel
theorem dL_law_225 : decode cL_law 225 = .ok (.aload_n 2, 1) := by decide +kernel
theorem dL_law_226 : decode cL_law 226 = .ok (.invokevirtual 92, 3) := by decide +kernel
theorem dL_law_229 : decode cL_law 229 = .ok (.iload 5, 2) := by decide +kernel
theorem dL_law_231 : decode cL_law 231 = .ok (.if_icmp .eq 5, 3) := by decide +kernel
theorem dL_law_234 : decode cL_law 234 = .ok (.iconst 0, 1) := by decide +kernel
theorem dL_law_235 : decode cL_law 235 = .ok (.ireturn, 1) := by decide +kernel
theorem dL_law_236 : decode cL_law 236 = .ok (.iload 5, 2) := by decide +kernel
theorem dL_law_238 : decode cL_law 238 = .ok (.ifCond .ne 15, 3) := by decide +kernel
theorem dL_law_241 : decode cL_law 241 = .ok (.aload_n 3, 1) := by decide +kernel
theorem dL_law_242 : decode cL_law 242 = .ok (.iconst 0, 1) := by decide +kernel
theorem dL_law_243 : decode cL_law 243 = .ok (.laload, 1) := by decide +kernel
theorem dL_law_244 : decode cL_law 244 = .ok (.iload 6, 2) := by decide +kernel
theorem dL_law_246 : decode cL_law 246 = .ok (.i2l, 1) := by decide +kernel
theorem dL_law_247 : decode cL_law 247 = .ok (.lcmp, 1) := by decide +kernel
theorem dL_law_248 : decode cL_law 248 = .ok (.ifCond .eq 5, 3) := by decide +kernel
theorem dL_law_251 : decode cL_law 251 = .ok (.iconst 0, 1) := by decide +kernel
theorem dL_law_252 : decode cL_law 252 = .ok (.ireturn, 1) := by decide +kernel
theorem dL_law_253 : decode cL_law 253 = .ok (.goto 1089, 3) := by decide +kernel
theorem dL_law_256 : decode cL_law 256 = .ok (.aload_n 1, 1) := by decide +kernel
theorem dL_law_257 : decode cL_law 257 = .ok (.aload_n 0, 1) := by decide +kernel
theorem dL_law_258 : decode cL_law 258 = .ok (.iload 4, 2) := by decide +kernel
theorem dL_law_260 : decode cL_law 260 = .ok (.iconst 1, 1) := by decide +kernel
theorem dL_law_261 : decode cL_law 261 = .ok (.iadd, 1) := by decide +kernel
theorem dL_law_262 : decode cL_law 262 = .ok (.iaload, 1) := by decide +kernel
theorem dL_law_263 : decode cL_law 263 = .ok (.aload_n 0, 1) := by decide +kernel
theorem dL_law_264 : decode cL_law 264 = .ok (.iload 4, 2) := by decide +kernel
theorem dL_law_266 : decode cL_law 266 = .ok (.iconst 2, 1) := by decide +kernel
theorem dL_law_267 : decode cL_law 267 = .ok (.iadd, 1) := by decide +kernel
theorem dL_law_268 : decode cL_law 268 = .ok (.iaload, 1) := by decide +kernel
theorem dL_law_269 : decode cL_law 269 = .ok (.invokestatic 100, 3) := by decide +kernel
theorem dL_law_272 : decode cL_law 272 = .ok (.istore 5, 2) := by decide +kernel
theorem dL_law_274 : decode cL_law 274 = .ok (.aload_n 2, 1) := by decide +kernel
theorem dL_law_275 : decode cL_law 275 = .ok (.aload_n 0, 1) := by decide +kernel
theorem dL_law_276 : decode cL_law 276 = .ok (.iload 4, 2) := by decide +kernel
theorem dL_law_278 : decode cL_law 278 = .ok (.iconst 1, 1) := by decide +kernel
theorem dL_law_279 : decode cL_law 279 = .ok (.iadd, 1) := by decide +kernel
theorem dL_law_280 : decode cL_law 280 = .ok (.iaload, 1) := by decide +kernel
theorem dL_law_281 : decode cL_law 281 = .ok (.aload_n 0, 1) := by decide +kernel
theorem dL_law_282 : decode cL_law 282 = .ok (.iload 4, 2) := by decide +kernel
theorem dL_law_284 : decode cL_law 284 = .ok (.iconst 2, 1) := by decide +kernel
theorem dL_law_285 : decode cL_law 285 = .ok (.iadd, 1) := by decide +kernel
theorem dL_law_286 : decode cL_law 286 = .ok (.iaload, 1) := by decide +kernel
theorem dL_law_287 : decode cL_law 287 = .ok (.invokevirtual 103, 3) := by decide +kernel
theorem dL_law_290 : decode cL_law 290 = .ok (.aload_n 2, 1) := by decide +kernel
theorem dL_law_291 : decode cL_law 291 = .ok (.invokevirtual 92, 3) := by decide +kernel
theorem dL_law_294 : decode cL_law 294 = .ok (.iload 5, 2) := by decide +kernel
theorem dL_law_296 : decode cL_law 296 = .ok (.if_icmp .eq 5, 3) := by decide +kernel
theorem dL_law_299 : decode cL_law 299 = .ok (.iconst 0, 1) := by decide +kernel
theorem dL_law_300 : decode cL_law 300 = .ok (.ireturn, 1) := by decide +kernel
theorem dL_law_301 : decode cL_law 301 = .ok (.goto 1041, 3) := by decide +kernel
theorem dL_law_304 : decode cL_law 304 = .ok (.aload_n 1, 1) := by decide +kernel
theorem dL_law_305 : decode cL_law 305 = .ok (.invokestatic 104, 3) := by decide +kernel
theorem dL_law_308 : decode cL_law 308 = .ok (.istore 5, 2) := by decide +kernel
theorem dL_law_310 : decode cL_law 310 = .ok (.aload_n 2, 1) := by decide +kernel
theorem dL_law_311 : decode cL_law 311 = .ok (.invokevirtual 107, 3) := by decide +kernel
theorem dL_law_314 : decode cL_law 314 = .ok (.aload_n 2, 1) := by decide +kernel
theorem dL_law_315 : decode cL_law 315 = .ok (.invokevirtual 92, 3) := by decide +kernel
theorem dL_law_318 : decode cL_law 318 = .ok (.iload 5, 2) := by decide +kernel
theorem dL_law_320 : decode cL_law 320 = .ok (.if_icmp .eq 5, 3) := by decide +kernel
theorem dL_law_323 : decode cL_law 323 = .ok (.iconst 0, 1) := by decide +kernel
theorem dL_law_324 : decode cL_law 324 = .ok (.ireturn, 1) := by decide +kernel
theorem dL_law_325 : decode cL_law 325 = .ok (.goto 1017, 3) := by decide +kernel
theorem dL_law_328 : decode cL_law 328 = .ok (.aload_n 1, 1) := by decide +kernel
theorem dL_law_329 : decode cL_law 329 = .ok (.aload_n 0, 1) := by decide +kernel
theorem dL_law_330 : decode cL_law 330 = .ok (.iload 4, 2) := by decide +kernel
theorem dL_law_332 : decode cL_law 332 = .ok (.iconst 1, 1) := by decide +kernel
theorem dL_law_333 : decode cL_law 333 = .ok (.iadd, 1) := by decide +kernel
theorem dL_law_334 : decode cL_law 334 = .ok (.iaload, 1) := by decide +kernel
theorem dL_law_335 : decode cL_law 335 = .ok (.invokestatic 108, 3) := by decide +kernel
theorem dL_law_338 : decode cL_law 338 = .ok (.istore 5, 2) := by decide +kernel
theorem dL_law_340 : decode cL_law 340 = .ok (.aload_n 2, 1) := by decide +kernel
theorem dL_law_341 : decode cL_law 341 = .ok (.aload_n 0, 1) := by decide +kernel
theorem dL_law_342 : decode cL_law 342 = .ok (.iload 4, 2) := by decide +kernel
theorem dL_law_344 : decode cL_law 344 = .ok (.iconst 1, 1) := by decide +kernel
theorem dL_law_345 : decode cL_law 345 = .ok (.iadd, 1) := by decide +kernel
theorem dL_law_346 : decode cL_law 346 = .ok (.iaload, 1) := by decide +kernel
theorem dL_law_347 : decode cL_law 347 = .ok (.invokevirtual 110, 3) := by decide +kernel
theorem dL_law_350 : decode cL_law 350 = .ok (.aload_n 2, 1) := by decide +kernel
theorem dL_law_351 : decode cL_law 351 = .ok (.invokevirtual 92, 3) := by decide +kernel
theorem dL_law_354 : decode cL_law 354 = .ok (.iload 5, 2) := by decide +kernel
theorem dL_law_356 : decode cL_law 356 = .ok (.if_icmp .eq 5, 3) := by decide +kernel
theorem dL_law_359 : decode cL_law 359 = .ok (.iconst 0, 1) := by decide +kernel
theorem dL_law_360 : decode cL_law 360 = .ok (.ireturn, 1) := by decide +kernel
theorem dL_law_361 : decode cL_law 361 = .ok (.goto 981, 3) := by decide +kernel
theorem dL_law_364 : decode cL_law 364 = .ok (.aload_n 1, 1) := by decide +kernel
theorem dL_law_365 : decode cL_law 365 = .ok (.aload_n 0, 1) := by decide +kernel
theorem dL_law_366 : decode cL_law 366 = .ok (.iload 4, 2) := by decide +kernel
theorem dL_law_368 : decode cL_law 368 = .ok (.iconst 1, 1) := by decide +kernel
theorem dL_law_369 : decode cL_law 369 = .ok (.iadd, 1) := by decide +kernel
theorem dL_law_370 : decode cL_law 370 = .ok (.iaload, 1) := by decide +kernel
theorem dL_law_371 : decode cL_law 371 = .ok (.aload_n 0, 1) := by decide +kernel
theorem dL_law_372 : decode cL_law 372 = .ok (.iload 4, 2) := by decide +kernel
theorem dL_law_374 : decode cL_law 374 = .ok (.iconst 2, 1) := by decide +kernel
theorem dL_law_375 : decode cL_law 375 = .ok (.iadd, 1) := by decide +kernel
theorem dL_law_376 : decode cL_law 376 = .ok (.iaload, 1) := by decide +kernel
theorem dL_law_377 : decode cL_law 377 = .ok (.aload_n 3, 1) := by decide +kernel
theorem dL_law_378 : decode cL_law 378 = .ok (.invokestatic 111, 3) := by decide +kernel
theorem dL_law_381 : decode cL_law 381 = .ok (.istore 5, 2) := by decide +kernel
theorem dL_law_383 : decode cL_law 383 = .ok (.aload_n 2, 1) := by decide +kernel
theorem dL_law_384 : decode cL_law 384 = .ok (.aload_n 0, 1) := by decide +kernel
theorem dL_law_385 : decode cL_law 385 = .ok (.iload 4, 2) := by decide +kernel
theorem dL_law_387 : decode cL_law 387 = .ok (.iconst 1, 1) := by decide +kernel
theorem dL_law_388 : decode cL_law 388 = .ok (.iadd, 1) := by decide +kernel
theorem dL_law_389 : decode cL_law 389 = .ok (.iaload, 1) := by decide +kernel
theorem dL_law_390 : decode cL_law 390 = .ok (.aload_n 0, 1) := by decide +kernel
theorem dL_law_391 : decode cL_law 391 = .ok (.iload 4, 2) := by decide +kernel
theorem dL_law_393 : decode cL_law 393 = .ok (.iconst 2, 1) := by decide +kernel
theorem dL_law_394 : decode cL_law 394 = .ok (.iadd, 1) := by decide +kernel
theorem dL_law_395 : decode cL_law 395 = .ok (.iaload, 1) := by decide +kernel
theorem dL_law_396 : decode cL_law 396 = .ok (.invokevirtual 113, 3) := by decide +kernel
theorem dL_law_399 : decode cL_law 399 = .ok (.istore 6, 2) := by decide +kernel
theorem dL_law_401 : decode cL_law 401 = .ok (.aload_n 2, 1) := by decide +kernel
theorem dL_law_402 : decode cL_law 402 = .ok (.invokevirtual 92, 3) := by decide +kernel
theorem dL_law_405 : decode cL_law 405 = .ok (.iload 5, 2) := by decide +kernel
theorem dL_law_407 : decode cL_law 407 = .ok (.if_icmp .eq 5, 3) := by decide +kernel
theorem dL_law_410 : decode cL_law 410 = .ok (.iconst 0, 1) := by decide +kernel
theorem dL_law_411 : decode cL_law 411 = .ok (.ireturn, 1) := by decide +kernel
theorem dL_law_412 : decode cL_law 412 = .ok (.iload 5, 2) := by decide +kernel
theorem dL_law_414 : decode cL_law 414 = .ok (.ifCond .ne 15, 3) := by decide +kernel
theorem dL_law_417 : decode cL_law 417 = .ok (.aload_n 3, 1) := by decide +kernel
theorem dL_law_418 : decode cL_law 418 = .ok (.iconst 0, 1) := by decide +kernel
theorem dL_law_419 : decode cL_law 419 = .ok (.laload, 1) := by decide +kernel
theorem dL_law_420 : decode cL_law 420 = .ok (.iload 6, 2) := by decide +kernel
theorem dL_law_422 : decode cL_law 422 = .ok (.i2l, 1) := by decide +kernel
theorem dL_law_423 : decode cL_law 423 = .ok (.lcmp, 1) := by decide +kernel
theorem dL_law_424 : decode cL_law 424 = .ok (.ifCond .eq 5, 3) := by decide +kernel
theorem dL_law_427 : decode cL_law 427 = .ok (.iconst 0, 1) := by decide +kernel
theorem dL_law_428 : decode cL_law 428 = .ok (.ireturn, 1) := by decide +kernel
theorem dL_law_429 : decode cL_law 429 = .ok (.goto 913, 3) := by decide +kernel
theorem dL_law_432 : decode cL_law 432 = .ok (.aload_n 1, 1) := by decide +kernel
theorem dL_law_433 : decode cL_law 433 = .ok (.aload_n 0, 1) := by decide +kernel
theorem dL_law_434 : decode cL_law 434 = .ok (.iload 4, 2) := by decide +kernel
theorem dL_law_436 : decode cL_law 436 = .ok (.iconst 1, 1) := by decide +kernel
theorem dL_law_437 : decode cL_law 437 = .ok (.iadd, 1) := by decide +kernel
theorem dL_law_438 : decode cL_law 438 = .ok (.iaload, 1) := by decide +kernel
theorem dL_law_439 : decode cL_law 439 = .ok (.ifCond .eq 7, 3) := by decide +kernel
theorem dL_law_442 : decode cL_law 442 = .ok (.iconst 1, 1) := by decide +kernel
theorem dL_law_443 : decode cL_law 443 = .ok (.goto 4, 3) := by decide +kernel
theorem dL_law_446 : decode cL_law 446 = .ok (.iconst 0, 1) := by decide +kernel
theorem dL_law_447 : decode cL_law 447 = .ok (.invokevirtual 114, 3) := by decide +kernel
theorem dL_law_450 : decode cL_law 450 = .ok (.aload_n 2, 1) := by decide +kernel
theorem dL_law_451 : decode cL_law 451 = .ok (.aload_n 0, 1) := by decide +kernel
theorem dL_law_452 : decode cL_law 452 = .ok (.iload 4, 2) := by decide +kernel
theorem dL_law_454 : decode cL_law 454 = .ok (.iconst 1, 1) := by decide +kernel
theorem dL_law_455 : decode cL_law 455 = .ok (.iadd, 1) := by decide +kernel
theorem dL_law_456 : decode cL_law 456 = .ok (.iaload, 1) := by decide +kernel
theorem dL_law_457 : decode cL_law 457 = .ok (.ifCond .eq 7, 3) := by decide +kernel
theorem dL_law_460 : decode cL_law 460 = .ok (.iconst 1, 1) := by decide +kernel
theorem dL_law_461 : decode cL_law 461 = .ok (.goto 4, 3) := by decide +kernel
theorem dL_law_464 : decode cL_law 464 = .ok (.iconst 0, 1) := by decide +kernel
theorem dL_law_465 : decode cL_law 465 = .ok (.invokevirtual 118, 3) := by decide +kernel
theorem dL_law_468 : decode cL_law 468 = .ok (.if_icmp .eq 874, 3) := by decide +kernel
theorem dL_law_471 : decode cL_law 471 = .ok (.iconst 0, 1) := by decide +kernel
theorem dL_law_472 : decode cL_law 472 = .ok (.ireturn, 1) := by decide +kernel
theorem dL_law_473 : decode cL_law 473 = .ok (.aload_n 1, 1) := by decide +kernel
theorem dL_law_474 : decode cL_law 474 = .ok (.aload_n 0, 1) := by decide +kernel
theorem dL_law_475 : decode cL_law 475 = .ok (.iload 4, 2) := by decide +kernel
theorem dL_law_477 : decode cL_law 477 = .ok (.iconst 1, 1) := by decide +kernel
theorem dL_law_478 : decode cL_law 478 = .ok (.iadd, 1) := by decide +kernel
theorem dL_law_479 : decode cL_law 479 = .ok (.iaload, 1) := by decide +kernel
theorem dL_law_480 : decode cL_law 480 = .ok (.invokestatic 119, 3) := by decide +kernel
theorem dL_law_483 : decode cL_law 483 = .ok (.istore 5, 2) := by decide +kernel
theorem dL_law_485 : decode cL_law 485 = .ok (.aload_n 2, 1) := by decide +kernel
theorem dL_law_486 : decode cL_law 486 = .ok (.aload_n 0, 1) := by decide +kernel
theorem dL_law_487 : decode cL_law 487 = .ok (.iload 4, 2) := by decide +kernel
theorem dL_law_489 : decode cL_law 489 = .ok (.iconst 1, 1) := by decide +kernel
theorem dL_law_490 : decode cL_law 490 = .ok (.iadd, 1) := by decide +kernel
theorem dL_law_491 : decode cL_law 491 = .ok (.iaload, 1) := by decide +kernel
theorem dL_law_492 : decode cL_law 492 = .ok (.invokevirtual 121, 3) := by decide +kernel
theorem dL_law_495 : decode cL_law 495 = .ok (.aload_n 2, 1) := by decide +kernel
theorem dL_law_496 : decode cL_law 496 = .ok (.invokevirtual 92, 3) := by decide +kernel
theorem dL_law_499 : decode cL_law 499 = .ok (.iload 5, 2) := by decide +kernel
theorem dL_law_501 : decode cL_law 501 = .ok (.if_icmp .eq 5, 3) := by decide +kernel
theorem dL_law_504 : decode cL_law 504 = .ok (.iconst 0, 1) := by decide +kernel
theorem dL_law_505 : decode cL_law 505 = .ok (.ireturn, 1) := by decide +kernel
theorem dL_law_506 : decode cL_law 506 = .ok (.goto 836, 3) := by decide +kernel
theorem dL_law_509 : decode cL_law 509 = .ok (.aload_n 1, 1) := by decide +kernel
theorem dL_law_510 : decode cL_law 510 = .ok (.aload_n 0, 1) := by decide +kernel
theorem dL_law_511 : decode cL_law 511 = .ok (.iload 4, 2) := by decide +kernel
theorem dL_law_513 : decode cL_law 513 = .ok (.iconst 1, 1) := by decide +kernel
theorem dL_law_514 : decode cL_law 514 = .ok (.iadd, 1) := by decide +kernel
theorem dL_law_515 : decode cL_law 515 = .ok (.iaload, 1) := by decide +kernel
theorem dL_law_516 : decode cL_law 516 = .ok (.invokestatic 122, 3) := by decide +kernel
theorem dL_law_519 : decode cL_law 519 = .ok (.istore 5, 2) := by decide +kernel
theorem dL_law_521 : decode cL_law 521 = .ok (.aload_n 2, 1) := by decide +kernel
theorem dL_law_522 : decode cL_law 522 = .ok (.aload_n 0, 1) := by decide +kernel
theorem dL_law_523 : decode cL_law 523 = .ok (.iload 4, 2) := by decide +kernel
theorem dL_law_525 : decode cL_law 525 = .ok (.iconst 1, 1) := by decide +kernel
theorem dL_law_526 : decode cL_law 526 = .ok (.iadd, 1) := by decide +kernel
theorem dL_law_527 : decode cL_law 527 = .ok (.iaload, 1) := by decide +kernel
