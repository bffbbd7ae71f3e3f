theorem dX0_init_0 : decode cX0_init 0 = .ok (.aload_n 0, 1) := by decide +kernel
theorem dX0_init_1 : decode cX0_init 1 = .ok (.invokespecial 3, 3) := by decide +kernel
theorem dX0_init_4 : decode cX0_init 4 = .ok (.aload_n 0, 1) := by decide +kernel
theorem dX0_init_5 : decode cX0_init 5 = .ok (.aload_n 1, 1) := by decide +kernel
theorem dX0_init_6 : decode cX0_init 6 = .ok (.putfield 9, 3) := by decide +kernel
theorem dX0_init_9 : decode cX0_init 9 = .ok (.aload_n 0, 1) := by decide +kernel
theorem dX0_init_10 : decode cX0_init 10 = .ok (.bipush 12, 2) := by decide +kernel
theorem dX0_init_12 : decode cX0_init 12 = .ok (.newarray .int, 2) := by decide +kernel
theorem dX0_init_14 : decode cX0_init 14 = .ok (.putfield 15, 3) := by decide +kernel
theorem dX0_init_17 : decode cX0_init 17 = .ok (.aload_n 0, 1) := by decide +kernel
theorem dX0_init_18 : decode cX0_init 18 = .ok (.bipush 12, 2) := by decide +kernel
theorem dX0_init_20 : decode cX0_init 20 = .ok (.newarray .boolean, 2) := by decide +kernel
theorem dX0_init_22 : decode cX0_init 22 = .ok (.putfield 19, 3) := by decide +kernel
theorem dX0_init_25 : decode cX0_init 25 = .ok (.aload_n 0, 1) := by decide +kernel
theorem dX0_init_26 : decode cX0_init 26 = .ok (.bipush 12, 2) := by decide +kernel
theorem dX0_init_28 : decode cX0_init 28 = .ok (.newarray .boolean, 2) := by decide +kernel
theorem dX0_init_30 : decode cX0_init 30 = .ok (.putfield 23, 3) := by decide +kernel
theorem dX0_init_33 : decode cX0_init 33 = .ok (.aload_n 0, 1) := by decide +kernel
theorem dX0_init_34 : decode cX0_init 34 = .ok (.bipush 12, 2) := by decide +kernel
theorem dX0_init_36 : decode cX0_init 36 = .ok (.newarray .int, 2) := by decide +kernel
theorem dX0_init_38 : decode cX0_init 38 = .ok (.putfield 26, 3) := by decide +kernel
theorem dX0_init_41 : decode cX0_init 41 = .ok (.return_, 1) := by decide +kernel
theorem dX0_restart_0 : decode cX0_restart 0 = .ok (.iconst 0, 1) := by decide +kernel
theorem dX0_restart_1 : decode cX0_restart 1 = .ok (.istore_n 1, 1) := by decide +kernel
theorem dX0_restart_2 : decode cX0_restart 2 = .ok (.iload_n 1, 1) := by decide +kernel
theorem dX0_restart_3 : decode cX0_restart 3 = .ok (.bipush 12, 2) := by decide +kernel
theorem dX0_restart_5 : decode cX0_restart 5 = .ok (.if_icmp .ge 30, 3) := by decide +kernel
theorem dX0_restart_8 : decode cX0_restart 8 = .ok (.aload_n 0, 1) := by decide +kernel
theorem dX0_restart_9 : decode cX0_restart 9 = .ok (.getfield 19, 3) := by decide +kernel
theorem dX0_restart_12 : decode cX0_restart 12 = .ok (.iload_n 1, 1) := by decide +kernel
theorem dX0_restart_13 : decode cX0_restart 13 = .ok (.iconst 0, 1) := by decide +kernel
theorem dX0_restart_14 : decode cX0_restart 14 = .ok (.bastore, 1) := by decide +kernel
theorem dX0_restart_15 : decode cX0_restart 15 = .ok (.aload_n 0, 1) := by decide +kernel
theorem dX0_restart_16 : decode cX0_restart 16 = .ok (.getfield 23, 3) := by decide +kernel
theorem dX0_restart_19 : decode cX0_restart 19 = .ok (.iload_n 1, 1) := by decide +kernel
theorem dX0_restart_20 : decode cX0_restart 20 = .ok (.iconst 0, 1) := by decide +kernel
theorem dX0_restart_21 : decode cX0_restart 21 = .ok (.bastore, 1) := by decide +kernel
theorem dX0_restart_22 : decode cX0_restart 22 = .ok (.aload_n 0, 1) := by decide +kernel
theorem dX0_restart_23 : decode cX0_restart 23 = .ok (.getfield 26, 3) := by decide +kernel
theorem dX0_restart_26 : decode cX0_restart 26 = .ok (.iload_n 1, 1) := by decide +kernel
theorem dX0_restart_27 : decode cX0_restart 27 = .ok (.iconst 0, 1) := by decide +kernel
theorem dX0_restart_28 : decode cX0_restart 28 = .ok (.iastore, 1) := by decide +kernel
theorem dX0_restart_29 : decode cX0_restart 29 = .ok (.iinc 1 1, 3) := by decide +kernel
theorem dX0_restart_32 : decode cX0_restart 32 = .ok (.goto (-30), 3) := by decide +kernel
theorem dX0_restart_35 : decode cX0_restart 35 = .ok (.aload_n 0, 1) := by decide +kernel
theorem dX0_restart_36 : decode cX0_restart 36 = .ok (.iconst 0, 1) := by decide +kernel
theorem dX0_restart_37 : decode cX0_restart 37 = .ok (.putfield 29, 3) := by decide +kernel
theorem dX0_restart_40 : decode cX0_restart 40 = .ok (.aload_n 0, 1) := by decide +kernel
theorem dX0_restart_41 : decode cX0_restart 41 = .ok (.iconst 1, 1) := by decide +kernel
theorem dX0_restart_42 : decode cX0_restart 42 = .ok (.putfield 33, 3) := by decide +kernel
theorem dX0_restart_45 : decode cX0_restart 45 = .ok (.aload_n 0, 1) := by decide +kernel
theorem dX0_restart_46 : decode cX0_restart 46 = .ok (.invokevirtual 36, 3) := by decide +kernel
theorem dX0_restart_49 : decode cX0_restart 49 = .ok (.return_, 1) := by decide +kernel
theorem dX0_today_0 : decode cX0_today 0 = .ok (.aload_n 0, 1) := by decide +kernel
theorem dX0_today_1 : decode cX0_today 1 = .ok (.getfield 33, 3) := by decide +kernel
theorem dX0_today_4 : decode cX0_today 4 = .ok (.ireturn, 1) := by decide +kernel
theorem dX0_whoseTurn_0 : decode cX0_whoseTurn 0 = .ok (.aload_n 0, 1) := by decide +kernel
theorem dX0_whoseTurn_1 : decode cX0_whoseTurn 1 = .ok (.getfield 39, 3) := by decide +kernel
theorem dX0_whoseTurn_4 : decode cX0_whoseTurn 4 = .ok (.aload_n 0, 1) := by decide +kernel
theorem dX0_whoseTurn_5 : decode cX0_whoseTurn 5 = .ok (.getfield 42, 3) := by decide +kernel
theorem dX0_whoseTurn_8 : decode cX0_whoseTurn 8 = .ok (.if_icmp .ge 15, 3) := by decide +kernel
theorem dX0_whoseTurn_11 : decode cX0_whoseTurn 11 = .ok (.aload_n 0, 1) := by decide +kernel
theorem dX0_whoseTurn_12 : decode cX0_whoseTurn 12 = .ok (.getfield 15, 3) := by decide +kernel
theorem dX0_whoseTurn_15 : decode cX0_whoseTurn 15 = .ok (.aload_n 0, 1) := by decide +kernel
theorem dX0_whoseTurn_16 : decode cX0_whoseTurn 16 = .ok (.getfield 39, 3) := by decide +kernel
theorem dX0_whoseTurn_19 : decode cX0_whoseTurn 19 = .ok (.iaload, 1) := by decide +kernel
theorem dX0_whoseTurn_20 : decode cX0_whoseTurn 20 = .ok (.goto 5, 3) := by decide +kernel
theorem dX0_whoseTurn_23 : decode cX0_whoseTurn 23 = .ok (.ldc 45, 2) := by decide +kernel
theorem dX0_whoseTurn_25 : decode cX0_whoseTurn 25 = .ok (.ireturn, 1) := by decide +kernel
theorem dX0_hasLeft_0 : decode cX0_hasLeft 0 = .ok (.aload_n 0, 1) := by decide +kernel
theorem dX0_hasLeft_1 : decode cX0_hasLeft 1 = .ok (.getfield 19, 3) := by decide +kernel
theorem dX0_hasLeft_4 : decode cX0_hasLeft 4 = .ok (.iload_n 1, 1) := by decide +kernel
theorem dX0_hasLeft_5 : decode cX0_hasLeft 5 = .ok (.baload, 1) := by decide +kernel
theorem dX0_hasLeft_6 : decode cX0_hasLeft 6 = .ok (.ireturn, 1) := by decide +kernel
theorem dX0_howManyLeft_0 : decode cX0_howManyLeft 0 = .ok (.aload_n 0, 1) := by decide +kernel
theorem dX0_howManyLeft_1 : decode cX0_howManyLeft 1 = .ok (.getfield 29, 3) := by decide +kernel
theorem dX0_howManyLeft_4 : decode cX0_howManyLeft 4 = .ok (.ireturn, 1) := by decide +kernel
theorem dX0_dismiss_0 : decode cX0_dismiss 0 = .ok (.aload_n 0, 1) := by decide +kernel
theorem dX0_dismiss_1 : decode cX0_dismiss 1 = .ok (.getfield 19, 3) := by decide +kernel
theorem dX0_dismiss_4 : decode cX0_dismiss 4 = .ok (.iload_n 1, 1) := by decide +kernel
theorem dX0_dismiss_5 : decode cX0_dismiss 5 = .ok (.iconst 1, 1) := by decide +kernel
theorem dX0_dismiss_6 : decode cX0_dismiss 6 = .ok (.bastore, 1) := by decide +kernel
theorem dX0_dismiss_7 : decode cX0_dismiss 7 = .ok (.aload_n 0, 1) := by decide +kernel
theorem dX0_dismiss_8 : decode cX0_dismiss 8 = .ok (.dup, 1) := by decide +kernel
theorem dX0_dismiss_9 : decode cX0_dismiss 9 = .ok (.getfield 29, 3) := by decide +kernel
theorem dX0_dismiss_12 : decode cX0_dismiss 12 = .ok (.iconst 1, 1) := by decide +kernel
theorem dX0_dismiss_13 : decode cX0_dismiss 13 = .ok (.iadd, 1) := by decide +kernel
theorem dX0_dismiss_14 : decode cX0_dismiss 14 = .ok (.putfield 29, 3) := by decide +kernel
theorem dX0_dismiss_17 : decode cX0_dismiss 17 = .ok (.aload_n 0, 1) := by decide +kernel
theorem dX0_dismiss_18 : decode cX0_dismiss 18 = .ok (.invokevirtual 46, 3) := by decide +kernel
theorem dX0_dismiss_21 : decode cX0_dismiss 21 = .ok (.iload_n 1, 1) := by decide +kernel
theorem dX0_dismiss_22 : decode cX0_dismiss 22 = .ok (.if_icmp .ne 7, 3) := by decide +kernel
theorem dX0_dismiss_25 : decode cX0_dismiss 25 = .ok (.aload_n 0, 1) := by decide +kernel
theorem dX0_dismiss_26 : decode cX0_dismiss 26 = .ok (.invokevirtual 50, 3) := by decide +kernel
theorem dX0_dismiss_29 : decode cX0_dismiss 29 = .ok (.return_, 1) := by decide +kernel
theorem dX0_goOn_0 : decode cX0_goOn 0 = .ok (.aload_n 0, 1) := by decide +kernel
theorem dX0_goOn_1 : decode cX0_goOn 1 = .ok (.dup, 1) := by decide +kernel
theorem dX0_goOn_2 : decode cX0_goOn 2 = .ok (.getfield 39, 3) := by decide +kernel
theorem dX0_goOn_5 : decode cX0_goOn 5 = .ok (.iconst 1, 1) := by decide +kernel
theorem dX0_goOn_6 : decode cX0_goOn 6 = .ok (.iadd, 1) := by decide +kernel
theorem dX0_goOn_7 : decode cX0_goOn 7 = .ok (.putfield 39, 3) := by decide +kernel
theorem dX0_goOn_10 : decode cX0_goOn 10 = .ok (.aload_n 0, 1) := by decide +kernel
theorem dX0_goOn_11 : decode cX0_goOn 11 = .ok (.getfield 39, 3) := by decide +kernel
theorem dX0_goOn_14 : decode cX0_goOn 14 = .ok (.aload_n 0, 1) := by decide +kernel
theorem dX0_goOn_15 : decode cX0_goOn 15 = .ok (.getfield 42, 3) := by decide +kernel
theorem dX0_goOn_18 : decode cX0_goOn 18 = .ok (.if_icmp .ge 33, 3) := by decide +kernel
theorem dX0_goOn_21 : decode cX0_goOn 21 = .ok (.aload_n 0, 1) := by decide +kernel
theorem dX0_goOn_22 : decode cX0_goOn 22 = .ok (.getfield 19, 3) := by decide +kernel
theorem dX0_goOn_25 : decode cX0_goOn 25 = .ok (.aload_n 0, 1) := by decide +kernel
theorem dX0_goOn_26 : decode cX0_goOn 26 = .ok (.getfield 15, 3) := by decide +kernel
theorem dX0_goOn_29 : decode cX0_goOn 29 = .ok (.aload_n 0, 1) := by decide +kernel
theorem dX0_goOn_30 : decode cX0_goOn 30 = .ok (.getfield 39, 3) := by decide +kernel
theorem dX0_goOn_33 : decode cX0_goOn 33 = .ok (.iaload, 1) := by decide +kernel
theorem dX0_goOn_34 : decode cX0_goOn 34 = .ok (.baload, 1) := by decide +kernel
theorem dX0_goOn_35 : decode cX0_goOn 35 = .ok (.ifCond .eq 16, 3) := by decide +kernel
theorem dX0_goOn_38 : decode cX0_goOn 38 = .ok (.aload_n 0, 1) := by decide +kernel
theorem dX0_goOn_39 : decode cX0_goOn 39 = .ok (.dup, 1) := by decide +kernel
theorem dX0_goOn_40 : decode cX0_goOn 40 = .ok (.getfield 39, 3) := by decide +kernel
theorem dX0_goOn_43 : decode cX0_goOn 43 = .ok (.iconst 1, 1) := by decide +kernel
theorem dX0_goOn_44 : decode cX0_goOn 44 = .ok (.iadd, 1) := by decide +kernel
theorem dX0_goOn_45 : decode cX0_goOn 45 = .ok (.putfield 39, 3) := by decide +kernel
theorem dX0_goOn_48 : decode cX0_goOn 48 = .ok (.goto (-38), 3) := by decide +kernel
theorem dX0_goOn_51 : decode cX0_goOn 51 = .ok (.aload_n 0, 1) := by decide +kernel
theorem dX0_goOn_52 : decode cX0_goOn 52 = .ok (.getfield 39, 3) := by decide +kernel
theorem dX0_goOn_55 : decode cX0_goOn 55 = .ok (.aload_n 0, 1) := by decide +kernel
theorem dX0_goOn_56 : decode cX0_goOn 56 = .ok (.getfield 42, 3) := by decide +kernel
theorem dX0_goOn_59 : decode cX0_goOn 59 = .ok (.if_icmp .lt 7, 3) := by decide +kernel
theorem dX0_goOn_62 : decode cX0_goOn 62 = .ok (.aload_n 0, 1) := by decide +kernel
theorem dX0_goOn_63 : decode cX0_goOn 63 = .ok (.invokevirtual 53, 3) := by decide +kernel
theorem dX0_goOn_66 : decode cX0_goOn 66 = .ok (.return_, 1) := by decide +kernel
theorem dX0_endDay_0 : decode cX0_endDay 0 = .ok (.aload_n 0, 1) := by decide +kernel
theorem dX0_endDay_1 : decode cX0_endDay 1 = .ok (.getfield 33, 3) := by decide +kernel
theorem dX0_endDay_4 : decode cX0_endDay 4 = .ok (.iconst 3, 1) := by decide +kernel
theorem dX0_endDay_5 : decode cX0_endDay 5 = .ok (.if_icmp .ne 11, 3) := by decide +kernel
theorem dX0_endDay_8 : decode cX0_endDay 8 = .ok (.aload_n 0, 1) := by decide +kernel
theorem dX0_endDay_9 : decode cX0_endDay 9 = .ok (.invokevirtual 56, 3) := by decide +kernel
theorem dX0_endDay_12 : decode cX0_endDay 12 = .ok (.aload_n 0, 1) := by decide +kernel
theorem dX0_endDay_13 : decode cX0_endDay 13 = .ok (.invokevirtual 59, 3) := by decide +kernel
theorem dX0_endDay_16 : decode cX0_endDay 16 = .ok (.aload_n 0, 1) := by decide +kernel
theorem dX0_endDay_17 : decode cX0_endDay 17 = .ok (.getfield 33, 3) := by decide +kernel
theorem dX0_endDay_20 : decode cX0_endDay 20 = .ok (.iconst 5, 1) := by decide +kernel
theorem dX0_endDay_21 : decode cX0_endDay 21 = .ok (.if_icmp .ne 7, 3) := by decide +kernel
theorem dX0_endDay_24 : decode cX0_endDay 24 = .ok (.aload_n 0, 1) := by decide +kernel
theorem dX0_endDay_25 : decode cX0_endDay 25 = .ok (.invokevirtual 56, 3) := by decide +kernel
theorem dX0_endDay_28 : decode cX0_endDay 28 = .ok (.aload_n 0, 1) := by decide +kernel
theorem dX0_endDay_29 : decode cX0_endDay 29 = .ok (.dup, 1) := by decide +kernel
theorem dX0_endDay_30 : decode cX0_endDay 30 = .ok (.getfield 33, 3) := by decide +kernel
theorem dX0_endDay_33 : decode cX0_endDay 33 = .ok (.iconst 1, 1) := by decide +kernel
theorem dX0_endDay_34 : decode cX0_endDay 34 = .ok (.iadd, 1) := by decide +kernel
theorem dX0_endDay_35 : decode cX0_endDay 35 = .ok (.putfield 33, 3) := by decide +kernel
theorem dX0_endDay_38 : decode cX0_endDay 38 = .ok (.aload_n 0, 1) := by decide +kernel
theorem dX0_endDay_39 : decode cX0_endDay 39 = .ok (.invokevirtual 36, 3) := by decide +kernel
theorem dX0_endDay_42 : decode cX0_endDay 42 = .ok (.return_, 1) := by decide +kernel
theorem dX0_takePlaces_0 : decode cX0_takePlaces 0 = .ok (.iconst 0, 1) := by decide +kernel
theorem dX0_takePlaces_1 : decode cX0_takePlaces 1 = .ok (.istore_n 1, 1) := by decide +kernel
theorem dX0_takePlaces_2 : decode cX0_takePlaces 2 = .ok (.iload_n 1, 1) := by decide +kernel
theorem dX0_takePlaces_3 : decode cX0_takePlaces 3 = .ok (.aload_n 0, 1) := by decide +kernel
theorem dX0_takePlaces_4 : decode cX0_takePlaces 4 = .ok (.getfield 9, 3) := by decide +kernel
theorem dX0_takePlaces_7 : decode cX0_takePlaces 7 = .ok (.invokevirtual 62, 3) := by decide +kernel
theorem dX0_takePlaces_10 : decode cX0_takePlaces 10 = .ok (.if_icmp .ge 23, 3) := by decide +kernel
theorem dX0_takePlaces_13 : decode cX0_takePlaces 13 = .ok (.aload_n 0, 1) := by decide +kernel
theorem dX0_takePlaces_14 : decode cX0_takePlaces 14 = .ok (.getfield 26, 3) := by decide +kernel
theorem dX0_takePlaces_17 : decode cX0_takePlaces 17 = .ok (.iload_n 1, 1) := by decide +kernel
theorem dX0_takePlaces_18 : decode cX0_takePlaces 18 = .ok (.aload_n 0, 1) := by decide +kernel
theorem dX0_takePlaces_19 : decode cX0_takePlaces 19 = .ok (.getfield 9, 3) := by decide +kernel
theorem dX0_takePlaces_22 : decode cX0_takePlaces 22 = .ok (.iload_n 1, 1) := by decide +kernel
theorem dX0_takePlaces_23 : decode cX0_takePlaces 23 = .ok (.invokevirtual 67, 3) := by decide +kernel
theorem dX0_takePlaces_26 : decode cX0_takePlaces 26 = .ok (.iastore, 1) := by decide +kernel
theorem dX0_takePlaces_27 : decode cX0_takePlaces 27 = .ok (.iinc 1 1, 3) := by decide +kernel
theorem dX0_takePlaces_30 : decode cX0_takePlaces 30 = .ok (.goto (-28), 3) := by decide +kernel
theorem dX0_takePlaces_33 : decode cX0_takePlaces 33 = .ok (.return_, 1) := by decide +kernel
theorem dX0_makeCut_0 : decode cX0_makeCut 0 = .ok (.iconst 0, 1) := by decide +kernel
theorem dX0_makeCut_1 : decode cX0_makeCut 1 = .ok (.istore_n 1, 1) := by decide +kernel
theorem dX0_makeCut_2 : decode cX0_makeCut 2 = .ok (.iload_n 1, 1) := by decide +kernel
theorem dX0_makeCut_3 : decode cX0_makeCut 3 = .ok (.aload_n 0, 1) := by decide +kernel
theorem dX0_makeCut_4 : decode cX0_makeCut 4 = .ok (.getfield 9, 3) := by decide +kernel
theorem dX0_makeCut_7 : decode cX0_makeCut 7 = .ok (.invokevirtual 62, 3) := by decide +kernel
theorem dX0_makeCut_10 : decode cX0_makeCut 10 = .ok (.if_icmp .ge 44, 3) := by decide +kernel
theorem dX0_makeCut_13 : decode cX0_makeCut 13 = .ok (.aload_n 0, 1) := by decide +kernel
theorem dX0_makeCut_14 : decode cX0_makeCut 14 = .ok (.getfield 23, 3) := by decide +kernel
theorem dX0_makeCut_17 : decode cX0_makeCut 17 = .ok (.iload_n 1, 1) := by decide +kernel
theorem dX0_makeCut_18 : decode cX0_makeCut 18 = .ok (.aload_n 0, 1) := by decide +kernel
theorem dX0_makeCut_19 : decode cX0_makeCut 19 = .ok (.getfield 9, 3) := by decide +kernel
theorem dX0_makeCut_22 : decode cX0_makeCut 22 = .ok (.iload_n 1, 1) := by decide +kernel
theorem dX0_makeCut_23 : decode cX0_makeCut 23 = .ok (.invokevirtual 71, 3) := by decide +kernel
theorem dX0_makeCut_26 : decode cX0_makeCut 26 = .ok (.ldc 45, 2) := by decide +kernel
theorem dX0_makeCut_28 : decode cX0_makeCut 28 = .ok (.if_icmp .eq 18, 3) := by decide +kernel
theorem dX0_makeCut_31 : decode cX0_makeCut 31 = .ok (.aload_n 0, 1) := by decide +kernel
theorem dX0_makeCut_32 : decode cX0_makeCut 32 = .ok (.getfield 26, 3) := by decide +kernel
theorem dX0_makeCut_35 : decode cX0_makeCut 35 = .ok (.iload_n 1, 1) := by decide +kernel
theorem dX0_makeCut_36 : decode cX0_makeCut 36 = .ok (.iaload, 1) := by decide +kernel
theorem dX0_makeCut_37 : decode cX0_makeCut 37 = .ok (.bipush 8, 2) := by decide +kernel
theorem dX0_makeCut_39 : decode cX0_makeCut 39 = .ok (.if_icmp .gt 7, 3) := by decide +kernel
theorem dX0_makeCut_42 : decode cX0_makeCut 42 = .ok (.iconst 1, 1) := by decide +kernel
theorem dX0_makeCut_43 : decode cX0_makeCut 43 = .ok (.goto 4, 3) := by decide +kernel
theorem dX0_makeCut_46 : decode cX0_makeCut 46 = .ok (.iconst 0, 1) := by decide +kernel
theorem dX0_makeCut_47 : decode cX0_makeCut 47 = .ok (.bastore, 1) := by decide +kernel
theorem dX0_makeCut_48 : decode cX0_makeCut 48 = .ok (.iinc 1 1, 3) := by decide +kernel
theorem dX0_makeCut_51 : decode cX0_makeCut 51 = .ok (.goto (-49), 3) := by decide +kernel
theorem dX0_makeCut_54 : decode cX0_makeCut 54 = .ok (.return_, 1) := by decide +kernel
theorem dX0_lineUp_0 : decode cX0_lineUp 0 = .ok (.aload_n 0, 1) := by decide +kernel
theorem dX0_lineUp_1 : decode cX0_lineUp 1 = .ok (.iconst 0, 1) := by decide +kernel
theorem dX0_lineUp_2 : decode cX0_lineUp 2 = .ok (.putfield 39, 3) := by decide +kernel
theorem dX0_lineUp_5 : decode cX0_lineUp 5 = .ok (.aload_n 0, 1) := by decide +kernel
theorem dX0_lineUp_6 : decode cX0_lineUp 6 = .ok (.iconst 0, 1) := by decide +kernel
theorem dX0_lineUp_7 : decode cX0_lineUp 7 = .ok (.putfield 42, 3) := by decide +kernel
theorem dX0_lineUp_10 : decode cX0_lineUp 10 = .ok (.aload_n 0, 1) := by decide +kernel
theorem dX0_lineUp_11 : decode cX0_lineUp 11 = .ok (.getfield 33, 3) := by decide +kernel
theorem dX0_lineUp_14 : decode cX0_lineUp 14 = .ok (.iconst 3, 1) := by decide +kernel
theorem dX0_lineUp_15 : decode cX0_lineUp 15 = .ok (.if_icmp .gt 10, 3) := by decide +kernel
theorem dX0_lineUp_18 : decode cX0_lineUp 18 = .ok (.aload_n 0, 1) := by decide +kernel
theorem dX0_lineUp_19 : decode cX0_lineUp 19 = .ok (.invokevirtual 74, 3) := by decide +kernel
theorem dX0_lineUp_22 : decode cX0_lineUp 22 = .ok (.goto 16, 3) := by decide +kernel
theorem dX0_lineUp_25 : decode cX0_lineUp 25 = .ok (.aload_n 0, 1) := by decide +kernel
theorem dX0_lineUp_26 : decode cX0_lineUp 26 = .ok (.getfield 33, 3) := by decide +kernel
theorem dX0_lineUp_29 : decode cX0_lineUp 29 = .ok (.bipush 6, 2) := by decide +kernel
theorem dX0_lineUp_31 : decode cX0_lineUp 31 = .ok (.if_icmp .gt 7, 3) := by decide +kernel
theorem dX0_lineUp_34 : decode cX0_lineUp 34 = .ok (.aload_n 0, 1) := by decide +kernel
theorem dX0_lineUp_35 : decode cX0_lineUp 35 = .ok (.invokevirtual 77, 3) := by decide +kernel
theorem dX0_lineUp_38 : decode cX0_lineUp 38 = .ok (.aload_n 0, 1) := by decide +kernel
theorem dX0_lineUp_39 : decode cX0_lineUp 39 = .ok (.getfield 42, 3) := by decide +kernel
theorem dX0_lineUp_42 : decode cX0_lineUp 42 = .ok (.ifCond .ne 9, 3) := by decide +kernel
theorem dX0_lineUp_45 : decode cX0_lineUp 45 = .ok (.aload_n 0, 1) := by decide +kernel
theorem dX0_lineUp_46 : decode cX0_lineUp 46 = .ok (.bipush 7, 2) := by decide +kernel
theorem dX0_lineUp_48 : decode cX0_lineUp 48 = .ok (.putfield 33, 3) := by decide +kernel
theorem dX0_lineUp_51 : decode cX0_lineUp 51 = .ok (.return_, 1) := by decide +kernel
theorem dX0_lineUpByNumber_0 : decode cX0_lineUpByNumber 0 = .ok (.iconst 0, 1) := by decide +kernel
theorem dX0_lineUpByNumber_1 : decode cX0_lineUpByNumber 1 = .ok (.istore_n 1, 1) := by decide +kernel
theorem dX0_lineUpByNumber_2 : decode cX0_lineUpByNumber 2 = .ok (.iload_n 1, 1) := by decide +kernel
theorem dX0_lineUpByNumber_3 : decode cX0_lineUpByNumber 3 = .ok (.aload_n 0, 1) := by decide +kernel
theorem dX0_lineUpByNumber_4 : decode cX0_lineUpByNumber 4 = .ok (.getfield 9, 3) := by decide +kernel
theorem dX0_lineUpByNumber_7 : decode cX0_lineUpByNumber 7 = .ok (.invokevirtual 62, 3) := by decide +kernel
theorem dX0_lineUpByNumber_10 : decode cX0_lineUpByNumber 10 = .ok (.if_icmp .ge 23, 3) := by decide +kernel
theorem dX0_lineUpByNumber_13 : decode cX0_lineUpByNumber 13 = .ok (.aload_n 0, 1) := by decide +kernel
theorem dX0_lineUpByNumber_14 : decode cX0_lineUpByNumber 14 = .ok (.getfield 19, 3) := by decide +kernel
theorem dX0_lineUpByNumber_17 : decode cX0_lineUpByNumber 17 = .ok (.iload_n 1, 1) := by decide +kernel
theorem dX0_lineUpByNumber_18 : decode cX0_lineUpByNumber 18 = .ok (.baload, 1) := by decide +kernel
theorem dX0_lineUpByNumber_19 : decode cX0_lineUpByNumber 19 = .ok (.ifCond .ne 8, 3) := by decide +kernel
theorem dX0_lineUpByNumber_22 : decode cX0_lineUpByNumber 22 = .ok (.aload_n 0, 1) := by decide +kernel
theorem dX0_lineUpByNumber_23 : decode cX0_lineUpByNumber 23 = .ok (.iload_n 1, 1) := by decide +kernel
theorem dX0_lineUpByNumber_24 : decode cX0_lineUpByNumber 24 = .ok (.invokevirtual 80, 3) := by decide +kernel
theorem dX0_lineUpByNumber_27 : decode cX0_lineUpByNumber 27 = .ok (.iinc 1 1, 3) := by decide +kernel
theorem dX0_lineUpByNumber_30 : decode cX0_lineUpByNumber 30 = .ok (.goto (-28), 3) := by decide +kernel
theorem dX0_lineUpByNumber_33 : decode cX0_lineUpByNumber 33 = .ok (.return_, 1) := by decide +kernel
theorem dX0_lineUpByPlace_0 : decode cX0_lineUpByPlace 0 = .ok (.aload_n 0, 1) := by decide +kernel
theorem dX0_lineUpByPlace_1 : decode cX0_lineUpByPlace 1 = .ok (.getfield 9, 3) := by decide +kernel
theorem dX0_lineUpByPlace_4 : decode cX0_lineUpByPlace 4 = .ok (.invokevirtual 62, 3) := by decide +kernel
theorem dX0_lineUpByPlace_7 : decode cX0_lineUpByPlace 7 = .ok (.istore_n 1, 1) := by decide +kernel
theorem dX0_lineUpByPlace_8 : decode cX0_lineUpByPlace 8 = .ok (.iload_n 1, 1) := by decide +kernel
theorem dX0_lineUpByPlace_9 : decode cX0_lineUpByPlace 9 = .ok (.iconst 1, 1) := by decide +kernel
theorem dX0_lineUpByPlace_10 : decode cX0_lineUpByPlace 10 = .ok (.if_icmp .lt 62, 3) := by decide +kernel
theorem dX0_lineUpByPlace_13 : decode cX0_lineUpByPlace 13 = .ok (.aload_n 0, 1) := by decide +kernel
theorem dX0_lineUpByPlace_14 : decode cX0_lineUpByPlace 14 = .ok (.getfield 9, 3) := by decide +kernel
theorem dX0_lineUpByPlace_17 : decode cX0_lineUpByPlace 17 = .ok (.invokevirtual 62, 3) := by decide +kernel
theorem dX0_lineUpByPlace_20 : decode cX0_lineUpByPlace 20 = .ok (.iconst 1, 1) := by decide +kernel
theorem dX0_lineUpByPlace_21 : decode cX0_lineUpByPlace 21 = .ok (.isub, 1) := by decide +kernel
theorem dX0_lineUpByPlace_22 : decode cX0_lineUpByPlace 22 = .ok (.istore_n 2, 1) := by decide +kernel
theorem dX0_lineUpByPlace_23 : decode cX0_lineUpByPlace 23 = .ok (.iload_n 2, 1) := by decide +kernel
theorem dX0_lineUpByPlace_24 : decode cX0_lineUpByPlace 24 = .ok (.ifCond .lt 42, 3) := by decide +kernel
theorem dX0_lineUpByPlace_27 : decode cX0_lineUpByPlace 27 = .ok (.aload_n 0, 1) := by decide +kernel
theorem dX0_lineUpByPlace_28 : decode cX0_lineUpByPlace 28 = .ok (.getfield 26, 3) := by decide +kernel
theorem dX0_lineUpByPlace_31 : decode cX0_lineUpByPlace 31 = .ok (.iload_n 2, 1) := by decide +kernel
theorem dX0_lineUpByPlace_32 : decode cX0_lineUpByPlace 32 = .ok (.iaload, 1) := by decide +kernel
theorem dX0_lineUpByPlace_33 : decode cX0_lineUpByPlace 33 = .ok (.iload_n 1, 1) := by decide +kernel
theorem dX0_lineUpByPlace_34 : decode cX0_lineUpByPlace 34 = .ok (.if_icmp .ne 26, 3) := by decide +kernel
theorem dX0_lineUpByPlace_37 : decode cX0_lineUpByPlace 37 = .ok (.aload_n 0, 1) := by decide +kernel
theorem dX0_lineUpByPlace_38 : decode cX0_lineUpByPlace 38 = .ok (.getfield 23, 3) := by decide +kernel
theorem dX0_lineUpByPlace_41 : decode cX0_lineUpByPlace 41 = .ok (.iload_n 2, 1) := by decide +kernel
theorem dX0_lineUpByPlace_42 : decode cX0_lineUpByPlace 42 = .ok (.baload, 1) := by decide +kernel
theorem dX0_lineUpByPlace_43 : decode cX0_lineUpByPlace 43 = .ok (.ifCond .eq 17, 3) := by decide +kernel
theorem dX0_lineUpByPlace_46 : decode cX0_lineUpByPlace 46 = .ok (.aload_n 0, 1) := by decide +kernel
theorem dX0_lineUpByPlace_47 : decode cX0_lineUpByPlace 47 = .ok (.getfield 19, 3) := by decide +kernel
theorem dX0_lineUpByPlace_50 : decode cX0_lineUpByPlace 50 = .ok (.iload_n 2, 1) := by decide +kernel
theorem dX0_lineUpByPlace_51 : decode cX0_lineUpByPlace 51 = .ok (.baload, 1) := by decide +kernel
theorem dX0_lineUpByPlace_52 : decode cX0_lineUpByPlace 52 = .ok (.ifCond .ne 8, 3) := by decide +kernel
theorem dX0_lineUpByPlace_55 : decode cX0_lineUpByPlace 55 = .ok (.aload_n 0, 1) := by decide +kernel
theorem dX0_lineUpByPlace_56 : decode cX0_lineUpByPlace 56 = .ok (.iload_n 2, 1) := by decide +kernel
theorem dX0_lineUpByPlace_57 : decode cX0_lineUpByPlace 57 = .ok (.invokevirtual 80, 3) := by decide +kernel
theorem dX0_lineUpByPlace_60 : decode cX0_lineUpByPlace 60 = .ok (.iinc 2 (-1), 3) := by decide +kernel
theorem dX0_lineUpByPlace_63 : decode cX0_lineUpByPlace 63 = .ok (.goto (-40), 3) := by decide +kernel
theorem dX0_lineUpByPlace_66 : decode cX0_lineUpByPlace 66 = .ok (.iinc 1 (-1), 3) := by decide +kernel
theorem dX0_lineUpByPlace_69 : decode cX0_lineUpByPlace 69 = .ok (.goto (-61), 3) := by decide +kernel
theorem dX0_lineUpByPlace_72 : decode cX0_lineUpByPlace 72 = .ok (.return_, 1) := by decide +kernel
theorem dX0_putInLine_0 : decode cX0_putInLine 0 = .ok (.aload_n 0, 1) := by decide +kernel
theorem dX0_putInLine_1 : decode cX0_putInLine 1 = .ok (.getfield 42, 3) := by decide +kernel
theorem dX0_putInLine_4 : decode cX0_putInLine 4 = .ok (.bipush 12, 2) := by decide +kernel
theorem dX0_putInLine_6 : decode cX0_putInLine 6 = .ok (.if_icmp .ge 23, 3) := by decide +kernel
theorem dX0_putInLine_9 : decode cX0_putInLine 9 = .ok (.aload_n 0, 1) := by decide +kernel
theorem dX0_putInLine_10 : decode cX0_putInLine 10 = .ok (.getfield 15, 3) := by decide +kernel
theorem dX0_putInLine_13 : decode cX0_putInLine 13 = .ok (.aload_n 0, 1) := by decide +kernel
theorem dX0_putInLine_14 : decode cX0_putInLine 14 = .ok (.getfield 42, 3) := by decide +kernel
theorem dX0_putInLine_17 : decode cX0_putInLine 17 = .ok (.iload_n 1, 1) := by decide +kernel
theorem dX0_putInLine_18 : decode cX0_putInLine 18 = .ok (.iastore, 1) := by decide +kernel
theorem dX0_putInLine_19 : decode cX0_putInLine 19 = .ok (.aload_n 0, 1) := by decide +kernel
theorem dX0_putInLine_20 : decode cX0_putInLine 20 = .ok (.dup, 1) := by decide +kernel
theorem dX0_putInLine_21 : decode cX0_putInLine 21 = .ok (.getfield 42, 3) := by decide +kernel
theorem dX0_putInLine_24 : decode cX0_putInLine 24 = .ok (.iconst 1, 1) := by decide +kernel
theorem dX0_putInLine_25 : decode cX0_putInLine 25 = .ok (.iadd, 1) := by decide +kernel
theorem dX0_putInLine_26 : decode cX0_putInLine 26 = .ok (.putfield 42, 3) := by decide +kernel
theorem dX0_putInLine_29 : decode cX0_putInLine 29 = .ok (.return_, 1) := by decide +kernel
