theorem dX3_init_0 : decode cX3_init 0 = .ok (.aload_n 0, 1) := by decide +kernel
theorem dX3_init_1 : decode cX3_init 1 = .ok (.invokespecial 1, 3) := by decide +kernel
theorem dX3_init_4 : decode cX3_init 4 = .ok (.aload_n 0, 1) := by decide +kernel
theorem dX3_init_5 : decode cX3_init 5 = .ok (.bipush 84, 2) := by decide +kernel
theorem dX3_init_7 : decode cX3_init 7 = .ok (.newarray .int, 2) := by decide +kernel
theorem dX3_init_9 : decode cX3_init 9 = .ok (.putfield 7, 3) := by decide +kernel
theorem dX3_init_12 : decode cX3_init 12 = .ok (.aload_n 0, 1) := by decide +kernel
theorem dX3_init_13 : decode cX3_init 13 = .ok (.bipush 84, 2) := by decide +kernel
theorem dX3_init_15 : decode cX3_init 15 = .ok (.newarray .int, 2) := by decide +kernel
theorem dX3_init_17 : decode cX3_init 17 = .ok (.putfield 13, 3) := by decide +kernel
theorem dX3_init_20 : decode cX3_init 20 = .ok (.aload_n 0, 1) := by decide +kernel
theorem dX3_init_21 : decode cX3_init 21 = .ok (.bipush 84, 2) := by decide +kernel
theorem dX3_init_23 : decode cX3_init 23 = .ok (.newarray .boolean, 2) := by decide +kernel
theorem dX3_init_25 : decode cX3_init 25 = .ok (.putfield 16, 3) := by decide +kernel
theorem dX3_init_28 : decode cX3_init 28 = .ok (.aload_n 0, 1) := by decide +kernel
theorem dX3_init_29 : decode cX3_init 29 = .ok (.bipush 84, 2) := by decide +kernel
theorem dX3_init_31 : decode cX3_init 31 = .ok (.newarray .int, 2) := by decide +kernel
theorem dX3_init_33 : decode cX3_init 33 = .ok (.putfield 20, 3) := by decide +kernel
theorem dX3_init_36 : decode cX3_init 36 = .ok (.aload_n 0, 1) := by decide +kernel
theorem dX3_init_37 : decode cX3_init 37 = .ok (.bipush 84, 2) := by decide +kernel
theorem dX3_init_39 : decode cX3_init 39 = .ok (.newarray .boolean, 2) := by decide +kernel
theorem dX3_init_41 : decode cX3_init 41 = .ok (.putfield 23, 3) := by decide +kernel
theorem dX3_init_44 : decode cX3_init 44 = .ok (.aload_n 0, 1) := by decide +kernel
theorem dX3_init_45 : decode cX3_init 45 = .ok (.bipush 12, 2) := by decide +kernel
theorem dX3_init_47 : decode cX3_init 47 = .ok (.newarray .int, 2) := by decide +kernel
theorem dX3_init_49 : decode cX3_init 49 = .ok (.putfield 26, 3) := by decide +kernel
theorem dX3_init_52 : decode cX3_init 52 = .ok (.aload_n 0, 1) := by decide +kernel
theorem dX3_init_53 : decode cX3_init 53 = .ok (.bipush 12, 2) := by decide +kernel
theorem dX3_init_55 : decode cX3_init 55 = .ok (.newarray .boolean, 2) := by decide +kernel
theorem dX3_init_57 : decode cX3_init 57 = .ok (.putfield 29, 3) := by decide +kernel
theorem dX3_init_60 : decode cX3_init 60 = .ok (.aload_n 0, 1) := by decide +kernel
theorem dX3_init_61 : decode cX3_init 61 = .ok (.bipush 12, 2) := by decide +kernel
theorem dX3_init_63 : decode cX3_init 63 = .ok (.newarray .boolean, 2) := by decide +kernel
theorem dX3_init_65 : decode cX3_init 65 = .ok (.putfield 32, 3) := by decide +kernel
theorem dX3_init_68 : decode cX3_init 68 = .ok (.aload_n 0, 1) := by decide +kernel
theorem dX3_init_69 : decode cX3_init 69 = .ok (.bipush 12, 2) := by decide +kernel
theorem dX3_init_71 : decode cX3_init 71 = .ok (.newarray .int, 2) := by decide +kernel
theorem dX3_init_73 : decode cX3_init 73 = .ok (.putfield 35, 3) := by decide +kernel
theorem dX3_init_76 : decode cX3_init 76 = .ok (.aload_n 0, 1) := by decide +kernel
theorem dX3_init_77 : decode cX3_init 77 = .ok (.iconst 1, 1) := by decide +kernel
theorem dX3_init_78 : decode cX3_init 78 = .ok (.putfield 38, 3) := by decide +kernel
theorem dX3_init_81 : decode cX3_init 81 = .ok (.aload_n 0, 1) := by decide +kernel
theorem dX3_init_82 : decode cX3_init 82 = .ok (.bipush 6, 2) := by decide +kernel
theorem dX3_init_84 : decode cX3_init 84 = .ok (.newarray .int, 2) := by decide +kernel
theorem dX3_init_86 : decode cX3_init 86 = .ok (.putfield 42, 3) := by decide +kernel
theorem dX3_init_89 : decode cX3_init 89 = .ok (.aload_n 0, 1) := by decide +kernel
theorem dX3_init_90 : decode cX3_init 90 = .ok (.bipush 6, 2) := by decide +kernel
theorem dX3_init_92 : decode cX3_init 92 = .ok (.newarray .int, 2) := by decide +kernel
theorem dX3_init_94 : decode cX3_init 94 = .ok (.putfield 45, 3) := by decide +kernel
theorem dX3_init_97 : decode cX3_init 97 = .ok (.aload_n 0, 1) := by decide +kernel
theorem dX3_init_98 : decode cX3_init 98 = .ok (.iload_n 1, 1) := by decide +kernel
theorem dX3_init_99 : decode cX3_init 99 = .ok (.iconst 3, 1) := by decide +kernel
theorem dX3_init_100 : decode cX3_init 100 = .ok (.bipush 12, 2) := by decide +kernel
theorem dX3_init_102 : decode cX3_init 102 = .ok (.invokestatic 48, 3) := by decide +kernel
theorem dX3_init_105 : decode cX3_init 105 = .ok (.ifCond .eq 7, 3) := by decide +kernel
theorem dX3_init_108 : decode cX3_init 108 = .ok (.iload_n 1, 1) := by decide +kernel
theorem dX3_init_109 : decode cX3_init 109 = .ok (.goto 5, 3) := by decide +kernel
theorem dX3_init_112 : decode cX3_init 112 = .ok (.bipush 8, 2) := by decide +kernel
theorem dX3_init_114 : decode cX3_init 114 = .ok (.invokevirtual 52, 3) := by decide +kernel
theorem dX3_init_117 : decode cX3_init 117 = .ok (.return_, 1) := by decide +kernel
theorem dX3_thrown_0 : decode cX3_thrown 0 = .ok (.aload_n 0, 1) := by decide +kernel
theorem dX3_thrown_1 : decode cX3_thrown 1 = .ok (.getfield 56, 3) := by decide +kernel
theorem dX3_thrown_4 : decode cX3_thrown 4 = .ok (.ireturn, 1) := by decide +kernel
theorem dX3_in_0 : decode cX3_in 0 = .ok (.iload_n 0, 1) := by decide +kernel
theorem dX3_in_1 : decode cX3_in 1 = .ok (.iload_n 1, 1) := by decide +kernel
theorem dX3_in_2 : decode cX3_in 2 = .ok (.if_icmp .lt 12, 3) := by decide +kernel
theorem dX3_in_5 : decode cX3_in 5 = .ok (.iload_n 0, 1) := by decide +kernel
theorem dX3_in_6 : decode cX3_in 6 = .ok (.iload_n 2, 1) := by decide +kernel
theorem dX3_in_7 : decode cX3_in 7 = .ok (.if_icmp .gt 7, 3) := by decide +kernel
theorem dX3_in_10 : decode cX3_in 10 = .ok (.iconst 1, 1) := by decide +kernel
theorem dX3_in_11 : decode cX3_in 11 = .ok (.goto 4, 3) := by decide +kernel
theorem dX3_in_14 : decode cX3_in 14 = .ok (.iconst 0, 1) := by decide +kernel
theorem dX3_in_15 : decode cX3_in 15 = .ok (.ireturn, 1) := by decide +kernel
theorem dX3_begin_0 : decode cX3_begin 0 = .ok (.aload_n 0, 1) := by decide +kernel
theorem dX3_begin_1 : decode cX3_begin 1 = .ok (.iload_n 1, 1) := by decide +kernel
theorem dX3_begin_2 : decode cX3_begin 2 = .ok (.putfield 60, 3) := by decide +kernel
theorem dX3_begin_5 : decode cX3_begin 5 = .ok (.iconst 0, 1) := by decide +kernel
theorem dX3_begin_6 : decode cX3_begin 6 = .ok (.istore_n 2, 1) := by decide +kernel
theorem dX3_begin_7 : decode cX3_begin 7 = .ok (.iload_n 2, 1) := by decide +kernel
theorem dX3_begin_8 : decode cX3_begin 8 = .ok (.bipush 84, 2) := by decide +kernel
theorem dX3_begin_10 : decode cX3_begin 10 = .ok (.if_icmp .ge 30, 3) := by decide +kernel
theorem dX3_begin_13 : decode cX3_begin 13 = .ok (.aload_n 0, 1) := by decide +kernel
theorem dX3_begin_14 : decode cX3_begin 14 = .ok (.getfield 7, 3) := by decide +kernel
theorem dX3_begin_17 : decode cX3_begin 17 = .ok (.iload_n 2, 1) := by decide +kernel
theorem dX3_begin_18 : decode cX3_begin 18 = .ok (.iconst 0, 1) := by decide +kernel
theorem dX3_begin_19 : decode cX3_begin 19 = .ok (.iastore, 1) := by decide +kernel
theorem dX3_begin_20 : decode cX3_begin 20 = .ok (.aload_n 0, 1) := by decide +kernel
theorem dX3_begin_21 : decode cX3_begin 21 = .ok (.getfield 16, 3) := by decide +kernel
theorem dX3_begin_24 : decode cX3_begin 24 = .ok (.iload_n 2, 1) := by decide +kernel
theorem dX3_begin_25 : decode cX3_begin 25 = .ok (.iconst 0, 1) := by decide +kernel
theorem dX3_begin_26 : decode cX3_begin 26 = .ok (.bastore, 1) := by decide +kernel
theorem dX3_begin_27 : decode cX3_begin 27 = .ok (.aload_n 0, 1) := by decide +kernel
theorem dX3_begin_28 : decode cX3_begin 28 = .ok (.getfield 23, 3) := by decide +kernel
theorem dX3_begin_31 : decode cX3_begin 31 = .ok (.iload_n 2, 1) := by decide +kernel
theorem dX3_begin_32 : decode cX3_begin 32 = .ok (.iconst 0, 1) := by decide +kernel
theorem dX3_begin_33 : decode cX3_begin 33 = .ok (.bastore, 1) := by decide +kernel
theorem dX3_begin_34 : decode cX3_begin 34 = .ok (.iinc 2 1, 3) := by decide +kernel
theorem dX3_begin_37 : decode cX3_begin 37 = .ok (.goto (-30), 3) := by decide +kernel
theorem dX3_begin_40 : decode cX3_begin 40 = .ok (.iconst 0, 1) := by decide +kernel
theorem dX3_begin_41 : decode cX3_begin 41 = .ok (.istore_n 2, 1) := by decide +kernel
theorem dX3_begin_42 : decode cX3_begin 42 = .ok (.iload_n 2, 1) := by decide +kernel
theorem dX3_begin_43 : decode cX3_begin 43 = .ok (.bipush 12, 2) := by decide +kernel
theorem dX3_begin_45 : decode cX3_begin 45 = .ok (.if_icmp .ge 30, 3) := by decide +kernel
theorem dX3_begin_48 : decode cX3_begin 48 = .ok (.aload_n 0, 1) := by decide +kernel
theorem dX3_begin_49 : decode cX3_begin 49 = .ok (.getfield 26, 3) := by decide +kernel
theorem dX3_begin_52 : decode cX3_begin 52 = .ok (.iload_n 2, 1) := by decide +kernel
theorem dX3_begin_53 : decode cX3_begin 53 = .ok (.iconst 0, 1) := by decide +kernel
theorem dX3_begin_54 : decode cX3_begin 54 = .ok (.iastore, 1) := by decide +kernel
theorem dX3_begin_55 : decode cX3_begin 55 = .ok (.aload_n 0, 1) := by decide +kernel
theorem dX3_begin_56 : decode cX3_begin 56 = .ok (.getfield 29, 3) := by decide +kernel
theorem dX3_begin_59 : decode cX3_begin 59 = .ok (.iload_n 2, 1) := by decide +kernel
theorem dX3_begin_60 : decode cX3_begin 60 = .ok (.iconst 0, 1) := by decide +kernel
theorem dX3_begin_61 : decode cX3_begin 61 = .ok (.bastore, 1) := by decide +kernel
theorem dX3_begin_62 : decode cX3_begin 62 = .ok (.aload_n 0, 1) := by decide +kernel
theorem dX3_begin_63 : decode cX3_begin 63 = .ok (.getfield 32, 3) := by decide +kernel
theorem dX3_begin_66 : decode cX3_begin 66 = .ok (.iload_n 2, 1) := by decide +kernel
theorem dX3_begin_67 : decode cX3_begin 67 = .ok (.iconst 1, 1) := by decide +kernel
theorem dX3_begin_68 : decode cX3_begin 68 = .ok (.bastore, 1) := by decide +kernel
theorem dX3_begin_69 : decode cX3_begin 69 = .ok (.iinc 2 1, 3) := by decide +kernel
theorem dX3_begin_72 : decode cX3_begin 72 = .ok (.goto (-30), 3) := by decide +kernel
theorem dX3_begin_75 : decode cX3_begin 75 = .ok (.aload_n 0, 1) := by decide +kernel
theorem dX3_begin_76 : decode cX3_begin 76 = .ok (.iconst 0, 1) := by decide +kernel
theorem dX3_begin_77 : decode cX3_begin 77 = .ok (.putfield 63, 3) := by decide +kernel
theorem dX3_begin_80 : decode cX3_begin 80 = .ok (.aload_n 0, 1) := by decide +kernel
theorem dX3_begin_81 : decode cX3_begin 81 = .ok (.invokevirtual 66, 3) := by decide +kernel
theorem dX3_begin_84 : decode cX3_begin 84 = .ok (.return_, 1) := by decide +kernel
theorem dX3_open_0 : decode cX3_open 0 = .ok (.aload_n 0, 1) := by decide +kernel
theorem dX3_open_1 : decode cX3_open 1 = .ok (.iload_n 1, 1) := by decide +kernel
theorem dX3_open_2 : decode cX3_open 2 = .ok (.iconst 3, 1) := by decide +kernel
theorem dX3_open_3 : decode cX3_open 3 = .ok (.bipush 12, 2) := by decide +kernel
theorem dX3_open_5 : decode cX3_open 5 = .ok (.invokestatic 48, 3) := by decide +kernel
theorem dX3_open_8 : decode cX3_open 8 = .ok (.ifCond .eq 7, 3) := by decide +kernel
theorem dX3_open_11 : decode cX3_open 11 = .ok (.iconst 0, 1) := by decide +kernel
theorem dX3_open_12 : decode cX3_open 12 = .ok (.goto 4, 3) := by decide +kernel
theorem dX3_open_15 : decode cX3_open 15 = .ok (.iconst 1, 1) := by decide +kernel
theorem dX3_open_16 : decode cX3_open 16 = .ok (.putfield 56, 3) := by decide +kernel
theorem dX3_open_19 : decode cX3_open 19 = .ok (.aload_n 0, 1) := by decide +kernel
theorem dX3_open_20 : decode cX3_open 20 = .ok (.getfield 56, 3) := by decide +kernel
theorem dX3_open_23 : decode cX3_open 23 = .ok (.ifCond .ne 8, 3) := by decide +kernel
theorem dX3_open_26 : decode cX3_open 26 = .ok (.aload_n 0, 1) := by decide +kernel
theorem dX3_open_27 : decode cX3_open 27 = .ok (.iload_n 1, 1) := by decide +kernel
theorem dX3_open_28 : decode cX3_open 28 = .ok (.invokevirtual 52, 3) := by decide +kernel
theorem dX3_open_31 : decode cX3_open 31 = .ok (.return_, 1) := by decide +kernel
theorem dX3_isIn_0 : decode cX3_isIn 0 = .ok (.aload_n 0, 1) := by decide +kernel
theorem dX3_isIn_1 : decode cX3_isIn 1 = .ok (.getfield 32, 3) := by decide +kernel
theorem dX3_isIn_4 : decode cX3_isIn 4 = .ok (.iload_n 1, 1) := by decide +kernel
theorem dX3_isIn_5 : decode cX3_isIn 5 = .ok (.baload, 1) := by decide +kernel
theorem dX3_isIn_6 : decode cX3_isIn 6 = .ok (.ifCond .eq 16, 3) := by decide +kernel
theorem dX3_isIn_9 : decode cX3_isIn 9 = .ok (.aload_n 0, 1) := by decide +kernel
theorem dX3_isIn_10 : decode cX3_isIn 10 = .ok (.getfield 29, 3) := by decide +kernel
theorem dX3_isIn_13 : decode cX3_isIn 13 = .ok (.iload_n 1, 1) := by decide +kernel
theorem dX3_isIn_14 : decode cX3_isIn 14 = .ok (.baload, 1) := by decide +kernel
theorem dX3_isIn_15 : decode cX3_isIn 15 = .ok (.ifCond .ne 7, 3) := by decide +kernel
theorem dX3_isIn_18 : decode cX3_isIn 18 = .ok (.iconst 1, 1) := by decide +kernel
theorem dX3_isIn_19 : decode cX3_isIn 19 = .ok (.goto 4, 3) := by decide +kernel
theorem dX3_isIn_22 : decode cX3_isIn 22 = .ok (.iconst 0, 1) := by decide +kernel
theorem dX3_isIn_23 : decode cX3_isIn 23 = .ok (.ireturn, 1) := by decide +kernel
theorem dX3_nextDay_0 : decode cX3_nextDay 0 = .ok (.aload_n 0, 1) := by decide +kernel
theorem dX3_nextDay_1 : decode cX3_nextDay 1 = .ok (.getfield 63, 3) := by decide +kernel
theorem dX3_nextDay_4 : decode cX3_nextDay 4 = .ok (.iconst 3, 1) := by decide +kernel
theorem dX3_nextDay_5 : decode cX3_nextDay 5 = .ok (.if_icmp .ne 52, 3) := by decide +kernel
theorem dX3_nextDay_8 : decode cX3_nextDay 8 = .ok (.iconst 0, 1) := by decide +kernel
theorem dX3_nextDay_9 : decode cX3_nextDay 9 = .ok (.istore_n 1, 1) := by decide +kernel
theorem dX3_nextDay_10 : decode cX3_nextDay 10 = .ok (.iload_n 1, 1) := by decide +kernel
theorem dX3_nextDay_11 : decode cX3_nextDay 11 = .ok (.aload_n 0, 1) := by decide +kernel
theorem dX3_nextDay_12 : decode cX3_nextDay 12 = .ok (.getfield 60, 3) := by decide +kernel
theorem dX3_nextDay_15 : decode cX3_nextDay 15 = .ok (.if_icmp .ge 42, 3) := by decide +kernel
theorem dX3_nextDay_18 : decode cX3_nextDay 18 = .ok (.aload_n 0, 1) := by decide +kernel
theorem dX3_nextDay_19 : decode cX3_nextDay 19 = .ok (.getfield 32, 3) := by decide +kernel
theorem dX3_nextDay_22 : decode cX3_nextDay 22 = .ok (.iload_n 1, 1) := by decide +kernel
theorem dX3_nextDay_23 : decode cX3_nextDay 23 = .ok (.aload_n 0, 1) := by decide +kernel
theorem dX3_nextDay_24 : decode cX3_nextDay 24 = .ok (.iload_n 1, 1) := by decide +kernel
theorem dX3_nextDay_25 : decode cX3_nextDay 25 = .ok (.aload_n 0, 1) := by decide +kernel
theorem dX3_nextDay_26 : decode cX3_nextDay 26 = .ok (.getfield 42, 3) := by decide +kernel
theorem dX3_nextDay_29 : decode cX3_nextDay 29 = .ok (.invokevirtual 69, 3) := by decide +kernel
theorem dX3_nextDay_32 : decode cX3_nextDay 32 = .ok (.ifCond .le 17, 3) := by decide +kernel
theorem dX3_nextDay_35 : decode cX3_nextDay 35 = .ok (.aload_n 0, 1) := by decide +kernel
theorem dX3_nextDay_36 : decode cX3_nextDay 36 = .ok (.iload_n 1, 1) := by decide +kernel
theorem dX3_nextDay_37 : decode cX3_nextDay 37 = .ok (.invokevirtual 73, 3) := by decide +kernel
theorem dX3_nextDay_40 : decode cX3_nextDay 40 = .ok (.bipush 8, 2) := by decide +kernel
theorem dX3_nextDay_42 : decode cX3_nextDay 42 = .ok (.if_icmp .gt 7, 3) := by decide +kernel
theorem dX3_nextDay_45 : decode cX3_nextDay 45 = .ok (.iconst 1, 1) := by decide +kernel
theorem dX3_nextDay_46 : decode cX3_nextDay 46 = .ok (.goto 4, 3) := by decide +kernel
theorem dX3_nextDay_49 : decode cX3_nextDay 49 = .ok (.iconst 0, 1) := by decide +kernel
theorem dX3_nextDay_50 : decode cX3_nextDay 50 = .ok (.bastore, 1) := by decide +kernel
theorem dX3_nextDay_51 : decode cX3_nextDay 51 = .ok (.iinc 1 1, 3) := by decide +kernel
theorem dX3_nextDay_54 : decode cX3_nextDay 54 = .ok (.goto (-44), 3) := by decide +kernel
theorem dX3_nextDay_57 : decode cX3_nextDay 57 = .ok (.aload_n 0, 1) := by decide +kernel
theorem dX3_nextDay_58 : decode cX3_nextDay 58 = .ok (.getfield 63, 3) := by decide +kernel
theorem dX3_nextDay_61 : decode cX3_nextDay 61 = .ok (.iconst 3, 1) := by decide +kernel
theorem dX3_nextDay_62 : decode cX3_nextDay 62 = .ok (.if_icmp .ge 37, 3) := by decide +kernel
theorem dX3_nextDay_65 : decode cX3_nextDay 65 = .ok (.aload_n 0, 1) := by decide +kernel
theorem dX3_nextDay_66 : decode cX3_nextDay 66 = .ok (.aload_n 0, 1) := by decide +kernel
theorem dX3_nextDay_67 : decode cX3_nextDay 67 = .ok (.getfield 60, 3) := by decide +kernel
theorem dX3_nextDay_70 : decode cX3_nextDay 70 = .ok (.putfield 77, 3) := by decide +kernel
theorem dX3_nextDay_73 : decode cX3_nextDay 73 = .ok (.iconst 0, 1) := by decide +kernel
theorem dX3_nextDay_74 : decode cX3_nextDay 74 = .ok (.istore_n 1, 1) := by decide +kernel
theorem dX3_nextDay_75 : decode cX3_nextDay 75 = .ok (.iload_n 1, 1) := by decide +kernel
theorem dX3_nextDay_76 : decode cX3_nextDay 76 = .ok (.aload_n 0, 1) := by decide +kernel
theorem dX3_nextDay_77 : decode cX3_nextDay 77 = .ok (.getfield 60, 3) := by decide +kernel
theorem dX3_nextDay_80 : decode cX3_nextDay 80 = .ok (.if_icmp .ge 16, 3) := by decide +kernel
theorem dX3_nextDay_83 : decode cX3_nextDay 83 = .ok (.aload_n 0, 1) := by decide +kernel
theorem dX3_nextDay_84 : decode cX3_nextDay 84 = .ok (.getfield 35, 3) := by decide +kernel
theorem dX3_nextDay_87 : decode cX3_nextDay 87 = .ok (.iload_n 1, 1) := by decide +kernel
theorem dX3_nextDay_88 : decode cX3_nextDay 88 = .ok (.iload_n 1, 1) := by decide +kernel
theorem dX3_nextDay_89 : decode cX3_nextDay 89 = .ok (.iastore, 1) := by decide +kernel
theorem dX3_nextDay_90 : decode cX3_nextDay 90 = .ok (.iinc 1 1, 3) := by decide +kernel
theorem dX3_nextDay_93 : decode cX3_nextDay 93 = .ok (.goto (-18), 3) := by decide +kernel
theorem dX3_nextDay_96 : decode cX3_nextDay 96 = .ok (.goto 23, 3) := by decide +kernel
theorem dX3_nextDay_99 : decode cX3_nextDay 99 = .ok (.aload_n 0, 1) := by decide +kernel
theorem dX3_nextDay_100 : decode cX3_nextDay 100 = .ok (.getfield 63, 3) := by decide +kernel
theorem dX3_nextDay_103 : decode cX3_nextDay 103 = .ok (.iconst 3, 1) := by decide +kernel
theorem dX3_nextDay_104 : decode cX3_nextDay 104 = .ok (.if_icmp .eq 11, 3) := by decide +kernel
theorem dX3_nextDay_107 : decode cX3_nextDay 107 = .ok (.aload_n 0, 1) := by decide +kernel
theorem dX3_nextDay_108 : decode cX3_nextDay 108 = .ok (.getfield 63, 3) := by decide +kernel
theorem dX3_nextDay_111 : decode cX3_nextDay 111 = .ok (.iconst 5, 1) := by decide +kernel
theorem dX3_nextDay_112 : decode cX3_nextDay 112 = .ok (.if_icmp .ne 7, 3) := by decide +kernel
theorem dX3_nextDay_115 : decode cX3_nextDay 115 = .ok (.aload_n 0, 1) := by decide +kernel
theorem dX3_nextDay_116 : decode cX3_nextDay 116 = .ok (.invokevirtual 80, 3) := by decide +kernel
theorem dX3_nextDay_119 : decode cX3_nextDay 119 = .ok (.aload_n 0, 1) := by decide +kernel
theorem dX3_nextDay_120 : decode cX3_nextDay 120 = .ok (.aload_n 0, 1) := by decide +kernel
theorem dX3_nextDay_121 : decode cX3_nextDay 121 = .ok (.getfield 63, 3) := by decide +kernel
theorem dX3_nextDay_124 : decode cX3_nextDay 124 = .ok (.bipush 6, 2) := by decide +kernel
theorem dX3_nextDay_126 : decode cX3_nextDay 126 = .ok (.if_icmp .ne 8, 3) := by decide +kernel
theorem dX3_nextDay_129 : decode cX3_nextDay 129 = .ok (.bipush 7, 2) := by decide +kernel
theorem dX3_nextDay_131 : decode cX3_nextDay 131 = .ok (.goto 9, 3) := by decide +kernel
theorem dX3_nextDay_134 : decode cX3_nextDay 134 = .ok (.aload_n 0, 1) := by decide +kernel
theorem dX3_nextDay_135 : decode cX3_nextDay 135 = .ok (.getfield 63, 3) := by decide +kernel
theorem dX3_nextDay_138 : decode cX3_nextDay 138 = .ok (.iconst 1, 1) := by decide +kernel
theorem dX3_nextDay_139 : decode cX3_nextDay 139 = .ok (.iadd, 1) := by decide +kernel
theorem dX3_nextDay_140 : decode cX3_nextDay 140 = .ok (.putfield 63, 3) := by decide +kernel
theorem dX3_nextDay_143 : decode cX3_nextDay 143 = .ok (.aload_n 0, 1) := by decide +kernel
theorem dX3_nextDay_144 : decode cX3_nextDay 144 = .ok (.iconst (-1), 1) := by decide +kernel
theorem dX3_nextDay_145 : decode cX3_nextDay 145 = .ok (.putfield 83, 3) := by decide +kernel
theorem dX3_nextDay_148 : decode cX3_nextDay 148 = .ok (.aload_n 0, 1) := by decide +kernel
theorem dX3_nextDay_149 : decode cX3_nextDay 149 = .ok (.invokevirtual 86, 3) := by decide +kernel
theorem dX3_nextDay_152 : decode cX3_nextDay 152 = .ok (.aload_n 0, 1) := by decide +kernel
theorem dX3_nextDay_153 : decode cX3_nextDay 153 = .ok (.getfield 83, 3) := by decide +kernel
theorem dX3_nextDay_156 : decode cX3_nextDay 156 = .ok (.aload_n 0, 1) := by decide +kernel
theorem dX3_nextDay_157 : decode cX3_nextDay 157 = .ok (.getfield 77, 3) := by decide +kernel
theorem dX3_nextDay_160 : decode cX3_nextDay 160 = .ok (.if_icmp .ne 9, 3) := by decide +kernel
theorem dX3_nextDay_163 : decode cX3_nextDay 163 = .ok (.aload_n 0, 1) := by decide +kernel
theorem dX3_nextDay_164 : decode cX3_nextDay 164 = .ok (.bipush 7, 2) := by decide +kernel
theorem dX3_nextDay_166 : decode cX3_nextDay 166 = .ok (.putfield 63, 3) := by decide +kernel
theorem dX3_nextDay_169 : decode cX3_nextDay 169 = .ok (.return_, 1) := by decide +kernel
theorem dX3_byPlaces_0 : decode cX3_byPlaces 0 = .ok (.aload_n 0, 1) := by decide +kernel
theorem dX3_byPlaces_1 : decode cX3_byPlaces 1 = .ok (.iconst 0, 1) := by decide +kernel
theorem dX3_byPlaces_2 : decode cX3_byPlaces 2 = .ok (.putfield 77, 3) := by decide +kernel
theorem dX3_byPlaces_5 : decode cX3_byPlaces 5 = .ok (.aload_n 0, 1) := by decide +kernel
theorem dX3_byPlaces_6 : decode cX3_byPlaces 6 = .ok (.getfield 60, 3) := by decide +kernel
theorem dX3_byPlaces_9 : decode cX3_byPlaces 9 = .ok (.istore_n 1, 1) := by decide +kernel
theorem dX3_byPlaces_10 : decode cX3_byPlaces 10 = .ok (.iload_n 1, 1) := by decide +kernel
theorem dX3_byPlaces_11 : decode cX3_byPlaces 11 = .ok (.ifCond .le 64, 3) := by decide +kernel
theorem dX3_byPlaces_14 : decode cX3_byPlaces 14 = .ok (.aload_n 0, 1) := by decide +kernel
theorem dX3_byPlaces_15 : decode cX3_byPlaces 15 = .ok (.getfield 60, 3) := by decide +kernel
theorem dX3_byPlaces_18 : decode cX3_byPlaces 18 = .ok (.iconst 1, 1) := by decide +kernel
theorem dX3_byPlaces_19 : decode cX3_byPlaces 19 = .ok (.isub, 1) := by decide +kernel
theorem dX3_byPlaces_20 : decode cX3_byPlaces 20 = .ok (.istore_n 2, 1) := by decide +kernel
theorem dX3_byPlaces_21 : decode cX3_byPlaces 21 = .ok (.iload_n 2, 1) := by decide +kernel
theorem dX3_byPlaces_22 : decode cX3_byPlaces 22 = .ok (.ifCond .lt 47, 3) := by decide +kernel
theorem dX3_byPlaces_25 : decode cX3_byPlaces 25 = .ok (.aload_n 0, 1) := by decide +kernel
theorem dX3_byPlaces_26 : decode cX3_byPlaces 26 = .ok (.getfield 32, 3) := by decide +kernel
theorem dX3_byPlaces_29 : decode cX3_byPlaces 29 = .ok (.iload_n 2, 1) := by decide +kernel
theorem dX3_byPlaces_30 : decode cX3_byPlaces 30 = .ok (.baload, 1) := by decide +kernel
theorem dX3_byPlaces_31 : decode cX3_byPlaces 31 = .ok (.ifCond .eq 32, 3) := by decide +kernel
theorem dX3_byPlaces_34 : decode cX3_byPlaces 34 = .ok (.aload_n 0, 1) := by decide +kernel
theorem dX3_byPlaces_35 : decode cX3_byPlaces 35 = .ok (.iload_n 2, 1) := by decide +kernel
theorem dX3_byPlaces_36 : decode cX3_byPlaces 36 = .ok (.invokevirtual 73, 3) := by decide +kernel
theorem dX3_byPlaces_39 : decode cX3_byPlaces 39 = .ok (.iload_n 1, 1) := by decide +kernel
theorem dX3_byPlaces_40 : decode cX3_byPlaces 40 = .ok (.if_icmp .ne 23, 3) := by decide +kernel
theorem dX3_byPlaces_43 : decode cX3_byPlaces 43 = .ok (.aload_n 0, 1) := by decide +kernel
theorem dX3_byPlaces_44 : decode cX3_byPlaces 44 = .ok (.getfield 35, 3) := by decide +kernel
theorem dX3_byPlaces_47 : decode cX3_byPlaces 47 = .ok (.aload_n 0, 1) := by decide +kernel
theorem dX3_byPlaces_48 : decode cX3_byPlaces 48 = .ok (.getfield 77, 3) := by decide +kernel
theorem dX3_byPlaces_51 : decode cX3_byPlaces 51 = .ok (.iload_n 2, 1) := by decide +kernel
theorem dX3_byPlaces_52 : decode cX3_byPlaces 52 = .ok (.iastore, 1) := by decide +kernel
theorem dX3_byPlaces_53 : decode cX3_byPlaces 53 = .ok (.aload_n 0, 1) := by decide +kernel
theorem dX3_byPlaces_54 : decode cX3_byPlaces 54 = .ok (.dup, 1) := by decide +kernel
theorem dX3_byPlaces_55 : decode cX3_byPlaces 55 = .ok (.getfield 77, 3) := by decide +kernel
theorem dX3_byPlaces_58 : decode cX3_byPlaces 58 = .ok (.iconst 1, 1) := by decide +kernel
theorem dX3_byPlaces_59 : decode cX3_byPlaces 59 = .ok (.iadd, 1) := by decide +kernel
theorem dX3_byPlaces_60 : decode cX3_byPlaces 60 = .ok (.putfield 77, 3) := by decide +kernel
theorem dX3_byPlaces_63 : decode cX3_byPlaces 63 = .ok (.iinc 2 (-1), 3) := by decide +kernel
theorem dX3_byPlaces_66 : decode cX3_byPlaces 66 = .ok (.goto (-45), 3) := by decide +kernel
theorem dX3_byPlaces_69 : decode cX3_byPlaces 69 = .ok (.iinc 1 (-1), 3) := by decide +kernel
theorem dX3_byPlaces_72 : decode cX3_byPlaces 72 = .ok (.goto (-62), 3) := by decide +kernel
theorem dX3_byPlaces_75 : decode cX3_byPlaces 75 = .ok (.return_, 1) := by decide +kernel
theorem dX3_forward_0 : decode cX3_forward 0 = .ok (.aload_n 0, 1) := by decide +kernel
theorem dX3_forward_1 : decode cX3_forward 1 = .ok (.dup, 1) := by decide +kernel
theorem dX3_forward_2 : decode cX3_forward 2 = .ok (.getfield 83, 3) := by decide +kernel
theorem dX3_forward_5 : decode cX3_forward 5 = .ok (.iconst 1, 1) := by decide +kernel
theorem dX3_forward_6 : decode cX3_forward 6 = .ok (.iadd, 1) := by decide +kernel
theorem dX3_forward_7 : decode cX3_forward 7 = .ok (.putfield 83, 3) := by decide +kernel
theorem dX3_forward_10 : decode cX3_forward 10 = .ok (.aload_n 0, 1) := by decide +kernel
theorem dX3_forward_11 : decode cX3_forward 11 = .ok (.getfield 83, 3) := by decide +kernel
theorem dX3_forward_14 : decode cX3_forward 14 = .ok (.aload_n 0, 1) := by decide +kernel
theorem dX3_forward_15 : decode cX3_forward 15 = .ok (.getfield 77, 3) := by decide +kernel
theorem dX3_forward_18 : decode cX3_forward 18 = .ok (.if_icmp .ge 32, 3) := by decide +kernel
theorem dX3_forward_21 : decode cX3_forward 21 = .ok (.aload_n 0, 1) := by decide +kernel
theorem dX3_forward_22 : decode cX3_forward 22 = .ok (.aload_n 0, 1) := by decide +kernel
theorem dX3_forward_23 : decode cX3_forward 23 = .ok (.getfield 35, 3) := by decide +kernel
theorem dX3_forward_26 : decode cX3_forward 26 = .ok (.aload_n 0, 1) := by decide +kernel
theorem dX3_forward_27 : decode cX3_forward 27 = .ok (.getfield 83, 3) := by decide +kernel
theorem dX3_forward_30 : decode cX3_forward 30 = .ok (.iaload, 1) := by decide +kernel
theorem dX3_forward_31 : decode cX3_forward 31 = .ok (.invokevirtual 89, 3) := by decide +kernel
theorem dX3_forward_34 : decode cX3_forward 34 = .ok (.ifCond .ne 16, 3) := by decide +kernel
theorem dX3_forward_37 : decode cX3_forward 37 = .ok (.aload_n 0, 1) := by decide +kernel
theorem dX3_forward_38 : decode cX3_forward 38 = .ok (.dup, 1) := by decide +kernel
theorem dX3_forward_39 : decode cX3_forward 39 = .ok (.getfield 83, 3) := by decide +kernel
theorem dX3_forward_42 : decode cX3_forward 42 = .ok (.iconst 1, 1) := by decide +kernel
theorem dX3_forward_43 : decode cX3_forward 43 = .ok (.iadd, 1) := by decide +kernel
theorem dX3_forward_44 : decode cX3_forward 44 = .ok (.putfield 83, 3) := by decide +kernel
theorem dX3_forward_47 : decode cX3_forward 47 = .ok (.goto (-37), 3) := by decide +kernel
theorem dX3_forward_50 : decode cX3_forward 50 = .ok (.return_, 1) := by decide +kernel
theorem dX3_passOn_0 : decode cX3_passOn 0 = .ok (.aload_n 0, 1) := by decide +kernel
theorem dX3_passOn_1 : decode cX3_passOn 1 = .ok (.invokevirtual 86, 3) := by decide +kernel
theorem dX3_passOn_4 : decode cX3_passOn 4 = .ok (.aload_n 0, 1) := by decide +kernel
theorem dX3_passOn_5 : decode cX3_passOn 5 = .ok (.getfield 83, 3) := by decide +kernel
theorem dX3_passOn_8 : decode cX3_passOn 8 = .ok (.aload_n 0, 1) := by decide +kernel
theorem dX3_passOn_9 : decode cX3_passOn 9 = .ok (.getfield 77, 3) := by decide +kernel
theorem dX3_passOn_12 : decode cX3_passOn 12 = .ok (.if_icmp .ne 7, 3) := by decide +kernel
theorem dX3_passOn_15 : decode cX3_passOn 15 = .ok (.aload_n 0, 1) := by decide +kernel
theorem dX3_passOn_16 : decode cX3_passOn 16 = .ok (.invokevirtual 66, 3) := by decide +kernel
theorem dX3_passOn_19 : decode cX3_passOn 19 = .ok (.return_, 1) := by decide +kernel
theorem dX3_entry_0 : decode cX3_entry 0 = .ok (.aload_n 0, 1) := by decide +kernel
theorem dX3_entry_1 : decode cX3_entry 1 = .ok (.getfield 35, 3) := by decide +kernel
theorem dX3_entry_4 : decode cX3_entry 4 = .ok (.aload_n 0, 1) := by decide +kernel
theorem dX3_entry_5 : decode cX3_entry 5 = .ok (.getfield 83, 3) := by decide +kernel
theorem dX3_entry_8 : decode cX3_entry 8 = .ok (.iaload, 1) := by decide +kernel
theorem dX3_entry_9 : decode cX3_entry 9 = .ok (.istore_n 2, 1) := by decide +kernel
theorem dX3_entry_10 : decode cX3_entry 10 = .ok (.bipush 7, 2) := by decide +kernel
theorem dX3_entry_12 : decode cX3_entry 12 = .ok (.iload_n 2, 1) := by decide +kernel
theorem dX3_entry_13 : decode cX3_entry 13 = .ok (.imul, 1) := by decide +kernel
theorem dX3_entry_14 : decode cX3_entry 14 = .ok (.aload_n 0, 1) := by decide +kernel
theorem dX3_entry_15 : decode cX3_entry 15 = .ok (.getfield 63, 3) := by decide +kernel
theorem dX3_entry_18 : decode cX3_entry 18 = .ok (.iadd, 1) := by decide +kernel
theorem dX3_entry_19 : decode cX3_entry 19 = .ok (.istore_n 3, 1) := by decide +kernel
theorem dX3_entry_20 : decode cX3_entry 20 = .ok (.aload_n 0, 1) := by decide +kernel
theorem dX3_entry_21 : decode cX3_entry 21 = .ok (.getfield 7, 3) := by decide +kernel
theorem dX3_entry_24 : decode cX3_entry 24 = .ok (.iload_n 3, 1) := by decide +kernel
theorem dX3_entry_25 : decode cX3_entry 25 = .ok (.iload_n 1, 1) := by decide +kernel
theorem dX3_entry_26 : decode cX3_entry 26 = .ok (.iastore, 1) := by decide +kernel
theorem dX3_entry_27 : decode cX3_entry 27 = .ok (.aload_n 0, 1) := by decide +kernel
theorem dX3_entry_28 : decode cX3_entry 28 = .ok (.getfield 16, 3) := by decide +kernel
theorem dX3_entry_31 : decode cX3_entry 31 = .ok (.iload_n 3, 1) := by decide +kernel
theorem dX3_entry_32 : decode cX3_entry 32 = .ok (.iconst 0, 1) := by decide +kernel
theorem dX3_entry_33 : decode cX3_entry 33 = .ok (.bastore, 1) := by decide +kernel
theorem dX3_entry_34 : decode cX3_entry 34 = .ok (.aload_n 0, 1) := by decide +kernel
theorem dX3_entry_35 : decode cX3_entry 35 = .ok (.getfield 23, 3) := by decide +kernel
theorem dX3_entry_38 : decode cX3_entry 38 = .ok (.iload_n 3, 1) := by decide +kernel
theorem dX3_entry_39 : decode cX3_entry 39 = .ok (.iconst 0, 1) := by decide +kernel
theorem dX3_entry_40 : decode cX3_entry 40 = .ok (.bastore, 1) := by decide +kernel
theorem dX3_entry_41 : decode cX3_entry 41 = .ok (.aload_n 0, 1) := by decide +kernel
theorem dX3_entry_42 : decode cX3_entry 42 = .ok (.getfield 26, 3) := by decide +kernel
theorem dX3_entry_45 : decode cX3_entry 45 = .ok (.iload_n 2, 1) := by decide +kernel
theorem dX3_entry_46 : decode cX3_entry 46 = .ok (.aload_n 0, 1) := by decide +kernel
theorem dX3_entry_47 : decode cX3_entry 47 = .ok (.getfield 63, 3) := by decide +kernel
theorem dX3_entry_50 : decode cX3_entry 50 = .ok (.iastore, 1) := by decide +kernel
theorem dX3_entry_51 : decode cX3_entry 51 = .ok (.iload_n 3, 1) := by decide +kernel
theorem dX3_entry_52 : decode cX3_entry 52 = .ok (.ireturn, 1) := by decide +kernel
theorem dX3_weigh_0 : decode cX3_weigh 0 = .ok (.aload_n 0, 1) := by decide +kernel
theorem dX3_weigh_1 : decode cX3_weigh 1 = .ok (.iload_n 1, 1) := by decide +kernel
theorem dX3_weigh_2 : decode cX3_weigh 2 = .ok (.bipush 100, 2) := by decide +kernel
theorem dX3_weigh_4 : decode cX3_weigh 4 = .ok (.sipush 9999, 3) := by decide +kernel
theorem dX3_weigh_7 : decode cX3_weigh 7 = .ok (.invokestatic 48, 3) := by decide +kernel
theorem dX3_weigh_10 : decode cX3_weigh 10 = .ok (.ifCond .eq 14, 3) := by decide +kernel
theorem dX3_weigh_13 : decode cX3_weigh 13 = .ok (.iload_n 2, 1) := by decide +kernel
theorem dX3_weigh_14 : decode cX3_weigh 14 = .ok (.bipush (-99), 2) := by decide +kernel
theorem dX3_weigh_16 : decode cX3_weigh 16 = .ok (.bipush 99, 2) := by decide +kernel
theorem dX3_weigh_18 : decode cX3_weigh 18 = .ok (.invokestatic 48, 3) := by decide +kernel
theorem dX3_weigh_21 : decode cX3_weigh 21 = .ok (.ifCond .ne 7, 3) := by decide +kernel
theorem dX3_weigh_24 : decode cX3_weigh 24 = .ok (.iconst 1, 1) := by decide +kernel
theorem dX3_weigh_25 : decode cX3_weigh 25 = .ok (.goto 17, 3) := by decide +kernel
theorem dX3_weigh_28 : decode cX3_weigh 28 = .ok (.aload_n 0, 1) := by decide +kernel
theorem dX3_weigh_29 : decode cX3_weigh 29 = .ok (.getfield 63, 3) := by decide +kernel
theorem dX3_weigh_32 : decode cX3_weigh 32 = .ok (.bipush 7, 2) := by decide +kernel
theorem dX3_weigh_34 : decode cX3_weigh 34 = .ok (.if_icmp .ne 7, 3) := by decide +kernel
theorem dX3_weigh_37 : decode cX3_weigh 37 = .ok (.iconst 2, 1) := by decide +kernel
theorem dX3_weigh_38 : decode cX3_weigh 38 = .ok (.goto 4, 3) := by decide +kernel
theorem dX3_weigh_41 : decode cX3_weigh 41 = .ok (.iconst 0, 1) := by decide +kernel
theorem dX3_weigh_42 : decode cX3_weigh 42 = .ok (.putfield 56, 3) := by decide +kernel
theorem dX3_weigh_45 : decode cX3_weigh 45 = .ok (.aload_n 0, 1) := by decide +kernel
theorem dX3_weigh_46 : decode cX3_weigh 46 = .ok (.getfield 56, 3) := by decide +kernel
theorem dX3_weigh_49 : decode cX3_weigh 49 = .ok (.ifCond .le 5, 3) := by decide +kernel
theorem dX3_weigh_52 : decode cX3_weigh 52 = .ok (.iconst 0, 1) := by decide +kernel
theorem dX3_weigh_53 : decode cX3_weigh 53 = .ok (.ireturn, 1) := by decide +kernel
theorem dX3_weigh_54 : decode cX3_weigh 54 = .ok (.aload_n 0, 1) := by decide +kernel
theorem dX3_weigh_55 : decode cX3_weigh 55 = .ok (.iconst 1, 1) := by decide +kernel
theorem dX3_weigh_56 : decode cX3_weigh 56 = .ok (.invokevirtual 93, 3) := by decide +kernel
theorem dX3_weigh_59 : decode cX3_weigh 59 = .ok (.istore_n 3, 1) := by decide +kernel
theorem dX3_weigh_60 : decode cX3_weigh 60 = .ok (.aload_n 0, 1) := by decide +kernel
theorem dX3_weigh_61 : decode cX3_weigh 61 = .ok (.getfield 13, 3) := by decide +kernel
theorem dX3_weigh_64 : decode cX3_weigh 64 = .ok (.iload_n 3, 1) := by decide +kernel
theorem dX3_weigh_65 : decode cX3_weigh 65 = .ok (.iload_n 1, 1) := by decide +kernel
theorem dX3_weigh_66 : decode cX3_weigh 66 = .ok (.bipush 10, 2) := by decide +kernel
theorem dX3_weigh_68 : decode cX3_weigh 68 = .ok (.idiv, 1) := by decide +kernel
theorem dX3_weigh_69 : decode cX3_weigh 69 = .ok (.iastore, 1) := by decide +kernel
theorem dX3_weigh_70 : decode cX3_weigh 70 = .ok (.aload_n 0, 1) := by decide +kernel
theorem dX3_weigh_71 : decode cX3_weigh 71 = .ok (.getfield 23, 3) := by decide +kernel
theorem dX3_weigh_74 : decode cX3_weigh 74 = .ok (.iload_n 3, 1) := by decide +kernel
theorem dX3_weigh_75 : decode cX3_weigh 75 = .ok (.aload_n 0, 1) := by decide +kernel
theorem dX3_weigh_76 : decode cX3_weigh 76 = .ok (.getfield 38, 3) := by decide +kernel
theorem dX3_weigh_79 : decode cX3_weigh 79 = .ok (.bastore, 1) := by decide +kernel
theorem dX3_weigh_80 : decode cX3_weigh 80 = .ok (.aload_n 0, 1) := by decide +kernel
theorem dX3_weigh_81 : decode cX3_weigh 81 = .ok (.getfield 20, 3) := by decide +kernel
theorem dX3_weigh_84 : decode cX3_weigh 84 = .ok (.iload_n 3, 1) := by decide +kernel
theorem dX3_weigh_85 : decode cX3_weigh 85 = .ok (.iload_n 2, 1) := by decide +kernel
theorem dX3_weigh_86 : decode cX3_weigh 86 = .ok (.iastore, 1) := by decide +kernel
theorem dX3_weigh_87 : decode cX3_weigh 87 = .ok (.aload_n 0, 1) := by decide +kernel
theorem dX3_weigh_88 : decode cX3_weigh 88 = .ok (.iload_n 3, 1) := by decide +kernel
theorem dX3_weigh_89 : decode cX3_weigh 89 = .ok (.invokevirtual 96, 3) := by decide +kernel
theorem dX3_weigh_92 : decode cX3_weigh 92 = .ok (.aload_n 0, 1) := by decide +kernel
theorem dX3_weigh_93 : decode cX3_weigh 93 = .ok (.getfield 13, 3) := by decide +kernel
theorem dX3_weigh_96 : decode cX3_weigh 96 = .ok (.iload_n 3, 1) := by decide +kernel
theorem dX3_weigh_97 : decode cX3_weigh 97 = .ok (.iaload, 1) := by decide +kernel
theorem dX3_weigh_98 : decode cX3_weigh 98 = .ok (.istore 4, 2) := by decide +kernel
theorem dX3_weigh_100 : decode cX3_weigh 100 = .ok (.aload_n 0, 1) := by decide +kernel
theorem dX3_weigh_101 : decode cX3_weigh 101 = .ok (.invokevirtual 99, 3) := by decide +kernel
theorem dX3_weigh_104 : decode cX3_weigh 104 = .ok (.iload 4, 2) := by decide +kernel
theorem dX3_weigh_106 : decode cX3_weigh 106 = .ok (.ireturn, 1) := by decide +kernel
theorem dX3_asRecord_0 : decode cX3_asRecord 0 = .ok (.aload_n 0, 1) := by decide +kernel
theorem dX3_asRecord_1 : decode cX3_asRecord 1 = .ok (.getfield 23, 3) := by decide +kernel
theorem dX3_asRecord_4 : decode cX3_asRecord 4 = .ok (.iload_n 1, 1) := by decide +kernel
theorem dX3_asRecord_5 : decode cX3_asRecord 5 = .ok (.baload, 1) := by decide +kernel
theorem dX3_asRecord_6 : decode cX3_asRecord 6 = .ok (.ifCond .eq 59, 3) := by decide +kernel
theorem dX3_asRecord_9 : decode cX3_asRecord 9 = .ok (.aload_n 0, 1) := by decide +kernel
theorem dX3_asRecord_10 : decode cX3_asRecord 10 = .ok (.getfield 20, 3) := by decide +kernel
theorem dX3_asRecord_13 : decode cX3_asRecord 13 = .ok (.iload_n 1, 1) := by decide +kernel
theorem dX3_asRecord_14 : decode cX3_asRecord 14 = .ok (.iaload, 1) := by decide +kernel
theorem dX3_asRecord_15 : decode cX3_asRecord 15 = .ok (.bipush 20, 2) := by decide +kernel
theorem dX3_asRecord_17 : decode cX3_asRecord 17 = .ok (.if_icmp .gt 48, 3) := by decide +kernel
theorem dX3_asRecord_20 : decode cX3_asRecord 20 = .ok (.aload_n 0, 1) := by decide +kernel
theorem dX3_asRecord_21 : decode cX3_asRecord 21 = .ok (.getfield 102, 3) := by decide +kernel
theorem dX3_asRecord_24 : decode cX3_asRecord 24 = .ok (.ifCond .eq 16, 3) := by decide +kernel
theorem dX3_asRecord_27 : decode cX3_asRecord 27 = .ok (.aload_n 0, 1) := by decide +kernel
theorem dX3_asRecord_28 : decode cX3_asRecord 28 = .ok (.getfield 13, 3) := by decide +kernel
theorem dX3_asRecord_31 : decode cX3_asRecord 31 = .ok (.iload_n 1, 1) := by decide +kernel
theorem dX3_asRecord_32 : decode cX3_asRecord 32 = .ok (.iaload, 1) := by decide +kernel
theorem dX3_asRecord_33 : decode cX3_asRecord 33 = .ok (.aload_n 0, 1) := by decide +kernel
theorem dX3_asRecord_34 : decode cX3_asRecord 34 = .ok (.getfield 105, 3) := by decide +kernel
theorem dX3_asRecord_37 : decode cX3_asRecord 37 = .ok (.if_icmp .le 28, 3) := by decide +kernel
theorem dX3_asRecord_40 : decode cX3_asRecord 40 = .ok (.aload_n 0, 1) := by decide +kernel
theorem dX3_asRecord_41 : decode cX3_asRecord 41 = .ok (.iconst 1, 1) := by decide +kernel
theorem dX3_asRecord_42 : decode cX3_asRecord 42 = .ok (.putfield 102, 3) := by decide +kernel
theorem dX3_asRecord_45 : decode cX3_asRecord 45 = .ok (.aload_n 0, 1) := by decide +kernel
theorem dX3_asRecord_46 : decode cX3_asRecord 46 = .ok (.aload_n 0, 1) := by decide +kernel
theorem dX3_asRecord_47 : decode cX3_asRecord 47 = .ok (.getfield 13, 3) := by decide +kernel
theorem dX3_asRecord_50 : decode cX3_asRecord 50 = .ok (.iload_n 1, 1) := by decide +kernel
theorem dX3_asRecord_51 : decode cX3_asRecord 51 = .ok (.iaload, 1) := by decide +kernel
theorem dX3_asRecord_52 : decode cX3_asRecord 52 = .ok (.putfield 105, 3) := by decide +kernel
theorem dX3_asRecord_55 : decode cX3_asRecord 55 = .ok (.aload_n 0, 1) := by decide +kernel
theorem dX3_asRecord_56 : decode cX3_asRecord 56 = .ok (.dup, 1) := by decide +kernel
theorem dX3_asRecord_57 : decode cX3_asRecord 57 = .ok (.getfield 108, 3) := by decide +kernel
theorem dX3_asRecord_60 : decode cX3_asRecord 60 = .ok (.iconst 1, 1) := by decide +kernel
theorem dX3_asRecord_61 : decode cX3_asRecord 61 = .ok (.iadd, 1) := by decide +kernel
theorem dX3_asRecord_62 : decode cX3_asRecord 62 = .ok (.putfield 108, 3) := by decide +kernel
theorem dX3_asRecord_65 : decode cX3_asRecord 65 = .ok (.return_, 1) := by decide +kernel
theorem dX3_crack_0 : decode cX3_crack 0 = .ok (.aload_n 0, 1) := by decide +kernel
theorem dX3_crack_1 : decode cX3_crack 1 = .ok (.iload_n 1, 1) := by decide +kernel
theorem dX3_crack_2 : decode cX3_crack 2 = .ok (.ifCond .eq 15, 3) := by decide +kernel
theorem dX3_crack_5 : decode cX3_crack 5 = .ok (.iload_n 1, 1) := by decide +kernel
theorem dX3_crack_6 : decode cX3_crack 6 = .ok (.bipush 100, 2) := by decide +kernel
theorem dX3_crack_8 : decode cX3_crack 8 = .ok (.sipush 9999, 3) := by decide +kernel
theorem dX3_crack_11 : decode cX3_crack 11 = .ok (.invokestatic 48, 3) := by decide +kernel
theorem dX3_crack_14 : decode cX3_crack 14 = .ok (.ifCond .eq 14, 3) := by decide +kernel
theorem dX3_crack_17 : decode cX3_crack 17 = .ok (.iload_n 2, 1) := by decide +kernel
theorem dX3_crack_18 : decode cX3_crack 18 = .ok (.bipush (-99), 2) := by decide +kernel
theorem dX3_crack_20 : decode cX3_crack 20 = .ok (.bipush 99, 2) := by decide +kernel
theorem dX3_crack_22 : decode cX3_crack 22 = .ok (.invokestatic 48, 3) := by decide +kernel
theorem dX3_crack_25 : decode cX3_crack 25 = .ok (.ifCond .ne 7, 3) := by decide +kernel
theorem dX3_crack_28 : decode cX3_crack 28 = .ok (.iconst 1, 1) := by decide +kernel
theorem dX3_crack_29 : decode cX3_crack 29 = .ok (.goto 17, 3) := by decide +kernel
theorem dX3_crack_32 : decode cX3_crack 32 = .ok (.aload_n 0, 1) := by decide +kernel
theorem dX3_crack_33 : decode cX3_crack 33 = .ok (.getfield 63, 3) := by decide +kernel
theorem dX3_crack_36 : decode cX3_crack 36 = .ok (.bipush 7, 2) := by decide +kernel
theorem dX3_crack_38 : decode cX3_crack 38 = .ok (.if_icmp .ne 7, 3) := by decide +kernel
theorem dX3_crack_41 : decode cX3_crack 41 = .ok (.iconst 2, 1) := by decide +kernel
theorem dX3_crack_42 : decode cX3_crack 42 = .ok (.goto 4, 3) := by decide +kernel
theorem dX3_crack_45 : decode cX3_crack 45 = .ok (.iconst 0, 1) := by decide +kernel
theorem dX3_crack_46 : decode cX3_crack 46 = .ok (.putfield 56, 3) := by decide +kernel
theorem dX3_crack_49 : decode cX3_crack 49 = .ok (.aload_n 0, 1) := by decide +kernel
theorem dX3_crack_50 : decode cX3_crack 50 = .ok (.getfield 56, 3) := by decide +kernel
theorem dX3_crack_53 : decode cX3_crack 53 = .ok (.ifCond .le 4, 3) := by decide +kernel
theorem dX3_crack_56 : decode cX3_crack 56 = .ok (.return_, 1) := by decide +kernel
theorem dX3_crack_57 : decode cX3_crack 57 = .ok (.aload_n 0, 1) := by decide +kernel
theorem dX3_crack_58 : decode cX3_crack 58 = .ok (.iconst 2, 1) := by decide +kernel
theorem dX3_crack_59 : decode cX3_crack 59 = .ok (.invokevirtual 93, 3) := by decide +kernel
theorem dX3_crack_62 : decode cX3_crack 62 = .ok (.istore_n 3, 1) := by decide +kernel
theorem dX3_crack_63 : decode cX3_crack 63 = .ok (.aload_n 0, 1) := by decide +kernel
theorem dX3_crack_64 : decode cX3_crack 64 = .ok (.getfield 13, 3) := by decide +kernel
theorem dX3_crack_67 : decode cX3_crack 67 = .ok (.iload_n 3, 1) := by decide +kernel
theorem dX3_crack_68 : decode cX3_crack 68 = .ok (.iload_n 1, 1) := by decide +kernel
theorem dX3_crack_69 : decode cX3_crack 69 = .ok (.bipush 10, 2) := by decide +kernel
theorem dX3_crack_71 : decode cX3_crack 71 = .ok (.idiv, 1) := by decide +kernel
theorem dX3_crack_72 : decode cX3_crack 72 = .ok (.iastore, 1) := by decide +kernel
theorem dX3_crack_73 : decode cX3_crack 73 = .ok (.aload_n 0, 1) := by decide +kernel
theorem dX3_crack_74 : decode cX3_crack 74 = .ok (.getfield 16, 3) := by decide +kernel
theorem dX3_crack_77 : decode cX3_crack 77 = .ok (.iload_n 3, 1) := by decide +kernel
theorem dX3_crack_78 : decode cX3_crack 78 = .ok (.iload_n 1, 1) := by decide +kernel
theorem dX3_crack_79 : decode cX3_crack 79 = .ok (.ifCond .eq 7, 3) := by decide +kernel
theorem dX3_crack_82 : decode cX3_crack 82 = .ok (.iconst 1, 1) := by decide +kernel
theorem dX3_crack_83 : decode cX3_crack 83 = .ok (.goto 4, 3) := by decide +kernel
theorem dX3_crack_86 : decode cX3_crack 86 = .ok (.iconst 0, 1) := by decide +kernel
theorem dX3_crack_87 : decode cX3_crack 87 = .ok (.bastore, 1) := by decide +kernel
theorem dX3_crack_88 : decode cX3_crack 88 = .ok (.aload_n 0, 1) := by decide +kernel
theorem dX3_crack_89 : decode cX3_crack 89 = .ok (.getfield 23, 3) := by decide +kernel
theorem dX3_crack_92 : decode cX3_crack 92 = .ok (.iload_n 3, 1) := by decide +kernel
theorem dX3_crack_93 : decode cX3_crack 93 = .ok (.aload_n 0, 1) := by decide +kernel
theorem dX3_crack_94 : decode cX3_crack 94 = .ok (.getfield 38, 3) := by decide +kernel
theorem dX3_crack_97 : decode cX3_crack 97 = .ok (.bastore, 1) := by decide +kernel
theorem dX3_crack_98 : decode cX3_crack 98 = .ok (.aload_n 0, 1) := by decide +kernel
theorem dX3_crack_99 : decode cX3_crack 99 = .ok (.getfield 20, 3) := by decide +kernel
theorem dX3_crack_102 : decode cX3_crack 102 = .ok (.iload_n 3, 1) := by decide +kernel
theorem dX3_crack_103 : decode cX3_crack 103 = .ok (.iload_n 2, 1) := by decide +kernel
theorem dX3_crack_104 : decode cX3_crack 104 = .ok (.iastore, 1) := by decide +kernel
theorem dX3_crack_105 : decode cX3_crack 105 = .ok (.aload_n 0, 1) := by decide +kernel
theorem dX3_crack_106 : decode cX3_crack 106 = .ok (.invokevirtual 99, 3) := by decide +kernel
theorem dX3_crack_109 : decode cX3_crack 109 = .ok (.return_, 1) := by decide +kernel
theorem dX3_pass_0 : decode cX3_pass 0 = .ok (.aload_n 0, 1) := by decide +kernel
theorem dX3_pass_1 : decode cX3_pass 1 = .ok (.aload_n 0, 1) := by decide +kernel
theorem dX3_pass_2 : decode cX3_pass 2 = .ok (.getfield 63, 3) := by decide +kernel
theorem dX3_pass_5 : decode cX3_pass 5 = .ok (.bipush 7, 2) := by decide +kernel
theorem dX3_pass_7 : decode cX3_pass 7 = .ok (.if_icmp .ne 7, 3) := by decide +kernel
theorem dX3_pass_10 : decode cX3_pass 10 = .ok (.iconst 1, 1) := by decide +kernel
theorem dX3_pass_11 : decode cX3_pass 11 = .ok (.goto 4, 3) := by decide +kernel
theorem dX3_pass_14 : decode cX3_pass 14 = .ok (.iconst 0, 1) := by decide +kernel
theorem dX3_pass_15 : decode cX3_pass 15 = .ok (.putfield 56, 3) := by decide +kernel
theorem dX3_pass_18 : decode cX3_pass 18 = .ok (.aload_n 0, 1) := by decide +kernel
theorem dX3_pass_19 : decode cX3_pass 19 = .ok (.getfield 56, 3) := by decide +kernel
theorem dX3_pass_22 : decode cX3_pass 22 = .ok (.ifCond .ne 13, 3) := by decide +kernel
theorem dX3_pass_25 : decode cX3_pass 25 = .ok (.aload_n 0, 1) := by decide +kernel
theorem dX3_pass_26 : decode cX3_pass 26 = .ok (.iconst 3, 1) := by decide +kernel
theorem dX3_pass_27 : decode cX3_pass 27 = .ok (.invokevirtual 93, 3) := by decide +kernel
theorem dX3_pass_30 : decode cX3_pass 30 = .ok (.istore_n 1, 1) := by decide +kernel
theorem dX3_pass_31 : decode cX3_pass 31 = .ok (.aload_n 0, 1) := by decide +kernel
theorem dX3_pass_32 : decode cX3_pass 32 = .ok (.invokevirtual 99, 3) := by decide +kernel
theorem dX3_pass_35 : decode cX3_pass 35 = .ok (.return_, 1) := by decide +kernel
theorem dX3_leave_0 : decode cX3_leave 0 = .ok (.aload_n 0, 1) := by decide +kernel
theorem dX3_leave_1 : decode cX3_leave 1 = .ok (.iload_n 1, 1) := by decide +kernel
theorem dX3_leave_2 : decode cX3_leave 2 = .ok (.iconst 0, 1) := by decide +kernel
theorem dX3_leave_3 : decode cX3_leave 3 = .ok (.aload_n 0, 1) := by decide +kernel
theorem dX3_leave_4 : decode cX3_leave 4 = .ok (.getfield 60, 3) := by decide +kernel
theorem dX3_leave_7 : decode cX3_leave 7 = .ok (.iconst 1, 1) := by decide +kernel
theorem dX3_leave_8 : decode cX3_leave 8 = .ok (.isub, 1) := by decide +kernel
theorem dX3_leave_9 : decode cX3_leave 9 = .ok (.invokestatic 48, 3) := by decide +kernel
theorem dX3_leave_12 : decode cX3_leave 12 = .ok (.ifCond .ne 7, 3) := by decide +kernel
theorem dX3_leave_15 : decode cX3_leave 15 = .ok (.iconst 1, 1) := by decide +kernel
theorem dX3_leave_16 : decode cX3_leave 16 = .ok (.goto 17, 3) := by decide +kernel
theorem dX3_leave_19 : decode cX3_leave 19 = .ok (.aload_n 0, 1) := by decide +kernel
theorem dX3_leave_20 : decode cX3_leave 20 = .ok (.getfield 29, 3) := by decide +kernel
theorem dX3_leave_23 : decode cX3_leave 23 = .ok (.iload_n 1, 1) := by decide +kernel
theorem dX3_leave_24 : decode cX3_leave 24 = .ok (.baload, 1) := by decide +kernel
theorem dX3_leave_25 : decode cX3_leave 25 = .ok (.ifCond .eq 7, 3) := by decide +kernel
theorem dX3_leave_28 : decode cX3_leave 28 = .ok (.iconst 2, 1) := by decide +kernel
theorem dX3_leave_29 : decode cX3_leave 29 = .ok (.goto 4, 3) := by decide +kernel
theorem dX3_leave_32 : decode cX3_leave 32 = .ok (.iconst 0, 1) := by decide +kernel
theorem dX3_leave_33 : decode cX3_leave 33 = .ok (.putfield 56, 3) := by decide +kernel
theorem dX3_leave_36 : decode cX3_leave 36 = .ok (.aload_n 0, 1) := by decide +kernel
theorem dX3_leave_37 : decode cX3_leave 37 = .ok (.getfield 56, 3) := by decide +kernel
theorem dX3_leave_40 : decode cX3_leave 40 = .ok (.ifCond .le 4, 3) := by decide +kernel
theorem dX3_leave_43 : decode cX3_leave 43 = .ok (.return_, 1) := by decide +kernel
theorem dX3_leave_44 : decode cX3_leave 44 = .ok (.aload_n 0, 1) := by decide +kernel
theorem dX3_leave_45 : decode cX3_leave 45 = .ok (.getfield 29, 3) := by decide +kernel
theorem dX3_leave_48 : decode cX3_leave 48 = .ok (.iload_n 1, 1) := by decide +kernel
theorem dX3_leave_49 : decode cX3_leave 49 = .ok (.iconst 1, 1) := by decide +kernel
theorem dX3_leave_50 : decode cX3_leave 50 = .ok (.bastore, 1) := by decide +kernel
theorem dX3_leave_51 : decode cX3_leave 51 = .ok (.aload_n 0, 1) := by decide +kernel
theorem dX3_leave_52 : decode cX3_leave 52 = .ok (.getfield 63, 3) := by decide +kernel
theorem dX3_leave_55 : decode cX3_leave 55 = .ok (.bipush 7, 2) := by decide +kernel
theorem dX3_leave_57 : decode cX3_leave 57 = .ok (.if_icmp .eq 20, 3) := by decide +kernel
theorem dX3_leave_60 : decode cX3_leave 60 = .ok (.aload_n 0, 1) := by decide +kernel
theorem dX3_leave_61 : decode cX3_leave 61 = .ok (.getfield 35, 3) := by decide +kernel
theorem dX3_leave_64 : decode cX3_leave 64 = .ok (.aload_n 0, 1) := by decide +kernel
theorem dX3_leave_65 : decode cX3_leave 65 = .ok (.getfield 83, 3) := by decide +kernel
theorem dX3_leave_68 : decode cX3_leave 68 = .ok (.iaload, 1) := by decide +kernel
theorem dX3_leave_69 : decode cX3_leave 69 = .ok (.iload_n 1, 1) := by decide +kernel
theorem dX3_leave_70 : decode cX3_leave 70 = .ok (.if_icmp .ne 7, 3) := by decide +kernel
theorem dX3_leave_73 : decode cX3_leave 73 = .ok (.aload_n 0, 1) := by decide +kernel
theorem dX3_leave_74 : decode cX3_leave 74 = .ok (.invokevirtual 99, 3) := by decide +kernel
theorem dX3_leave_77 : decode cX3_leave 77 = .ok (.return_, 1) := by decide +kernel
theorem dX3_isEntry_0 : decode cX3_isEntry 0 = .ok (.iload_n 1, 1) := by decide +kernel
theorem dX3_isEntry_1 : decode cX3_isEntry 1 = .ok (.iconst 0, 1) := by decide +kernel
theorem dX3_isEntry_2 : decode cX3_isEntry 2 = .ok (.aload_n 0, 1) := by decide +kernel
theorem dX3_isEntry_3 : decode cX3_isEntry 3 = .ok (.getfield 60, 3) := by decide +kernel
theorem dX3_isEntry_6 : decode cX3_isEntry 6 = .ok (.iconst 1, 1) := by decide +kernel
theorem dX3_isEntry_7 : decode cX3_isEntry 7 = .ok (.isub, 1) := by decide +kernel
theorem dX3_isEntry_8 : decode cX3_isEntry 8 = .ok (.invokestatic 48, 3) := by decide +kernel
theorem dX3_isEntry_11 : decode cX3_isEntry 11 = .ok (.ifCond .eq 17, 3) := by decide +kernel
theorem dX3_isEntry_14 : decode cX3_isEntry 14 = .ok (.iload_n 2, 1) := by decide +kernel
theorem dX3_isEntry_15 : decode cX3_isEntry 15 = .ok (.iconst 1, 1) := by decide +kernel
theorem dX3_isEntry_16 : decode cX3_isEntry 16 = .ok (.bipush 6, 2) := by decide +kernel
theorem dX3_isEntry_18 : decode cX3_isEntry 18 = .ok (.invokestatic 48, 3) := by decide +kernel
theorem dX3_isEntry_21 : decode cX3_isEntry 21 = .ok (.ifCond .eq 7, 3) := by decide +kernel
theorem dX3_isEntry_24 : decode cX3_isEntry 24 = .ok (.iconst 1, 1) := by decide +kernel
theorem dX3_isEntry_25 : decode cX3_isEntry 25 = .ok (.goto 4, 3) := by decide +kernel
theorem dX3_isEntry_28 : decode cX3_isEntry 28 = .ok (.iconst 0, 1) := by decide +kernel
theorem dX3_isEntry_29 : decode cX3_isEntry 29 = .ok (.ireturn, 1) := by decide +kernel
theorem dX3_appeal_0 : decode cX3_appeal 0 = .ok (.aload_n 0, 1) := by decide +kernel
theorem dX3_appeal_1 : decode cX3_appeal 1 = .ok (.aload_n 0, 1) := by decide +kernel
theorem dX3_appeal_2 : decode cX3_appeal 2 = .ok (.iload_n 1, 1) := by decide +kernel
theorem dX3_appeal_3 : decode cX3_appeal 3 = .ok (.iload_n 2, 1) := by decide +kernel
theorem dX3_appeal_4 : decode cX3_appeal 4 = .ok (.invokevirtual 111, 3) := by decide +kernel
theorem dX3_appeal_7 : decode cX3_appeal 7 = .ok (.ifCond .ne 7, 3) := by decide +kernel
theorem dX3_appeal_10 : decode cX3_appeal 10 = .ok (.iconst 1, 1) := by decide +kernel
theorem dX3_appeal_11 : decode cX3_appeal 11 = .ok (.goto 4, 3) := by decide +kernel
theorem dX3_appeal_14 : decode cX3_appeal 14 = .ok (.iconst 0, 1) := by decide +kernel
theorem dX3_appeal_15 : decode cX3_appeal 15 = .ok (.putfield 56, 3) := by decide +kernel
theorem dX3_appeal_18 : decode cX3_appeal 18 = .ok (.aload_n 0, 1) := by decide +kernel
theorem dX3_appeal_19 : decode cX3_appeal 19 = .ok (.getfield 56, 3) := by decide +kernel
theorem dX3_appeal_22 : decode cX3_appeal 22 = .ok (.ifCond .le 5, 3) := by decide +kernel
theorem dX3_appeal_25 : decode cX3_appeal 25 = .ok (.iconst 0, 1) := by decide +kernel
theorem dX3_appeal_26 : decode cX3_appeal 26 = .ok (.ireturn, 1) := by decide +kernel
theorem dX3_appeal_27 : decode cX3_appeal 27 = .ok (.bipush 7, 2) := by decide +kernel
theorem dX3_appeal_29 : decode cX3_appeal 29 = .ok (.iload_n 1, 1) := by decide +kernel
theorem dX3_appeal_30 : decode cX3_appeal 30 = .ok (.imul, 1) := by decide +kernel
theorem dX3_appeal_31 : decode cX3_appeal 31 = .ok (.iload_n 2, 1) := by decide +kernel
theorem dX3_appeal_32 : decode cX3_appeal 32 = .ok (.iadd, 1) := by decide +kernel
theorem dX3_appeal_33 : decode cX3_appeal 33 = .ok (.istore_n 3, 1) := by decide +kernel
theorem dX3_appeal_34 : decode cX3_appeal 34 = .ok (.aload_n 0, 1) := by decide +kernel
theorem dX3_appeal_35 : decode cX3_appeal 35 = .ok (.aload_n 0, 1) := by decide +kernel
theorem dX3_appeal_36 : decode cX3_appeal 36 = .ok (.getfield 7, 3) := by decide +kernel
theorem dX3_appeal_39 : decode cX3_appeal 39 = .ok (.iload_n 3, 1) := by decide +kernel
theorem dX3_appeal_40 : decode cX3_appeal 40 = .ok (.iaload, 1) := by decide +kernel
theorem dX3_appeal_41 : decode cX3_appeal 41 = .ok (.iconst 2, 1) := by decide +kernel
theorem dX3_appeal_42 : decode cX3_appeal 42 = .ok (.if_icmp .ne 12, 3) := by decide +kernel
theorem dX3_appeal_45 : decode cX3_appeal 45 = .ok (.aload_n 0, 1) := by decide +kernel
theorem dX3_appeal_46 : decode cX3_appeal 46 = .ok (.getfield 16, 3) := by decide +kernel
theorem dX3_appeal_49 : decode cX3_appeal 49 = .ok (.iload_n 3, 1) := by decide +kernel
theorem dX3_appeal_50 : decode cX3_appeal 50 = .ok (.baload, 1) := by decide +kernel
theorem dX3_appeal_51 : decode cX3_appeal 51 = .ok (.ifCond .ne 7, 3) := by decide +kernel
theorem dX3_appeal_54 : decode cX3_appeal 54 = .ok (.iconst 2, 1) := by decide +kernel
theorem dX3_appeal_55 : decode cX3_appeal 55 = .ok (.goto 4, 3) := by decide +kernel
theorem dX3_appeal_58 : decode cX3_appeal 58 = .ok (.iconst 0, 1) := by decide +kernel
theorem dX3_appeal_59 : decode cX3_appeal 59 = .ok (.putfield 56, 3) := by decide +kernel
theorem dX3_appeal_62 : decode cX3_appeal 62 = .ok (.aload_n 0, 1) := by decide +kernel
theorem dX3_appeal_63 : decode cX3_appeal 63 = .ok (.getfield 56, 3) := by decide +kernel
theorem dX3_appeal_66 : decode cX3_appeal 66 = .ok (.ifCond .le 5, 3) := by decide +kernel
theorem dX3_appeal_69 : decode cX3_appeal 69 = .ok (.iconst 0, 1) := by decide +kernel
theorem dX3_appeal_70 : decode cX3_appeal 70 = .ok (.ireturn, 1) := by decide +kernel
theorem dX3_appeal_71 : decode cX3_appeal 71 = .ok (.aload_n 0, 1) := by decide +kernel
theorem dX3_appeal_72 : decode cX3_appeal 72 = .ok (.getfield 7, 3) := by decide +kernel
theorem dX3_appeal_75 : decode cX3_appeal 75 = .ok (.iload_n 3, 1) := by decide +kernel
theorem dX3_appeal_76 : decode cX3_appeal 76 = .ok (.iconst 1, 1) := by decide +kernel
theorem dX3_appeal_77 : decode cX3_appeal 77 = .ok (.iastore, 1) := by decide +kernel
theorem dX3_appeal_78 : decode cX3_appeal 78 = .ok (.aload_n 0, 1) := by decide +kernel
theorem dX3_appeal_79 : decode cX3_appeal 79 = .ok (.getfield 16, 3) := by decide +kernel
theorem dX3_appeal_82 : decode cX3_appeal 82 = .ok (.iload_n 3, 1) := by decide +kernel
theorem dX3_appeal_83 : decode cX3_appeal 83 = .ok (.iconst 0, 1) := by decide +kernel
theorem dX3_appeal_84 : decode cX3_appeal 84 = .ok (.bastore, 1) := by decide +kernel
theorem dX3_appeal_85 : decode cX3_appeal 85 = .ok (.aload_n 0, 1) := by decide +kernel
theorem dX3_appeal_86 : decode cX3_appeal 86 = .ok (.iload_n 3, 1) := by decide +kernel
theorem dX3_appeal_87 : decode cX3_appeal 87 = .ok (.invokevirtual 96, 3) := by decide +kernel
theorem dX3_appeal_90 : decode cX3_appeal 90 = .ok (.aload_n 0, 1) := by decide +kernel
theorem dX3_appeal_91 : decode cX3_appeal 91 = .ok (.getfield 13, 3) := by decide +kernel
theorem dX3_appeal_94 : decode cX3_appeal 94 = .ok (.iload_n 3, 1) := by decide +kernel
theorem dX3_appeal_95 : decode cX3_appeal 95 = .ok (.iaload, 1) := by decide +kernel
theorem dX3_appeal_96 : decode cX3_appeal 96 = .ok (.ireturn, 1) := by decide +kernel
theorem dX3_level_0 : decode cX3_level 0 = .ok (.aload_n 0, 1) := by decide +kernel
theorem dX3_level_1 : decode cX3_level 1 = .ok (.iconst 0, 1) := by decide +kernel
theorem dX3_level_2 : decode cX3_level 2 = .ok (.putfield 56, 3) := by decide +kernel
theorem dX3_level_5 : decode cX3_level 5 = .ok (.iload_n 1, 1) := by decide +kernel
theorem dX3_level_6 : decode cX3_level 6 = .ok (.aload_n 0, 1) := by decide +kernel
theorem dX3_level_7 : decode cX3_level 7 = .ok (.getfield 38, 3) := by decide +kernel
theorem dX3_level_10 : decode cX3_level 10 = .ok (.if_icmp .eq 7, 3) := by decide +kernel
theorem dX3_level_13 : decode cX3_level 13 = .ok (.iconst 1, 1) := by decide +kernel
theorem dX3_level_14 : decode cX3_level 14 = .ok (.goto 4, 3) := by decide +kernel
theorem dX3_level_17 : decode cX3_level 17 = .ok (.iconst 0, 1) := by decide +kernel
theorem dX3_level_18 : decode cX3_level 18 = .ok (.istore_n 2, 1) := by decide +kernel
theorem dX3_level_19 : decode cX3_level 19 = .ok (.aload_n 0, 1) := by decide +kernel
theorem dX3_level_20 : decode cX3_level 20 = .ok (.iload_n 1, 1) := by decide +kernel
theorem dX3_level_21 : decode cX3_level 21 = .ok (.putfield 38, 3) := by decide +kernel
theorem dX3_level_24 : decode cX3_level 24 = .ok (.iload_n 2, 1) := by decide +kernel
theorem dX3_level_25 : decode cX3_level 25 = .ok (.ireturn, 1) := by decide +kernel
theorem dX3_record_0 : decode cX3_record 0 = .ok (.aload_n 0, 1) := by decide +kernel
theorem dX3_record_1 : decode cX3_record 1 = .ok (.iload_n 1, 1) := by decide +kernel
theorem dX3_record_2 : decode cX3_record 2 = .ok (.iconst 0, 1) := by decide +kernel
theorem dX3_record_3 : decode cX3_record 3 = .ok (.sipush 999, 3) := by decide +kernel
theorem dX3_record_6 : decode cX3_record 6 = .ok (.invokestatic 48, 3) := by decide +kernel
theorem dX3_record_9 : decode cX3_record 9 = .ok (.ifCond .eq 7, 3) := by decide +kernel
theorem dX3_record_12 : decode cX3_record 12 = .ok (.iconst 0, 1) := by decide +kernel
theorem dX3_record_13 : decode cX3_record 13 = .ok (.goto 4, 3) := by decide +kernel
theorem dX3_record_16 : decode cX3_record 16 = .ok (.iconst 1, 1) := by decide +kernel
theorem dX3_record_17 : decode cX3_record 17 = .ok (.putfield 56, 3) := by decide +kernel
theorem dX3_record_20 : decode cX3_record 20 = .ok (.aload_n 0, 1) := by decide +kernel
theorem dX3_record_21 : decode cX3_record 21 = .ok (.getfield 56, 3) := by decide +kernel
theorem dX3_record_24 : decode cX3_record 24 = .ok (.ifCond .ne 21, 3) := by decide +kernel
theorem dX3_record_27 : decode cX3_record 27 = .ok (.aload_n 0, 1) := by decide +kernel
theorem dX3_record_28 : decode cX3_record 28 = .ok (.iload_n 1, 1) := by decide +kernel
theorem dX3_record_29 : decode cX3_record 29 = .ok (.ifCond .le 7, 3) := by decide +kernel
theorem dX3_record_32 : decode cX3_record 32 = .ok (.iconst 1, 1) := by decide +kernel
theorem dX3_record_33 : decode cX3_record 33 = .ok (.goto 4, 3) := by decide +kernel
theorem dX3_record_36 : decode cX3_record 36 = .ok (.iconst 0, 1) := by decide +kernel
theorem dX3_record_37 : decode cX3_record 37 = .ok (.putfield 102, 3) := by decide +kernel
theorem dX3_record_40 : decode cX3_record 40 = .ok (.aload_n 0, 1) := by decide +kernel
theorem dX3_record_41 : decode cX3_record 41 = .ok (.iload_n 1, 1) := by decide +kernel
theorem dX3_record_42 : decode cX3_record 42 = .ok (.putfield 105, 3) := by decide +kernel
theorem dX3_record_45 : decode cX3_record 45 = .ok (.return_, 1) := by decide +kernel
theorem dX3_prize_0 : decode cX3_prize 0 = .ok (.aload_n 0, 1) := by decide +kernel
theorem dX3_prize_1 : decode cX3_prize 1 = .ok (.iload_n 1, 1) := by decide +kernel
theorem dX3_prize_2 : decode cX3_prize 2 = .ok (.iconst 0, 1) := by decide +kernel
theorem dX3_prize_3 : decode cX3_prize 3 = .ok (.sipush 999, 3) := by decide +kernel
theorem dX3_prize_6 : decode cX3_prize 6 = .ok (.invokestatic 48, 3) := by decide +kernel
theorem dX3_prize_9 : decode cX3_prize 9 = .ok (.ifCond .eq 7, 3) := by decide +kernel
theorem dX3_prize_12 : decode cX3_prize 12 = .ok (.iconst 0, 1) := by decide +kernel
theorem dX3_prize_13 : decode cX3_prize 13 = .ok (.goto 4, 3) := by decide +kernel
theorem dX3_prize_16 : decode cX3_prize 16 = .ok (.iconst 1, 1) := by decide +kernel
theorem dX3_prize_17 : decode cX3_prize 17 = .ok (.putfield 56, 3) := by decide +kernel
theorem dX3_prize_20 : decode cX3_prize 20 = .ok (.aload_n 0, 1) := by decide +kernel
theorem dX3_prize_21 : decode cX3_prize 21 = .ok (.getfield 56, 3) := by decide +kernel
theorem dX3_prize_24 : decode cX3_prize 24 = .ok (.ifCond .ne 21, 3) := by decide +kernel
theorem dX3_prize_27 : decode cX3_prize 27 = .ok (.aload_n 0, 1) := by decide +kernel
theorem dX3_prize_28 : decode cX3_prize 28 = .ok (.iload_n 1, 1) := by decide +kernel
theorem dX3_prize_29 : decode cX3_prize 29 = .ok (.ifCond .le 7, 3) := by decide +kernel
theorem dX3_prize_32 : decode cX3_prize 32 = .ok (.iconst 1, 1) := by decide +kernel
theorem dX3_prize_33 : decode cX3_prize 33 = .ok (.goto 4, 3) := by decide +kernel
theorem dX3_prize_36 : decode cX3_prize 36 = .ok (.iconst 0, 1) := by decide +kernel
theorem dX3_prize_37 : decode cX3_prize 37 = .ok (.putfield 115, 3) := by decide +kernel
theorem dX3_prize_40 : decode cX3_prize 40 = .ok (.aload_n 0, 1) := by decide +kernel
theorem dX3_prize_41 : decode cX3_prize 41 = .ok (.iload_n 1, 1) := by decide +kernel
theorem dX3_prize_42 : decode cX3_prize 42 = .ok (.putfield 118, 3) := by decide +kernel
theorem dX3_prize_45 : decode cX3_prize 45 = .ok (.return_, 1) := by decide +kernel
theorem dX3_weightsOf_0 : decode cX3_weightsOf 0 = .ok (.iconst 0, 1) := by decide +kernel
theorem dX3_weightsOf_1 : decode cX3_weightsOf 1 = .ok (.istore_n 3, 1) := by decide +kernel
theorem dX3_weightsOf_2 : decode cX3_weightsOf 2 = .ok (.iconst 1, 1) := by decide +kernel
theorem dX3_weightsOf_3 : decode cX3_weightsOf 3 = .ok (.istore 4, 2) := by decide +kernel
theorem dX3_weightsOf_5 : decode cX3_weightsOf 5 = .ok (.iload 4, 2) := by decide +kernel
theorem dX3_weightsOf_7 : decode cX3_weightsOf 7 = .ok (.bipush 6, 2) := by decide +kernel
theorem dX3_weightsOf_9 : decode cX3_weightsOf 9 = .ok (.if_icmp .gt 83, 3) := by decide +kernel
theorem dX3_weightsOf_12 : decode cX3_weightsOf 12 = .ok (.bipush 7, 2) := by decide +kernel
theorem dX3_weightsOf_14 : decode cX3_weightsOf 14 = .ok (.iload_n 1, 1) := by decide +kernel
theorem dX3_weightsOf_15 : decode cX3_weightsOf 15 = .ok (.imul, 1) := by decide +kernel
theorem dX3_weightsOf_16 : decode cX3_weightsOf 16 = .ok (.iload 4, 2) := by decide +kernel
theorem dX3_weightsOf_18 : decode cX3_weightsOf 18 = .ok (.iadd, 1) := by decide +kernel
theorem dX3_weightsOf_19 : decode cX3_weightsOf 19 = .ok (.istore 5, 2) := by decide +kernel
theorem dX3_weightsOf_21 : decode cX3_weightsOf 21 = .ok (.aload_n 0, 1) := by decide +kernel
theorem dX3_weightsOf_22 : decode cX3_weightsOf 22 = .ok (.getfield 7, 3) := by decide +kernel
theorem dX3_weightsOf_25 : decode cX3_weightsOf 25 = .ok (.iload 5, 2) := by decide +kernel
theorem dX3_weightsOf_27 : decode cX3_weightsOf 27 = .ok (.iaload, 1) := by decide +kernel
theorem dX3_weightsOf_28 : decode cX3_weightsOf 28 = .ok (.iconst 1, 1) := by decide +kernel
theorem dX3_weightsOf_29 : decode cX3_weightsOf 29 = .ok (.if_icmp .ne 57, 3) := by decide +kernel
theorem dX3_weightsOf_32 : decode cX3_weightsOf 32 = .ok (.iload_n 3, 1) := by decide +kernel
theorem dX3_weightsOf_33 : decode cX3_weightsOf 33 = .ok (.istore 6, 2) := by decide +kernel
theorem dX3_weightsOf_35 : decode cX3_weightsOf 35 = .ok (.iload 6, 2) := by decide +kernel
theorem dX3_weightsOf_37 : decode cX3_weightsOf 37 = .ok (.ifCond .le 35, 3) := by decide +kernel
theorem dX3_weightsOf_40 : decode cX3_weightsOf 40 = .ok (.aload_n 2, 1) := by decide +kernel
theorem dX3_weightsOf_41 : decode cX3_weightsOf 41 = .ok (.iload 6, 2) := by decide +kernel
theorem dX3_weightsOf_43 : decode cX3_weightsOf 43 = .ok (.iconst 1, 1) := by decide +kernel
theorem dX3_weightsOf_44 : decode cX3_weightsOf 44 = .ok (.isub, 1) := by decide +kernel
theorem dX3_weightsOf_45 : decode cX3_weightsOf 45 = .ok (.iaload, 1) := by decide +kernel
theorem dX3_weightsOf_46 : decode cX3_weightsOf 46 = .ok (.aload_n 0, 1) := by decide +kernel
theorem dX3_weightsOf_47 : decode cX3_weightsOf 47 = .ok (.getfield 13, 3) := by decide +kernel
theorem dX3_weightsOf_50 : decode cX3_weightsOf 50 = .ok (.iload 5, 2) := by decide +kernel
theorem dX3_weightsOf_52 : decode cX3_weightsOf 52 = .ok (.iaload, 1) := by decide +kernel
theorem dX3_weightsOf_53 : decode cX3_weightsOf 53 = .ok (.if_icmp .ge 19, 3) := by decide +kernel
theorem dX3_weightsOf_56 : decode cX3_weightsOf 56 = .ok (.aload_n 2, 1) := by decide +kernel
theorem dX3_weightsOf_57 : decode cX3_weightsOf 57 = .ok (.iload 6, 2) := by decide +kernel
theorem dX3_weightsOf_59 : decode cX3_weightsOf 59 = .ok (.aload_n 2, 1) := by decide +kernel
theorem dX3_weightsOf_60 : decode cX3_weightsOf 60 = .ok (.iload 6, 2) := by decide +kernel
theorem dX3_weightsOf_62 : decode cX3_weightsOf 62 = .ok (.iconst 1, 1) := by decide +kernel
theorem dX3_weightsOf_63 : decode cX3_weightsOf 63 = .ok (.isub, 1) := by decide +kernel
theorem dX3_weightsOf_64 : decode cX3_weightsOf 64 = .ok (.iaload, 1) := by decide +kernel
theorem dX3_weightsOf_65 : decode cX3_weightsOf 65 = .ok (.iastore, 1) := by decide +kernel
theorem dX3_weightsOf_66 : decode cX3_weightsOf 66 = .ok (.iinc 6 (-1), 3) := by decide +kernel
theorem dX3_weightsOf_69 : decode cX3_weightsOf 69 = .ok (.goto (-34), 3) := by decide +kernel
theorem dX3_weightsOf_72 : decode cX3_weightsOf 72 = .ok (.aload_n 2, 1) := by decide +kernel
theorem dX3_weightsOf_73 : decode cX3_weightsOf 73 = .ok (.iload 6, 2) := by decide +kernel
theorem dX3_weightsOf_75 : decode cX3_weightsOf 75 = .ok (.aload_n 0, 1) := by decide +kernel
theorem dX3_weightsOf_76 : decode cX3_weightsOf 76 = .ok (.getfield 13, 3) := by decide +kernel
theorem dX3_weightsOf_79 : decode cX3_weightsOf 79 = .ok (.iload 5, 2) := by decide +kernel
theorem dX3_weightsOf_81 : decode cX3_weightsOf 81 = .ok (.iaload, 1) := by decide +kernel
theorem dX3_weightsOf_82 : decode cX3_weightsOf 82 = .ok (.iastore, 1) := by decide +kernel
theorem dX3_weightsOf_83 : decode cX3_weightsOf 83 = .ok (.iinc 3 1, 3) := by decide +kernel
theorem dX3_weightsOf_86 : decode cX3_weightsOf 86 = .ok (.iinc 4 1, 3) := by decide +kernel
theorem dX3_weightsOf_89 : decode cX3_weightsOf 89 = .ok (.goto (-84), 3) := by decide +kernel
theorem dX3_weightsOf_92 : decode cX3_weightsOf 92 = .ok (.iload_n 3, 1) := by decide +kernel
