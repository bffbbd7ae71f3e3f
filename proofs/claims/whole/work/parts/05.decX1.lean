theorem dX1_init_0 : decode cX1_init 0 = .ok (.aload_n 0, 1) := by decide +kernel
theorem dX1_init_1 : decode cX1_init 1 = .ok (.invokespecial 3, 3) := by decide +kernel
theorem dX1_init_4 : decode cX1_init 4 = .ok (.aload_n 0, 1) := by decide +kernel
theorem dX1_init_5 : decode cX1_init 5 = .ok (.bipush 72, 2) := by decide +kernel
theorem dX1_init_7 : decode cX1_init 7 = .ok (.newarray .int, 2) := by decide +kernel
theorem dX1_init_9 : decode cX1_init 9 = .ok (.putfield 9, 3) := by decide +kernel
theorem dX1_init_12 : decode cX1_init 12 = .ok (.aload_n 0, 1) := by decide +kernel
theorem dX1_init_13 : decode cX1_init 13 = .ok (.bipush 72, 2) := by decide +kernel
theorem dX1_init_15 : decode cX1_init 15 = .ok (.newarray .int, 2) := by decide +kernel
theorem dX1_init_17 : decode cX1_init 17 = .ok (.putfield 15, 3) := by decide +kernel
theorem dX1_init_20 : decode cX1_init 20 = .ok (.aload_n 0, 1) := by decide +kernel
theorem dX1_init_21 : decode cX1_init 21 = .ok (.bipush 72, 2) := by decide +kernel
theorem dX1_init_23 : decode cX1_init 23 = .ok (.newarray .int, 2) := by decide +kernel
theorem dX1_init_25 : decode cX1_init 25 = .ok (.putfield 18, 3) := by decide +kernel
theorem dX1_init_28 : decode cX1_init 28 = .ok (.aload_n 0, 1) := by decide +kernel
theorem dX1_init_29 : decode cX1_init 29 = .ok (.bipush 72, 2) := by decide +kernel
theorem dX1_init_31 : decode cX1_init 31 = .ok (.newarray .int, 2) := by decide +kernel
theorem dX1_init_33 : decode cX1_init 33 = .ok (.putfield 21, 3) := by decide +kernel
theorem dX1_init_36 : decode cX1_init 36 = .ok (.return_, 1) := by decide +kernel
theorem dX1_clearFor_0 : decode cX1_clearFor 0 = .ok (.aload_n 0, 1) := by decide +kernel
theorem dX1_clearFor_1 : decode cX1_clearFor 1 = .ok (.iload_n 1, 1) := by decide +kernel
theorem dX1_clearFor_2 : decode cX1_clearFor 2 = .ok (.putfield 24, 3) := by decide +kernel
theorem dX1_clearFor_5 : decode cX1_clearFor 5 = .ok (.aload_n 0, 1) := by decide +kernel
theorem dX1_clearFor_6 : decode cX1_clearFor 6 = .ok (.iconst 0, 1) := by decide +kernel
theorem dX1_clearFor_7 : decode cX1_clearFor 7 = .ok (.putfield 28, 3) := by decide +kernel
theorem dX1_clearFor_10 : decode cX1_clearFor 10 = .ok (.iconst 0, 1) := by decide +kernel
theorem dX1_clearFor_11 : decode cX1_clearFor 11 = .ok (.istore_n 2, 1) := by decide +kernel
theorem dX1_clearFor_12 : decode cX1_clearFor 12 = .ok (.iload_n 2, 1) := by decide +kernel
theorem dX1_clearFor_13 : decode cX1_clearFor 13 = .ok (.bipush 72, 2) := by decide +kernel
theorem dX1_clearFor_15 : decode cX1_clearFor 15 = .ok (.if_icmp .ge 40, 3) := by decide +kernel
theorem dX1_clearFor_18 : decode cX1_clearFor 18 = .ok (.aload_n 0, 1) := by decide +kernel
theorem dX1_clearFor_19 : decode cX1_clearFor 19 = .ok (.getfield 9, 3) := by decide +kernel
theorem dX1_clearFor_22 : decode cX1_clearFor 22 = .ok (.iload_n 2, 1) := by decide +kernel
theorem dX1_clearFor_23 : decode cX1_clearFor 23 = .ok (.ldc 31, 2) := by decide +kernel
theorem dX1_clearFor_25 : decode cX1_clearFor 25 = .ok (.iastore, 1) := by decide +kernel
theorem dX1_clearFor_26 : decode cX1_clearFor 26 = .ok (.aload_n 0, 1) := by decide +kernel
theorem dX1_clearFor_27 : decode cX1_clearFor 27 = .ok (.getfield 15, 3) := by decide +kernel
theorem dX1_clearFor_30 : decode cX1_clearFor 30 = .ok (.iload_n 2, 1) := by decide +kernel
theorem dX1_clearFor_31 : decode cX1_clearFor 31 = .ok (.ldc 31, 2) := by decide +kernel
theorem dX1_clearFor_33 : decode cX1_clearFor 33 = .ok (.iastore, 1) := by decide +kernel
theorem dX1_clearFor_34 : decode cX1_clearFor 34 = .ok (.aload_n 0, 1) := by decide +kernel
theorem dX1_clearFor_35 : decode cX1_clearFor 35 = .ok (.getfield 18, 3) := by decide +kernel
theorem dX1_clearFor_38 : decode cX1_clearFor 38 = .ok (.iload_n 2, 1) := by decide +kernel
theorem dX1_clearFor_39 : decode cX1_clearFor 39 = .ok (.iconst 0, 1) := by decide +kernel
theorem dX1_clearFor_40 : decode cX1_clearFor 40 = .ok (.iastore, 1) := by decide +kernel
theorem dX1_clearFor_41 : decode cX1_clearFor 41 = .ok (.aload_n 0, 1) := by decide +kernel
theorem dX1_clearFor_42 : decode cX1_clearFor 42 = .ok (.getfield 21, 3) := by decide +kernel
theorem dX1_clearFor_45 : decode cX1_clearFor 45 = .ok (.iload_n 2, 1) := by decide +kernel
theorem dX1_clearFor_46 : decode cX1_clearFor 46 = .ok (.ldc 31, 2) := by decide +kernel
theorem dX1_clearFor_48 : decode cX1_clearFor 48 = .ok (.iastore, 1) := by decide +kernel
theorem dX1_clearFor_49 : decode cX1_clearFor 49 = .ok (.iinc 2 1, 3) := by decide +kernel
theorem dX1_clearFor_52 : decode cX1_clearFor 52 = .ok (.goto (-40), 3) := by decide +kernel
theorem dX1_clearFor_55 : decode cX1_clearFor 55 = .ok (.return_, 1) := by decide +kernel
theorem dX1_enter_0 : decode cX1_enter 0 = .ok (.iload_n 1, 1) := by decide +kernel
theorem dX1_enter_1 : decode cX1_enter 1 = .ok (.iload_n 2, 1) := by decide +kernel
theorem dX1_enter_2 : decode cX1_enter 2 = .ok (.invokestatic 32, 3) := by decide +kernel
theorem dX1_enter_5 : decode cX1_enter 5 = .ok (.istore 6, 2) := by decide +kernel
theorem dX1_enter_7 : decode cX1_enter 7 = .ok (.aload_n 0, 1) := by decide +kernel
theorem dX1_enter_8 : decode cX1_enter 8 = .ok (.getfield 9, 3) := by decide +kernel
theorem dX1_enter_11 : decode cX1_enter 11 = .ok (.iload 6, 2) := by decide +kernel
theorem dX1_enter_13 : decode cX1_enter 13 = .ok (.iload_n 3, 1) := by decide +kernel
theorem dX1_enter_14 : decode cX1_enter 14 = .ok (.iastore, 1) := by decide +kernel
theorem dX1_enter_15 : decode cX1_enter 15 = .ok (.aload_n 0, 1) := by decide +kernel
theorem dX1_enter_16 : decode cX1_enter 16 = .ok (.getfield 15, 3) := by decide +kernel
theorem dX1_enter_19 : decode cX1_enter 19 = .ok (.iload 6, 2) := by decide +kernel
theorem dX1_enter_21 : decode cX1_enter 21 = .ok (.iload 4, 2) := by decide +kernel
theorem dX1_enter_23 : decode cX1_enter 23 = .ok (.iastore, 1) := by decide +kernel
theorem dX1_enter_24 : decode cX1_enter 24 = .ok (.aload_n 0, 1) := by decide +kernel
theorem dX1_enter_25 : decode cX1_enter 25 = .ok (.getfield 18, 3) := by decide +kernel
theorem dX1_enter_28 : decode cX1_enter 28 = .ok (.iload 6, 2) := by decide +kernel
theorem dX1_enter_30 : decode cX1_enter 30 = .ok (.iload 5, 2) := by decide +kernel
theorem dX1_enter_32 : decode cX1_enter 32 = .ok (.iastore, 1) := by decide +kernel
theorem dX1_enter_33 : decode cX1_enter 33 = .ok (.aload_n 0, 1) := by decide +kernel
theorem dX1_enter_34 : decode cX1_enter 34 = .ok (.dup, 1) := by decide +kernel
theorem dX1_enter_35 : decode cX1_enter 35 = .ok (.getfield 28, 3) := by decide +kernel
theorem dX1_enter_38 : decode cX1_enter 38 = .ok (.iconst 1, 1) := by decide +kernel
theorem dX1_enter_39 : decode cX1_enter 39 = .ok (.iadd, 1) := by decide +kernel
theorem dX1_enter_40 : decode cX1_enter 40 = .ok (.putfield 28, 3) := by decide +kernel
theorem dX1_enter_43 : decode cX1_enter 43 = .ok (.iload_n 3, 1) := by decide +kernel
theorem dX1_enter_44 : decode cX1_enter 44 = .ok (.invokestatic 36, 3) := by decide +kernel
theorem dX1_enter_47 : decode cX1_enter 47 = .ok (.ifCond .eq 9, 3) := by decide +kernel
theorem dX1_enter_50 : decode cX1_enter 50 = .ok (.aload_n 0, 1) := by decide +kernel
theorem dX1_enter_51 : decode cX1_enter 51 = .ok (.iload_n 1, 1) := by decide +kernel
theorem dX1_enter_52 : decode cX1_enter 52 = .ok (.iload_n 3, 1) := by decide +kernel
theorem dX1_enter_53 : decode cX1_enter 53 = .ok (.invokevirtual 40, 3) := by decide +kernel
theorem dX1_enter_56 : decode cX1_enter 56 = .ok (.return_, 1) := by decide +kernel
theorem dX1_isMeasuredCrack_0 : decode cX1_isMeasuredCrack 0 = .ok (.iload_n 1, 1) := by decide +kernel
theorem dX1_isMeasuredCrack_1 : decode cX1_isMeasuredCrack 1 = .ok (.iload_n 2, 1) := by decide +kernel
theorem dX1_isMeasuredCrack_2 : decode cX1_isMeasuredCrack 2 = .ok (.invokestatic 32, 3) := by decide +kernel
theorem dX1_isMeasuredCrack_5 : decode cX1_isMeasuredCrack 5 = .ok (.istore_n 3, 1) := by decide +kernel
theorem dX1_isMeasuredCrack_6 : decode cX1_isMeasuredCrack 6 = .ok (.aload_n 0, 1) := by decide +kernel
theorem dX1_isMeasuredCrack_7 : decode cX1_isMeasuredCrack 7 = .ok (.getfield 9, 3) := by decide +kernel
theorem dX1_isMeasuredCrack_10 : decode cX1_isMeasuredCrack 10 = .ok (.iload_n 3, 1) := by decide +kernel
theorem dX1_isMeasuredCrack_11 : decode cX1_isMeasuredCrack 11 = .ok (.iaload, 1) := by decide +kernel
theorem dX1_isMeasuredCrack_12 : decode cX1_isMeasuredCrack 12 = .ok (.iconst (-1), 1) := by decide +kernel
theorem dX1_isMeasuredCrack_13 : decode cX1_isMeasuredCrack 13 = .ok (.if_icmp .ne 16, 3) := by decide +kernel
theorem dX1_isMeasuredCrack_16 : decode cX1_isMeasuredCrack 16 = .ok (.aload_n 0, 1) := by decide +kernel
theorem dX1_isMeasuredCrack_17 : decode cX1_isMeasuredCrack 17 = .ok (.getfield 18, 3) := by decide +kernel
theorem dX1_isMeasuredCrack_20 : decode cX1_isMeasuredCrack 20 = .ok (.iload_n 3, 1) := by decide +kernel
theorem dX1_isMeasuredCrack_21 : decode cX1_isMeasuredCrack 21 = .ok (.iaload, 1) := by decide +kernel
theorem dX1_isMeasuredCrack_22 : decode cX1_isMeasuredCrack 22 = .ok (.ifCond .eq 7, 3) := by decide +kernel
theorem dX1_isMeasuredCrack_25 : decode cX1_isMeasuredCrack 25 = .ok (.iconst 1, 1) := by decide +kernel
theorem dX1_isMeasuredCrack_26 : decode cX1_isMeasuredCrack 26 = .ok (.goto 4, 3) := by decide +kernel
theorem dX1_isMeasuredCrack_29 : decode cX1_isMeasuredCrack 29 = .ok (.iconst 0, 1) := by decide +kernel
theorem dX1_isMeasuredCrack_30 : decode cX1_isMeasuredCrack 30 = .ok (.ireturn, 1) := by decide +kernel
theorem dX1_makeSound_0 : decode cX1_makeSound 0 = .ok (.iload_n 1, 1) := by decide +kernel
theorem dX1_makeSound_1 : decode cX1_makeSound 1 = .ok (.iload_n 2, 1) := by decide +kernel
theorem dX1_makeSound_2 : decode cX1_makeSound 2 = .ok (.invokestatic 32, 3) := by decide +kernel
theorem dX1_makeSound_5 : decode cX1_makeSound 5 = .ok (.istore_n 3, 1) := by decide +kernel
theorem dX1_makeSound_6 : decode cX1_makeSound 6 = .ok (.aload_n 0, 1) := by decide +kernel
theorem dX1_makeSound_7 : decode cX1_makeSound 7 = .ok (.getfield 9, 3) := by decide +kernel
theorem dX1_makeSound_10 : decode cX1_makeSound 10 = .ok (.iload_n 3, 1) := by decide +kernel
theorem dX1_makeSound_11 : decode cX1_makeSound 11 = .ok (.aload_n 0, 1) := by decide +kernel
theorem dX1_makeSound_12 : decode cX1_makeSound 12 = .ok (.getfield 18, 3) := by decide +kernel
theorem dX1_makeSound_15 : decode cX1_makeSound 15 = .ok (.iload_n 3, 1) := by decide +kernel
theorem dX1_makeSound_16 : decode cX1_makeSound 16 = .ok (.iaload, 1) := by decide +kernel
theorem dX1_makeSound_17 : decode cX1_makeSound 17 = .ok (.iastore, 1) := by decide +kernel
theorem dX1_makeSound_18 : decode cX1_makeSound 18 = .ok (.aload_n 0, 1) := by decide +kernel
theorem dX1_makeSound_19 : decode cX1_makeSound 19 = .ok (.iload_n 1, 1) := by decide +kernel
theorem dX1_makeSound_20 : decode cX1_makeSound 20 = .ok (.aload_n 0, 1) := by decide +kernel
theorem dX1_makeSound_21 : decode cX1_makeSound 21 = .ok (.getfield 9, 3) := by decide +kernel
theorem dX1_makeSound_24 : decode cX1_makeSound 24 = .ok (.iload_n 3, 1) := by decide +kernel
theorem dX1_makeSound_25 : decode cX1_makeSound 25 = .ok (.iaload, 1) := by decide +kernel
theorem dX1_makeSound_26 : decode cX1_makeSound 26 = .ok (.invokevirtual 40, 3) := by decide +kernel
theorem dX1_makeSound_29 : decode cX1_makeSound 29 = .ok (.aload_n 0, 1) := by decide +kernel
theorem dX1_makeSound_30 : decode cX1_makeSound 30 = .ok (.getfield 9, 3) := by decide +kernel
theorem dX1_makeSound_33 : decode cX1_makeSound 33 = .ok (.iload_n 3, 1) := by decide +kernel
theorem dX1_makeSound_34 : decode cX1_makeSound 34 = .ok (.iaload, 1) := by decide +kernel
theorem dX1_makeSound_35 : decode cX1_makeSound 35 = .ok (.ireturn, 1) := by decide +kernel
theorem dX1_howManyGrowers_0 : decode cX1_howManyGrowers 0 = .ok (.aload_n 0, 1) := by decide +kernel
theorem dX1_howManyGrowers_1 : decode cX1_howManyGrowers 1 = .ok (.getfield 24, 3) := by decide +kernel
theorem dX1_howManyGrowers_4 : decode cX1_howManyGrowers 4 = .ok (.ireturn, 1) := by decide +kernel
theorem dX1_howManyEntries_0 : decode cX1_howManyEntries 0 = .ok (.aload_n 0, 1) := by decide +kernel
theorem dX1_howManyEntries_1 : decode cX1_howManyEntries 1 = .ok (.getfield 28, 3) := by decide +kernel
theorem dX1_howManyEntries_4 : decode cX1_howManyEntries 4 = .ok (.ireturn, 1) := by decide +kernel
theorem dX1_hasEntry_0 : decode cX1_hasEntry 0 = .ok (.aload_n 0, 1) := by decide +kernel
theorem dX1_hasEntry_1 : decode cX1_hasEntry 1 = .ok (.getfield 9, 3) := by decide +kernel
theorem dX1_hasEntry_4 : decode cX1_hasEntry 4 = .ok (.iload_n 1, 1) := by decide +kernel
theorem dX1_hasEntry_5 : decode cX1_hasEntry 5 = .ok (.iload_n 2, 1) := by decide +kernel
theorem dX1_hasEntry_6 : decode cX1_hasEntry 6 = .ok (.invokestatic 32, 3) := by decide +kernel
theorem dX1_hasEntry_9 : decode cX1_hasEntry 9 = .ok (.iaload, 1) := by decide +kernel
theorem dX1_hasEntry_10 : decode cX1_hasEntry 10 = .ok (.ldc 31, 2) := by decide +kernel
theorem dX1_hasEntry_12 : decode cX1_hasEntry 12 = .ok (.if_icmp .eq 7, 3) := by decide +kernel
theorem dX1_hasEntry_15 : decode cX1_hasEntry 15 = .ok (.iconst 1, 1) := by decide +kernel
theorem dX1_hasEntry_16 : decode cX1_hasEntry 16 = .ok (.goto 4, 3) := by decide +kernel
theorem dX1_hasEntry_19 : decode cX1_hasEntry 19 = .ok (.iconst 0, 1) := by decide +kernel
theorem dX1_hasEntry_20 : decode cX1_hasEntry 20 = .ok (.ireturn, 1) := by decide +kernel
theorem dX1_markOn_0 : decode cX1_markOn 0 = .ok (.aload_n 0, 1) := by decide +kernel
theorem dX1_markOn_1 : decode cX1_markOn 1 = .ok (.getfield 9, 3) := by decide +kernel
theorem dX1_markOn_4 : decode cX1_markOn 4 = .ok (.iload_n 1, 1) := by decide +kernel
theorem dX1_markOn_5 : decode cX1_markOn 5 = .ok (.iload_n 2, 1) := by decide +kernel
theorem dX1_markOn_6 : decode cX1_markOn 6 = .ok (.invokestatic 32, 3) := by decide +kernel
theorem dX1_markOn_9 : decode cX1_markOn 9 = .ok (.iaload, 1) := by decide +kernel
theorem dX1_markOn_10 : decode cX1_markOn 10 = .ok (.ireturn, 1) := by decide +kernel
theorem dX1_tiltOn_0 : decode cX1_tiltOn 0 = .ok (.aload_n 0, 1) := by decide +kernel
theorem dX1_tiltOn_1 : decode cX1_tiltOn 1 = .ok (.getfield 15, 3) := by decide +kernel
theorem dX1_tiltOn_4 : decode cX1_tiltOn 4 = .ok (.iload_n 1, 1) := by decide +kernel
theorem dX1_tiltOn_5 : decode cX1_tiltOn 5 = .ok (.iload_n 2, 1) := by decide +kernel
theorem dX1_tiltOn_6 : decode cX1_tiltOn 6 = .ok (.invokestatic 32, 3) := by decide +kernel
theorem dX1_tiltOn_9 : decode cX1_tiltOn 9 = .ok (.iaload, 1) := by decide +kernel
theorem dX1_tiltOn_10 : decode cX1_tiltOn 10 = .ok (.ireturn, 1) := by decide +kernel
theorem dX1_valueOn_0 : decode cX1_valueOn 0 = .ok (.iload_n 1, 1) := by decide +kernel
theorem dX1_valueOn_1 : decode cX1_valueOn 1 = .ok (.iconst 1, 1) := by decide +kernel
theorem dX1_valueOn_2 : decode cX1_valueOn 2 = .ok (.if_icmp .ne 10, 3) := by decide +kernel
theorem dX1_valueOn_5 : decode cX1_valueOn 5 = .ok (.aload_n 0, 1) := by decide +kernel
theorem dX1_valueOn_6 : decode cX1_valueOn 6 = .ok (.iload_n 2, 1) := by decide +kernel
theorem dX1_valueOn_7 : decode cX1_valueOn 7 = .ok (.iload_n 3, 1) := by decide +kernel
theorem dX1_valueOn_8 : decode cX1_valueOn 8 = .ok (.invokevirtual 44, 3) := by decide +kernel
theorem dX1_valueOn_11 : decode cX1_valueOn 11 = .ok (.ireturn, 1) := by decide +kernel
theorem dX1_valueOn_12 : decode cX1_valueOn 12 = .ok (.aload_n 0, 1) := by decide +kernel
theorem dX1_valueOn_13 : decode cX1_valueOn 13 = .ok (.iload_n 2, 1) := by decide +kernel
theorem dX1_valueOn_14 : decode cX1_valueOn 14 = .ok (.iload_n 3, 1) := by decide +kernel
theorem dX1_valueOn_15 : decode cX1_valueOn 15 = .ok (.invokevirtual 47, 3) := by decide +kernel
theorem dX1_valueOn_18 : decode cX1_valueOn 18 = .ok (.istore 4, 2) := by decide +kernel
theorem dX1_valueOn_20 : decode cX1_valueOn 20 = .ok (.iload 4, 2) := by decide +kernel
theorem dX1_valueOn_22 : decode cX1_valueOn 22 = .ok (.invokestatic 36, 3) := by decide +kernel
theorem dX1_valueOn_25 : decode cX1_valueOn 25 = .ok (.ifCond .eq 8, 3) := by decide +kernel
theorem dX1_valueOn_28 : decode cX1_valueOn 28 = .ok (.iload 4, 2) := by decide +kernel
theorem dX1_valueOn_30 : decode cX1_valueOn 30 = .ok (.goto 5, 3) := by decide +kernel
theorem dX1_valueOn_33 : decode cX1_valueOn 33 = .ok (.ldc 31, 2) := by decide +kernel
theorem dX1_valueOn_35 : decode cX1_valueOn 35 = .ok (.ireturn, 1) := by decide +kernel
theorem dX1_latestDayOf_0 : decode cX1_latestDayOf 0 = .ok (.bipush 6, 2) := by decide +kernel
theorem dX1_latestDayOf_2 : decode cX1_latestDayOf 2 = .ok (.istore_n 2, 1) := by decide +kernel
theorem dX1_latestDayOf_3 : decode cX1_latestDayOf 3 = .ok (.iload_n 2, 1) := by decide +kernel
theorem dX1_latestDayOf_4 : decode cX1_latestDayOf 4 = .ok (.iconst 1, 1) := by decide +kernel
theorem dX1_latestDayOf_5 : decode cX1_latestDayOf 5 = .ok (.if_icmp .lt 20, 3) := by decide +kernel
theorem dX1_latestDayOf_8 : decode cX1_latestDayOf 8 = .ok (.aload_n 0, 1) := by decide +kernel
theorem dX1_latestDayOf_9 : decode cX1_latestDayOf 9 = .ok (.iload_n 1, 1) := by decide +kernel
theorem dX1_latestDayOf_10 : decode cX1_latestDayOf 10 = .ok (.iload_n 2, 1) := by decide +kernel
theorem dX1_latestDayOf_11 : decode cX1_latestDayOf 11 = .ok (.invokevirtual 50, 3) := by decide +kernel
theorem dX1_latestDayOf_14 : decode cX1_latestDayOf 14 = .ok (.ifCond .eq 5, 3) := by decide +kernel
theorem dX1_latestDayOf_17 : decode cX1_latestDayOf 17 = .ok (.iload_n 2, 1) := by decide +kernel
theorem dX1_latestDayOf_18 : decode cX1_latestDayOf 18 = .ok (.ireturn, 1) := by decide +kernel
theorem dX1_latestDayOf_19 : decode cX1_latestDayOf 19 = .ok (.iinc 2 (-1), 3) := by decide +kernel
theorem dX1_latestDayOf_22 : decode cX1_latestDayOf 22 = .ok (.goto (-19), 3) := by decide +kernel
theorem dX1_latestDayOf_25 : decode cX1_latestDayOf 25 = .ok (.ldc 31, 2) := by decide +kernel
theorem dX1_latestDayOf_27 : decode cX1_latestDayOf 27 = .ok (.ireturn, 1) := by decide +kernel
theorem dX1_latestTiltOf_0 : decode cX1_latestTiltOf 0 = .ok (.aload_n 0, 1) := by decide +kernel
theorem dX1_latestTiltOf_1 : decode cX1_latestTiltOf 1 = .ok (.iload_n 1, 1) := by decide +kernel
theorem dX1_latestTiltOf_2 : decode cX1_latestTiltOf 2 = .ok (.invokevirtual 54, 3) := by decide +kernel
theorem dX1_latestTiltOf_5 : decode cX1_latestTiltOf 5 = .ok (.istore_n 2, 1) := by decide +kernel
theorem dX1_latestTiltOf_6 : decode cX1_latestTiltOf 6 = .ok (.iload_n 2, 1) := by decide +kernel
theorem dX1_latestTiltOf_7 : decode cX1_latestTiltOf 7 = .ok (.ldc 31, 2) := by decide +kernel
theorem dX1_latestTiltOf_9 : decode cX1_latestTiltOf 9 = .ok (.if_icmp .ne 8, 3) := by decide +kernel
theorem dX1_latestTiltOf_12 : decode cX1_latestTiltOf 12 = .ok (.ldc 31, 2) := by decide +kernel
theorem dX1_latestTiltOf_14 : decode cX1_latestTiltOf 14 = .ok (.goto 9, 3) := by decide +kernel
theorem dX1_latestTiltOf_17 : decode cX1_latestTiltOf 17 = .ok (.aload_n 0, 1) := by decide +kernel
theorem dX1_latestTiltOf_18 : decode cX1_latestTiltOf 18 = .ok (.iload_n 1, 1) := by decide +kernel
theorem dX1_latestTiltOf_19 : decode cX1_latestTiltOf 19 = .ok (.iload_n 2, 1) := by decide +kernel
theorem dX1_latestTiltOf_20 : decode cX1_latestTiltOf 20 = .ok (.invokevirtual 44, 3) := by decide +kernel
theorem dX1_latestTiltOf_23 : decode cX1_latestTiltOf 23 = .ok (.ireturn, 1) := by decide +kernel
theorem dX1_bestOf_0 : decode cX1_bestOf 0 = .ok (.aload_n 0, 1) := by decide +kernel
theorem dX1_bestOf_1 : decode cX1_bestOf 1 = .ok (.getfield 21, 3) := by decide +kernel
theorem dX1_bestOf_4 : decode cX1_bestOf 4 = .ok (.iload_n 1, 1) := by decide +kernel
theorem dX1_bestOf_5 : decode cX1_bestOf 5 = .ok (.iconst 1, 1) := by decide +kernel
theorem dX1_bestOf_6 : decode cX1_bestOf 6 = .ok (.invokestatic 32, 3) := by decide +kernel
theorem dX1_bestOf_9 : decode cX1_bestOf 9 = .ok (.iaload, 1) := by decide +kernel
theorem dX1_bestOf_10 : decode cX1_bestOf 10 = .ok (.ireturn, 1) := by decide +kernel
theorem dX1_placeOf_0 : decode cX1_placeOf 0 = .ok (.iconst 0, 1) := by decide +kernel
theorem dX1_placeOf_1 : decode cX1_placeOf 1 = .ok (.istore_n 2, 1) := by decide +kernel
theorem dX1_placeOf_2 : decode cX1_placeOf 2 = .ok (.iconst 0, 1) := by decide +kernel
theorem dX1_placeOf_3 : decode cX1_placeOf 3 = .ok (.istore_n 3, 1) := by decide +kernel
theorem dX1_placeOf_4 : decode cX1_placeOf 4 = .ok (.iload_n 3, 1) := by decide +kernel
theorem dX1_placeOf_5 : decode cX1_placeOf 5 = .ok (.aload_n 0, 1) := by decide +kernel
theorem dX1_placeOf_6 : decode cX1_placeOf 6 = .ok (.getfield 24, 3) := by decide +kernel
theorem dX1_placeOf_9 : decode cX1_placeOf 9 = .ok (.if_icmp .ge 21, 3) := by decide +kernel
theorem dX1_placeOf_12 : decode cX1_placeOf 12 = .ok (.aload_n 0, 1) := by decide +kernel
theorem dX1_placeOf_13 : decode cX1_placeOf 13 = .ok (.iload_n 3, 1) := by decide +kernel
theorem dX1_placeOf_14 : decode cX1_placeOf 14 = .ok (.iload_n 1, 1) := by decide +kernel
theorem dX1_placeOf_15 : decode cX1_placeOf 15 = .ok (.invokevirtual 58, 3) := by decide +kernel
theorem dX1_placeOf_18 : decode cX1_placeOf 18 = .ok (.ifCond .eq 6, 3) := by decide +kernel
theorem dX1_placeOf_21 : decode cX1_placeOf 21 = .ok (.iinc 2 1, 3) := by decide +kernel
theorem dX1_placeOf_24 : decode cX1_placeOf 24 = .ok (.iinc 3 1, 3) := by decide +kernel
theorem dX1_placeOf_27 : decode cX1_placeOf 27 = .ok (.goto (-23), 3) := by decide +kernel
theorem dX1_placeOf_30 : decode cX1_placeOf 30 = .ok (.iconst 1, 1) := by decide +kernel
theorem dX1_placeOf_31 : decode cX1_placeOf 31 = .ok (.iload_n 2, 1) := by decide +kernel
theorem dX1_placeOf_32 : decode cX1_placeOf 32 = .ok (.iadd, 1) := by decide +kernel
theorem dX1_placeOf_33 : decode cX1_placeOf 33 = .ok (.ireturn, 1) := by decide +kernel
theorem dX1_isBefore_0 : decode cX1_isBefore 0 = .ok (.iconst 1, 1) := by decide +kernel
theorem dX1_isBefore_1 : decode cX1_isBefore 1 = .ok (.istore_n 3, 1) := by decide +kernel
theorem dX1_isBefore_2 : decode cX1_isBefore 2 = .ok (.iload_n 3, 1) := by decide +kernel
theorem dX1_isBefore_3 : decode cX1_isBefore 3 = .ok (.bipush 6, 2) := by decide +kernel
theorem dX1_isBefore_5 : decode cX1_isBefore 5 = .ok (.if_icmp .gt 53, 3) := by decide +kernel
theorem dX1_isBefore_8 : decode cX1_isBefore 8 = .ok (.aload_n 0, 1) := by decide +kernel
theorem dX1_isBefore_9 : decode cX1_isBefore 9 = .ok (.getfield 21, 3) := by decide +kernel
theorem dX1_isBefore_12 : decode cX1_isBefore 12 = .ok (.iload_n 1, 1) := by decide +kernel
theorem dX1_isBefore_13 : decode cX1_isBefore 13 = .ok (.iload_n 3, 1) := by decide +kernel
theorem dX1_isBefore_14 : decode cX1_isBefore 14 = .ok (.invokestatic 32, 3) := by decide +kernel
theorem dX1_isBefore_17 : decode cX1_isBefore 17 = .ok (.iaload, 1) := by decide +kernel
theorem dX1_isBefore_18 : decode cX1_isBefore 18 = .ok (.istore 4, 2) := by decide +kernel
theorem dX1_isBefore_20 : decode cX1_isBefore 20 = .ok (.aload_n 0, 1) := by decide +kernel
theorem dX1_isBefore_21 : decode cX1_isBefore 21 = .ok (.getfield 21, 3) := by decide +kernel
theorem dX1_isBefore_24 : decode cX1_isBefore 24 = .ok (.iload_n 2, 1) := by decide +kernel
theorem dX1_isBefore_25 : decode cX1_isBefore 25 = .ok (.iload_n 3, 1) := by decide +kernel
theorem dX1_isBefore_26 : decode cX1_isBefore 26 = .ok (.invokestatic 32, 3) := by decide +kernel
theorem dX1_isBefore_29 : decode cX1_isBefore 29 = .ok (.iaload, 1) := by decide +kernel
theorem dX1_isBefore_30 : decode cX1_isBefore 30 = .ok (.istore 5, 2) := by decide +kernel
theorem dX1_isBefore_32 : decode cX1_isBefore 32 = .ok (.iload 4, 2) := by decide +kernel
theorem dX1_isBefore_34 : decode cX1_isBefore 34 = .ok (.iload 5, 2) := by decide +kernel
theorem dX1_isBefore_36 : decode cX1_isBefore 36 = .ok (.if_icmp .eq 16, 3) := by decide +kernel
theorem dX1_isBefore_39 : decode cX1_isBefore 39 = .ok (.iload 4, 2) := by decide +kernel
theorem dX1_isBefore_41 : decode cX1_isBefore 41 = .ok (.iload 5, 2) := by decide +kernel
theorem dX1_isBefore_43 : decode cX1_isBefore 43 = .ok (.if_icmp .le 7, 3) := by decide +kernel
theorem dX1_isBefore_46 : decode cX1_isBefore 46 = .ok (.iconst 1, 1) := by decide +kernel
theorem dX1_isBefore_47 : decode cX1_isBefore 47 = .ok (.goto 4, 3) := by decide +kernel
theorem dX1_isBefore_50 : decode cX1_isBefore 50 = .ok (.iconst 0, 1) := by decide +kernel
theorem dX1_isBefore_51 : decode cX1_isBefore 51 = .ok (.ireturn, 1) := by decide +kernel
theorem dX1_isBefore_52 : decode cX1_isBefore 52 = .ok (.iinc 3 1, 3) := by decide +kernel
theorem dX1_isBefore_55 : decode cX1_isBefore 55 = .ok (.goto (-53), 3) := by decide +kernel
theorem dX1_isBefore_58 : decode cX1_isBefore 58 = .ok (.iconst 0, 1) := by decide +kernel
theorem dX1_isBefore_59 : decode cX1_isBefore 59 = .ok (.ireturn, 1) := by decide +kernel
theorem dX1_rank_0 : decode cX1_rank 0 = .ok (.iload_n 1, 1) := by decide +kernel
theorem dX1_rank_1 : decode cX1_rank 1 = .ok (.iconst 1, 1) := by decide +kernel
theorem dX1_rank_2 : decode cX1_rank 2 = .ok (.invokestatic 32, 3) := by decide +kernel
theorem dX1_rank_5 : decode cX1_rank 5 = .ok (.istore_n 3, 1) := by decide +kernel
theorem dX1_rank_6 : decode cX1_rank 6 = .ok (.iload_n 1, 1) := by decide +kernel
theorem dX1_rank_7 : decode cX1_rank 7 = .ok (.bipush 6, 2) := by decide +kernel
theorem dX1_rank_9 : decode cX1_rank 9 = .ok (.invokestatic 32, 3) := by decide +kernel
theorem dX1_rank_12 : decode cX1_rank 12 = .ok (.istore 4, 2) := by decide +kernel
theorem dX1_rank_14 : decode cX1_rank 14 = .ok (.iload 4, 2) := by decide +kernel
theorem dX1_rank_16 : decode cX1_rank 16 = .ok (.iload_n 3, 1) := by decide +kernel
theorem dX1_rank_17 : decode cX1_rank 17 = .ok (.if_icmp .le 38, 3) := by decide +kernel
theorem dX1_rank_20 : decode cX1_rank 20 = .ok (.aload_n 0, 1) := by decide +kernel
theorem dX1_rank_21 : decode cX1_rank 21 = .ok (.getfield 21, 3) := by decide +kernel
theorem dX1_rank_24 : decode cX1_rank 24 = .ok (.iload 4, 2) := by decide +kernel
theorem dX1_rank_26 : decode cX1_rank 26 = .ok (.iconst 1, 1) := by decide +kernel
theorem dX1_rank_27 : decode cX1_rank 27 = .ok (.isub, 1) := by decide +kernel
theorem dX1_rank_28 : decode cX1_rank 28 = .ok (.iaload, 1) := by decide +kernel
theorem dX1_rank_29 : decode cX1_rank 29 = .ok (.iload_n 2, 1) := by decide +kernel
theorem dX1_rank_30 : decode cX1_rank 30 = .ok (.if_icmp .ge 25, 3) := by decide +kernel
theorem dX1_rank_33 : decode cX1_rank 33 = .ok (.aload_n 0, 1) := by decide +kernel
theorem dX1_rank_34 : decode cX1_rank 34 = .ok (.getfield 21, 3) := by decide +kernel
theorem dX1_rank_37 : decode cX1_rank 37 = .ok (.iload 4, 2) := by decide +kernel
theorem dX1_rank_39 : decode cX1_rank 39 = .ok (.aload_n 0, 1) := by decide +kernel
theorem dX1_rank_40 : decode cX1_rank 40 = .ok (.getfield 21, 3) := by decide +kernel
theorem dX1_rank_43 : decode cX1_rank 43 = .ok (.iload 4, 2) := by decide +kernel
theorem dX1_rank_45 : decode cX1_rank 45 = .ok (.iconst 1, 1) := by decide +kernel
theorem dX1_rank_46 : decode cX1_rank 46 = .ok (.isub, 1) := by decide +kernel
theorem dX1_rank_47 : decode cX1_rank 47 = .ok (.iaload, 1) := by decide +kernel
theorem dX1_rank_48 : decode cX1_rank 48 = .ok (.iastore, 1) := by decide +kernel
theorem dX1_rank_49 : decode cX1_rank 49 = .ok (.iinc 4 (-1), 3) := by decide +kernel
theorem dX1_rank_52 : decode cX1_rank 52 = .ok (.goto (-38), 3) := by decide +kernel
theorem dX1_rank_55 : decode cX1_rank 55 = .ok (.aload_n 0, 1) := by decide +kernel
theorem dX1_rank_56 : decode cX1_rank 56 = .ok (.getfield 21, 3) := by decide +kernel
theorem dX1_rank_59 : decode cX1_rank 59 = .ok (.iload 4, 2) := by decide +kernel
theorem dX1_rank_61 : decode cX1_rank 61 = .ok (.iload_n 2, 1) := by decide +kernel
theorem dX1_rank_62 : decode cX1_rank 62 = .ok (.iastore, 1) := by decide +kernel
theorem dX1_rank_63 : decode cX1_rank 63 = .ok (.return_, 1) := by decide +kernel
theorem dX1_isWeight_0 : decode cX1_isWeight 0 = .ok (.iload_n 0, 1) := by decide +kernel
theorem dX1_isWeight_1 : decode cX1_isWeight 1 = .ok (.ifCond .le 7, 3) := by decide +kernel
theorem dX1_isWeight_4 : decode cX1_isWeight 4 = .ok (.iconst 1, 1) := by decide +kernel
theorem dX1_isWeight_5 : decode cX1_isWeight 5 = .ok (.goto 4, 3) := by decide +kernel
theorem dX1_isWeight_8 : decode cX1_isWeight 8 = .ok (.iconst 0, 1) := by decide +kernel
theorem dX1_isWeight_9 : decode cX1_isWeight 9 = .ok (.ireturn, 1) := by decide +kernel
theorem dX1_slot_0 : decode cX1_slot 0 = .ok (.iload_n 0, 1) := by decide +kernel
theorem dX1_slot_1 : decode cX1_slot 1 = .ok (.bipush 6, 2) := by decide +kernel
theorem dX1_slot_3 : decode cX1_slot 3 = .ok (.imul, 1) := by decide +kernel
theorem dX1_slot_4 : decode cX1_slot 4 = .ok (.iload_n 1, 1) := by decide +kernel
theorem dX1_slot_5 : decode cX1_slot 5 = .ok (.iadd, 1) := by decide +kernel
theorem dX1_slot_6 : decode cX1_slot 6 = .ok (.iconst 1, 1) := by decide +kernel
theorem dX1_slot_7 : decode cX1_slot 7 = .ok (.isub, 1) := by decide +kernel
theorem dX1_slot_8 : decode cX1_slot 8 = .ok (.ireturn, 1) := by decide +kernel
