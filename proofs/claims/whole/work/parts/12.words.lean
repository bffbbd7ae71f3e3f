theorem kn_X0 : Cond.initialized RX0 ∈ wo_BG := wo_b1 (i := 3) rfl rfl
theorem kn_X1 : Cond.initialized RX1 ∈ wo_BG := wo_b1 (i := 2) rfl rfl
theorem kn_X2 : Cond.initialized RX2 ∈ wo_BG := wo_b1 (i := 1) rfl rfl
theorem kn_X3 : Cond.initialized RX3 ∈ wo_BG := wo_b1 (i := 4) rfl rfl
theorem kn_L : Cond.initialized RL ∈ wo_BG := wo_b1 (i := 0) rfl rfl
theorem kn_IAE : Cond.initialized "java/lang/IllegalArgumentException" ∈ wo_BG := wo_b1 (i := 8) rfl rfl
theorem kn_ISE : Cond.initialized "java/lang/IllegalStateException" ∈ wo_BG := wo_b1 (i := 9) rfl rfl
theorem ku_X0 : ∀ w ∈ u_ws RX0 TX0 9, w ∈ wo_BG := fun w h => wo_bg ((by decide +kernel : ∀ w ∈ u_ws RX0 TX0 9, w ∈ lw_tbl) w h) ((by decide +kernel : ∀ w ∈ u_ws RX0 TX0 9, goodWord w = true) w h)
theorem ku_X1 : ∀ w ∈ u_ws RX1 TX1 6, w ∈ wo_BG := fun w h => wo_bg ((by decide +kernel : ∀ w ∈ u_ws RX1 TX1 6, w ∈ lw_tbl) w h) ((by decide +kernel : ∀ w ∈ u_ws RX1 TX1 6, goodWord w = true) w h)
theorem ku_X2 : ∀ w ∈ u_ws RX2 TX2 6, w ∈ wo_BG := fun w h => wo_bg ((by decide +kernel : ∀ w ∈ u_ws RX2 TX2 6, w ∈ lw_tbl) w h) ((by decide +kernel : ∀ w ∈ u_ws RX2 TX2 6, goodWord w = true) w h)
theorem ku_X3 : ∀ w ∈ u_ws RX3 TX3 22, w ∈ wo_BG := fun w h => wo_bg ((by decide +kernel : ∀ w ∈ u_ws RX3 TX3 22, w ∈ lw_tbl) w h) ((by decide +kernel : ∀ w ∈ u_ws RX3 TX3 22, goodWord w = true) w h)
theorem kf_X0_9 : Cond.fieldLink RX0 9 "WeighOff$Course" "sheet" "LWeighOff$Sheet;" ∈ wo_BG := wo_b1 (i := 50) rfl rfl
theorem kf_X0_15 : Cond.fieldLink RX0 15 "WeighOff$Course" "line" "[I" ∈ wo_BG := wo_b1 (i := 52) rfl rfl
theorem kf_X0_19 : Cond.fieldLink RX0 19 "WeighOff$Course" "left" "[Z" ∈ wo_BG := wo_b1 (i := 55) rfl rfl
theorem kf_X0_23 : Cond.fieldLink RX0 23 "WeighOff$Course" "throughCut" "[Z" ∈ wo_BG := wo_b1 (i := 57) rfl rfl
theorem kf_X0_26 : Cond.fieldLink RX0 26 "WeighOff$Course" "takenPlaces" "[I" ∈ wo_BG := wo_b1 (i := 58) rfl rfl
theorem kf_X0_29 : Cond.fieldLink RX0 29 "WeighOff$Course" "leftCount" "I" ∈ wo_BG := wo_b1 (i := 56) rfl rfl
theorem kf_X0_33 : Cond.fieldLink RX0 33 "WeighOff$Course" "day" "I" ∈ wo_BG := wo_b1 (i := 51) rfl rfl
theorem kf_X0_39 : Cond.fieldLink RX0 39 "WeighOff$Course" "position" "I" ∈ wo_BG := wo_b1 (i := 54) rfl rfl
theorem kf_X0_42 : Cond.fieldLink RX0 42 "WeighOff$Course" "lineLength" "I" ∈ wo_BG := wo_b1 (i := 53) rfl rfl
theorem kf_X1_9 : Cond.fieldLink RX1 9 "WeighOff$Sheet" "marks" "[I" ∈ wo_BG := wo_b1 (i := 26) rfl rfl
theorem kf_X1_15 : Cond.fieldLink RX1 15 "WeighOff$Sheet" "tilts" "[I" ∈ wo_BG := wo_b1 (i := 27) rfl rfl
theorem kf_X1_18 : Cond.fieldLink RX1 18 "WeighOff$Sheet" "measured" "[I" ∈ wo_BG := wo_b1 (i := 28) rfl rfl
theorem kf_X1_21 : Cond.fieldLink RX1 21 "WeighOff$Sheet" "ranked" "[I" ∈ wo_BG := wo_b1 (i := 29) rfl rfl
theorem kf_X1_24 : Cond.fieldLink RX1 24 "WeighOff$Sheet" "growers" "I" ∈ wo_BG := wo_b1 (i := 24) rfl rfl
theorem kf_X1_28 : Cond.fieldLink RX1 28 "WeighOff$Sheet" "entries" "I" ∈ wo_BG := wo_b1 (i := 25) rfl rfl
theorem kf_X2_10 : Cond.fieldLink RX2 10 "WeighOff" "sheet" "LWeighOff$Sheet;" ∈ wo_BG := wo_b1 (i := 116) rfl rfl
theorem kf_X2_21 : Cond.fieldLink RX2 21 "WeighOff" "course" "LWeighOff$Course;" ∈ wo_BG := wo_b1 (i := 117) rfl rfl
theorem kf_X2_25 : Cond.fieldLink RX2 25 "WeighOff" "levelOn" "Z" ∈ wo_BG := wo_b1 (i := 118) rfl rfl
theorem kf_X2_30 : Cond.fieldLink RX2 30 "WeighOff" "recordPounds" "I" ∈ wo_BG := wo_b1 (i := 119) rfl rfl
theorem kf_X2_34 : Cond.fieldLink RX2 34 "WeighOff" "recordCount" "I" ∈ wo_BG := wo_b1 (i := 120) rfl rfl
theorem kf_X2_37 : Cond.fieldLink RX2 37 "WeighOff" "prizePounds" "I" ∈ wo_BG := wo_b1 (i := 121) rfl rfl
theorem kf_X3_7 : Cond.fieldLink RX3 7 "WeighOffModel" "kind" "[I" ∈ wo_BG := wo_b3 (i := 94) rfl rfl
theorem kf_X3_13 : Cond.fieldLink RX3 13 "WeighOffModel" "worth" "[I" ∈ wo_BG := wo_b3 (i := 95) rfl rfl
theorem kf_X3_16 : Cond.fieldLink RX3 16 "WeighOffModel" "measured" "[Z" ∈ wo_BG := wo_b3 (i := 96) rfl rfl
theorem kf_X3_20 : Cond.fieldLink RX3 20 "WeighOffModel" "tilt" "[I" ∈ wo_BG := wo_b3 (i := 97) rfl rfl
theorem kf_X3_23 : Cond.fieldLink RX3 23 "WeighOffModel" "tilted" "[Z" ∈ wo_BG := wo_b3 (i := 98) rfl rfl
theorem kf_X3_26 : Cond.fieldLink RX3 26 "WeighOffModel" "latest" "[I" ∈ wo_BG := wo_b3 (i := 99) rfl rfl
theorem kf_X3_29 : Cond.fieldLink RX3 29 "WeighOffModel" "gone" "[Z" ∈ wo_BG := wo_b3 (i := 100) rfl rfl
theorem kf_X3_32 : Cond.fieldLink RX3 32 "WeighOffModel" "kept" "[Z" ∈ wo_BG := wo_b3 (i := 101) rfl rfl
theorem kf_X3_35 : Cond.fieldLink RX3 35 "WeighOffModel" "order" "[I" ∈ wo_BG := wo_b3 (i := 102) rfl rfl
theorem kf_X3_38 : Cond.fieldLink RX3 38 "WeighOffModel" "level" "Z" ∈ wo_BG := wo_b3 (i := 105) rfl rfl
theorem kf_X3_42 : Cond.fieldLink RX3 42 "WeighOffModel" "one" "[I" ∈ wo_BG := wo_b3 (i := 111) rfl rfl
theorem kf_X3_45 : Cond.fieldLink RX3 45 "WeighOffModel" "two" "[I" ∈ wo_BG := wo_b3 (i := 112) rfl rfl
theorem kf_X3_56 : Cond.fieldLink RX3 56 "WeighOffModel" "code" "I" ∈ wo_BG := wo_b3 (i := 91) rfl rfl
theorem kf_X3_60 : Cond.fieldLink RX3 60 "WeighOffModel" "growers" "I" ∈ wo_BG := wo_b3 (i := 92) rfl rfl
theorem kf_X3_63 : Cond.fieldLink RX3 63 "WeighOffModel" "day" "I" ∈ wo_BG := wo_b3 (i := 93) rfl rfl
theorem kf_X3_77 : Cond.fieldLink RX3 77 "WeighOffModel" "ordered" "I" ∈ wo_BG := wo_b3 (i := 103) rfl rfl
theorem kf_X3_83 : Cond.fieldLink RX3 83 "WeighOffModel" "at" "I" ∈ wo_BG := wo_b3 (i := 104) rfl rfl
theorem kf_X3_102 : Cond.fieldLink RX3 102 "WeighOffModel" "hasRecord" "Z" ∈ wo_BG := wo_b3 (i := 106) rfl rfl
theorem kf_X3_105 : Cond.fieldLink RX3 105 "WeighOffModel" "record" "I" ∈ wo_BG := wo_b3 (i := 107) rfl rfl
theorem kf_X3_108 : Cond.fieldLink RX3 108 "WeighOffModel" "records" "I" ∈ wo_BG := wo_b3 (i := 108) rfl rfl
theorem kf_X3_115 : Cond.fieldLink RX3 115 "WeighOffModel" "hasPrize" "Z" ∈ wo_BG := wo_b3 (i := 109) rfl rfl
theorem kf_X3_118 : Cond.fieldLink RX3 118 "WeighOffModel" "prize" "I" ∈ wo_BG := wo_b3 (i := 110) rfl rfl
theorem kk_X0_45 : Cond.constant RX0 45 (-1000000 : Int32) ∈ wo_BG := wo_b1 (i := 147) rfl rfl
theorem kk_X1_31 : Cond.constant RX1 31 (-1000000 : Int32) ∈ wo_BG := wo_b1 (i := 91) rfl rfl
theorem kk_X2_29 : Cond.constant RX2 29 (-1000000 : Int32) ∈ wo_BG := wo_b1 (i := 79) rfl rfl
theorem kk_X3_124 : Cond.constant RX3 124 (-1000000 : Int32) ∈ wo_BG := wo_b3 (i := 218) rfl rfl
theorem kl_L_8 : Cond.classLink RL 8 "WeighOff" ∈ wo_BG := wo_b1 (i := 10) rfl rfl
theorem kl_L_13 : Cond.classLink RL 13 "java/lang/IllegalArgumentException" ∈ wo_BG := wo_b1 (i := 162) rfl rfl
theorem kl_L_19 : Cond.classLink RL 19 "java/lang/IllegalStateException" ∈ wo_BG := wo_b1 (i := 237) rfl rfl
theorem kl_L_85 : Cond.classLink RL 85 "WeighOffModel" ∈ wo_BG := wo_b3 (i := 50) rfl rfl
theorem kl_X2_7 : Cond.classLink RX2 7 "WeighOff$Sheet" ∈ wo_BG := wo_b1 (i := 18) rfl rfl
theorem kl_X2_16 : Cond.classLink RX2 16 "WeighOff$Course" ∈ wo_BG := wo_b1 (i := 44) rfl rfl
theorem kl_X2_48 : Cond.classLink RX2 48 "java/lang/IllegalArgumentException" ∈ wo_BG := wo_b1 (i := 167) rfl rfl
theorem kl_X2_89 : Cond.classLink RX2 89 "java/lang/IllegalStateException" ∈ wo_BG := wo_b2 (i := 14) rfl rfl
theorem gv_L_7 : wo_GV RL 7 RX2 yX2_open cX2_open 2 (none) 1 := ⟨⟨wo_b1 (i := 163) rfl rfl, kn_X2, wo_b1 (i := 166) rfl rfl, by decide, by decide, by decide +kernel⟩, wo_b1 (i := 164) rfl rfl, wo_b1 (i := 165) rfl rfl⟩
theorem gv_L_15 : wo_GV RL 15 RX2 yX2_weigh cX2_weigh 6 (some .int) 2 := ⟨⟨wo_b1 (i := 238) rfl rfl, kn_X2, wo_b2 (i := 1) rfl rfl, by decide, by decide, by decide +kernel⟩, wo_b1 (i := 239) rfl rfl, wo_b2 (i := 0) rfl rfl⟩
theorem gv_L_21 : wo_GV RL 21 RX2 yX2_crack cX2_crack 4 (none) 2 := ⟨⟨wo_b2 (i := 83) rfl rfl, kn_X2, wo_b2 (i := 86) rfl rfl, by decide, by decide, by decide +kernel⟩, wo_b2 (i := 84) rfl rfl, wo_b2 (i := 85) rfl rfl⟩
theorem gv_L_25 : wo_GV RL 25 RX2 yX2_pass cX2_pass 2 (none) 0 := ⟨⟨wo_b2 (i := 90) rfl rfl, kn_X2, wo_b2 (i := 93) rfl rfl, by decide, by decide, by decide +kernel⟩, wo_b2 (i := 91) rfl rfl, wo_b2 (i := 92) rfl rfl⟩
theorem gv_L_28 : wo_GV RL 28 RX2 yX2_leave cX2_leave 2 (none) 1 := ⟨⟨wo_b2 (i := 97) rfl rfl, kn_X2, wo_b2 (i := 100) rfl rfl, by decide, by decide, by decide +kernel⟩, wo_b2 (i := 98) rfl rfl, wo_b2 (i := 99) rfl rfl⟩
theorem gv_L_31 : wo_GV RL 31 RX2 yX2_appeal cX2_appeal 4 (some .int) 2 := ⟨⟨wo_b2 (i := 121) rfl rfl, kn_X2, wo_b2 (i := 124) rfl rfl, by decide, by decide, by decide +kernel⟩, wo_b2 (i := 122) rfl rfl, wo_b2 (i := 123) rfl rfl⟩
theorem gv_L_34 : wo_GV RL 34 RX2 yX2_record cX2_record 2 (none) 1 := ⟨⟨wo_b2 (i := 145) rfl rfl, kn_X2, wo_b2 (i := 148) rfl rfl, by decide, by decide, by decide +kernel⟩, wo_b2 (i := 146) rfl rfl, wo_b2 (i := 147) rfl rfl⟩
theorem gv_L_37 : wo_GV RL 37 RX2 yX2_prize cX2_prize 2 (none) 1 := ⟨⟨wo_b2 (i := 159) rfl rfl, kn_X2, wo_b2 (i := 162) rfl rfl, by decide, by decide, by decide +kernel⟩, wo_b2 (i := 160) rfl rfl, wo_b2 (i := 161) rfl rfl⟩
theorem gv_L_40 : wo_GV RL 40 RX2 yX2_weight cX2_weight 3 (some .int) 2 := ⟨⟨wo_b2 (i := 166) rfl rfl, kn_X2, wo_b2 (i := 169) rfl rfl, by decide, by decide, by decide +kernel⟩, wo_b2 (i := 167) rfl rfl, wo_b2 (i := 168) rfl rfl⟩
theorem gv_L_43 : wo_GV RL 43 RX2 yX2_tilt cX2_tilt 3 (some .int) 2 := ⟨⟨wo_b2 (i := 177) rfl rfl, kn_X2, wo_b2 (i := 180) rfl rfl, by decide, by decide, by decide +kernel⟩, wo_b2 (i := 178) rfl rfl, wo_b2 (i := 179) rfl rfl⟩
theorem gv_L_46 : wo_GV RL 46 RX2 yX2_best cX2_best 2 (some .int) 1 := ⟨⟨wo_b2 (i := 184) rfl rfl, kn_X2, wo_b2 (i := 187) rfl rfl, by decide, by decide, by decide +kernel⟩, wo_b2 (i := 185) rfl rfl, wo_b2 (i := 186) rfl rfl⟩
theorem gv_L_50 : wo_GV RL 50 RX2 yX2_place cX2_place 2 (some .int) 1 := ⟨⟨wo_b2 (i := 192) rfl rfl, kn_X2, wo_b2 (i := 195) rfl rfl, by decide, by decide, by decide +kernel⟩, wo_b2 (i := 193) rfl rfl, wo_b2 (i := 194) rfl rfl⟩
theorem gv_L_53 : wo_GV RL 53 RX2 yX2_wins cX2_wins 3 (some .boolean) 1 := ⟨⟨wo_b2 (i := 200) rfl rfl, kn_X2, wo_b2 (i := 203) rfl rfl, by decide, by decide, by decide +kernel⟩, wo_b2 (i := 201) rfl rfl, wo_b2 (i := 202) rfl rfl⟩
theorem gv_L_57 : wo_GV RL 57 RX2 yX2_count cX2_count 7 (some .int) 3 := ⟨⟨wo_b2 (i := 207) rfl rfl, kn_X2, wo_b2 (i := 210) rfl rfl, by decide, by decide, by decide +kernel⟩, wo_b2 (i := 208) rfl rfl, wo_b2 (i := 209) rfl rfl⟩
theorem gv_L_61 : wo_GV RL 61 RX2 yX2_first cX2_first 6 (some .int) 3 := ⟨⟨wo_b2 (i := 235) rfl rfl, kn_X2, wo_b2 (i := 238) rfl rfl, by decide, by decide, by decide +kernel⟩, wo_b2 (i := 236) rfl rfl, wo_b2 (i := 237) rfl rfl⟩
theorem gv_L_64 : wo_GV RL 64 RX2 yX2_lamps cX2_lamps 6 (some .int) 3 := ⟨⟨wo_b3 (i := 7) rfl rfl, kn_X2, wo_b3 (i := 10) rfl rfl, by decide, by decide, by decide +kernel⟩, wo_b3 (i := 8) rfl rfl, wo_b3 (i := 9) rfl rfl⟩
theorem gv_L_67 : wo_GV RL 67 RX2 yX2_stands cX2_stands 8 (some .int) 3 := ⟨⟨wo_b3 (i := 23) rfl rfl, kn_X2, wo_b3 (i := 26) rfl rfl, by decide, by decide, by decide +kernel⟩, wo_b3 (i := 24) rfl rfl, wo_b3 (i := 25) rfl rfl⟩
theorem gv_L_70 : wo_GV RL 70 RX2 yX2_lean cX2_lean 6 (some .int) 2 := ⟨⟨wo_b3 (i := 30) rfl rfl, kn_X2, wo_b3 (i := 33) rfl rfl, by decide, by decide, by decide +kernel⟩, wo_b3 (i := 31) rfl rfl, wo_b3 (i := 32) rfl rfl⟩
theorem gv_L_74 : wo_GV RL 74 RX2 yX2_look cX2_look 2 (some .int) 1 := ⟨⟨wo_b3 (i := 37) rfl rfl, kn_X2, wo_b3 (i := 40) rfl rfl, by decide, by decide, by decide +kernel⟩, wo_b3 (i := 38) rfl rfl, wo_b3 (i := 39) rfl rfl⟩
theorem gs_L_77 : wo_GS RL 77 yL_cell cL_cell 2 (some .int) 2 := ⟨⟨wo_b1 (i := 156) rfl rfl, kn_L, wo_b1 (i := 158) rfl rfl, by decide, by decide, by decide +kernel⟩, wo_b1 (i := 157) rfl rfl⟩
theorem gi_L_83 : wo_GB RL 83 yX2_init cX2_init 2 (none) 1 := ⟨wo_b1 (i := 12) rfl rfl, kn_X2, wo_b1 (i := 14) rfl rfl, by decide, by decide, by decide +kernel⟩
theorem ki_L_83 : Cond.instanceMethod yX2_init ∈ wo_BG := wo_b1 (i := 13) rfl rfl
theorem gi_L_87 : wo_GB RL 87 yX3_init cX3_init 2 (none) 1 := ⟨wo_b3 (i := 52) rfl rfl, kn_X3, wo_b3 (i := 54) rfl rfl, by decide, by decide, by decide +kernel⟩
theorem ki_L_87 : Cond.instanceMethod yX3_init ∈ wo_BG := wo_b3 (i := 53) rfl rfl
theorem kc_L_open : Cond.codeWith yL_open cL_open 3 (some .int) [(0, 5, 8, 13)] ∈ wo_BG := wo_b1 (i := 161) rfl rfl
theorem km_L_88 : Cond.methodLink RL 88 yL_open ∈ wo_BG := wo_b1 (i := 159) rfl rfl
theorem ks_L_open : Cond.static yL_open ∈ wo_BG := wo_b1 (i := 160) rfl rfl
theorem gv_L_91 : wo_GV RL 91 RX3 yX3_open cX3_open 2 (none) 1 := ⟨⟨wo_b3 (i := 162) rfl rfl, kn_X3, wo_b3 (i := 165) rfl rfl, by decide, by decide, by decide +kernel⟩, wo_b3 (i := 163) rfl rfl, wo_b3 (i := 164) rfl rfl⟩
theorem gv_L_92 : wo_GV RL 92 RX3 yX3_thrown cX3_thrown 1 (some .int) 0 := ⟨⟨wo_b3 (i := 158) rfl rfl, kn_X3, wo_b3 (i := 161) rfl rfl, by decide, by decide, by decide +kernel⟩, wo_b3 (i := 159) rfl rfl, wo_b3 (i := 160) rfl rfl⟩
theorem kc_L_weigh : Cond.codeWith yL_weigh cL_weigh 5 (some .int) [(0, 10, 13, 13), (0, 10, 17, 19)] ∈ wo_BG := wo_b1 (i := 236) rfl rfl
theorem km_L_96 : Cond.methodLink RL 96 yL_weigh ∈ wo_BG := wo_b1 (i := 234) rfl rfl
theorem ks_L_weigh : Cond.static yL_weigh ∈ wo_BG := wo_b1 (i := 235) rfl rfl
theorem gv_L_99 : wo_GV RL 99 RX3 yX3_weigh cX3_weigh 5 (some .int) 2 := ⟨⟨wo_b3 (i := 166) rfl rfl, kn_X3, wo_b3 (i := 169) rfl rfl, by decide, by decide, by decide +kernel⟩, wo_b3 (i := 167) rfl rfl, wo_b3 (i := 168) rfl rfl⟩
theorem kc_L_crack : Cond.codeWith yL_crack cL_crack 4 (some .int) [(0, 6, 9, 13), (0, 6, 12, 19)] ∈ wo_BG := wo_b2 (i := 82) rfl rfl
theorem km_L_100 : Cond.methodLink RL 100 yL_crack ∈ wo_BG := wo_b2 (i := 80) rfl rfl
theorem ks_L_crack : Cond.static yL_crack ∈ wo_BG := wo_b2 (i := 81) rfl rfl
theorem gv_L_103 : wo_GV RL 103 RX3 yX3_crack cX3_crack 4 (none) 2 := ⟨⟨wo_b3 (i := 182) rfl rfl, kn_X3, wo_b3 (i := 185) rfl rfl, by decide, by decide, by decide +kernel⟩, wo_b3 (i := 183) rfl rfl, wo_b3 (i := 184) rfl rfl⟩
theorem kc_L_pass : Cond.codeWith yL_pass cL_pass 2 (some .int) [(0, 4, 7, 19)] ∈ wo_BG := wo_b2 (i := 89) rfl rfl
theorem km_L_104 : Cond.methodLink RL 104 yL_pass ∈ wo_BG := wo_b2 (i := 87) rfl rfl
theorem ks_L_pass : Cond.static yL_pass ∈ wo_BG := wo_b2 (i := 88) rfl rfl
theorem gv_L_107 : wo_GV RL 107 RX3 yX3_pass cX3_pass 2 (none) 0 := ⟨⟨wo_b3 (i := 186) rfl rfl, kn_X3, wo_b3 (i := 189) rfl rfl, by decide, by decide, by decide +kernel⟩, wo_b3 (i := 187) rfl rfl, wo_b3 (i := 188) rfl rfl⟩
theorem kc_L_leave : Cond.codeWith yL_leave cL_leave 3 (some .int) [(0, 5, 8, 13), (0, 5, 11, 19)] ∈ wo_BG := wo_b2 (i := 96) rfl rfl
theorem km_L_108 : Cond.methodLink RL 108 yL_leave ∈ wo_BG := wo_b2 (i := 94) rfl rfl
theorem ks_L_leave : Cond.static yL_leave ∈ wo_BG := wo_b2 (i := 95) rfl rfl
theorem gv_L_110 : wo_GV RL 110 RX3 yX3_leave cX3_leave 2 (none) 1 := ⟨⟨wo_b3 (i := 190) rfl rfl, kn_X3, wo_b3 (i := 193) rfl rfl, by decide, by decide, by decide +kernel⟩, wo_b3 (i := 191) rfl rfl, wo_b3 (i := 192) rfl rfl⟩
theorem kc_L_appeal : Cond.codeWith yL_appeal cL_appeal 5 (some .int) [(0, 10, 13, 13), (0, 10, 17, 19)] ∈ wo_BG := wo_b2 (i := 120) rfl rfl
theorem km_L_111 : Cond.methodLink RL 111 yL_appeal ∈ wo_BG := wo_b2 (i := 118) rfl rfl
theorem ks_L_appeal : Cond.static yL_appeal ∈ wo_BG := wo_b2 (i := 119) rfl rfl
theorem gv_L_113 : wo_GV RL 113 RX3 yX3_appeal cX3_appeal 4 (some .int) 2 := ⟨⟨wo_b3 (i := 194) rfl rfl, kn_X3, wo_b3 (i := 197) rfl rfl, by decide, by decide, by decide +kernel⟩, wo_b3 (i := 195) rfl rfl, wo_b3 (i := 196) rfl rfl⟩
theorem gv_L_114 : wo_GV RL 114 RX2 yX2_level cX2_level 3 (some .boolean) 1 := ⟨⟨wo_b1 (i := 135) rfl rfl, kn_X2, wo_b1 (i := 138) rfl rfl, by decide, by decide, by decide +kernel⟩, wo_b1 (i := 136) rfl rfl, wo_b1 (i := 137) rfl rfl⟩
theorem gv_L_118 : wo_GV RL 118 RX3 yX3_level cX3_level 3 (some .boolean) 1 := ⟨⟨wo_b3 (i := 202) rfl rfl, kn_X3, wo_b3 (i := 205) rfl rfl, by decide, by decide, by decide +kernel⟩, wo_b3 (i := 203) rfl rfl, wo_b3 (i := 204) rfl rfl⟩
theorem kc_L_record : Cond.codeWith yL_record cL_record 3 (some .int) [(0, 5, 8, 13)] ∈ wo_BG := wo_b2 (i := 144) rfl rfl
theorem km_L_119 : Cond.methodLink RL 119 yL_record ∈ wo_BG := wo_b2 (i := 142) rfl rfl
theorem ks_L_record : Cond.static yL_record ∈ wo_BG := wo_b2 (i := 143) rfl rfl
theorem gv_L_121 : wo_GV RL 121 RX3 yX3_record cX3_record 2 (none) 1 := ⟨⟨wo_b3 (i := 206) rfl rfl, kn_X3, wo_b3 (i := 209) rfl rfl, by decide, by decide, by decide +kernel⟩, wo_b3 (i := 207) rfl rfl, wo_b3 (i := 208) rfl rfl⟩
theorem kc_L_prize : Cond.codeWith yL_prize cL_prize 3 (some .int) [(0, 5, 8, 13)] ∈ wo_BG := wo_b2 (i := 158) rfl rfl
theorem km_L_122 : Cond.methodLink RL 122 yL_prize ∈ wo_BG := wo_b2 (i := 156) rfl rfl
theorem ks_L_prize : Cond.static yL_prize ∈ wo_BG := wo_b2 (i := 157) rfl rfl
theorem gv_L_124 : wo_GV RL 124 RX3 yX3_prize cX3_prize 2 (none) 1 := ⟨⟨wo_b3 (i := 210) rfl rfl, kn_X3, wo_b3 (i := 213) rfl rfl, by decide, by decide, by decide +kernel⟩, wo_b3 (i := 211) rfl rfl, wo_b3 (i := 212) rfl rfl⟩
theorem gv_L_125 : wo_GV RL 125 RX2 yX2_turn cX2_turn 1 (some .int) 0 := ⟨⟨wo_b1 (i := 139) rfl rfl, kn_X2, wo_b1 (i := 142) rfl rfl, by decide, by decide, by decide +kernel⟩, wo_b1 (i := 140) rfl rfl, wo_b1 (i := 141) rfl rfl⟩
theorem gv_L_128 : wo_GV RL 128 RX3 yX3_turn cX3_turn 1 (some .int) 0 := ⟨⟨wo_b3 (i := 214) rfl rfl, kn_X3, wo_b3 (i := 217) rfl rfl, by decide, by decide, by decide +kernel⟩, wo_b3 (i := 215) rfl rfl, wo_b3 (i := 216) rfl rfl⟩
theorem gv_L_129 : wo_GV RL 129 RX2 yX2_day cX2_day 1 (some .int) 0 := ⟨⟨wo_b1 (i := 148) rfl rfl, kn_X2, wo_b1 (i := 151) rfl rfl, by decide, by decide, by decide +kernel⟩, wo_b1 (i := 149) rfl rfl, wo_b1 (i := 150) rfl rfl⟩
theorem gv_L_132 : wo_GV RL 132 RX3 yX3_day cX3_day 1 (some .int) 0 := ⟨⟨wo_b3 (i := 219) rfl rfl, kn_X3, wo_b3 (i := 222) rfl rfl, by decide, by decide, by decide +kernel⟩, wo_b3 (i := 220) rfl rfl, wo_b3 (i := 221) rfl rfl⟩
theorem kc_L_weight : Cond.codeWith yL_weight cL_weight 5 (some .int) [(0, 10, 13, 13)] ∈ wo_BG := wo_b2 (i := 165) rfl rfl
theorem km_L_133 : Cond.methodLink RL 133 yL_weight ∈ wo_BG := wo_b2 (i := 163) rfl rfl
theorem ks_L_weight : Cond.static yL_weight ∈ wo_BG := wo_b2 (i := 164) rfl rfl
theorem gv_L_135 : wo_GV RL 135 RX3 yX3_weight cX3_weight 4 (some .int) 2 := ⟨⟨wo_b3 (i := 223) rfl rfl, kn_X3, wo_b3 (i := 226) rfl rfl, by decide, by decide, by decide +kernel⟩, wo_b3 (i := 224) rfl rfl, wo_b3 (i := 225) rfl rfl⟩
theorem kc_L_tilt : Cond.codeWith yL_tilt cL_tilt 5 (some .int) [(0, 10, 13, 13)] ∈ wo_BG := wo_b2 (i := 176) rfl rfl
theorem km_L_136 : Cond.methodLink RL 136 yL_tilt ∈ wo_BG := wo_b2 (i := 174) rfl rfl
theorem ks_L_tilt : Cond.static yL_tilt ∈ wo_BG := wo_b2 (i := 175) rfl rfl
theorem gv_L_138 : wo_GV RL 138 RX3 yX3_tilt cX3_tilt 3 (some .int) 2 := ⟨⟨wo_b3 (i := 227) rfl rfl, kn_X3, wo_b3 (i := 230) rfl rfl, by decide, by decide, by decide +kernel⟩, wo_b3 (i := 228) rfl rfl, wo_b3 (i := 229) rfl rfl⟩
theorem kc_L_best : Cond.codeWith yL_best cL_best 4 (some .int) [(0, 9, 12, 13)] ∈ wo_BG := wo_b2 (i := 183) rfl rfl
theorem km_L_139 : Cond.methodLink RL 139 yL_best ∈ wo_BG := wo_b2 (i := 181) rfl rfl
theorem ks_L_best : Cond.static yL_best ∈ wo_BG := wo_b2 (i := 182) rfl rfl
theorem gv_L_142 : wo_GV RL 142 RX3 yX3_best cX3_best 2 (some .int) 1 := ⟨⟨wo_b3 (i := 231) rfl rfl, kn_X3, wo_b3 (i := 234) rfl rfl, by decide, by decide, by decide +kernel⟩, wo_b3 (i := 232) rfl rfl, wo_b3 (i := 233) rfl rfl⟩
theorem kc_L_place : Cond.codeWith yL_place cL_place 4 (some .int) [(0, 9, 12, 13)] ∈ wo_BG := wo_b2 (i := 191) rfl rfl
theorem km_L_143 : Cond.methodLink RL 143 yL_place ∈ wo_BG := wo_b2 (i := 189) rfl rfl
theorem ks_L_place : Cond.static yL_place ∈ wo_BG := wo_b2 (i := 190) rfl rfl
theorem gv_L_145 : wo_GV RL 145 RX3 yX3_place cX3_place 2 (some .int) 1 := ⟨⟨wo_b3 (i := 235) rfl rfl, kn_X3, wo_b3 (i := 238) rfl rfl, by decide, by decide, by decide +kernel⟩, wo_b3 (i := 236) rfl rfl, wo_b3 (i := 237) rfl rfl⟩
theorem kc_L_wins : Cond.codeWith yL_wins cL_wins 4 (some .int) [(0, 16, 19, 13)] ∈ wo_BG := wo_b2 (i := 199) rfl rfl
theorem km_L_146 : Cond.methodLink RL 146 yL_wins ∈ wo_BG := wo_b2 (i := 197) rfl rfl
theorem ks_L_wins : Cond.static yL_wins ∈ wo_BG := wo_b2 (i := 198) rfl rfl
theorem gv_L_148 : wo_GV RL 148 RX3 yX3_wins cX3_wins 2 (some .boolean) 1 := ⟨⟨wo_b3 (i := 239) rfl rfl, kn_X3, wo_b4 (i := 2) rfl rfl, by decide, by decide, by decide +kernel⟩, wo_b4 (i := 0) rfl rfl, wo_b4 (i := 1) rfl rfl⟩
theorem kc_L_count : Cond.codeWith yL_count cL_count 6 (some .int) [(0, 12, 15, 13)] ∈ wo_BG := wo_b2 (i := 206) rfl rfl
theorem km_L_149 : Cond.methodLink RL 149 yL_count ∈ wo_BG := wo_b2 (i := 204) rfl rfl
theorem ks_L_count : Cond.static yL_count ∈ wo_BG := wo_b2 (i := 205) rfl rfl
theorem gv_L_152 : wo_GV RL 152 RX3 yX3_count cX3_count 6 (some .int) 3 := ⟨⟨wo_b4 (i := 3) rfl rfl, kn_X3, wo_b4 (i := 6) rfl rfl, by decide, by decide, by decide +kernel⟩, wo_b4 (i := 4) rfl rfl, wo_b4 (i := 5) rfl rfl⟩
theorem kc_L_first : Cond.codeWith yL_first cL_first 6 (some .int) [(0, 12, 15, 13)] ∈ wo_BG := wo_b2 (i := 234) rfl rfl
theorem km_L_153 : Cond.methodLink RL 153 yL_first ∈ wo_BG := wo_b2 (i := 232) rfl rfl
theorem ks_L_first : Cond.static yL_first ∈ wo_BG := wo_b2 (i := 233) rfl rfl
theorem gv_L_155 : wo_GV RL 155 RX3 yX3_first cX3_first 5 (some .int) 3 := ⟨⟨wo_b4 (i := 18) rfl rfl, kn_X3, wo_b4 (i := 21) rfl rfl, by decide, by decide, by decide +kernel⟩, wo_b4 (i := 19) rfl rfl, wo_b4 (i := 20) rfl rfl⟩
theorem kc_L_lamps : Cond.codeWith yL_lamps cL_lamps 6 (some .int) [(0, 12, 15, 13)] ∈ wo_BG := wo_b3 (i := 6) rfl rfl
theorem km_L_156 : Cond.methodLink RL 156 yL_lamps ∈ wo_BG := wo_b3 (i := 4) rfl rfl
theorem ks_L_lamps : Cond.static yL_lamps ∈ wo_BG := wo_b3 (i := 5) rfl rfl
theorem gv_L_158 : wo_GV RL 158 RX3 yX3_lamps cX3_lamps 6 (some .int) 3 := ⟨⟨wo_b4 (i := 22) rfl rfl, kn_X3, wo_b4 (i := 25) rfl rfl, by decide, by decide, by decide +kernel⟩, wo_b4 (i := 23) rfl rfl, wo_b4 (i := 24) rfl rfl⟩
theorem kc_L_stands : Cond.codeWith yL_stands cL_stands 6 (some .int) [(0, 12, 15, 13)] ∈ wo_BG := wo_b3 (i := 22) rfl rfl
theorem km_L_159 : Cond.methodLink RL 159 yL_stands ∈ wo_BG := wo_b3 (i := 20) rfl rfl
theorem ks_L_stands : Cond.static yL_stands ∈ wo_BG := wo_b3 (i := 21) rfl rfl
theorem gv_L_161 : wo_GV RL 161 RX3 yX3_stands cX3_stands 6 (some .int) 3 := ⟨⟨wo_b4 (i := 34) rfl rfl, kn_X3, wo_b4 (i := 37) rfl rfl, by decide, by decide, by decide +kernel⟩, wo_b4 (i := 35) rfl rfl, wo_b4 (i := 36) rfl rfl⟩
theorem kc_L_lean : Cond.codeWith yL_lean cL_lean 5 (some .int) [(0, 10, 13, 13)] ∈ wo_BG := wo_b3 (i := 29) rfl rfl
theorem km_L_162 : Cond.methodLink RL 162 yL_lean ∈ wo_BG := wo_b3 (i := 27) rfl rfl
theorem ks_L_lean : Cond.static yL_lean ∈ wo_BG := wo_b3 (i := 28) rfl rfl
theorem gv_L_165 : wo_GV RL 165 RX3 yX3_lean cX3_lean 6 (some .int) 2 := ⟨⟨wo_b4 (i := 38) rfl rfl, kn_X3, wo_b4 (i := 41) rfl rfl, by decide, by decide, by decide +kernel⟩, wo_b4 (i := 39) rfl rfl, wo_b4 (i := 40) rfl rfl⟩
theorem kc_L_look : Cond.codeWith yL_look cL_look 4 (some .int) [(0, 9, 12, 13)] ∈ wo_BG := wo_b3 (i := 36) rfl rfl
theorem km_L_166 : Cond.methodLink RL 166 yL_look ∈ wo_BG := wo_b3 (i := 34) rfl rfl
theorem ks_L_look : Cond.static yL_look ∈ wo_BG := wo_b3 (i := 35) rfl rfl
theorem gv_L_168 : wo_GV RL 168 RX3 yX3_look cX3_look 4 (some .int) 1 := ⟨⟨wo_b4 (i := 42) rfl rfl, kn_X3, wo_b4 (i := 45) rfl rfl, by decide, by decide, by decide +kernel⟩, wo_b4 (i := 43) rfl rfl, wo_b4 (i := 44) rfl rfl⟩
theorem gv_X0_36 : wo_GV RX0 36 RX0 yX0_lineUp cX0_lineUp 1 (none) 0 := ⟨⟨wo_b1 (i := 96) rfl rfl, kn_X0, wo_b1 (i := 99) rfl rfl, by decide, by decide, by decide +kernel⟩, wo_b1 (i := 98) rfl rfl, wo_b0 (i := 1) rfl rfl⟩
theorem gv_X0_46 : wo_GV RX0 46 RX0 yX0_whoseTurn cX0_whoseTurn 1 (some .int) 0 := ⟨⟨wo_b2 (i := 116) rfl rfl, kn_X0, wo_b1 (i := 146) rfl rfl, by decide, by decide, by decide +kernel⟩, wo_b1 (i := 144) rfl rfl, wo_b1 (i := 145) rfl rfl⟩
theorem gv_X0_50 : wo_GV RX0 50 RX0 yX0_goOn cX0_goOn 1 (none) 0 := ⟨⟨wo_b2 (i := 117) rfl rfl, kn_X0, wo_b2 (i := 55) rfl rfl, by decide, by decide, by decide +kernel⟩, wo_b2 (i := 53) rfl rfl, wo_b2 (i := 54) rfl rfl⟩
theorem gv_X0_53 : wo_GV RX0 53 RX0 yX0_endDay cX0_endDay 1 (none) 0 := ⟨⟨wo_b2 (i := 56) rfl rfl, kn_X0, wo_b2 (i := 59) rfl rfl, by decide, by decide, by decide +kernel⟩, wo_b2 (i := 58) rfl rfl, wo_b0 (i := 10) rfl rfl⟩
theorem gv_X0_56 : wo_GV RX0 56 RX0 yX0_takePlaces cX0_takePlaces 2 (none) 0 := ⟨⟨wo_b2 (i := 60) rfl rfl, kn_X0, wo_b2 (i := 63) rfl rfl, by decide, by decide, by decide +kernel⟩, wo_b2 (i := 62) rfl rfl, wo_b0 (i := 11) rfl rfl⟩
theorem gv_X0_59 : wo_GV RX0 59 RX0 yX0_makeCut cX0_makeCut 2 (none) 0 := ⟨⟨wo_b2 (i := 72) rfl rfl, kn_X0, wo_b2 (i := 75) rfl rfl, by decide, by decide, by decide +kernel⟩, wo_b2 (i := 74) rfl rfl, wo_b0 (i := 13) rfl rfl⟩
theorem gv_X0_62 : wo_GV RX0 62 RX1 yX1_howManyGrowers cX1_howManyGrowers 1 (some .int) 0 := ⟨⟨wo_b1 (i := 104) rfl rfl, kn_X1, wo_b1 (i := 107) rfl rfl, by decide, by decide, by decide +kernel⟩, wo_b1 (i := 105) rfl rfl, wo_b1 (i := 106) rfl rfl⟩
theorem gv_X0_67 : wo_GV RX0 67 RX1 yX1_placeOf cX1_placeOf 4 (some .int) 1 := ⟨⟨wo_b2 (i := 64) rfl rfl, kn_X1, wo_b2 (i := 67) rfl rfl, by decide, by decide, by decide +kernel⟩, wo_b2 (i := 65) rfl rfl, wo_b2 (i := 66) rfl rfl⟩
theorem gv_X0_71 : wo_GV RX0 71 RX1 yX1_bestOf cX1_bestOf 2 (some .int) 1 := ⟨⟨wo_b2 (i := 76) rfl rfl, kn_X1, wo_b2 (i := 79) rfl rfl, by decide, by decide, by decide +kernel⟩, wo_b2 (i := 77) rfl rfl, wo_b2 (i := 78) rfl rfl⟩
theorem gv_X0_74 : wo_GV RX0 74 RX0 yX0_lineUpByNumber cX0_lineUpByNumber 2 (none) 0 := ⟨⟨wo_b1 (i := 100) rfl rfl, kn_X0, wo_b1 (i := 103) rfl rfl, by decide, by decide, by decide +kernel⟩, wo_b1 (i := 102) rfl rfl, wo_b0 (i := 2) rfl rfl⟩
theorem gv_X0_77 : wo_GV RX0 77 RX0 yX0_lineUpByPlace cX0_lineUpByPlace 3 (none) 0 := ⟨⟨wo_b1 (i := 112) rfl rfl, kn_X0, wo_b1 (i := 115) rfl rfl, by decide, by decide, by decide +kernel⟩, wo_b1 (i := 114) rfl rfl, wo_b0 (i := 4) rfl rfl⟩
theorem gv_X0_80 : wo_GV RX0 80 RX0 yX0_putInLine cX0_putInLine 2 (none) 1 := ⟨⟨wo_b1 (i := 108) rfl rfl, kn_X0, wo_b1 (i := 111) rfl rfl, by decide, by decide, by decide +kernel⟩, wo_b1 (i := 110) rfl rfl, wo_b0 (i := 3) rfl rfl⟩
theorem gs_X1_32 : wo_GS RX1 32 yX1_slot cX1_slot 2 (some .int) 2 := ⟨⟨wo_b2 (i := 38) rfl rfl, kn_X1, wo_b2 (i := 40) rfl rfl, by decide, by decide, by decide +kernel⟩, wo_b2 (i := 39) rfl rfl⟩
theorem gs_X1_36 : wo_GS RX1 36 yX1_isWeight cX1_isWeight 1 (some .boolean) 1 := ⟨⟨wo_b2 (i := 41) rfl rfl, kn_X1, wo_b2 (i := 43) rfl rfl, by decide, by decide, by decide +kernel⟩, wo_b2 (i := 42) rfl rfl⟩
theorem gv_X1_40 : wo_GV RX1 40 RX1 yX1_rank cX1_rank 5 (none) 2 := ⟨⟨wo_b2 (i := 44) rfl rfl, kn_X1, wo_b2 (i := 47) rfl rfl, by decide, by decide, by decide +kernel⟩, wo_b2 (i := 46) rfl rfl, wo_b0 (i := 8) rfl rfl⟩
theorem gv_X1_44 : wo_GV RX1 44 RX1 yX1_tiltOn cX1_tiltOn 3 (some .int) 2 := ⟨⟨wo_b2 (i := 227) rfl rfl, kn_X1, wo_b2 (i := 141) rfl rfl, by decide, by decide, by decide +kernel⟩, wo_b2 (i := 139) rfl rfl, wo_b2 (i := 140) rfl rfl⟩
theorem gv_X1_47 : wo_GV RX1 47 RX1 yX1_markOn cX1_markOn 3 (some .int) 2 := ⟨⟨wo_b2 (i := 228) rfl rfl, kn_X1, wo_b2 (i := 173) rfl rfl, by decide, by decide, by decide +kernel⟩, wo_b2 (i := 171) rfl rfl, wo_b2 (i := 172) rfl rfl⟩
theorem gv_X1_50 : wo_GV RX1 50 RX1 yX1_hasEntry cX1_hasEntry 3 (some .boolean) 2 := ⟨⟨wo_b3 (i := 3) rfl rfl, kn_X1, wo_b2 (i := 222) rfl rfl, by decide, by decide, by decide +kernel⟩, wo_b2 (i := 220) rfl rfl, wo_b2 (i := 221) rfl rfl⟩
theorem gv_X1_54 : wo_GV RX1 54 RX1 yX1_latestDayOf cX1_latestDayOf 3 (some .int) 1 := ⟨⟨wo_b3 (i := 19) rfl rfl, kn_X1, wo_b3 (i := 2) rfl rfl, by decide, by decide, by decide +kernel⟩, wo_b3 (i := 0) rfl rfl, wo_b3 (i := 1) rfl rfl⟩
theorem gv_X1_58 : wo_GV RX1 58 RX1 yX1_isBefore cX1_isBefore 6 (some .boolean) 2 := ⟨⟨wo_b2 (i := 68) rfl rfl, kn_X1, wo_b2 (i := 71) rfl rfl, by decide, by decide, by decide +kernel⟩, wo_b2 (i := 70) rfl rfl, wo_b0 (i := 12) rfl rfl⟩
theorem gi_X2_9 : wo_GB RX2 9 yX1_init cX1_init 1 (none) 0 := ⟨wo_b1 (i := 20) rfl rfl, kn_X1, wo_b1 (i := 22) rfl rfl, by decide, by decide, by decide +kernel⟩
theorem ki_X2_9 : Cond.instanceMethod yX1_init ∈ wo_BG := wo_b1 (i := 21) rfl rfl
theorem gi_X2_18 : wo_GB RX2 18 yX0_init cX0_init 2 (none) 1 := ⟨wo_b1 (i := 46) rfl rfl, kn_X0, wo_b1 (i := 48) rfl rfl, by decide, by decide, by decide +kernel⟩
theorem ki_X2_18 : Cond.instanceMethod yX0_init ∈ wo_BG := wo_b1 (i := 47) rfl rfl
theorem gs_X2_40 : wo_GS RX2 40 yX2_mayTakePart cX2_mayTakePart 1 (some .boolean) 1 := ⟨⟨wo_b1 (i := 80) rfl rfl, kn_X2, wo_b1 (i := 82) rfl rfl, by decide, by decide, by decide +kernel⟩, wo_b1 (i := 81) rfl rfl⟩
theorem gv_X2_44 : wo_GV RX2 44 RX2 yX2_begin cX2_begin 2 (none) 1 := ⟨⟨wo_b1 (i := 83) rfl rfl, kn_X2, wo_b1 (i := 86) rfl rfl, by decide, by decide, by decide +kernel⟩, wo_b1 (i := 85) rfl rfl, wo_b0 (i := 0) rfl rfl⟩
theorem gs_X2_55 : wo_GS RX2 55 yX2_requireTenthPounds cX2_requireTenthPounds 1 (none) 1 := ⟨⟨wo_b2 (i := 2) rfl rfl, kn_X2, wo_b2 (i := 4) rfl rfl, by decide, by decide, by decide +kernel⟩, wo_b2 (i := 3) rfl rfl⟩
theorem gs_X2_58 : wo_GS RX2 58 yX2_requireTenths cX2_requireTenths 1 (none) 1 := ⟨⟨wo_b2 (i := 6) rfl rfl, kn_X2, wo_b2 (i := 8) rfl rfl, by decide, by decide, by decide +kernel⟩, wo_b2 (i := 7) rfl rfl⟩
theorem gv_X2_61 : wo_GV RX2 61 RX2 yX2_requireTurn cX2_requireTurn 2 (some .int) 0 := ⟨⟨wo_b2 (i := 10) rfl rfl, kn_X2, wo_b2 (i := 13) rfl rfl, by decide, by decide, by decide +kernel⟩, wo_b2 (i := 12) rfl rfl, wo_b0 (i := 6) rfl rfl⟩
theorem gv_X2_65 : wo_GV RX2 65 RX2 yX2_tiltIfLevel cX2_tiltIfLevel 2 (some .int) 1 := ⟨⟨wo_b2 (i := 30) rfl rfl, kn_X2, wo_b2 (i := 33) rfl rfl, by decide, by decide, by decide +kernel⟩, wo_b2 (i := 32) rfl rfl, wo_b0 (i := 7) rfl rfl⟩
theorem gv_X2_69 : wo_GV RX2 69 RX0 yX0_today cX0_today 1 (some .int) 0 := ⟨⟨wo_b1 (i := 152) rfl rfl, kn_X0, wo_b1 (i := 155) rfl rfl, by decide, by decide, by decide +kernel⟩, wo_b1 (i := 153) rfl rfl, wo_b1 (i := 154) rfl rfl⟩
theorem gv_X2_72 : wo_GV RX2 72 RX1 yX1_enter cX1_enter 7 (none) 5 := ⟨⟨wo_b2 (i := 34) rfl rfl, kn_X1, wo_b2 (i := 37) rfl rfl, by decide, by decide, by decide +kernel⟩, wo_b2 (i := 35) rfl rfl, wo_b2 (i := 36) rfl rfl⟩
theorem gv_X2_76 : wo_GV RX2 76 RX2 yX2_noteRecord cX2_noteRecord 3 (none) 2 := ⟨⟨wo_b2 (i := 48) rfl rfl, kn_X2, wo_b2 (i := 51) rfl rfl, by decide, by decide, by decide +kernel⟩, wo_b2 (i := 50) rfl rfl, wo_b0 (i := 9) rfl rfl⟩
theorem gv_X2_80 : wo_GV RX2 80 RX0 yX0_goOn cX0_goOn 1 (none) 0 := ⟨⟨wo_b2 (i := 52) rfl rfl, kn_X0, wo_b2 (i := 55) rfl rfl, by decide, by decide, by decide +kernel⟩, wo_b2 (i := 53) rfl rfl, wo_b2 (i := 54) rfl rfl⟩
theorem gv_X2_83 : wo_GV RX2 83 RX2 yX2_requireGrower cX2_requireGrower 2 (none) 1 := ⟨⟨wo_b2 (i := 101) rfl rfl, kn_X2, wo_b2 (i := 104) rfl rfl, by decide, by decide, by decide +kernel⟩, wo_b2 (i := 103) rfl rfl, wo_b0 (i := 14) rfl rfl⟩
theorem gv_X2_86 : wo_GV RX2 86 RX0 yX0_hasLeft cX0_hasLeft 2 (some .boolean) 1 := ⟨⟨wo_b2 (i := 107) rfl rfl, kn_X0, wo_b2 (i := 110) rfl rfl, by decide, by decide, by decide +kernel⟩, wo_b2 (i := 108) rfl rfl, wo_b2 (i := 109) rfl rfl⟩
theorem gv_X2_94 : wo_GV RX2 94 RX0 yX0_dismiss cX0_dismiss 2 (none) 1 := ⟨⟨wo_b2 (i := 112) rfl rfl, kn_X0, wo_b2 (i := 115) rfl rfl, by decide, by decide, by decide +kernel⟩, wo_b2 (i := 113) rfl rfl, wo_b2 (i := 114) rfl rfl⟩
theorem gs_X2_97 : wo_GS RX2 97 yX2_requireDay cX2_requireDay 1 (none) 1 := ⟨⟨wo_b2 (i := 125) rfl rfl, kn_X2, wo_b2 (i := 127) rfl rfl, by decide, by decide, by decide +kernel⟩, wo_b2 (i := 126) rfl rfl⟩
theorem gv_X2_100 : wo_GV RX2 100 RX1 yX1_isMeasuredCrack cX1_isMeasuredCrack 4 (some .boolean) 2 := ⟨⟨wo_b2 (i := 129) rfl rfl, kn_X1, wo_b2 (i := 132) rfl rfl, by decide, by decide, by decide +kernel⟩, wo_b2 (i := 130) rfl rfl, wo_b2 (i := 131) rfl rfl⟩
theorem gv_X2_106 : wo_GV RX2 106 RX1 yX1_makeSound cX1_makeSound 4 (some .int) 2 := ⟨⟨wo_b2 (i := 134) rfl rfl, kn_X1, wo_b2 (i := 137) rfl rfl, by decide, by decide, by decide +kernel⟩, wo_b2 (i := 135) rfl rfl, wo_b2 (i := 136) rfl rfl⟩
theorem gv_X2_110 : wo_GV RX2 110 RX1 yX1_tiltOn cX1_tiltOn 3 (some .int) 2 := ⟨⟨wo_b2 (i := 138) rfl rfl, kn_X1, wo_b2 (i := 141) rfl rfl, by decide, by decide, by decide +kernel⟩, wo_b2 (i := 139) rfl rfl, wo_b2 (i := 140) rfl rfl⟩
theorem gs_X2_113 : wo_GS RX2 113 yX2_requirePounds cX2_requirePounds 1 (none) 1 := ⟨⟨wo_b2 (i := 149) rfl rfl, kn_X2, wo_b2 (i := 151) rfl rfl, by decide, by decide, by decide +kernel⟩, wo_b2 (i := 150) rfl rfl⟩
theorem gs_X2_116 : wo_GS RX2 116 yX2_poundsOrNone cX2_poundsOrNone 1 (some .int) 1 := ⟨⟨wo_b2 (i := 153) rfl rfl, kn_X2, wo_b2 (i := 155) rfl rfl, by decide, by decide, by decide +kernel⟩, wo_b2 (i := 154) rfl rfl⟩
theorem gv_X2_119 : wo_GV RX2 119 RX0 yX0_whoseTurn cX0_whoseTurn 1 (some .int) 0 := ⟨⟨wo_b1 (i := 143) rfl rfl, kn_X0, wo_b1 (i := 146) rfl rfl, by decide, by decide, by decide +kernel⟩, wo_b1 (i := 144) rfl rfl, wo_b1 (i := 145) rfl rfl⟩
theorem gv_X2_122 : wo_GV RX2 122 RX1 yX1_markOn cX1_markOn 3 (some .int) 2 := ⟨⟨wo_b2 (i := 170) rfl rfl, kn_X1, wo_b2 (i := 173) rfl rfl, by decide, by decide, by decide +kernel⟩, wo_b2 (i := 171) rfl rfl, wo_b2 (i := 172) rfl rfl⟩
theorem gv_X2_125 : wo_GV RX2 125 RX1 yX1_bestOf cX1_bestOf 2 (some .int) 1 := ⟨⟨wo_b2 (i := 188) rfl rfl, kn_X1, wo_b2 (i := 79) rfl rfl, by decide, by decide, by decide +kernel⟩, wo_b2 (i := 77) rfl rfl, wo_b2 (i := 78) rfl rfl⟩
theorem gv_X2_128 : wo_GV RX2 128 RX1 yX1_placeOf cX1_placeOf 4 (some .int) 1 := ⟨⟨wo_b2 (i := 196) rfl rfl, kn_X1, wo_b2 (i := 67) rfl rfl, by decide, by decide, by decide +kernel⟩, wo_b2 (i := 65) rfl rfl, wo_b2 (i := 66) rfl rfl⟩
theorem gs_X2_131 : wo_GS RX2 131 yX2_requireWhat cX2_requireWhat 1 (none) 1 := ⟨⟨wo_b2 (i := 211) rfl rfl, kn_X2, wo_b2 (i := 213) rfl rfl, by decide, by decide, by decide +kernel⟩, wo_b2 (i := 212) rfl rfl⟩
theorem gs_X2_134 : wo_GS RX2 134 yX2_requireSign cX2_requireSign 1 (none) 1 := ⟨⟨wo_b2 (i := 215) rfl rfl, kn_X2, wo_b2 (i := 217) rfl rfl, by decide, by decide, by decide +kernel⟩, wo_b2 (i := 216) rfl rfl⟩
theorem gv_X2_137 : wo_GV RX2 137 RX1 yX1_howManyGrowers cX1_howManyGrowers 1 (some .int) 0 := ⟨⟨wo_b2 (i := 105) rfl rfl, kn_X1, wo_b1 (i := 107) rfl rfl, by decide, by decide, by decide +kernel⟩, wo_b1 (i := 105) rfl rfl, wo_b1 (i := 106) rfl rfl⟩
theorem gv_X2_140 : wo_GV RX2 140 RX1 yX1_hasEntry cX1_hasEntry 3 (some .boolean) 2 := ⟨⟨wo_b2 (i := 219) rfl rfl, kn_X1, wo_b2 (i := 222) rfl rfl, by decide, by decide, by decide +kernel⟩, wo_b2 (i := 220) rfl rfl, wo_b2 (i := 221) rfl rfl⟩
theorem gv_X2_143 : wo_GV RX2 143 RX1 yX1_valueOn cX1_valueOn 5 (some .int) 3 := ⟨⟨wo_b2 (i := 223) rfl rfl, kn_X1, wo_b2 (i := 226) rfl rfl, by decide, by decide, by decide +kernel⟩, wo_b2 (i := 224) rfl rfl, wo_b2 (i := 225) rfl rfl⟩
theorem gs_X2_147 : wo_GS RX2 147 yX2_holds cX2_holds 3 (some .boolean) 3 := ⟨⟨wo_b2 (i := 229) rfl rfl, kn_X2, wo_b2 (i := 231) rfl rfl, by decide, by decide, by decide +kernel⟩, wo_b2 (i := 230) rfl rfl⟩
theorem gv_X2_151 : wo_GV RX2 151 RX1 yX1_latestDayOf cX1_latestDayOf 3 (some .int) 1 := ⟨⟨wo_b2 (i := 239) rfl rfl, kn_X1, wo_b3 (i := 2) rfl rfl, by decide, by decide, by decide +kernel⟩, wo_b3 (i := 0) rfl rfl, wo_b3 (i := 1) rfl rfl⟩
theorem gv_X2_154 : wo_GV RX2 154 RX2 yX2_bestOrLatestTilt cX2_bestOrLatestTilt 3 (some .int) 2 := ⟨⟨wo_b3 (i := 11) rfl rfl, kn_X2, wo_b3 (i := 14) rfl rfl, by decide, by decide, by decide +kernel⟩, wo_b3 (i := 13) rfl rfl, wo_b0 (i := 15) rfl rfl⟩
theorem gv_X2_157 : wo_GV RX2 157 RX1 yX1_howManyEntries cX1_howManyEntries 1 (some .int) 0 := ⟨⟨wo_b3 (i := 41) rfl rfl, kn_X1, wo_b3 (i := 44) rfl rfl, by decide, by decide, by decide +kernel⟩, wo_b3 (i := 42) rfl rfl, wo_b3 (i := 43) rfl rfl⟩
theorem gv_X2_160 : wo_GV RX2 160 RX0 yX0_howManyLeft cX0_howManyLeft 1 (some .int) 0 := ⟨⟨wo_b3 (i := 45) rfl rfl, kn_X0, wo_b3 (i := 48) rfl rfl, by decide, by decide, by decide +kernel⟩, wo_b3 (i := 46) rfl rfl, wo_b3 (i := 47) rfl rfl⟩
theorem gv_X2_165 : wo_GV RX2 165 RX1 yX1_clearFor cX1_clearFor 3 (none) 1 := ⟨⟨wo_b1 (i := 87) rfl rfl, kn_X1, wo_b1 (i := 90) rfl rfl, by decide, by decide, by decide +kernel⟩, wo_b1 (i := 88) rfl rfl, wo_b1 (i := 89) rfl rfl⟩
theorem gv_X2_168 : wo_GV RX2 168 RX0 yX0_restart cX0_restart 2 (none) 0 := ⟨⟨wo_b1 (i := 92) rfl rfl, kn_X0, wo_b1 (i := 95) rfl rfl, by decide, by decide, by decide +kernel⟩, wo_b1 (i := 93) rfl rfl, wo_b1 (i := 94) rfl rfl⟩
theorem gv_X2_171 : wo_GV RX2 171 RX1 yX1_latestTiltOf cX1_latestTiltOf 3 (some .int) 1 := ⟨⟨wo_b3 (i := 15) rfl rfl, kn_X1, wo_b3 (i := 18) rfl rfl, by decide, by decide, by decide +kernel⟩, wo_b3 (i := 16) rfl rfl, wo_b3 (i := 17) rfl rfl⟩
theorem gs_X3_48 : wo_GS RX3 48 yX3_in cX3_in 3 (some .boolean) 3 := ⟨⟨wo_b3 (i := 56) rfl rfl, kn_X3, wo_b3 (i := 58) rfl rfl, by decide, by decide, by decide +kernel⟩, wo_b3 (i := 57) rfl rfl⟩
theorem gv_X3_52 : wo_GV RX3 52 RX3 yX3_begin cX3_begin 3 (none) 1 := ⟨⟨wo_b3 (i := 59) rfl rfl, kn_X3, wo_b3 (i := 62) rfl rfl, by decide, by decide, by decide +kernel⟩, wo_b3 (i := 61) rfl rfl, wo_b0 (i := 16) rfl rfl⟩
theorem gv_X3_66 : wo_GV RX3 66 RX3 yX3_nextDay cX3_nextDay 2 (none) 0 := ⟨⟨wo_b3 (i := 63) rfl rfl, kn_X3, wo_b3 (i := 66) rfl rfl, by decide, by decide, by decide +kernel⟩, wo_b3 (i := 65) rfl rfl, wo_b0 (i := 17) rfl rfl⟩
theorem gv_X3_69 : wo_GV RX3 69 RX3 yX3_weightsOf cX3_weightsOf 7 (some .int) 2 := ⟨⟨wo_b3 (i := 67) rfl rfl, kn_X3, wo_b3 (i := 70) rfl rfl, by decide, by decide, by decide +kernel⟩, wo_b3 (i := 69) rfl rfl, wo_b0 (i := 18) rfl rfl⟩
theorem gv_X3_73 : wo_GV RX3 73 RX3 yX3_placeOf cX3_placeOf 4 (some .int) 1 := ⟨⟨wo_b3 (i := 71) rfl rfl, kn_X3, wo_b3 (i := 74) rfl rfl, by decide, by decide, by decide +kernel⟩, wo_b3 (i := 73) rfl rfl, wo_b0 (i := 19) rfl rfl⟩
theorem gv_X3_80 : wo_GV RX3 80 RX3 yX3_byPlaces cX3_byPlaces 3 (none) 0 := ⟨⟨wo_b3 (i := 79) rfl rfl, kn_X3, wo_b3 (i := 82) rfl rfl, by decide, by decide, by decide +kernel⟩, wo_b3 (i := 81) rfl rfl, wo_b0 (i := 21) rfl rfl⟩
theorem gv_X3_86 : wo_GV RX3 86 RX3 yX3_forward cX3_forward 1 (none) 0 := ⟨⟨wo_b3 (i := 83) rfl rfl, kn_X3, wo_b3 (i := 86) rfl rfl, by decide, by decide, by decide +kernel⟩, wo_b3 (i := 85) rfl rfl, wo_b0 (i := 22) rfl rfl⟩
theorem gv_X3_89 : wo_GV RX3 89 RX3 yX3_isIn cX3_isIn 2 (some .boolean) 1 := ⟨⟨wo_b3 (i := 87) rfl rfl, kn_X3, wo_b3 (i := 90) rfl rfl, by decide, by decide, by decide +kernel⟩, wo_b3 (i := 89) rfl rfl, wo_b0 (i := 23) rfl rfl⟩
theorem gv_X3_93 : wo_GV RX3 93 RX3 yX3_entry cX3_entry 4 (some .int) 1 := ⟨⟨wo_b3 (i := 170) rfl rfl, kn_X3, wo_b3 (i := 173) rfl rfl, by decide, by decide, by decide +kernel⟩, wo_b3 (i := 172) rfl rfl, wo_b0 (i := 24) rfl rfl⟩
theorem gv_X3_96 : wo_GV RX3 96 RX3 yX3_asRecord cX3_asRecord 2 (none) 1 := ⟨⟨wo_b3 (i := 174) rfl rfl, kn_X3, wo_b3 (i := 177) rfl rfl, by decide, by decide, by decide +kernel⟩, wo_b3 (i := 176) rfl rfl, wo_b0 (i := 25) rfl rfl⟩
theorem gv_X3_99 : wo_GV RX3 99 RX3 yX3_passOn cX3_passOn 1 (none) 0 := ⟨⟨wo_b3 (i := 178) rfl rfl, kn_X3, wo_b3 (i := 181) rfl rfl, by decide, by decide, by decide +kernel⟩, wo_b3 (i := 180) rfl rfl, wo_b0 (i := 26) rfl rfl⟩
theorem gv_X3_111 : wo_GV RX3 111 RX3 yX3_isEntry cX3_isEntry 3 (some .boolean) 2 := ⟨⟨wo_b3 (i := 198) rfl rfl, kn_X3, wo_b3 (i := 201) rfl rfl, by decide, by decide, by decide +kernel⟩, wo_b3 (i := 200) rfl rfl, wo_b0 (i := 27) rfl rfl⟩
theorem gv_X3_121 : wo_GV RX3 121 RX3 yX3_isBefore cX3_isBefore 6 (some .boolean) 2 := ⟨⟨wo_b3 (i := 75) rfl rfl, kn_X3, wo_b3 (i := 78) rfl rfl, by decide, by decide, by decide +kernel⟩, wo_b3 (i := 77) rfl rfl, wo_b0 (i := 20) rfl rfl⟩
theorem gs_X3_125 : wo_GS RX3 125 yX3_stand cX3_stand 5 (some .boolean) 5 := ⟨⟨wo_b4 (i := 15) rfl rfl, kn_X3, wo_b4 (i := 17) rfl rfl, by decide, by decide, by decide +kernel⟩, wo_b4 (i := 16) rfl rfl⟩
theorem gv_X3_129 : wo_GV RX3 129 RX3 yX3_isAsked cX3_isAsked 3 (some .boolean) 2 := ⟨⟨wo_b4 (i := 7) rfl rfl, kn_X3, wo_b4 (i := 10) rfl rfl, by decide, by decide, by decide +kernel⟩, wo_b4 (i := 9) rfl rfl, wo_b0 (i := 28) rfl rfl⟩
theorem gv_X3_132 : wo_GV RX3 132 RX3 yX3_entryStands cX3_entryStands 6 (some .boolean) 4 := ⟨⟨wo_b4 (i := 11) rfl rfl, kn_X3, wo_b4 (i := 14) rfl rfl, by decide, by decide, by decide +kernel⟩, wo_b4 (i := 13) rfl rfl, wo_b0 (i := 29) rfl rfl⟩
theorem gv_X3_136 : wo_GV RX3 136 RX3 yX3_has cX3_has 3 (some .boolean) 2 := ⟨⟨wo_b4 (i := 26) rfl rfl, kn_X3, wo_b4 (i := 29) rfl rfl, by decide, by decide, by decide +kernel⟩, wo_b4 (i := 28) rfl rfl, wo_b0 (i := 30) rfl rfl⟩
theorem gv_X3_139 : wo_GV RX3 139 RX3 yX3_told cX3_told 4 (some .int) 2 := ⟨⟨wo_b4 (i := 30) rfl rfl, kn_X3, wo_b4 (i := 33) rfl rfl, by decide, by decide, by decide +kernel⟩, wo_b4 (i := 32) rfl rfl, wo_b0 (i := 31) rfl rfl⟩
