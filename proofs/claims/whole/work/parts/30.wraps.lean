/-! ===== the law's wrappers ===== -/
section WRP
variable {l : Launch} {D : va_G} {tys : List (ClassId × FieldType)} {cI cZ cJ : ClassId} {ws W2 : va_W} {b o : Nat} {fs : List Value} {f : Nat → Int64}
theorem gl_open : wo_GL RL 88 yL_open cL_open 3 [(0, 5, 8, 13)] 2 := ⟨km_L_88, ks_L_open, kn_L, kc_L_open, by decide, by decide, by decide +kernel⟩
set_option maxRecDepth 100000 in
set_option maxHeartbeats 4000000 in
theorem w_open (x1 : Int32) (hq : ws[0]? = some (b, .inr (2, fs))) (hM : wo_E l yX2_open cX2_open 2 (none) 7 D ((cI, .int) :: (cZ, .boolean) :: (cJ, .long) :: tys) [.ref b, .int x1] ws none W2) : wo_L l yL_open cL_open 3 [(0, 5, 8, 13)] 8 0 0 D ((cI, .int) :: (cZ, .boolean) :: (cJ, .long) :: tys) [.ref b, .int x1] ws (some (.int 0)) W2 := by
  refine wo_ofL (ls := [some (.ref b), some (.int x1), none]) (by decide) (Nat.le_of_ble_eq_true rfl) rfl ?_
  intro p e s m args below meth c A C hX htab
  refine x_aload_n C dL_open_0 rfl rfl ?_
  refine x_iload_n C dL_open_1 rfl rfl ?_
  refine x_callVv C gv_L_7 hM 0 hq rfl rfl rfl (Nat.le_of_ble_eq_true rfl) ⟨(Nat.le_of_ble_eq_true rfl), (Nat.le_of_ble_eq_true rfl)⟩ ⟨Nat.zero_le _, Nat.zero_le _⟩ dL_open_2 ?_
  refine x_goto C (tgt := 11) dL_open_5 (by decide) ?_
  refine x_iconst C (v := 0) dL_open_11 (by decide) ?_
  exact x_iretL C dL_open_12 rfl rfl (Nat.le_refl _) (Nat.le_refl _)
set_option maxRecDepth 100000 in
set_option maxHeartbeats 4000000 in
theorem w_open_t1 (x1 : Int32) (hq : ws[0]? = some (b, .inr (2, fs))) (hM : wo_X l yX2_open cX2_open 2 (none) 7 D ((cI, .int) :: (cZ, .boolean) :: (cJ, .long) :: tys) [.ref b, .int x1] ws wo_IAE) : wo_L l yL_open cL_open 3 [(0, 5, 8, 13)] 8 1 6 D ((cI, .int) :: (cZ, .boolean) :: (cJ, .long) :: tys) [.ref b, .int x1] ws (some (.int 1)) ws := by
  refine wo_ofL (ls := [some (.ref b), some (.int x1), none]) (by decide) (Nat.le_of_ble_eq_true rfl) rfl ?_
  intro p e s m args below meth c A C hX htab
  refine x_aload_n C dL_open_0 rfl rfl ?_
  refine x_iload_n C dL_open_1 rfl rfl ?_
  refine x_callVX C hX gv_L_7 hM 0 hq rfl rfl rfl (Nat.le_of_ble_eq_true rfl) ⟨(Nat.le_of_ble_eq_true rfl), (Nat.le_of_ble_eq_true rfl)⟩ ⟨(Nat.le_of_ble_eq_true rfl), (Nat.le_of_ble_eq_true rfl)⟩ dL_open_2 ?_
  refine x_catch1 C hX htab (Or.inl rfl) (by decide) (by decide) kl_L_13 (fun q9 => ?_)
  refine x_astore_n C dL_open_8 rfl (by decide) ?_
  refine x_iconst C (v := 1) dL_open_9 (by decide) ?_
  exact x_iretL C dL_open_10 rfl rfl (Nat.le_refl _) (Nat.le_refl _)
theorem gl_weigh : wo_GL RL 96 yL_weigh cL_weigh 5 [(0, 10, 13, 13), (0, 10, 17, 19)] 4 := ⟨km_L_96, ks_L_weigh, kn_L, kc_L_weigh, by decide, by decide, by decide +kernel⟩
set_option maxRecDepth 100000 in
set_option maxHeartbeats 4000000 in
theorem w_weigh (x1 : Int32) (x2 : Int32) (v : Int32) (ho : W2[11]? = some (o, .inl (cJ, 1, .inr (.inl f)))) (hq : ws[0]? = some (b, .inr (2, fs))) (hM : wo_E l yX2_weigh cX2_weigh 6 (some .int) 7 D ((cI, .int) :: (cZ, .boolean) :: (cJ, .long) :: tys) [.ref b, .int x1, .int x2] ws (some (.int v)) W2) : wo_L l yL_weigh cL_weigh 5 [(0, 10, 13, 13), (0, 10, 17, 19)] 8 0 0 D ((cI, .int) :: (cZ, .boolean) :: (cJ, .long) :: tys) [.ref b, .int x1, .int x2, .ref o] ws (some (.int 0)) (W2.set 11 (o, .inl (cJ, 1, .inr (.inl (vp_updL f 0 v.toInt64))))) := by
  refine wo_ofL (ls := [some (.ref b), some (.int x1), some (.int x2), some (.ref o), none]) (by decide) (Nat.le_of_ble_eq_true rfl) rfl ?_
  intro p e s m args below meth c A C hX htab
  refine x_aload_n C dL_weigh_0 rfl rfl ?_
  refine x_iconst C (v := 0) dL_weigh_1 (by decide) ?_
  refine x_aload_n C dL_weigh_2 rfl rfl ?_
  refine x_iload_n C dL_weigh_3 rfl rfl ?_
  refine x_iload_n C dL_weigh_4 rfl rfl ?_
  refine x_callVi C gv_L_15 hM 0 hq rfl rfl rfl (Nat.le_of_ble_eq_true rfl) ⟨(Nat.le_of_ble_eq_true rfl), (Nat.le_of_ble_eq_true rfl)⟩ ⟨Nat.zero_le _, Nat.zero_le _⟩ dL_weigh_5 ?_
  refine x_i2l C dL_weigh_8 ?_
  refine x_last C 11 2 0 ho rfl rfl (by decide) (by decide) rfl dL_weigh_9 ?_
  refine x_goto C (tgt := 21) dL_weigh_10 (by decide) ?_
  refine x_iconst C (v := 0) dL_weigh_21 (by decide) ?_
  exact x_iretL C dL_weigh_22 rfl rfl (Nat.le_refl _) (Nat.le_refl _)
set_option maxRecDepth 100000 in
set_option maxHeartbeats 4000000 in
theorem w_weigh_t1 (x1 : Int32) (x2 : Int32) (hq : ws[0]? = some (b, .inr (2, fs))) (hM : wo_X l yX2_weigh cX2_weigh 6 (some .int) 7 D ((cI, .int) :: (cZ, .boolean) :: (cJ, .long) :: tys) [.ref b, .int x1, .int x2] ws wo_IAE) : wo_L l yL_weigh cL_weigh 5 [(0, 10, 13, 13), (0, 10, 17, 19)] 8 1 6 D ((cI, .int) :: (cZ, .boolean) :: (cJ, .long) :: tys) [.ref b, .int x1, .int x2, .ref o] ws (some (.int 1)) ws := by
  refine wo_ofL (ls := [some (.ref b), some (.int x1), some (.int x2), some (.ref o), none]) (by decide) (Nat.le_of_ble_eq_true rfl) rfl ?_
  intro p e s m args below meth c A C hX htab
  refine x_aload_n C dL_weigh_0 rfl rfl ?_
  refine x_iconst C (v := 0) dL_weigh_1 (by decide) ?_
  refine x_aload_n C dL_weigh_2 rfl rfl ?_
  refine x_iload_n C dL_weigh_3 rfl rfl ?_
  refine x_iload_n C dL_weigh_4 rfl rfl ?_
  refine x_callVX C hX gv_L_15 hM 0 hq rfl rfl rfl (Nat.le_of_ble_eq_true rfl) ⟨(Nat.le_of_ble_eq_true rfl), (Nat.le_of_ble_eq_true rfl)⟩ ⟨(Nat.le_of_ble_eq_true rfl), (Nat.le_of_ble_eq_true rfl)⟩ dL_weigh_5 ?_
  refine x_catch1 C hX htab (Or.inl rfl) (by decide) (by decide) kl_L_13 (fun q9 => ?_)
  refine x_astore C dL_weigh_13 (by decide) ?_
  refine x_iconst C (v := 1) dL_weigh_15 (by decide) ?_
  exact x_iretL C dL_weigh_16 rfl rfl (Nat.le_refl _) (Nat.le_refl _)
set_option maxRecDepth 100000 in
set_option maxHeartbeats 4000000 in
theorem w_weigh_t2 (x1 : Int32) (x2 : Int32) (hq : ws[0]? = some (b, .inr (2, fs))) (hM : wo_X l yX2_weigh cX2_weigh 6 (some .int) 7 D ((cI, .int) :: (cZ, .boolean) :: (cJ, .long) :: tys) [.ref b, .int x1, .int x2] ws wo_ISE) : wo_L l yL_weigh cL_weigh 5 [(0, 10, 13, 13), (0, 10, 17, 19)] 8 1 6 D ((cI, .int) :: (cZ, .boolean) :: (cJ, .long) :: tys) [.ref b, .int x1, .int x2, .ref o] ws (some (.int 2)) ws := by
  refine wo_ofL (ls := [some (.ref b), some (.int x1), some (.int x2), some (.ref o), none]) (by decide) (Nat.le_of_ble_eq_true rfl) rfl ?_
  intro p e s m args below meth c A C hX htab
  refine x_aload_n C dL_weigh_0 rfl rfl ?_
  refine x_iconst C (v := 0) dL_weigh_1 (by decide) ?_
  refine x_aload_n C dL_weigh_2 rfl rfl ?_
  refine x_iload_n C dL_weigh_3 rfl rfl ?_
  refine x_iload_n C dL_weigh_4 rfl rfl ?_
  refine x_callVX C hX gv_L_15 hM 0 hq rfl rfl rfl (Nat.le_of_ble_eq_true rfl) ⟨(Nat.le_of_ble_eq_true rfl), (Nat.le_of_ble_eq_true rfl)⟩ ⟨(Nat.le_of_ble_eq_true rfl), (Nat.le_of_ble_eq_true rfl)⟩ dL_weigh_5 ?_
  refine x_catch2 C hX htab (by decide) kl_L_13 (by decide) (by decide) kl_L_19 (fun q9 => ?_)
  refine x_astore C dL_weigh_17 (by decide) ?_
  refine x_iconst C (v := 2) dL_weigh_19 (by decide) ?_
  exact x_iretL C dL_weigh_20 rfl rfl (Nat.le_refl _) (Nat.le_refl _)
theorem gl_crack : wo_GL RL 100 yL_crack cL_crack 4 [(0, 6, 9, 13), (0, 6, 12, 19)] 3 := ⟨km_L_100, ks_L_crack, kn_L, kc_L_crack, by decide, by decide, by decide +kernel⟩
set_option maxRecDepth 100000 in
set_option maxHeartbeats 4000000 in
theorem w_crack (x1 : Int32) (x2 : Int32) (hq : ws[0]? = some (b, .inr (2, fs))) (hM : wo_E l yX2_crack cX2_crack 4 (none) 7 D ((cI, .int) :: (cZ, .boolean) :: (cJ, .long) :: tys) [.ref b, .int x1, .int x2] ws none W2) : wo_L l yL_crack cL_crack 4 [(0, 6, 9, 13), (0, 6, 12, 19)] 8 0 0 D ((cI, .int) :: (cZ, .boolean) :: (cJ, .long) :: tys) [.ref b, .int x1, .int x2] ws (some (.int 0)) W2 := by
  refine wo_ofL (ls := [some (.ref b), some (.int x1), some (.int x2), none]) (by decide) (Nat.le_of_ble_eq_true rfl) rfl ?_
  intro p e s m args below meth c A C hX htab
  refine x_aload_n C dL_crack_0 rfl rfl ?_
  refine x_iload_n C dL_crack_1 rfl rfl ?_
  refine x_iload_n C dL_crack_2 rfl rfl ?_
  refine x_callVv C gv_L_21 hM 0 hq rfl rfl rfl (Nat.le_of_ble_eq_true rfl) ⟨(Nat.le_of_ble_eq_true rfl), (Nat.le_of_ble_eq_true rfl)⟩ ⟨Nat.zero_le _, Nat.zero_le _⟩ dL_crack_3 ?_
  refine x_goto C (tgt := 15) dL_crack_6 (by decide) ?_
  refine x_iconst C (v := 0) dL_crack_15 (by decide) ?_
  exact x_iretL C dL_crack_16 rfl rfl (Nat.le_refl _) (Nat.le_refl _)
set_option maxRecDepth 100000 in
set_option maxHeartbeats 4000000 in
theorem w_crack_t1 (x1 : Int32) (x2 : Int32) (hq : ws[0]? = some (b, .inr (2, fs))) (hM : wo_X l yX2_crack cX2_crack 4 (none) 7 D ((cI, .int) :: (cZ, .boolean) :: (cJ, .long) :: tys) [.ref b, .int x1, .int x2] ws wo_IAE) : wo_L l yL_crack cL_crack 4 [(0, 6, 9, 13), (0, 6, 12, 19)] 8 1 6 D ((cI, .int) :: (cZ, .boolean) :: (cJ, .long) :: tys) [.ref b, .int x1, .int x2] ws (some (.int 1)) ws := by
  refine wo_ofL (ls := [some (.ref b), some (.int x1), some (.int x2), none]) (by decide) (Nat.le_of_ble_eq_true rfl) rfl ?_
  intro p e s m args below meth c A C hX htab
  refine x_aload_n C dL_crack_0 rfl rfl ?_
  refine x_iload_n C dL_crack_1 rfl rfl ?_
  refine x_iload_n C dL_crack_2 rfl rfl ?_
  refine x_callVX C hX gv_L_21 hM 0 hq rfl rfl rfl (Nat.le_of_ble_eq_true rfl) ⟨(Nat.le_of_ble_eq_true rfl), (Nat.le_of_ble_eq_true rfl)⟩ ⟨(Nat.le_of_ble_eq_true rfl), (Nat.le_of_ble_eq_true rfl)⟩ dL_crack_3 ?_
  refine x_catch1 C hX htab (Or.inl rfl) (by decide) (by decide) kl_L_13 (fun q9 => ?_)
  refine x_astore_n C dL_crack_9 rfl (by decide) ?_
  refine x_iconst C (v := 1) dL_crack_10 (by decide) ?_
  exact x_iretL C dL_crack_11 rfl rfl (Nat.le_refl _) (Nat.le_refl _)
set_option maxRecDepth 100000 in
set_option maxHeartbeats 4000000 in
theorem w_crack_t2 (x1 : Int32) (x2 : Int32) (hq : ws[0]? = some (b, .inr (2, fs))) (hM : wo_X l yX2_crack cX2_crack 4 (none) 7 D ((cI, .int) :: (cZ, .boolean) :: (cJ, .long) :: tys) [.ref b, .int x1, .int x2] ws wo_ISE) : wo_L l yL_crack cL_crack 4 [(0, 6, 9, 13), (0, 6, 12, 19)] 8 1 6 D ((cI, .int) :: (cZ, .boolean) :: (cJ, .long) :: tys) [.ref b, .int x1, .int x2] ws (some (.int 2)) ws := by
  refine wo_ofL (ls := [some (.ref b), some (.int x1), some (.int x2), none]) (by decide) (Nat.le_of_ble_eq_true rfl) rfl ?_
  intro p e s m args below meth c A C hX htab
  refine x_aload_n C dL_crack_0 rfl rfl ?_
  refine x_iload_n C dL_crack_1 rfl rfl ?_
  refine x_iload_n C dL_crack_2 rfl rfl ?_
  refine x_callVX C hX gv_L_21 hM 0 hq rfl rfl rfl (Nat.le_of_ble_eq_true rfl) ⟨(Nat.le_of_ble_eq_true rfl), (Nat.le_of_ble_eq_true rfl)⟩ ⟨(Nat.le_of_ble_eq_true rfl), (Nat.le_of_ble_eq_true rfl)⟩ dL_crack_3 ?_
  refine x_catch2 C hX htab (by decide) kl_L_13 (by decide) (by decide) kl_L_19 (fun q9 => ?_)
  refine x_astore_n C dL_crack_12 rfl (by decide) ?_
  refine x_iconst C (v := 2) dL_crack_13 (by decide) ?_
  exact x_iretL C dL_crack_14 rfl rfl (Nat.le_refl _) (Nat.le_refl _)
theorem gl_pass : wo_GL RL 104 yL_pass cL_pass 2 [(0, 4, 7, 19)] 1 := ⟨km_L_104, ks_L_pass, kn_L, kc_L_pass, by decide, by decide, by decide +kernel⟩
set_option maxRecDepth 100000 in
set_option maxHeartbeats 4000000 in
theorem w_pass  (hq : ws[0]? = some (b, .inr (2, fs))) (hM : wo_E l yX2_pass cX2_pass 2 (none) 7 D ((cI, .int) :: (cZ, .boolean) :: (cJ, .long) :: tys) [.ref b] ws none W2) : wo_L l yL_pass cL_pass 2 [(0, 4, 7, 19)] 8 0 0 D ((cI, .int) :: (cZ, .boolean) :: (cJ, .long) :: tys) [.ref b] ws (some (.int 0)) W2 := by
  refine wo_ofL (ls := [some (.ref b), none]) (by decide) (Nat.le_of_ble_eq_true rfl) rfl ?_
  intro p e s m args below meth c A C hX htab
  refine x_aload_n C dL_pass_0 rfl rfl ?_
  refine x_callVv C gv_L_25 hM 0 hq rfl rfl rfl (Nat.le_of_ble_eq_true rfl) ⟨(Nat.le_of_ble_eq_true rfl), (Nat.le_of_ble_eq_true rfl)⟩ ⟨Nat.zero_le _, Nat.zero_le _⟩ dL_pass_1 ?_
  refine x_goto C (tgt := 10) dL_pass_4 (by decide) ?_
  refine x_iconst C (v := 0) dL_pass_10 (by decide) ?_
  exact x_iretL C dL_pass_11 rfl rfl (Nat.le_refl _) (Nat.le_refl _)
set_option maxRecDepth 100000 in
set_option maxHeartbeats 4000000 in
theorem w_pass_t1  (hq : ws[0]? = some (b, .inr (2, fs))) (hM : wo_X l yX2_pass cX2_pass 2 (none) 7 D ((cI, .int) :: (cZ, .boolean) :: (cJ, .long) :: tys) [.ref b] ws wo_ISE) : wo_L l yL_pass cL_pass 2 [(0, 4, 7, 19)] 8 1 6 D ((cI, .int) :: (cZ, .boolean) :: (cJ, .long) :: tys) [.ref b] ws (some (.int 1)) ws := by
  refine wo_ofL (ls := [some (.ref b), none]) (by decide) (Nat.le_of_ble_eq_true rfl) rfl ?_
  intro p e s m args below meth c A C hX htab
  refine x_aload_n C dL_pass_0 rfl rfl ?_
  refine x_callVX C hX gv_L_25 hM 0 hq rfl rfl rfl (Nat.le_of_ble_eq_true rfl) ⟨(Nat.le_of_ble_eq_true rfl), (Nat.le_of_ble_eq_true rfl)⟩ ⟨(Nat.le_of_ble_eq_true rfl), (Nat.le_of_ble_eq_true rfl)⟩ dL_pass_1 ?_
  refine x_catch1 C hX htab (Or.inr rfl) (by decide) (by decide) kl_L_19 (fun q9 => ?_)
  refine x_astore_n C dL_pass_7 rfl (by decide) ?_
  refine x_iconst C (v := 1) dL_pass_8 (by decide) ?_
  exact x_iretL C dL_pass_9 rfl rfl (Nat.le_refl _) (Nat.le_refl _)
theorem gl_leave : wo_GL RL 108 yL_leave cL_leave 3 [(0, 5, 8, 13), (0, 5, 11, 19)] 2 := ⟨km_L_108, ks_L_leave, kn_L, kc_L_leave, by decide, by decide, by decide +kernel⟩
set_option maxRecDepth 100000 in
set_option maxHeartbeats 4000000 in
theorem w_leave (x1 : Int32) (hq : ws[0]? = some (b, .inr (2, fs))) (hM : wo_E l yX2_leave cX2_leave 2 (none) 7 D ((cI, .int) :: (cZ, .boolean) :: (cJ, .long) :: tys) [.ref b, .int x1] ws none W2) : wo_L l yL_leave cL_leave 3 [(0, 5, 8, 13), (0, 5, 11, 19)] 8 0 0 D ((cI, .int) :: (cZ, .boolean) :: (cJ, .long) :: tys) [.ref b, .int x1] ws (some (.int 0)) W2 := by
  refine wo_ofL (ls := [some (.ref b), some (.int x1), none]) (by decide) (Nat.le_of_ble_eq_true rfl) rfl ?_
  intro p e s m args below meth c A C hX htab
  refine x_aload_n C dL_leave_0 rfl rfl ?_
  refine x_iload_n C dL_leave_1 rfl rfl ?_
  refine x_callVv C gv_L_28 hM 0 hq rfl rfl rfl (Nat.le_of_ble_eq_true rfl) ⟨(Nat.le_of_ble_eq_true rfl), (Nat.le_of_ble_eq_true rfl)⟩ ⟨Nat.zero_le _, Nat.zero_le _⟩ dL_leave_2 ?_
  refine x_goto C (tgt := 14) dL_leave_5 (by decide) ?_
  refine x_iconst C (v := 0) dL_leave_14 (by decide) ?_
  exact x_iretL C dL_leave_15 rfl rfl (Nat.le_refl _) (Nat.le_refl _)
set_option maxRecDepth 100000 in
set_option maxHeartbeats 4000000 in
theorem w_leave_t1 (x1 : Int32) (hq : ws[0]? = some (b, .inr (2, fs))) (hM : wo_X l yX2_leave cX2_leave 2 (none) 7 D ((cI, .int) :: (cZ, .boolean) :: (cJ, .long) :: tys) [.ref b, .int x1] ws wo_IAE) : wo_L l yL_leave cL_leave 3 [(0, 5, 8, 13), (0, 5, 11, 19)] 8 1 6 D ((cI, .int) :: (cZ, .boolean) :: (cJ, .long) :: tys) [.ref b, .int x1] ws (some (.int 1)) ws := by
  refine wo_ofL (ls := [some (.ref b), some (.int x1), none]) (by decide) (Nat.le_of_ble_eq_true rfl) rfl ?_
  intro p e s m args below meth c A C hX htab
  refine x_aload_n C dL_leave_0 rfl rfl ?_
  refine x_iload_n C dL_leave_1 rfl rfl ?_
  refine x_callVX C hX gv_L_28 hM 0 hq rfl rfl rfl (Nat.le_of_ble_eq_true rfl) ⟨(Nat.le_of_ble_eq_true rfl), (Nat.le_of_ble_eq_true rfl)⟩ ⟨(Nat.le_of_ble_eq_true rfl), (Nat.le_of_ble_eq_true rfl)⟩ dL_leave_2 ?_
  refine x_catch1 C hX htab (Or.inl rfl) (by decide) (by decide) kl_L_13 (fun q9 => ?_)
  refine x_astore_n C dL_leave_8 rfl (by decide) ?_
  refine x_iconst C (v := 1) dL_leave_9 (by decide) ?_
  exact x_iretL C dL_leave_10 rfl rfl (Nat.le_refl _) (Nat.le_refl _)
set_option maxRecDepth 100000 in
set_option maxHeartbeats 4000000 in
theorem w_leave_t2 (x1 : Int32) (hq : ws[0]? = some (b, .inr (2, fs))) (hM : wo_X l yX2_leave cX2_leave 2 (none) 7 D ((cI, .int) :: (cZ, .boolean) :: (cJ, .long) :: tys) [.ref b, .int x1] ws wo_ISE) : wo_L l yL_leave cL_leave 3 [(0, 5, 8, 13), (0, 5, 11, 19)] 8 1 6 D ((cI, .int) :: (cZ, .boolean) :: (cJ, .long) :: tys) [.ref b, .int x1] ws (some (.int 2)) ws := by
  refine wo_ofL (ls := [some (.ref b), some (.int x1), none]) (by decide) (Nat.le_of_ble_eq_true rfl) rfl ?_
  intro p e s m args below meth c A C hX htab
  refine x_aload_n C dL_leave_0 rfl rfl ?_
  refine x_iload_n C dL_leave_1 rfl rfl ?_
  refine x_callVX C hX gv_L_28 hM 0 hq rfl rfl rfl (Nat.le_of_ble_eq_true rfl) ⟨(Nat.le_of_ble_eq_true rfl), (Nat.le_of_ble_eq_true rfl)⟩ ⟨(Nat.le_of_ble_eq_true rfl), (Nat.le_of_ble_eq_true rfl)⟩ dL_leave_2 ?_
  refine x_catch2 C hX htab (by decide) kl_L_13 (by decide) (by decide) kl_L_19 (fun q9 => ?_)
  refine x_astore_n C dL_leave_11 rfl (by decide) ?_
  refine x_iconst C (v := 2) dL_leave_12 (by decide) ?_
  exact x_iretL C dL_leave_13 rfl rfl (Nat.le_refl _) (Nat.le_refl _)
theorem gl_appeal : wo_GL RL 111 yL_appeal cL_appeal 5 [(0, 10, 13, 13), (0, 10, 17, 19)] 4 := ⟨km_L_111, ks_L_appeal, kn_L, kc_L_appeal, by decide, by decide, by decide +kernel⟩
set_option maxRecDepth 100000 in
set_option maxHeartbeats 4000000 in
theorem w_appeal (x1 : Int32) (x2 : Int32) (v : Int32) (ho : W2[11]? = some (o, .inl (cJ, 1, .inr (.inl f)))) (hq : ws[0]? = some (b, .inr (2, fs))) (hM : wo_E l yX2_appeal cX2_appeal 4 (some .int) 7 D ((cI, .int) :: (cZ, .boolean) :: (cJ, .long) :: tys) [.ref b, .int x1, .int x2] ws (some (.int v)) W2) : wo_L l yL_appeal cL_appeal 5 [(0, 10, 13, 13), (0, 10, 17, 19)] 8 0 0 D ((cI, .int) :: (cZ, .boolean) :: (cJ, .long) :: tys) [.ref b, .int x1, .int x2, .ref o] ws (some (.int 0)) (W2.set 11 (o, .inl (cJ, 1, .inr (.inl (vp_updL f 0 v.toInt64))))) := by
  refine wo_ofL (ls := [some (.ref b), some (.int x1), some (.int x2), some (.ref o), none]) (by decide) (Nat.le_of_ble_eq_true rfl) rfl ?_
  intro p e s m args below meth c A C hX htab
  refine x_aload_n C dL_appeal_0 rfl rfl ?_
  refine x_iconst C (v := 0) dL_appeal_1 (by decide) ?_
  refine x_aload_n C dL_appeal_2 rfl rfl ?_
  refine x_iload_n C dL_appeal_3 rfl rfl ?_
  refine x_iload_n C dL_appeal_4 rfl rfl ?_
  refine x_callVi C gv_L_31 hM 0 hq rfl rfl rfl (Nat.le_of_ble_eq_true rfl) ⟨(Nat.le_of_ble_eq_true rfl), (Nat.le_of_ble_eq_true rfl)⟩ ⟨Nat.zero_le _, Nat.zero_le _⟩ dL_appeal_5 ?_
  refine x_i2l C dL_appeal_8 ?_
  refine x_last C 11 2 0 ho rfl rfl (by decide) (by decide) rfl dL_appeal_9 ?_
  refine x_goto C (tgt := 21) dL_appeal_10 (by decide) ?_
  refine x_iconst C (v := 0) dL_appeal_21 (by decide) ?_
  exact x_iretL C dL_appeal_22 rfl rfl (Nat.le_refl _) (Nat.le_refl _)
set_option maxRecDepth 100000 in
set_option maxHeartbeats 4000000 in
theorem w_appeal_t1 (x1 : Int32) (x2 : Int32) (hq : ws[0]? = some (b, .inr (2, fs))) (hM : wo_X l yX2_appeal cX2_appeal 4 (some .int) 7 D ((cI, .int) :: (cZ, .boolean) :: (cJ, .long) :: tys) [.ref b, .int x1, .int x2] ws wo_IAE) : wo_L l yL_appeal cL_appeal 5 [(0, 10, 13, 13), (0, 10, 17, 19)] 8 1 6 D ((cI, .int) :: (cZ, .boolean) :: (cJ, .long) :: tys) [.ref b, .int x1, .int x2, .ref o] ws (some (.int 1)) ws := by
  refine wo_ofL (ls := [some (.ref b), some (.int x1), some (.int x2), some (.ref o), none]) (by decide) (Nat.le_of_ble_eq_true rfl) rfl ?_
  intro p e s m args below meth c A C hX htab
  refine x_aload_n C dL_appeal_0 rfl rfl ?_
  refine x_iconst C (v := 0) dL_appeal_1 (by decide) ?_
  refine x_aload_n C dL_appeal_2 rfl rfl ?_
  refine x_iload_n C dL_appeal_3 rfl rfl ?_
  refine x_iload_n C dL_appeal_4 rfl rfl ?_
  refine x_callVX C hX gv_L_31 hM 0 hq rfl rfl rfl (Nat.le_of_ble_eq_true rfl) ⟨(Nat.le_of_ble_eq_true rfl), (Nat.le_of_ble_eq_true rfl)⟩ ⟨(Nat.le_of_ble_eq_true rfl), (Nat.le_of_ble_eq_true rfl)⟩ dL_appeal_5 ?_
  refine x_catch1 C hX htab (Or.inl rfl) (by decide) (by decide) kl_L_13 (fun q9 => ?_)
  refine x_astore C dL_appeal_13 (by decide) ?_
  refine x_iconst C (v := 1) dL_appeal_15 (by decide) ?_
  exact x_iretL C dL_appeal_16 rfl rfl (Nat.le_refl _) (Nat.le_refl _)
set_option maxRecDepth 100000 in
set_option maxHeartbeats 4000000 in
theorem w_appeal_t2 (x1 : Int32) (x2 : Int32) (hq : ws[0]? = some (b, .inr (2, fs))) (hM : wo_X l yX2_appeal cX2_appeal 4 (some .int) 7 D ((cI, .int) :: (cZ, .boolean) :: (cJ, .long) :: tys) [.ref b, .int x1, .int x2] ws wo_ISE) : wo_L l yL_appeal cL_appeal 5 [(0, 10, 13, 13), (0, 10, 17, 19)] 8 1 6 D ((cI, .int) :: (cZ, .boolean) :: (cJ, .long) :: tys) [.ref b, .int x1, .int x2, .ref o] ws (some (.int 2)) ws := by
  refine wo_ofL (ls := [some (.ref b), some (.int x1), some (.int x2), some (.ref o), none]) (by decide) (Nat.le_of_ble_eq_true rfl) rfl ?_
  intro p e s m args below meth c A C hX htab
  refine x_aload_n C dL_appeal_0 rfl rfl ?_
  refine x_iconst C (v := 0) dL_appeal_1 (by decide) ?_
  refine x_aload_n C dL_appeal_2 rfl rfl ?_
  refine x_iload_n C dL_appeal_3 rfl rfl ?_
  refine x_iload_n C dL_appeal_4 rfl rfl ?_
  refine x_callVX C hX gv_L_31 hM 0 hq rfl rfl rfl (Nat.le_of_ble_eq_true rfl) ⟨(Nat.le_of_ble_eq_true rfl), (Nat.le_of_ble_eq_true rfl)⟩ ⟨(Nat.le_of_ble_eq_true rfl), (Nat.le_of_ble_eq_true rfl)⟩ dL_appeal_5 ?_
  refine x_catch2 C hX htab (by decide) kl_L_13 (by decide) (by decide) kl_L_19 (fun q9 => ?_)
  refine x_astore C dL_appeal_17 (by decide) ?_
  refine x_iconst C (v := 2) dL_appeal_19 (by decide) ?_
  exact x_iretL C dL_appeal_20 rfl rfl (Nat.le_refl _) (Nat.le_refl _)
theorem gl_record : wo_GL RL 119 yL_record cL_record 3 [(0, 5, 8, 13)] 2 := ⟨km_L_119, ks_L_record, kn_L, kc_L_record, by decide, by decide, by decide +kernel⟩
set_option maxRecDepth 100000 in
set_option maxHeartbeats 4000000 in
theorem w_record (x1 : Int32) (hq : ws[0]? = some (b, .inr (2, fs))) (hM : wo_E l yX2_record cX2_record 2 (none) 7 D ((cI, .int) :: (cZ, .boolean) :: (cJ, .long) :: tys) [.ref b, .int x1] ws none W2) : wo_L l yL_record cL_record 3 [(0, 5, 8, 13)] 8 0 0 D ((cI, .int) :: (cZ, .boolean) :: (cJ, .long) :: tys) [.ref b, .int x1] ws (some (.int 0)) W2 := by
  refine wo_ofL (ls := [some (.ref b), some (.int x1), none]) (by decide) (Nat.le_of_ble_eq_true rfl) rfl ?_
  intro p e s m args below meth c A C hX htab
  refine x_aload_n C dL_record_0 rfl rfl ?_
  refine x_iload_n C dL_record_1 rfl rfl ?_
  refine x_callVv C gv_L_34 hM 0 hq rfl rfl rfl (Nat.le_of_ble_eq_true rfl) ⟨(Nat.le_of_ble_eq_true rfl), (Nat.le_of_ble_eq_true rfl)⟩ ⟨Nat.zero_le _, Nat.zero_le _⟩ dL_record_2 ?_
  refine x_goto C (tgt := 11) dL_record_5 (by decide) ?_
  refine x_iconst C (v := 0) dL_record_11 (by decide) ?_
  exact x_iretL C dL_record_12 rfl rfl (Nat.le_refl _) (Nat.le_refl _)
set_option maxRecDepth 100000 in
set_option maxHeartbeats 4000000 in
theorem w_record_t1 (x1 : Int32) (hq : ws[0]? = some (b, .inr (2, fs))) (hM : wo_X l yX2_record cX2_record 2 (none) 7 D ((cI, .int) :: (cZ, .boolean) :: (cJ, .long) :: tys) [.ref b, .int x1] ws wo_IAE) : wo_L l yL_record cL_record 3 [(0, 5, 8, 13)] 8 1 6 D ((cI, .int) :: (cZ, .boolean) :: (cJ, .long) :: tys) [.ref b, .int x1] ws (some (.int 1)) ws := by
  refine wo_ofL (ls := [some (.ref b), some (.int x1), none]) (by decide) (Nat.le_of_ble_eq_true rfl) rfl ?_
  intro p e s m args below meth c A C hX htab
  refine x_aload_n C dL_record_0 rfl rfl ?_
  refine x_iload_n C dL_record_1 rfl rfl ?_
  refine x_callVX C hX gv_L_34 hM 0 hq rfl rfl rfl (Nat.le_of_ble_eq_true rfl) ⟨(Nat.le_of_ble_eq_true rfl), (Nat.le_of_ble_eq_true rfl)⟩ ⟨(Nat.le_of_ble_eq_true rfl), (Nat.le_of_ble_eq_true rfl)⟩ dL_record_2 ?_
  refine x_catch1 C hX htab (Or.inl rfl) (by decide) (by decide) kl_L_13 (fun q9 => ?_)
  refine x_astore_n C dL_record_8 rfl (by decide) ?_
  refine x_iconst C (v := 1) dL_record_9 (by decide) ?_
  exact x_iretL C dL_record_10 rfl rfl (Nat.le_refl _) (Nat.le_refl _)
theorem gl_prize : wo_GL RL 122 yL_prize cL_prize 3 [(0, 5, 8, 13)] 2 := ⟨km_L_122, ks_L_prize, kn_L, kc_L_prize, by decide, by decide, by decide +kernel⟩
set_option maxRecDepth 100000 in
set_option maxHeartbeats 4000000 in
theorem w_prize (x1 : Int32) (hq : ws[0]? = some (b, .inr (2, fs))) (hM : wo_E l yX2_prize cX2_prize 2 (none) 7 D ((cI, .int) :: (cZ, .boolean) :: (cJ, .long) :: tys) [.ref b, .int x1] ws none W2) : wo_L l yL_prize cL_prize 3 [(0, 5, 8, 13)] 8 0 0 D ((cI, .int) :: (cZ, .boolean) :: (cJ, .long) :: tys) [.ref b, .int x1] ws (some (.int 0)) W2 := by
  refine wo_ofL (ls := [some (.ref b), some (.int x1), none]) (by decide) (Nat.le_of_ble_eq_true rfl) rfl ?_
  intro p e s m args below meth c A C hX htab
  refine x_aload_n C dL_prize_0 rfl rfl ?_
  refine x_iload_n C dL_prize_1 rfl rfl ?_
  refine x_callVv C gv_L_37 hM 0 hq rfl rfl rfl (Nat.le_of_ble_eq_true rfl) ⟨(Nat.le_of_ble_eq_true rfl), (Nat.le_of_ble_eq_true rfl)⟩ ⟨Nat.zero_le _, Nat.zero_le _⟩ dL_prize_2 ?_
  refine x_goto C (tgt := 11) dL_prize_5 (by decide) ?_
  refine x_iconst C (v := 0) dL_prize_11 (by decide) ?_
  exact x_iretL C dL_prize_12 rfl rfl (Nat.le_refl _) (Nat.le_refl _)
set_option maxRecDepth 100000 in
set_option maxHeartbeats 4000000 in
theorem w_prize_t1 (x1 : Int32) (hq : ws[0]? = some (b, .inr (2, fs))) (hM : wo_X l yX2_prize cX2_prize 2 (none) 7 D ((cI, .int) :: (cZ, .boolean) :: (cJ, .long) :: tys) [.ref b, .int x1] ws wo_IAE) : wo_L l yL_prize cL_prize 3 [(0, 5, 8, 13)] 8 1 6 D ((cI, .int) :: (cZ, .boolean) :: (cJ, .long) :: tys) [.ref b, .int x1] ws (some (.int 1)) ws := by
  refine wo_ofL (ls := [some (.ref b), some (.int x1), none]) (by decide) (Nat.le_of_ble_eq_true rfl) rfl ?_
  intro p e s m args below meth c A C hX htab
  refine x_aload_n C dL_prize_0 rfl rfl ?_
  refine x_iload_n C dL_prize_1 rfl rfl ?_
  refine x_callVX C hX gv_L_37 hM 0 hq rfl rfl rfl (Nat.le_of_ble_eq_true rfl) ⟨(Nat.le_of_ble_eq_true rfl), (Nat.le_of_ble_eq_true rfl)⟩ ⟨(Nat.le_of_ble_eq_true rfl), (Nat.le_of_ble_eq_true rfl)⟩ dL_prize_2 ?_
  refine x_catch1 C hX htab (Or.inl rfl) (by decide) (by decide) kl_L_13 (fun q9 => ?_)
  refine x_astore_n C dL_prize_8 rfl (by decide) ?_
  refine x_iconst C (v := 1) dL_prize_9 (by decide) ?_
  exact x_iretL C dL_prize_10 rfl rfl (Nat.le_refl _) (Nat.le_refl _)
theorem gl_weight : wo_GL RL 133 yL_weight cL_weight 5 [(0, 10, 13, 13)] 4 := ⟨km_L_133, ks_L_weight, kn_L, kc_L_weight, by decide, by decide, by decide +kernel⟩
set_option maxRecDepth 100000 in
set_option maxHeartbeats 4000000 in
theorem w_weight (x1 : Int32) (x2 : Int32) (v : Int32) (ho : W2[11]? = some (o, .inl (cJ, 1, .inr (.inl f)))) (hq : ws[0]? = some (b, .inr (2, fs))) (hM : wo_E l yX2_weight cX2_weight 3 (some .int) 7 D ((cI, .int) :: (cZ, .boolean) :: (cJ, .long) :: tys) [.ref b, .int x1, .int x2] ws (some (.int v)) W2) : wo_L l yL_weight cL_weight 5 [(0, 10, 13, 13)] 8 0 0 D ((cI, .int) :: (cZ, .boolean) :: (cJ, .long) :: tys) [.ref b, .int x1, .int x2, .ref o] ws (some (.int 0)) (W2.set 11 (o, .inl (cJ, 1, .inr (.inl (vp_updL f 0 v.toInt64))))) := by
  refine wo_ofL (ls := [some (.ref b), some (.int x1), some (.int x2), some (.ref o), none]) (by decide) (Nat.le_of_ble_eq_true rfl) rfl ?_
  intro p e s m args below meth c A C hX htab
  refine x_aload_n C dL_weight_0 rfl rfl ?_
  refine x_iconst C (v := 0) dL_weight_1 (by decide) ?_
  refine x_aload_n C dL_weight_2 rfl rfl ?_
  refine x_iload_n C dL_weight_3 rfl rfl ?_
  refine x_iload_n C dL_weight_4 rfl rfl ?_
  refine x_callVi C gv_L_40 hM 0 hq rfl rfl rfl (Nat.le_of_ble_eq_true rfl) ⟨(Nat.le_of_ble_eq_true rfl), (Nat.le_of_ble_eq_true rfl)⟩ ⟨Nat.zero_le _, Nat.zero_le _⟩ dL_weight_5 ?_
  refine x_i2l C dL_weight_8 ?_
  refine x_last C 11 2 0 ho rfl rfl (by decide) (by decide) rfl dL_weight_9 ?_
  refine x_goto C (tgt := 17) dL_weight_10 (by decide) ?_
  refine x_iconst C (v := 0) dL_weight_17 (by decide) ?_
  exact x_iretL C dL_weight_18 rfl rfl (Nat.le_refl _) (Nat.le_refl _)
set_option maxRecDepth 100000 in
set_option maxHeartbeats 4000000 in
theorem w_weight_t1 (x1 : Int32) (x2 : Int32) (hq : ws[0]? = some (b, .inr (2, fs))) (hM : wo_X l yX2_weight cX2_weight 3 (some .int) 7 D ((cI, .int) :: (cZ, .boolean) :: (cJ, .long) :: tys) [.ref b, .int x1, .int x2] ws wo_IAE) : wo_L l yL_weight cL_weight 5 [(0, 10, 13, 13)] 8 1 6 D ((cI, .int) :: (cZ, .boolean) :: (cJ, .long) :: tys) [.ref b, .int x1, .int x2, .ref o] ws (some (.int 1)) ws := by
  refine wo_ofL (ls := [some (.ref b), some (.int x1), some (.int x2), some (.ref o), none]) (by decide) (Nat.le_of_ble_eq_true rfl) rfl ?_
  intro p e s m args below meth c A C hX htab
  refine x_aload_n C dL_weight_0 rfl rfl ?_
  refine x_iconst C (v := 0) dL_weight_1 (by decide) ?_
  refine x_aload_n C dL_weight_2 rfl rfl ?_
  refine x_iload_n C dL_weight_3 rfl rfl ?_
  refine x_iload_n C dL_weight_4 rfl rfl ?_
  refine x_callVX C hX gv_L_40 hM 0 hq rfl rfl rfl (Nat.le_of_ble_eq_true rfl) ⟨(Nat.le_of_ble_eq_true rfl), (Nat.le_of_ble_eq_true rfl)⟩ ⟨(Nat.le_of_ble_eq_true rfl), (Nat.le_of_ble_eq_true rfl)⟩ dL_weight_5 ?_
  refine x_catch1 C hX htab (Or.inl rfl) (by decide) (by decide) kl_L_13 (fun q9 => ?_)
  refine x_astore C dL_weight_13 (by decide) ?_
  refine x_iconst C (v := 1) dL_weight_15 (by decide) ?_
  exact x_iretL C dL_weight_16 rfl rfl (Nat.le_refl _) (Nat.le_refl _)
theorem gl_tilt : wo_GL RL 136 yL_tilt cL_tilt 5 [(0, 10, 13, 13)] 4 := ⟨km_L_136, ks_L_tilt, kn_L, kc_L_tilt, by decide, by decide, by decide +kernel⟩
set_option maxRecDepth 100000 in
set_option maxHeartbeats 4000000 in
theorem w_tilt (x1 : Int32) (x2 : Int32) (v : Int32) (ho : W2[11]? = some (o, .inl (cJ, 1, .inr (.inl f)))) (hq : ws[0]? = some (b, .inr (2, fs))) (hM : wo_E l yX2_tilt cX2_tilt 3 (some .int) 7 D ((cI, .int) :: (cZ, .boolean) :: (cJ, .long) :: tys) [.ref b, .int x1, .int x2] ws (some (.int v)) W2) : wo_L l yL_tilt cL_tilt 5 [(0, 10, 13, 13)] 8 0 0 D ((cI, .int) :: (cZ, .boolean) :: (cJ, .long) :: tys) [.ref b, .int x1, .int x2, .ref o] ws (some (.int 0)) (W2.set 11 (o, .inl (cJ, 1, .inr (.inl (vp_updL f 0 v.toInt64))))) := by
  refine wo_ofL (ls := [some (.ref b), some (.int x1), some (.int x2), some (.ref o), none]) (by decide) (Nat.le_of_ble_eq_true rfl) rfl ?_
  intro p e s m args below meth c A C hX htab
  refine x_aload_n C dL_tilt_0 rfl rfl ?_
  refine x_iconst C (v := 0) dL_tilt_1 (by decide) ?_
  refine x_aload_n C dL_tilt_2 rfl rfl ?_
  refine x_iload_n C dL_tilt_3 rfl rfl ?_
  refine x_iload_n C dL_tilt_4 rfl rfl ?_
  refine x_callVi C gv_L_43 hM 0 hq rfl rfl rfl (Nat.le_of_ble_eq_true rfl) ⟨(Nat.le_of_ble_eq_true rfl), (Nat.le_of_ble_eq_true rfl)⟩ ⟨Nat.zero_le _, Nat.zero_le _⟩ dL_tilt_5 ?_
  refine x_i2l C dL_tilt_8 ?_
  refine x_last C 11 2 0 ho rfl rfl (by decide) (by decide) rfl dL_tilt_9 ?_
  refine x_goto C (tgt := 17) dL_tilt_10 (by decide) ?_
  refine x_iconst C (v := 0) dL_tilt_17 (by decide) ?_
  exact x_iretL C dL_tilt_18 rfl rfl (Nat.le_refl _) (Nat.le_refl _)
set_option maxRecDepth 100000 in
set_option maxHeartbeats 4000000 in
theorem w_tilt_t1 (x1 : Int32) (x2 : Int32) (hq : ws[0]? = some (b, .inr (2, fs))) (hM : wo_X l yX2_tilt cX2_tilt 3 (some .int) 7 D ((cI, .int) :: (cZ, .boolean) :: (cJ, .long) :: tys) [.ref b, .int x1, .int x2] ws wo_IAE) : wo_L l yL_tilt cL_tilt 5 [(0, 10, 13, 13)] 8 1 6 D ((cI, .int) :: (cZ, .boolean) :: (cJ, .long) :: tys) [.ref b, .int x1, .int x2, .ref o] ws (some (.int 1)) ws := by
  refine wo_ofL (ls := [some (.ref b), some (.int x1), some (.int x2), some (.ref o), none]) (by decide) (Nat.le_of_ble_eq_true rfl) rfl ?_
  intro p e s m args below meth c A C hX htab
  refine x_aload_n C dL_tilt_0 rfl rfl ?_
  refine x_iconst C (v := 0) dL_tilt_1 (by decide) ?_
  refine x_aload_n C dL_tilt_2 rfl rfl ?_
  refine x_iload_n C dL_tilt_3 rfl rfl ?_
  refine x_iload_n C dL_tilt_4 rfl rfl ?_
  refine x_callVX C hX gv_L_43 hM 0 hq rfl rfl rfl (Nat.le_of_ble_eq_true rfl) ⟨(Nat.le_of_ble_eq_true rfl), (Nat.le_of_ble_eq_true rfl)⟩ ⟨(Nat.le_of_ble_eq_true rfl), (Nat.le_of_ble_eq_true rfl)⟩ dL_tilt_5 ?_
  refine x_catch1 C hX htab (Or.inl rfl) (by decide) (by decide) kl_L_13 (fun q9 => ?_)
  refine x_astore C dL_tilt_13 (by decide) ?_
  refine x_iconst C (v := 1) dL_tilt_15 (by decide) ?_
  exact x_iretL C dL_tilt_16 rfl rfl (Nat.le_refl _) (Nat.le_refl _)
theorem gl_best : wo_GL RL 139 yL_best cL_best 4 [(0, 9, 12, 13)] 3 := ⟨km_L_139, ks_L_best, kn_L, kc_L_best, by decide, by decide, by decide +kernel⟩
set_option maxRecDepth 100000 in
set_option maxHeartbeats 4000000 in
theorem w_best (x1 : Int32) (v : Int32) (ho : W2[11]? = some (o, .inl (cJ, 1, .inr (.inl f)))) (hq : ws[0]? = some (b, .inr (2, fs))) (hM : wo_E l yX2_best cX2_best 2 (some .int) 7 D ((cI, .int) :: (cZ, .boolean) :: (cJ, .long) :: tys) [.ref b, .int x1] ws (some (.int v)) W2) : wo_L l yL_best cL_best 4 [(0, 9, 12, 13)] 8 0 0 D ((cI, .int) :: (cZ, .boolean) :: (cJ, .long) :: tys) [.ref b, .int x1, .ref o] ws (some (.int 0)) (W2.set 11 (o, .inl (cJ, 1, .inr (.inl (vp_updL f 0 v.toInt64))))) := by
  refine wo_ofL (ls := [some (.ref b), some (.int x1), some (.ref o), none]) (by decide) (Nat.le_of_ble_eq_true rfl) rfl ?_
  intro p e s m args below meth c A C hX htab
  refine x_aload_n C dL_best_0 rfl rfl ?_
  refine x_iconst C (v := 0) dL_best_1 (by decide) ?_
  refine x_aload_n C dL_best_2 rfl rfl ?_
  refine x_iload_n C dL_best_3 rfl rfl ?_
  refine x_callVi C gv_L_46 hM 0 hq rfl rfl rfl (Nat.le_of_ble_eq_true rfl) ⟨(Nat.le_of_ble_eq_true rfl), (Nat.le_of_ble_eq_true rfl)⟩ ⟨Nat.zero_le _, Nat.zero_le _⟩ dL_best_4 ?_
  refine x_i2l C dL_best_7 ?_
  refine x_last C 11 2 0 ho rfl rfl (by decide) (by decide) rfl dL_best_8 ?_
  refine x_goto C (tgt := 15) dL_best_9 (by decide) ?_
  refine x_iconst C (v := 0) dL_best_15 (by decide) ?_
  exact x_iretL C dL_best_16 rfl rfl (Nat.le_refl _) (Nat.le_refl _)
set_option maxRecDepth 100000 in
set_option maxHeartbeats 4000000 in
theorem w_best_t1 (x1 : Int32) (hq : ws[0]? = some (b, .inr (2, fs))) (hM : wo_X l yX2_best cX2_best 2 (some .int) 7 D ((cI, .int) :: (cZ, .boolean) :: (cJ, .long) :: tys) [.ref b, .int x1] ws wo_IAE) : wo_L l yL_best cL_best 4 [(0, 9, 12, 13)] 8 1 6 D ((cI, .int) :: (cZ, .boolean) :: (cJ, .long) :: tys) [.ref b, .int x1, .ref o] ws (some (.int 1)) ws := by
  refine wo_ofL (ls := [some (.ref b), some (.int x1), some (.ref o), none]) (by decide) (Nat.le_of_ble_eq_true rfl) rfl ?_
  intro p e s m args below meth c A C hX htab
  refine x_aload_n C dL_best_0 rfl rfl ?_
  refine x_iconst C (v := 0) dL_best_1 (by decide) ?_
  refine x_aload_n C dL_best_2 rfl rfl ?_
  refine x_iload_n C dL_best_3 rfl rfl ?_
  refine x_callVX C hX gv_L_46 hM 0 hq rfl rfl rfl (Nat.le_of_ble_eq_true rfl) ⟨(Nat.le_of_ble_eq_true rfl), (Nat.le_of_ble_eq_true rfl)⟩ ⟨(Nat.le_of_ble_eq_true rfl), (Nat.le_of_ble_eq_true rfl)⟩ dL_best_4 ?_
  refine x_catch1 C hX htab (Or.inl rfl) (by decide) (by decide) kl_L_13 (fun q9 => ?_)
  refine x_astore_n C dL_best_12 rfl (by decide) ?_
  refine x_iconst C (v := 1) dL_best_13 (by decide) ?_
  exact x_iretL C dL_best_14 rfl rfl (Nat.le_refl _) (Nat.le_refl _)
theorem gl_place : wo_GL RL 143 yL_place cL_place 4 [(0, 9, 12, 13)] 3 := ⟨km_L_143, ks_L_place, kn_L, kc_L_place, by decide, by decide, by decide +kernel⟩
set_option maxRecDepth 100000 in
set_option maxHeartbeats 4000000 in
theorem w_place (x1 : Int32) (v : Int32) (ho : W2[11]? = some (o, .inl (cJ, 1, .inr (.inl f)))) (hq : ws[0]? = some (b, .inr (2, fs))) (hM : wo_E l yX2_place cX2_place 2 (some .int) 7 D ((cI, .int) :: (cZ, .boolean) :: (cJ, .long) :: tys) [.ref b, .int x1] ws (some (.int v)) W2) : wo_L l yL_place cL_place 4 [(0, 9, 12, 13)] 8 0 0 D ((cI, .int) :: (cZ, .boolean) :: (cJ, .long) :: tys) [.ref b, .int x1, .ref o] ws (some (.int 0)) (W2.set 11 (o, .inl (cJ, 1, .inr (.inl (vp_updL f 0 v.toInt64))))) := by
  refine wo_ofL (ls := [some (.ref b), some (.int x1), some (.ref o), none]) (by decide) (Nat.le_of_ble_eq_true rfl) rfl ?_
  intro p e s m args below meth c A C hX htab
  refine x_aload_n C dL_place_0 rfl rfl ?_
  refine x_iconst C (v := 0) dL_place_1 (by decide) ?_
  refine x_aload_n C dL_place_2 rfl rfl ?_
  refine x_iload_n C dL_place_3 rfl rfl ?_
  refine x_callVi C gv_L_50 hM 0 hq rfl rfl rfl (Nat.le_of_ble_eq_true rfl) ⟨(Nat.le_of_ble_eq_true rfl), (Nat.le_of_ble_eq_true rfl)⟩ ⟨Nat.zero_le _, Nat.zero_le _⟩ dL_place_4 ?_
  refine x_i2l C dL_place_7 ?_
  refine x_last C 11 2 0 ho rfl rfl (by decide) (by decide) rfl dL_place_8 ?_
  refine x_goto C (tgt := 15) dL_place_9 (by decide) ?_
  refine x_iconst C (v := 0) dL_place_15 (by decide) ?_
  exact x_iretL C dL_place_16 rfl rfl (Nat.le_refl _) (Nat.le_refl _)
set_option maxRecDepth 100000 in
set_option maxHeartbeats 4000000 in
theorem w_place_t1 (x1 : Int32) (hq : ws[0]? = some (b, .inr (2, fs))) (hM : wo_X l yX2_place cX2_place 2 (some .int) 7 D ((cI, .int) :: (cZ, .boolean) :: (cJ, .long) :: tys) [.ref b, .int x1] ws wo_IAE) : wo_L l yL_place cL_place 4 [(0, 9, 12, 13)] 8 1 6 D ((cI, .int) :: (cZ, .boolean) :: (cJ, .long) :: tys) [.ref b, .int x1, .ref o] ws (some (.int 1)) ws := by
  refine wo_ofL (ls := [some (.ref b), some (.int x1), some (.ref o), none]) (by decide) (Nat.le_of_ble_eq_true rfl) rfl ?_
  intro p e s m args below meth c A C hX htab
  refine x_aload_n C dL_place_0 rfl rfl ?_
  refine x_iconst C (v := 0) dL_place_1 (by decide) ?_
  refine x_aload_n C dL_place_2 rfl rfl ?_
  refine x_iload_n C dL_place_3 rfl rfl ?_
  refine x_callVX C hX gv_L_50 hM 0 hq rfl rfl rfl (Nat.le_of_ble_eq_true rfl) ⟨(Nat.le_of_ble_eq_true rfl), (Nat.le_of_ble_eq_true rfl)⟩ ⟨(Nat.le_of_ble_eq_true rfl), (Nat.le_of_ble_eq_true rfl)⟩ dL_place_4 ?_
  refine x_catch1 C hX htab (Or.inl rfl) (by decide) (by decide) kl_L_13 (fun q9 => ?_)
  refine x_astore_n C dL_place_12 rfl (by decide) ?_
  refine x_iconst C (v := 1) dL_place_13 (by decide) ?_
  exact x_iretL C dL_place_14 rfl rfl (Nat.le_refl _) (Nat.le_refl _)
theorem gl_wins : wo_GL RL 146 yL_wins cL_wins 4 [(0, 16, 19, 13)] 3 := ⟨km_L_146, ks_L_wins, kn_L, kc_L_wins, by decide, by decide, by decide +kernel⟩
set_option maxRecDepth 100000 in
set_option maxHeartbeats 4000000 in
theorem w_wins (x1 : Int32) (v : Bool) (ho : W2[11]? = some (o, .inl (cJ, 1, .inr (.inl f)))) (hq : ws[0]? = some (b, .inr (2, fs))) (hM : wo_E l yX2_wins cX2_wins 3 (some .boolean) 7 D ((cI, .int) :: (cZ, .boolean) :: (cJ, .long) :: tys) [.ref b, .int x1] ws (some (.int (bz v))) W2) : wo_L l yL_wins cL_wins 4 [(0, 16, 19, 13)] 8 0 0 D ((cI, .int) :: (cZ, .boolean) :: (cJ, .long) :: tys) [.ref b, .int x1, .ref o] ws (some (.int 0)) (W2.set 11 (o, .inl (cJ, 1, .inr (.inl (vp_updL f 0 (bz v).toInt64))))) := by
  refine wo_ofL (ls := [some (.ref b), some (.int x1), some (.ref o), none]) (by decide) (Nat.le_of_ble_eq_true rfl) rfl ?_
  intro p e s m args below meth c A C hX htab
  refine x_aload_n C dL_wins_0 rfl rfl ?_
  refine x_iconst C (v := 0) dL_wins_1 (by decide) ?_
  refine x_aload_n C dL_wins_2 rfl rfl ?_
  refine x_iload_n C dL_wins_3 rfl rfl ?_
  refine x_callVi C gv_L_53 hM 0 hq rfl rfl rfl (Nat.le_of_ble_eq_true rfl) ⟨(Nat.le_of_ble_eq_true rfl), (Nat.le_of_ble_eq_true rfl)⟩ ⟨Nat.zero_le _, Nat.zero_le _⟩ dL_wins_4 ?_
  refine x_if_eq C (tgt := 14) dL_wins_7 (by decide) (fun h => ?_) (fun h => ?_)
  · refine x_lconst C (v := (bz v).toInt64) dL_wins_14 (by rw [bz_f h]; decide) ?_
    refine x_last C 11 2 0 ho rfl rfl (by decide) (by decide) rfl dL_wins_15 ?_
    refine x_goto C (tgt := 22) dL_wins_16 (by decide) ?_
    refine x_iconst C (v := 0) dL_wins_22 (by decide) ?_
    exact x_iretL C dL_wins_23 rfl rfl (Nat.le_refl _) (Nat.le_refl _)
  · refine x_lconst C (v := (bz v).toInt64) dL_wins_10 (by rw [bz_t h]; decide) ?_
    refine x_goto C (tgt := 15) dL_wins_11 (by decide) ?_
    refine x_last C 11 2 0 ho rfl rfl (by decide) (by decide) rfl dL_wins_15 ?_
    refine x_goto C (tgt := 22) dL_wins_16 (by decide) ?_
    refine x_iconst C (v := 0) dL_wins_22 (by decide) ?_
    exact x_iretL C dL_wins_23 rfl rfl (Nat.le_refl _) (Nat.le_refl _)
set_option maxRecDepth 100000 in
set_option maxHeartbeats 4000000 in
theorem w_wins_t1 (x1 : Int32) (hq : ws[0]? = some (b, .inr (2, fs))) (hM : wo_X l yX2_wins cX2_wins 3 (some .boolean) 7 D ((cI, .int) :: (cZ, .boolean) :: (cJ, .long) :: tys) [.ref b, .int x1] ws wo_IAE) : wo_L l yL_wins cL_wins 4 [(0, 16, 19, 13)] 8 1 6 D ((cI, .int) :: (cZ, .boolean) :: (cJ, .long) :: tys) [.ref b, .int x1, .ref o] ws (some (.int 1)) ws := by
  refine wo_ofL (ls := [some (.ref b), some (.int x1), some (.ref o), none]) (by decide) (Nat.le_of_ble_eq_true rfl) rfl ?_
  intro p e s m args below meth c A C hX htab
  refine x_aload_n C dL_wins_0 rfl rfl ?_
  refine x_iconst C (v := 0) dL_wins_1 (by decide) ?_
  refine x_aload_n C dL_wins_2 rfl rfl ?_
  refine x_iload_n C dL_wins_3 rfl rfl ?_
  refine x_callVX C hX gv_L_53 hM 0 hq rfl rfl rfl (Nat.le_of_ble_eq_true rfl) ⟨(Nat.le_of_ble_eq_true rfl), (Nat.le_of_ble_eq_true rfl)⟩ ⟨(Nat.le_of_ble_eq_true rfl), (Nat.le_of_ble_eq_true rfl)⟩ dL_wins_4 ?_
  refine x_catch1 C hX htab (Or.inl rfl) (by decide) (by decide) kl_L_13 (fun q9 => ?_)
  refine x_astore_n C dL_wins_19 rfl (by decide) ?_
  refine x_iconst C (v := 1) dL_wins_20 (by decide) ?_
  exact x_iretL C dL_wins_21 rfl rfl (Nat.le_refl _) (Nat.le_refl _)
theorem gl_count : wo_GL RL 149 yL_count cL_count 6 [(0, 12, 15, 13)] 5 := ⟨km_L_149, ks_L_count, kn_L, kc_L_count, by decide, by decide, by decide +kernel⟩
set_option maxRecDepth 100000 in
set_option maxHeartbeats 4000000 in
theorem w_count (x1 : Int32) (x2 : Int32) (x3 : Int32) (v : Int32) (ho : W2[11]? = some (o, .inl (cJ, 1, .inr (.inl f)))) (hq : ws[0]? = some (b, .inr (2, fs))) (hM : wo_E l yX2_count cX2_count 7 (some .int) 7 D ((cI, .int) :: (cZ, .boolean) :: (cJ, .long) :: tys) [.ref b, .int x1, .int x2, .int x3] ws (some (.int v)) W2) : wo_L l yL_count cL_count 6 [(0, 12, 15, 13)] 8 0 0 D ((cI, .int) :: (cZ, .boolean) :: (cJ, .long) :: tys) [.ref b, .int x1, .int x2, .int x3, .ref o] ws (some (.int 0)) (W2.set 11 (o, .inl (cJ, 1, .inr (.inl (vp_updL f 0 v.toInt64))))) := by
  refine wo_ofL (ls := [some (.ref b), some (.int x1), some (.int x2), some (.int x3), some (.ref o), none]) (by decide) (Nat.le_of_ble_eq_true rfl) rfl ?_
  intro p e s m args below meth c A C hX htab
  refine x_aload C dL_count_0 rfl ?_
  refine x_iconst C (v := 0) dL_count_2 (by decide) ?_
  refine x_aload_n C dL_count_3 rfl rfl ?_
  refine x_iload_n C dL_count_4 rfl rfl ?_
  refine x_iload_n C dL_count_5 rfl rfl ?_
  refine x_iload_n C dL_count_6 rfl rfl ?_
  refine x_callVi C gv_L_57 hM 0 hq rfl rfl rfl (Nat.le_of_ble_eq_true rfl) ⟨(Nat.le_of_ble_eq_true rfl), (Nat.le_of_ble_eq_true rfl)⟩ ⟨Nat.zero_le _, Nat.zero_le _⟩ dL_count_7 ?_
  refine x_i2l C dL_count_10 ?_
  refine x_last C 11 2 0 ho rfl rfl (by decide) (by decide) rfl dL_count_11 ?_
  refine x_goto C (tgt := 19) dL_count_12 (by decide) ?_
  refine x_iconst C (v := 0) dL_count_19 (by decide) ?_
  exact x_iretL C dL_count_20 rfl rfl (Nat.le_refl _) (Nat.le_refl _)
set_option maxRecDepth 100000 in
set_option maxHeartbeats 4000000 in
theorem w_count_t1 (x1 : Int32) (x2 : Int32) (x3 : Int32) (hq : ws[0]? = some (b, .inr (2, fs))) (hM : wo_X l yX2_count cX2_count 7 (some .int) 7 D ((cI, .int) :: (cZ, .boolean) :: (cJ, .long) :: tys) [.ref b, .int x1, .int x2, .int x3] ws wo_IAE) : wo_L l yL_count cL_count 6 [(0, 12, 15, 13)] 8 1 6 D ((cI, .int) :: (cZ, .boolean) :: (cJ, .long) :: tys) [.ref b, .int x1, .int x2, .int x3, .ref o] ws (some (.int 1)) ws := by
  refine wo_ofL (ls := [some (.ref b), some (.int x1), some (.int x2), some (.int x3), some (.ref o), none]) (by decide) (Nat.le_of_ble_eq_true rfl) rfl ?_
  intro p e s m args below meth c A C hX htab
  refine x_aload C dL_count_0 rfl ?_
  refine x_iconst C (v := 0) dL_count_2 (by decide) ?_
  refine x_aload_n C dL_count_3 rfl rfl ?_
  refine x_iload_n C dL_count_4 rfl rfl ?_
  refine x_iload_n C dL_count_5 rfl rfl ?_
  refine x_iload_n C dL_count_6 rfl rfl ?_
  refine x_callVX C hX gv_L_57 hM 0 hq rfl rfl rfl (Nat.le_of_ble_eq_true rfl) ⟨(Nat.le_of_ble_eq_true rfl), (Nat.le_of_ble_eq_true rfl)⟩ ⟨(Nat.le_of_ble_eq_true rfl), (Nat.le_of_ble_eq_true rfl)⟩ dL_count_7 ?_
  refine x_catch1 C hX htab (Or.inl rfl) (by decide) (by decide) kl_L_13 (fun q9 => ?_)
  refine x_astore C dL_count_15 (by decide) ?_
  refine x_iconst C (v := 1) dL_count_17 (by decide) ?_
  exact x_iretL C dL_count_18 rfl rfl (Nat.le_refl _) (Nat.le_refl _)
theorem gl_first : wo_GL RL 153 yL_first cL_first 6 [(0, 12, 15, 13)] 5 := ⟨km_L_153, ks_L_first, kn_L, kc_L_first, by decide, by decide, by decide +kernel⟩
set_option maxRecDepth 100000 in
set_option maxHeartbeats 4000000 in
theorem w_first (x1 : Int32) (x2 : Int32) (x3 : Int32) (v : Int32) (ho : W2[11]? = some (o, .inl (cJ, 1, .inr (.inl f)))) (hq : ws[0]? = some (b, .inr (2, fs))) (hM : wo_E l yX2_first cX2_first 6 (some .int) 7 D ((cI, .int) :: (cZ, .boolean) :: (cJ, .long) :: tys) [.ref b, .int x1, .int x2, .int x3] ws (some (.int v)) W2) : wo_L l yL_first cL_first 6 [(0, 12, 15, 13)] 8 0 0 D ((cI, .int) :: (cZ, .boolean) :: (cJ, .long) :: tys) [.ref b, .int x1, .int x2, .int x3, .ref o] ws (some (.int 0)) (W2.set 11 (o, .inl (cJ, 1, .inr (.inl (vp_updL f 0 v.toInt64))))) := by
  refine wo_ofL (ls := [some (.ref b), some (.int x1), some (.int x2), some (.int x3), some (.ref o), none]) (by decide) (Nat.le_of_ble_eq_true rfl) rfl ?_
  intro p e s m args below meth c A C hX htab
  refine x_aload C dL_first_0 rfl ?_
  refine x_iconst C (v := 0) dL_first_2 (by decide) ?_
  refine x_aload_n C dL_first_3 rfl rfl ?_
  refine x_iload_n C dL_first_4 rfl rfl ?_
  refine x_iload_n C dL_first_5 rfl rfl ?_
  refine x_iload_n C dL_first_6 rfl rfl ?_
  refine x_callVi C gv_L_61 hM 0 hq rfl rfl rfl (Nat.le_of_ble_eq_true rfl) ⟨(Nat.le_of_ble_eq_true rfl), (Nat.le_of_ble_eq_true rfl)⟩ ⟨Nat.zero_le _, Nat.zero_le _⟩ dL_first_7 ?_
  refine x_i2l C dL_first_10 ?_
  refine x_last C 11 2 0 ho rfl rfl (by decide) (by decide) rfl dL_first_11 ?_
  refine x_goto C (tgt := 19) dL_first_12 (by decide) ?_
  refine x_iconst C (v := 0) dL_first_19 (by decide) ?_
  exact x_iretL C dL_first_20 rfl rfl (Nat.le_refl _) (Nat.le_refl _)
set_option maxRecDepth 100000 in
set_option maxHeartbeats 4000000 in
theorem w_first_t1 (x1 : Int32) (x2 : Int32) (x3 : Int32) (hq : ws[0]? = some (b, .inr (2, fs))) (hM : wo_X l yX2_first cX2_first 6 (some .int) 7 D ((cI, .int) :: (cZ, .boolean) :: (cJ, .long) :: tys) [.ref b, .int x1, .int x2, .int x3] ws wo_IAE) : wo_L l yL_first cL_first 6 [(0, 12, 15, 13)] 8 1 6 D ((cI, .int) :: (cZ, .boolean) :: (cJ, .long) :: tys) [.ref b, .int x1, .int x2, .int x3, .ref o] ws (some (.int 1)) ws := by
  refine wo_ofL (ls := [some (.ref b), some (.int x1), some (.int x2), some (.int x3), some (.ref o), none]) (by decide) (Nat.le_of_ble_eq_true rfl) rfl ?_
  intro p e s m args below meth c A C hX htab
  refine x_aload C dL_first_0 rfl ?_
  refine x_iconst C (v := 0) dL_first_2 (by decide) ?_
  refine x_aload_n C dL_first_3 rfl rfl ?_
  refine x_iload_n C dL_first_4 rfl rfl ?_
  refine x_iload_n C dL_first_5 rfl rfl ?_
  refine x_iload_n C dL_first_6 rfl rfl ?_
  refine x_callVX C hX gv_L_61 hM 0 hq rfl rfl rfl (Nat.le_of_ble_eq_true rfl) ⟨(Nat.le_of_ble_eq_true rfl), (Nat.le_of_ble_eq_true rfl)⟩ ⟨(Nat.le_of_ble_eq_true rfl), (Nat.le_of_ble_eq_true rfl)⟩ dL_first_7 ?_
  refine x_catch1 C hX htab (Or.inl rfl) (by decide) (by decide) kl_L_13 (fun q9 => ?_)
  refine x_astore C dL_first_15 (by decide) ?_
  refine x_iconst C (v := 1) dL_first_17 (by decide) ?_
  exact x_iretL C dL_first_18 rfl rfl (Nat.le_refl _) (Nat.le_refl _)
theorem gl_lamps : wo_GL RL 156 yL_lamps cL_lamps 6 [(0, 12, 15, 13)] 5 := ⟨km_L_156, ks_L_lamps, kn_L, kc_L_lamps, by decide, by decide, by decide +kernel⟩
set_option maxRecDepth 100000 in
set_option maxHeartbeats 4000000 in
theorem w_lamps (x1 : Int32) (x2 : Int32) (x3 : Int32) (v : Int32) (ho : W2[11]? = some (o, .inl (cJ, 1, .inr (.inl f)))) (hq : ws[0]? = some (b, .inr (2, fs))) (hM : wo_E l yX2_lamps cX2_lamps 6 (some .int) 7 D ((cI, .int) :: (cZ, .boolean) :: (cJ, .long) :: tys) [.ref b, .int x1, .int x2, .int x3] ws (some (.int v)) W2) : wo_L l yL_lamps cL_lamps 6 [(0, 12, 15, 13)] 8 0 0 D ((cI, .int) :: (cZ, .boolean) :: (cJ, .long) :: tys) [.ref b, .int x1, .int x2, .int x3, .ref o] ws (some (.int 0)) (W2.set 11 (o, .inl (cJ, 1, .inr (.inl (vp_updL f 0 v.toInt64))))) := by
  refine wo_ofL (ls := [some (.ref b), some (.int x1), some (.int x2), some (.int x3), some (.ref o), none]) (by decide) (Nat.le_of_ble_eq_true rfl) rfl ?_
  intro p e s m args below meth c A C hX htab
  refine x_aload C dL_lamps_0 rfl ?_
  refine x_iconst C (v := 0) dL_lamps_2 (by decide) ?_
  refine x_aload_n C dL_lamps_3 rfl rfl ?_
  refine x_iload_n C dL_lamps_4 rfl rfl ?_
  refine x_iload_n C dL_lamps_5 rfl rfl ?_
  refine x_iload_n C dL_lamps_6 rfl rfl ?_
  refine x_callVi C gv_L_64 hM 0 hq rfl rfl rfl (Nat.le_of_ble_eq_true rfl) ⟨(Nat.le_of_ble_eq_true rfl), (Nat.le_of_ble_eq_true rfl)⟩ ⟨Nat.zero_le _, Nat.zero_le _⟩ dL_lamps_7 ?_
  refine x_i2l C dL_lamps_10 ?_
  refine x_last C 11 2 0 ho rfl rfl (by decide) (by decide) rfl dL_lamps_11 ?_
  refine x_goto C (tgt := 19) dL_lamps_12 (by decide) ?_
  refine x_iconst C (v := 0) dL_lamps_19 (by decide) ?_
  exact x_iretL C dL_lamps_20 rfl rfl (Nat.le_refl _) (Nat.le_refl _)
set_option maxRecDepth 100000 in
set_option maxHeartbeats 4000000 in
theorem w_lamps_t1 (x1 : Int32) (x2 : Int32) (x3 : Int32) (hq : ws[0]? = some (b, .inr (2, fs))) (hM : wo_X l yX2_lamps cX2_lamps 6 (some .int) 7 D ((cI, .int) :: (cZ, .boolean) :: (cJ, .long) :: tys) [.ref b, .int x1, .int x2, .int x3] ws wo_IAE) : wo_L l yL_lamps cL_lamps 6 [(0, 12, 15, 13)] 8 1 6 D ((cI, .int) :: (cZ, .boolean) :: (cJ, .long) :: tys) [.ref b, .int x1, .int x2, .int x3, .ref o] ws (some (.int 1)) ws := by
  refine wo_ofL (ls := [some (.ref b), some (.int x1), some (.int x2), some (.int x3), some (.ref o), none]) (by decide) (Nat.le_of_ble_eq_true rfl) rfl ?_
  intro p e s m args below meth c A C hX htab
  refine x_aload C dL_lamps_0 rfl ?_
  refine x_iconst C (v := 0) dL_lamps_2 (by decide) ?_
  refine x_aload_n C dL_lamps_3 rfl rfl ?_
  refine x_iload_n C dL_lamps_4 rfl rfl ?_
  refine x_iload_n C dL_lamps_5 rfl rfl ?_
  refine x_iload_n C dL_lamps_6 rfl rfl ?_
  refine x_callVX C hX gv_L_64 hM 0 hq rfl rfl rfl (Nat.le_of_ble_eq_true rfl) ⟨(Nat.le_of_ble_eq_true rfl), (Nat.le_of_ble_eq_true rfl)⟩ ⟨(Nat.le_of_ble_eq_true rfl), (Nat.le_of_ble_eq_true rfl)⟩ dL_lamps_7 ?_
  refine x_catch1 C hX htab (Or.inl rfl) (by decide) (by decide) kl_L_13 (fun q9 => ?_)
  refine x_astore C dL_lamps_15 (by decide) ?_
  refine x_iconst C (v := 1) dL_lamps_17 (by decide) ?_
  exact x_iretL C dL_lamps_18 rfl rfl (Nat.le_refl _) (Nat.le_refl _)
theorem gl_stands : wo_GL RL 159 yL_stands cL_stands 6 [(0, 12, 15, 13)] 5 := ⟨km_L_159, ks_L_stands, kn_L, kc_L_stands, by decide, by decide, by decide +kernel⟩
set_option maxRecDepth 100000 in
set_option maxHeartbeats 4000000 in
theorem w_stands (x1 : Int32) (x2 : Int32) (x3 : Int32) (v : Int32) (ho : W2[11]? = some (o, .inl (cJ, 1, .inr (.inl f)))) (hq : ws[0]? = some (b, .inr (2, fs))) (hM : wo_E l yX2_stands cX2_stands 8 (some .int) 7 D ((cI, .int) :: (cZ, .boolean) :: (cJ, .long) :: tys) [.ref b, .int x1, .int x2, .int x3] ws (some (.int v)) W2) : wo_L l yL_stands cL_stands 6 [(0, 12, 15, 13)] 8 0 0 D ((cI, .int) :: (cZ, .boolean) :: (cJ, .long) :: tys) [.ref b, .int x1, .int x2, .int x3, .ref o] ws (some (.int 0)) (W2.set 11 (o, .inl (cJ, 1, .inr (.inl (vp_updL f 0 v.toInt64))))) := by
  refine wo_ofL (ls := [some (.ref b), some (.int x1), some (.int x2), some (.int x3), some (.ref o), none]) (by decide) (Nat.le_of_ble_eq_true rfl) rfl ?_
  intro p e s m args below meth c A C hX htab
  refine x_aload C dL_stands_0 rfl ?_
  refine x_iconst C (v := 0) dL_stands_2 (by decide) ?_
  refine x_aload_n C dL_stands_3 rfl rfl ?_
  refine x_iload_n C dL_stands_4 rfl rfl ?_
  refine x_iload_n C dL_stands_5 rfl rfl ?_
  refine x_iload_n C dL_stands_6 rfl rfl ?_
  refine x_callVi C gv_L_67 hM 0 hq rfl rfl rfl (Nat.le_of_ble_eq_true rfl) ⟨(Nat.le_of_ble_eq_true rfl), (Nat.le_of_ble_eq_true rfl)⟩ ⟨Nat.zero_le _, Nat.zero_le _⟩ dL_stands_7 ?_
  refine x_i2l C dL_stands_10 ?_
  refine x_last C 11 2 0 ho rfl rfl (by decide) (by decide) rfl dL_stands_11 ?_
  refine x_goto C (tgt := 19) dL_stands_12 (by decide) ?_
  refine x_iconst C (v := 0) dL_stands_19 (by decide) ?_
  exact x_iretL C dL_stands_20 rfl rfl (Nat.le_refl _) (Nat.le_refl _)
set_option maxRecDepth 100000 in
set_option maxHeartbeats 4000000 in
theorem w_stands_t1 (x1 : Int32) (x2 : Int32) (x3 : Int32) (hq : ws[0]? = some (b, .inr (2, fs))) (hM : wo_X l yX2_stands cX2_stands 8 (some .int) 7 D ((cI, .int) :: (cZ, .boolean) :: (cJ, .long) :: tys) [.ref b, .int x1, .int x2, .int x3] ws wo_IAE) : wo_L l yL_stands cL_stands 6 [(0, 12, 15, 13)] 8 1 6 D ((cI, .int) :: (cZ, .boolean) :: (cJ, .long) :: tys) [.ref b, .int x1, .int x2, .int x3, .ref o] ws (some (.int 1)) ws := by
  refine wo_ofL (ls := [some (.ref b), some (.int x1), some (.int x2), some (.int x3), some (.ref o), none]) (by decide) (Nat.le_of_ble_eq_true rfl) rfl ?_
  intro p e s m args below meth c A C hX htab
  refine x_aload C dL_stands_0 rfl ?_
  refine x_iconst C (v := 0) dL_stands_2 (by decide) ?_
  refine x_aload_n C dL_stands_3 rfl rfl ?_
  refine x_iload_n C dL_stands_4 rfl rfl ?_
  refine x_iload_n C dL_stands_5 rfl rfl ?_
  refine x_iload_n C dL_stands_6 rfl rfl ?_
  refine x_callVX C hX gv_L_67 hM 0 hq rfl rfl rfl (Nat.le_of_ble_eq_true rfl) ⟨(Nat.le_of_ble_eq_true rfl), (Nat.le_of_ble_eq_true rfl)⟩ ⟨(Nat.le_of_ble_eq_true rfl), (Nat.le_of_ble_eq_true rfl)⟩ dL_stands_7 ?_
  refine x_catch1 C hX htab (Or.inl rfl) (by decide) (by decide) kl_L_13 (fun q9 => ?_)
  refine x_astore C dL_stands_15 (by decide) ?_
  refine x_iconst C (v := 1) dL_stands_17 (by decide) ?_
  exact x_iretL C dL_stands_18 rfl rfl (Nat.le_refl _) (Nat.le_refl _)
theorem gl_lean : wo_GL RL 162 yL_lean cL_lean 5 [(0, 10, 13, 13)] 4 := ⟨km_L_162, ks_L_lean, kn_L, kc_L_lean, by decide, by decide, by decide +kernel⟩
set_option maxRecDepth 100000 in
set_option maxHeartbeats 4000000 in
theorem w_lean (x1 : Int32) (x2 : Bool) (v : Int32) (ho : W2[11]? = some (o, .inl (cJ, 1, .inr (.inl f)))) (hq : ws[0]? = some (b, .inr (2, fs))) (hM : wo_E l yX2_lean cX2_lean 6 (some .int) 7 D ((cI, .int) :: (cZ, .boolean) :: (cJ, .long) :: tys) [.ref b, .int x1, .int (bz x2)] ws (some (.int v)) W2) : wo_L l yL_lean cL_lean 5 [(0, 10, 13, 13)] 8 0 0 D ((cI, .int) :: (cZ, .boolean) :: (cJ, .long) :: tys) [.ref b, .int x1, .int (bz x2), .ref o] ws (some (.int 0)) (W2.set 11 (o, .inl (cJ, 1, .inr (.inl (vp_updL f 0 v.toInt64))))) := by
  refine wo_ofL (ls := [some (.ref b), some (.int x1), some (.int (bz x2)), some (.ref o), none]) (by decide) (Nat.le_of_ble_eq_true rfl) rfl ?_
  intro p e s m args below meth c A C hX htab
  refine x_aload_n C dL_lean_0 rfl rfl ?_
  refine x_iconst C (v := 0) dL_lean_1 (by decide) ?_
  refine x_aload_n C dL_lean_2 rfl rfl ?_
  refine x_iload_n C dL_lean_3 rfl rfl ?_
  refine x_iload_n C dL_lean_4 rfl rfl ?_
  refine x_callVi C gv_L_70 hM 0 hq rfl rfl rfl (Nat.le_of_ble_eq_true rfl) ⟨(Nat.le_of_ble_eq_true rfl), (Nat.le_of_ble_eq_true rfl)⟩ ⟨Nat.zero_le _, Nat.zero_le _⟩ dL_lean_5 ?_
  refine x_i2l C dL_lean_8 ?_
  refine x_last C 11 2 0 ho rfl rfl (by decide) (by decide) rfl dL_lean_9 ?_
  refine x_goto C (tgt := 17) dL_lean_10 (by decide) ?_
  refine x_iconst C (v := 0) dL_lean_17 (by decide) ?_
  exact x_iretL C dL_lean_18 rfl rfl (Nat.le_refl _) (Nat.le_refl _)
set_option maxRecDepth 100000 in
set_option maxHeartbeats 4000000 in
theorem w_lean_t1 (x1 : Int32) (x2 : Bool) (hq : ws[0]? = some (b, .inr (2, fs))) (hM : wo_X l yX2_lean cX2_lean 6 (some .int) 7 D ((cI, .int) :: (cZ, .boolean) :: (cJ, .long) :: tys) [.ref b, .int x1, .int (bz x2)] ws wo_IAE) : wo_L l yL_lean cL_lean 5 [(0, 10, 13, 13)] 8 1 6 D ((cI, .int) :: (cZ, .boolean) :: (cJ, .long) :: tys) [.ref b, .int x1, .int (bz x2), .ref o] ws (some (.int 1)) ws := by
  refine wo_ofL (ls := [some (.ref b), some (.int x1), some (.int (bz x2)), some (.ref o), none]) (by decide) (Nat.le_of_ble_eq_true rfl) rfl ?_
  intro p e s m args below meth c A C hX htab
  refine x_aload_n C dL_lean_0 rfl rfl ?_
  refine x_iconst C (v := 0) dL_lean_1 (by decide) ?_
  refine x_aload_n C dL_lean_2 rfl rfl ?_
  refine x_iload_n C dL_lean_3 rfl rfl ?_
  refine x_iload_n C dL_lean_4 rfl rfl ?_
  refine x_callVX C hX gv_L_70 hM 0 hq rfl rfl rfl (Nat.le_of_ble_eq_true rfl) ⟨(Nat.le_of_ble_eq_true rfl), (Nat.le_of_ble_eq_true rfl)⟩ ⟨(Nat.le_of_ble_eq_true rfl), (Nat.le_of_ble_eq_true rfl)⟩ dL_lean_5 ?_
  refine x_catch1 C hX htab (Or.inl rfl) (by decide) (by decide) kl_L_13 (fun q9 => ?_)
  refine x_astore C dL_lean_13 (by decide) ?_
  refine x_iconst C (v := 1) dL_lean_15 (by decide) ?_
  exact x_iretL C dL_lean_16 rfl rfl (Nat.le_refl _) (Nat.le_refl _)
theorem gl_look : wo_GL RL 166 yL_look cL_look 4 [(0, 9, 12, 13)] 3 := ⟨km_L_166, ks_L_look, kn_L, kc_L_look, by decide, by decide, by decide +kernel⟩
set_option maxRecDepth 100000 in
set_option maxHeartbeats 4000000 in
theorem w_look (x1 : Int32) (v : Int32) (ho : W2[11]? = some (o, .inl (cJ, 1, .inr (.inl f)))) (hq : ws[0]? = some (b, .inr (2, fs))) (hM : wo_E l yX2_look cX2_look 2 (some .int) 7 D ((cI, .int) :: (cZ, .boolean) :: (cJ, .long) :: tys) [.ref b, .int x1] ws (some (.int v)) W2) : wo_L l yL_look cL_look 4 [(0, 9, 12, 13)] 8 0 0 D ((cI, .int) :: (cZ, .boolean) :: (cJ, .long) :: tys) [.ref b, .int x1, .ref o] ws (some (.int 0)) (W2.set 11 (o, .inl (cJ, 1, .inr (.inl (vp_updL f 0 v.toInt64))))) := by
  refine wo_ofL (ls := [some (.ref b), some (.int x1), some (.ref o), none]) (by decide) (Nat.le_of_ble_eq_true rfl) rfl ?_
  intro p e s m args below meth c A C hX htab
  refine x_aload_n C dL_look_0 rfl rfl ?_
  refine x_iconst C (v := 0) dL_look_1 (by decide) ?_
  refine x_aload_n C dL_look_2 rfl rfl ?_
  refine x_iload_n C dL_look_3 rfl rfl ?_
  refine x_callVi C gv_L_74 hM 0 hq rfl rfl rfl (Nat.le_of_ble_eq_true rfl) ⟨(Nat.le_of_ble_eq_true rfl), (Nat.le_of_ble_eq_true rfl)⟩ ⟨Nat.zero_le _, Nat.zero_le _⟩ dL_look_4 ?_
  refine x_i2l C dL_look_7 ?_
  refine x_last C 11 2 0 ho rfl rfl (by decide) (by decide) rfl dL_look_8 ?_
  refine x_goto C (tgt := 15) dL_look_9 (by decide) ?_
  refine x_iconst C (v := 0) dL_look_15 (by decide) ?_
  exact x_iretL C dL_look_16 rfl rfl (Nat.le_refl _) (Nat.le_refl _)
set_option maxRecDepth 100000 in
set_option maxHeartbeats 4000000 in
theorem w_look_t1 (x1 : Int32) (hq : ws[0]? = some (b, .inr (2, fs))) (hM : wo_X l yX2_look cX2_look 2 (some .int) 7 D ((cI, .int) :: (cZ, .boolean) :: (cJ, .long) :: tys) [.ref b, .int x1] ws wo_IAE) : wo_L l yL_look cL_look 4 [(0, 9, 12, 13)] 8 1 6 D ((cI, .int) :: (cZ, .boolean) :: (cJ, .long) :: tys) [.ref b, .int x1, .ref o] ws (some (.int 1)) ws := by
  refine wo_ofL (ls := [some (.ref b), some (.int x1), some (.ref o), none]) (by decide) (Nat.le_of_ble_eq_true rfl) rfl ?_
  intro p e s m args below meth c A C hX htab
  refine x_aload_n C dL_look_0 rfl rfl ?_
  refine x_iconst C (v := 0) dL_look_1 (by decide) ?_
  refine x_aload_n C dL_look_2 rfl rfl ?_
  refine x_iload_n C dL_look_3 rfl rfl ?_
  refine x_callVX C hX gv_L_74 hM 0 hq rfl rfl rfl (Nat.le_of_ble_eq_true rfl) ⟨(Nat.le_of_ble_eq_true rfl), (Nat.le_of_ble_eq_true rfl)⟩ ⟨(Nat.le_of_ble_eq_true rfl), (Nat.le_of_ble_eq_true rfl)⟩ dL_look_4 ?_
  refine x_catch1 C hX htab (Or.inl rfl) (by decide) (by decide) kl_L_13 (fun q9 => ?_)
  refine x_astore_n C dL_look_12 rfl (by decide) ?_
  refine x_iconst C (v := 1) dL_look_13 (by decide) ?_
  exact x_iretL C dL_look_14 rfl rfl (Nat.le_refl _) (Nat.le_refl _)
end WRP
