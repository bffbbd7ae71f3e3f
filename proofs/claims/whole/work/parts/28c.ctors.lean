section CTR
variable {l : Launch} {D : va_G} {tys : List (ClassId × FieldType)} {cI cZ : ClassId} {Y : va_W}
set_option maxRecDepth 100000 in
set_option maxHeartbeats 4000000 in
theorem n_X3_init (x : Int32) (h0 : Nat) (W2 : (Nat → Nat) → wo_sw) (hb : ∀ a : Nat → Nat, a 0 = h0 → wo_S l yX3_begin cX3_begin 3 (none) 5 D ((cI, .int) :: (cZ, .boolean) :: tys) [.ref (a 0), .int (gn_ x)] (wB cI cZ a (0) (0) (0) (fun _ => 0) (fun _ => 0) (fun _ => false) (fun _ => 0) (fun _ => false) (fun _ => 0) (fun _ => false) (fun _ => false) (fun _ => 0) (0) (0) (true) (false) (0) (0) (false) (0) (fun _ => 0) (fun _ => 0) ++ Y) none (W2 a)) : wo_N l yX3_init cX3_init 2 6 11 480 D ((cI, .int) :: (cZ, .boolean) :: tys) [.ref h0, .int x] ((h0, .inr (3, [.int 0, .int 0, .int 0, .null, .null, .null, .null, .null, .null, .null, .null, .null, .int 0, .int 0, .int 0, .int 0, .int 0, .int 0, .int 0, .int 0, .null, .null])) :: Y) (fun w => ∃ (a : Nat → Nat) (o1 o2 : Nat → Int32), a 0 = h0 ∧ w = W2 a o1 o2) := by
  refine wo_ofN (ls := [some (.ref h0), some (.int x)]) (by decide) rfl (Nat.le_of_ble_eq_true rfl) rfl ?_
  intro p e s m args below meth c A C hi
  refine x_aload_n C dX3_init_0 rfl rfl ?_
  refine x_objInit C km_X3_obj dX3_init_1 ⟨(Nat.le_of_ble_eq_true rfl), (Nat.le_of_ble_eq_true rfl)⟩ ?_
  refine x_aload_n C dX3_init_4 rfl rfl ?_
  refine x_bipush C (v := 84) dX3_init_5 (by decide) ?_
  refine x_newa C (atype := .int) (ty := .int) (a0 := (84, .inl (fun _ => 0))) 1 0 rfl ka_I rfl (fun h => h) (fun _ => rfl) (by decide) (by decide) (by decide) (Nat.le_of_ble_eq_true rfl) (Nat.le_of_ble_eq_true rfl) dX3_init_7 (fun q1 => ?_)
  refine x_putF C hi ku_X3 tyX3 tyX3_ok nmX3 3 kf_X3_7 0 rfl rfl (by decide) rfl rfl (ty := .array .int) (by decide +kernel) rfl rfl (Nat.le_of_ble_eq_true rfl) rfl dX3_init_9 ?_
  refine x_ws (ws2 := (h0, .inr (3, [.int 0, .int 0, .int 0, .ref q1, .null, .null, .null, .null, .null, .null, .null, .null, .int 0, .int 0, .int 0, .int 0, .int 0, .int 0, .int 0, .int 0, .null, .null])) :: (q1, .inl (cI, 84, .inl (fun _ => 0))) :: Y) rfl ?_
  refine x_aload_n C dX3_init_12 rfl rfl ?_
  refine x_bipush C (v := 84) dX3_init_13 (by decide) ?_
  refine x_newa C (atype := .int) (ty := .int) (a0 := (84, .inl (fun _ => 0))) 2 0 rfl ka_I rfl (fun h => h) (fun _ => rfl) (by decide) (by decide) (by decide) (Nat.le_of_ble_eq_true rfl) (Nat.le_of_ble_eq_true rfl) dX3_init_15 (fun q2 => ?_)
  refine x_putF C hi ku_X3 tyX3 tyX3_ok nmX3 4 kf_X3_13 0 rfl rfl (by decide) rfl rfl (ty := .array .int) (by decide +kernel) rfl rfl (Nat.le_of_ble_eq_true rfl) rfl dX3_init_17 ?_
  refine x_ws (ws2 := (h0, .inr (3, [.int 0, .int 0, .int 0, .ref q1, .ref q2, .null, .null, .null, .null, .null, .null, .null, .int 0, .int 0, .int 0, .int 0, .int 0, .int 0, .int 0, .int 0, .null, .null])) :: (q1, .inl (cI, 84, .inl (fun _ => 0))) :: (q2, .inl (cI, 84, .inl (fun _ => 0))) :: Y) rfl ?_
  refine x_aload_n C dX3_init_20 rfl rfl ?_
  refine x_bipush C (v := 84) dX3_init_21 (by decide) ?_
  refine x_newa C (atype := .boolean) (ty := .boolean) (a0 := (84, .inl (fun _ => 0))) 3 1 rfl ka_Z rfl (fun h => h) (fun _ => rfl) (by decide) (by decide) (by decide) (Nat.le_of_ble_eq_true rfl) (Nat.le_of_ble_eq_true rfl) dX3_init_23 (fun q3 => ?_)
  refine x_putF C hi ku_X3 tyX3 tyX3_ok nmX3 5 kf_X3_16 0 rfl rfl (by decide) rfl rfl (ty := .array .boolean) (by decide +kernel) rfl rfl (Nat.le_of_ble_eq_true rfl) rfl dX3_init_25 ?_
  refine x_ws (ws2 := (h0, .inr (3, [.int 0, .int 0, .int 0, .ref q1, .ref q2, .ref q3, .null, .null, .null, .null, .null, .null, .int 0, .int 0, .int 0, .int 0, .int 0, .int 0, .int 0, .int 0, .null, .null])) :: (q1, .inl (cI, 84, .inl (fun _ => 0))) :: (q2, .inl (cI, 84, .inl (fun _ => 0))) :: (q3, .inl (cZ, 84, .inl (fun _ => 0))) :: Y) rfl ?_
  refine x_aload_n C dX3_init_28 rfl rfl ?_
  refine x_bipush C (v := 84) dX3_init_29 (by decide) ?_
  refine x_newa C (atype := .int) (ty := .int) (a0 := (84, .inl (fun _ => 0))) 4 0 rfl ka_I rfl (fun h => h) (fun _ => rfl) (by decide) (by decide) (by decide) (Nat.le_of_ble_eq_true rfl) (Nat.le_of_ble_eq_true rfl) dX3_init_31 (fun q4 => ?_)
  refine x_putF C hi ku_X3 tyX3 tyX3_ok nmX3 6 kf_X3_20 0 rfl rfl (by decide) rfl rfl (ty := .array .int) (by decide +kernel) rfl rfl (Nat.le_of_ble_eq_true rfl) rfl dX3_init_33 ?_
  refine x_ws (ws2 := (h0, .inr (3, [.int 0, .int 0, .int 0, .ref q1, .ref q2, .ref q3, .ref q4, .null, .null, .null, .null, .null, .int 0, .int 0, .int 0, .int 0, .int 0, .int 0, .int 0, .int 0, .null, .null])) :: (q1, .inl (cI, 84, .inl (fun _ => 0))) :: (q2, .inl (cI, 84, .inl (fun _ => 0))) :: (q3, .inl (cZ, 84, .inl (fun _ => 0))) :: (q4, .inl (cI, 84, .inl (fun _ => 0))) :: Y) rfl ?_
  refine x_aload_n C dX3_init_36 rfl rfl ?_
  refine x_bipush C (v := 84) dX3_init_37 (by decide) ?_
  refine x_newa C (atype := .boolean) (ty := .boolean) (a0 := (84, .inl (fun _ => 0))) 5 1 rfl ka_Z rfl (fun h => h) (fun _ => rfl) (by decide) (by decide) (by decide) (Nat.le_of_ble_eq_true rfl) (Nat.le_of_ble_eq_true rfl) dX3_init_39 (fun q5 => ?_)
  refine x_putF C hi ku_X3 tyX3 tyX3_ok nmX3 7 kf_X3_23 0 rfl rfl (by decide) rfl rfl (ty := .array .boolean) (by decide +kernel) rfl rfl (Nat.le_of_ble_eq_true rfl) rfl dX3_init_41 ?_
  refine x_ws (ws2 := (h0, .inr (3, [.int 0, .int 0, .int 0, .ref q1, .ref q2, .ref q3, .ref q4, .ref q5, .null, .null, .null, .null, .int 0, .int 0, .int 0, .int 0, .int 0, .int 0, .int 0, .int 0, .null, .null])) :: (q1, .inl (cI, 84, .inl (fun _ => 0))) :: (q2, .inl (cI, 84, .inl (fun _ => 0))) :: (q3, .inl (cZ, 84, .inl (fun _ => 0))) :: (q4, .inl (cI, 84, .inl (fun _ => 0))) :: (q5, .inl (cZ, 84, .inl (fun _ => 0))) :: Y) rfl ?_
  refine x_aload_n C dX3_init_44 rfl rfl ?_
  refine x_bipush C (v := 12) dX3_init_45 (by decide) ?_
  refine x_newa C (atype := .int) (ty := .int) (a0 := (12, .inl (fun _ => 0))) 6 0 rfl ka_I rfl (fun h => h) (fun _ => rfl) (by decide) (by decide) (by decide) (Nat.le_of_ble_eq_true rfl) (Nat.le_of_ble_eq_true rfl) dX3_init_47 (fun q6 => ?_)
  refine x_putF C hi ku_X3 tyX3 tyX3_ok nmX3 8 kf_X3_26 0 rfl rfl (by decide) rfl rfl (ty := .array .int) (by decide +kernel) rfl rfl (Nat.le_of_ble_eq_true rfl) rfl dX3_init_49 ?_
  refine x_ws (ws2 := (h0, .inr (3, [.int 0, .int 0, .int 0, .ref q1, .ref q2, .ref q3, .ref q4, .ref q5, .ref q6, .null, .null, .null, .int 0, .int 0, .int 0, .int 0, .int 0, .int 0, .int 0, .int 0, .null, .null])) :: (q1, .inl (cI, 84, .inl (fun _ => 0))) :: (q2, .inl (cI, 84, .inl (fun _ => 0))) :: (q3, .inl (cZ, 84, .inl (fun _ => 0))) :: (q4, .inl (cI, 84, .inl (fun _ => 0))) :: (q5, .inl (cZ, 84, .inl (fun _ => 0))) :: (q6, .inl (cI, 12, .inl (fun _ => 0))) :: Y) rfl ?_
  refine x_aload_n C dX3_init_52 rfl rfl ?_
  refine x_bipush C (v := 12) dX3_init_53 (by decide) ?_
  refine x_newa C (atype := .boolean) (ty := .boolean) (a0 := (12, .inl (fun _ => 0))) 7 1 rfl ka_Z rfl (fun h => h) (fun _ => rfl) (by decide) (by decide) (by decide) (Nat.le_of_ble_eq_true rfl) (Nat.le_of_ble_eq_true rfl) dX3_init_55 (fun q7 => ?_)
  refine x_putF C hi ku_X3 tyX3 tyX3_ok nmX3 9 kf_X3_29 0 rfl rfl (by decide) rfl rfl (ty := .array .boolean) (by decide +kernel) rfl rfl (Nat.le_of_ble_eq_true rfl) rfl dX3_init_57 ?_
  refine x_ws (ws2 := (h0, .inr (3, [.int 0, .int 0, .int 0, .ref q1, .ref q2, .ref q3, .ref q4, .ref q5, .ref q6, .ref q7, .null, .null, .int 0, .int 0, .int 0, .int 0, .int 0, .int 0, .int 0, .int 0, .null, .null])) :: (q1, .inl (cI, 84, .inl (fun _ => 0))) :: (q2, .inl (cI, 84, .inl (fun _ => 0))) :: (q3, .inl (cZ, 84, .inl (fun _ => 0))) :: (q4, .inl (cI, 84, .inl (fun _ => 0))) :: (q5, .inl (cZ, 84, .inl (fun _ => 0))) :: (q6, .inl (cI, 12, .inl (fun _ => 0))) :: (q7, .inl (cZ, 12, .inl (fun _ => 0))) :: Y) rfl ?_
  refine x_aload_n C dX3_init_60 rfl rfl ?_
  refine x_bipush C (v := 12) dX3_init_61 (by decide) ?_
  refine x_newa C (atype := .boolean) (ty := .boolean) (a0 := (12, .inl (fun _ => 0))) 8 1 rfl ka_Z rfl (fun h => h) (fun _ => rfl) (by decide) (by decide) (by decide) (Nat.le_of_ble_eq_true rfl) (Nat.le_of_ble_eq_true rfl) dX3_init_63 (fun q8 => ?_)
  refine x_putF C hi ku_X3 tyX3 tyX3_ok nmX3 10 kf_X3_32 0 rfl rfl (by decide) rfl rfl (ty := .array .boolean) (by decide +kernel) rfl rfl (Nat.le_of_ble_eq_true rfl) rfl dX3_init_65 ?_
  refine x_ws (ws2 := (h0, .inr (3, [.int 0, .int 0, .int 0, .ref q1, .ref q2, .ref q3, .ref q4, .ref q5, .ref q6, .ref q7, .ref q8, .null, .int 0, .int 0, .int 0, .int 0, .int 0, .int 0, .int 0, .int 0, .null, .null])) :: (q1, .inl (cI, 84, .inl (fun _ => 0))) :: (q2, .inl (cI, 84, .inl (fun _ => 0))) :: (q3, .inl (cZ, 84, .inl (fun _ => 0))) :: (q4, .inl (cI, 84, .inl (fun _ => 0))) :: (q5, .inl (cZ, 84, .inl (fun _ => 0))) :: (q6, .inl (cI, 12, .inl (fun _ => 0))) :: (q7, .inl (cZ, 12, .inl (fun _ => 0))) :: (q8, .inl (cZ, 12, .inl (fun _ => 0))) :: Y) rfl ?_
  refine x_aload_n C dX3_init_68 rfl rfl ?_
  refine x_bipush C (v := 12) dX3_init_69 (by decide) ?_
  refine x_newa C (atype := .int) (ty := .int) (a0 := (12, .inl (fun _ => 0))) 9 0 rfl ka_I rfl (fun h => h) (fun _ => rfl) (by decide) (by decide) (by decide) (Nat.le_of_ble_eq_true rfl) (Nat.le_of_ble_eq_true rfl) dX3_init_71 (fun q9 => ?_)
  refine x_putF C hi ku_X3 tyX3 tyX3_ok nmX3 11 kf_X3_35 0 rfl rfl (by decide) rfl rfl (ty := .array .int) (by decide +kernel) rfl rfl (Nat.le_of_ble_eq_true rfl) rfl dX3_init_73 ?_
  refine x_ws (ws2 := (h0, .inr (3, [.int 0, .int 0, .int 0, .ref q1, .ref q2, .ref q3, .ref q4, .ref q5, .ref q6, .ref q7, .ref q8, .ref q9, .int 0, .int 0, .int 0, .int 0, .int 0, .int 0, .int 0, .int 0, .null, .null])) :: (q1, .inl (cI, 84, .inl (fun _ => 0))) :: (q2, .inl (cI, 84, .inl (fun _ => 0))) :: (q3, .inl (cZ, 84, .inl (fun _ => 0))) :: (q4, .inl (cI, 84, .inl (fun _ => 0))) :: (q5, .inl (cZ, 84, .inl (fun _ => 0))) :: (q6, .inl (cI, 12, .inl (fun _ => 0))) :: (q7, .inl (cZ, 12, .inl (fun _ => 0))) :: (q8, .inl (cZ, 12, .inl (fun _ => 0))) :: (q9, .inl (cI, 12, .inl (fun _ => 0))) :: Y) rfl ?_
  refine x_aload_n C dX3_init_76 rfl rfl ?_
  refine x_iconst C (v := 1) dX3_init_77 (by decide) ?_
  refine x_put C ku_X3 tyX3 tyX3_ok nmX3 14 kf_X3_38 0 rfl rfl (by decide) rfl (ty := .boolean) (by decide +kernel) rfl rfl (Nat.le_of_ble_eq_true rfl) rfl dX3_init_78 ?_
  refine x_ws (ws2 := (h0, .inr (3, [.int 0, .int 0, .int 0, .ref q1, .ref q2, .ref q3, .ref q4, .ref q5, .ref q6, .ref q7, .ref q8, .ref q9, .int 0, .int 0, .int 1, .int 0, .int 0, .int 0, .int 0, .int 0, .null, .null])) :: (q1, .inl (cI, 84, .inl (fun _ => 0))) :: (q2, .inl (cI, 84, .inl (fun _ => 0))) :: (q3, .inl (cZ, 84, .inl (fun _ => 0))) :: (q4, .inl (cI, 84, .inl (fun _ => 0))) :: (q5, .inl (cZ, 84, .inl (fun _ => 0))) :: (q6, .inl (cI, 12, .inl (fun _ => 0))) :: (q7, .inl (cZ, 12, .inl (fun _ => 0))) :: (q8, .inl (cZ, 12, .inl (fun _ => 0))) :: (q9, .inl (cI, 12, .inl (fun _ => 0))) :: Y) rfl ?_
  refine x_aload_n C dX3_init_81 rfl rfl ?_
  refine x_bipush C (v := 6) dX3_init_82 (by decide) ?_
  refine x_newa C (atype := .int) (ty := .int) (a0 := (6, .inl (fun _ => 0))) 10 0 rfl ka_I rfl (fun h => h) (fun _ => rfl) (by decide) (by decide) (by decide) (Nat.le_of_ble_eq_true rfl) (Nat.le_of_ble_eq_true rfl) dX3_init_84 (fun q10 => ?_)
  refine x_putF C hi ku_X3 tyX3 tyX3_ok nmX3 20 kf_X3_42 0 rfl rfl (by decide) rfl rfl (ty := .array .int) (by decide +kernel) rfl rfl (Nat.le_of_ble_eq_true rfl) rfl dX3_init_86 ?_
  refine x_ws (ws2 := (h0, .inr (3, [.int 0, .int 0, .int 0, .ref q1, .ref q2, .ref q3, .ref q4, .ref q5, .ref q6, .ref q7, .ref q8, .ref q9, .int 0, .int 0, .int 1, .int 0, .int 0, .int 0, .int 0, .int 0, .ref q10, .null])) :: (q1, .inl (cI, 84, .inl (fun _ => 0))) :: (q2, .inl (cI, 84, .inl (fun _ => 0))) :: (q3, .inl (cZ, 84, .inl (fun _ => 0))) :: (q4, .inl (cI, 84, .inl (fun _ => 0))) :: (q5, .inl (cZ, 84, .inl (fun _ => 0))) :: (q6, .inl (cI, 12, .inl (fun _ => 0))) :: (q7, .inl (cZ, 12, .inl (fun _ => 0))) :: (q8, .inl (cZ, 12, .inl (fun _ => 0))) :: (q9, .inl (cI, 12, .inl (fun _ => 0))) :: (q10, .inl (cI, 6, .inl (fun _ => 0))) :: Y) rfl ?_
  refine x_aload_n C dX3_init_89 rfl rfl ?_
  refine x_bipush C (v := 6) dX3_init_90 (by decide) ?_
  refine x_newa C (atype := .int) (ty := .int) (a0 := (6, .inl (fun _ => 0))) 11 0 rfl ka_I rfl (fun h => h) (fun _ => rfl) (by decide) (by decide) (by decide) (Nat.le_of_ble_eq_true rfl) (Nat.le_of_ble_eq_true rfl) dX3_init_92 (fun q11 => ?_)
  refine x_putF C hi ku_X3 tyX3 tyX3_ok nmX3 21 kf_X3_45 0 rfl rfl (by decide) rfl rfl (ty := .array .int) (by decide +kernel) rfl rfl (Nat.le_of_ble_eq_true rfl) rfl dX3_init_94 ?_
  refine x_ws (ws2 := (h0, .inr (3, [.int 0, .int 0, .int 0, .ref q1, .ref q2, .ref q3, .ref q4, .ref q5, .ref q6, .ref q7, .ref q8, .ref q9, .int 0, .int 0, .int 1, .int 0, .int 0, .int 0, .int 0, .int 0, .ref q10, .ref q11])) :: (q1, .inl (cI, 84, .inl (fun _ => 0))) :: (q2, .inl (cI, 84, .inl (fun _ => 0))) :: (q3, .inl (cZ, 84, .inl (fun _ => 0))) :: (q4, .inl (cI, 84, .inl (fun _ => 0))) :: (q5, .inl (cZ, 84, .inl (fun _ => 0))) :: (q6, .inl (cI, 12, .inl (fun _ => 0))) :: (q7, .inl (cZ, 12, .inl (fun _ => 0))) :: (q8, .inl (cZ, 12, .inl (fun _ => 0))) :: (q9, .inl (cI, 12, .inl (fun _ => 0))) :: (q10, .inl (cI, 6, .inl (fun _ => 0))) :: (q11, .inl (cI, 6, .inl (fun _ => 0))) :: Y) rfl ?_
  obtain ⟨a, ha⟩ : ∃ a : Nat → Nat, a = fun k => [h0, q1, q2, q3, q4, q5, q6, q7, q8, q9, q10, q11].getD k 0 := ⟨_, rfl⟩
  have e0 : h0 = a 0 := by rw [ha]; rfl
  have e1 : q1 = a 1 := by rw [ha]; rfl
  have e2 : q2 = a 2 := by rw [ha]; rfl
  have e3 : q3 = a 3 := by rw [ha]; rfl
  have e4 : q4 = a 4 := by rw [ha]; rfl
  have e5 : q5 = a 5 := by rw [ha]; rfl
  have e6 : q6 = a 6 := by rw [ha]; rfl
  have e7 : q7 = a 7 := by rw [ha]; rfl
  have e8 : q8 = a 8 := by rw [ha]; rfl
  have e9 : q9 = a 9 := by rw [ha]; rfl
  have e10 : q10 = a 10 := by rw [ha]; rfl
  have e11 : q11 = a 11 := by rw [ha]; rfl
  have hB9 := hb a e0.symm
  clear ha
  subst e0 e1 e2 e3 e4 e5 e6 e7 e8 e9 e10 e11
  refine x_ws (ws2 := (wB cI cZ a (0) (0) (0) (fun _ => 0) (fun _ => 0) (fun _ => false) (fun _ => 0) (fun _ => false) (fun _ => 0) (fun _ => false) (fun _ => false) (fun _ => 0) (0) (0) (true) (false) (0) (0) (false) (0) (fun _ => 0) (fun _ => 0) ++ Y)) rfl ?_
  refine x_aload_n C dX3_init_97 rfl rfl ?_
  refine x_iload_n C dX3_init_98 rfl rfl ?_
  refine x_iconst C (v := 3) dX3_init_99 (by decide) ?_
  refine x_bipush C (v := 12) dX3_init_100 (by decide) ?_
  refine x_callSi C gs_X3_48 (c_X3_in x 3 12) rfl rfl (Nat.le_of_ble_eq_true rfl) ⟨(Nat.le_of_ble_eq_true rfl), (Nat.le_of_ble_eq_true rfl)⟩ ⟨(Nat.le_of_ble_eq_true rfl), (Nat.le_of_ble_eq_true rfl)⟩ dX3_init_102 ?_
  refine x_if_eq C (tgt := 112) dX3_init_105 (by decide) (fun h => ?_) (fun h => ?_)
  · refine x_bipush C (v := 8) dX3_init_112 (by decide) ?_
    refine x_top (y := gn_ x) (by rw [gn_, bz_f h]; rfl) ?_
    refine x_callVSv C gv_X3_52 (hB9) 0 rfl rfl rfl rfl (Nat.le_of_ble_eq_true rfl) ⟨(Nat.le_of_ble_eq_true rfl), (Nat.le_of_ble_eq_true rfl)⟩ ⟨(Nat.le_of_ble_eq_true rfl), (Nat.le_of_ble_eq_true rfl)⟩ dX3_init_114 (fun o1 o2 => ?_)
    exact x_vretN C dX3_init_117 (Nat.le_of_ble_eq_true rfl) (Nat.le_of_ble_eq_true rfl) ⟨a, o1, o2, rfl, rfl⟩
  · refine x_iload_n C dX3_init_108 rfl rfl ?_
    refine x_goto C (tgt := 114) dX3_init_109 (by decide) ?_
    refine x_top (y := gn_ x) (by rw [gn_, bz_t h]; rfl) ?_
    refine x_callVSv C gv_X3_52 (hB9) 0 rfl rfl rfl rfl (Nat.le_of_ble_eq_true rfl) ⟨(Nat.le_of_ble_eq_true rfl), (Nat.le_of_ble_eq_true rfl)⟩ ⟨(Nat.le_of_ble_eq_true rfl), (Nat.le_of_ble_eq_true rfl)⟩ dX3_init_114 (fun o1 o2 => ?_)
    exact x_vretN C dX3_init_117 (Nat.le_of_ble_eq_true rfl) (Nat.le_of_ble_eq_true rfl) ⟨a, o1, o2, rfl, rfl⟩
end CTR
