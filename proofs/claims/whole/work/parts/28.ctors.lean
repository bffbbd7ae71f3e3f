/-! ===== constructors ===== -/
section CTR
variable {l : Launch} {D : va_G} {tys : List (ClassId × FieldType)} {cI cZ : ClassId} {Y : va_W}
set_option maxRecDepth 100000 in
set_option maxHeartbeats 4000000 in
theorem n_X1_init (x0 : Nat × va_E) (h0 : Nat) : wo_N l yX1_init cX1_init 1 1 4 288 D ((cI, .int) :: (cZ, .boolean) :: tys) [.ref h0] (x0 :: (h0, .inr (1, [.int 0, .int 0, .null, .null, .null, .null])) :: Y) (fun w => ∃ q2 q3 q4 q5 : Nat, w = x0 :: (h0, .inr (1, [.int 0, .int 0, .ref q2, .ref q3, .ref q4, .ref q5])) :: (q2, .inl (cI, 72, .inl (fun _ => 0))) :: (q3, .inl (cI, 72, .inl (fun _ => 0))) :: (q4, .inl (cI, 72, .inl (fun _ => 0))) :: (q5, .inl (cI, 72, .inl (fun _ => 0))) :: Y) := by
  refine wo_ofN (ls := [some (.ref h0)]) (by decide) rfl (Nat.le_of_ble_eq_true rfl) rfl ?_
  intro p e s m args below meth c A C hi
  refine x_aload_n C dX1_init_0 rfl rfl ?_
  refine x_objInit C km_X1_obj dX1_init_1 ⟨(Nat.le_of_ble_eq_true rfl), (Nat.le_of_ble_eq_true rfl)⟩ ?_
  refine x_aload_n C dX1_init_4 rfl rfl ?_
  refine x_bipush C (v := 72) dX1_init_5 (by decide) ?_
  refine x_newa C (atype := .int) (ty := .int) (a0 := (72, .inl (fun _ => 0))) 2 0 rfl ka_I rfl (fun h => h) (fun _ => rfl) (by decide) (by decide) (by decide) (Nat.le_of_ble_eq_true rfl) (Nat.le_of_ble_eq_true rfl) dX1_init_7 (fun q2 => ?_)
  refine x_putF C hi ku_X1 tyX1 tyX1_ok nmX1 2 kf_X1_9 1 rfl rfl (by decide) rfl rfl (ty := .array .int) (by decide +kernel) rfl rfl (Nat.le_of_ble_eq_true rfl) rfl dX1_init_9 ?_
  refine x_aload_n C dX1_init_12 rfl rfl ?_
  refine x_bipush C (v := 72) dX1_init_13 (by decide) ?_
  refine x_newa C (atype := .int) (ty := .int) (a0 := (72, .inl (fun _ => 0))) 3 0 rfl ka_I rfl (fun h => h) (fun _ => rfl) (by decide) (by decide) (by decide) (Nat.le_of_ble_eq_true rfl) (Nat.le_of_ble_eq_true rfl) dX1_init_15 (fun q3 => ?_)
  refine x_putF C hi ku_X1 tyX1 tyX1_ok nmX1 3 kf_X1_15 1 rfl rfl (by decide) rfl rfl (ty := .array .int) (by decide +kernel) rfl rfl (Nat.le_of_ble_eq_true rfl) rfl dX1_init_17 ?_
  refine x_aload_n C dX1_init_20 rfl rfl ?_
  refine x_bipush C (v := 72) dX1_init_21 (by decide) ?_
  refine x_newa C (atype := .int) (ty := .int) (a0 := (72, .inl (fun _ => 0))) 4 0 rfl ka_I rfl (fun h => h) (fun _ => rfl) (by decide) (by decide) (by decide) (Nat.le_of_ble_eq_true rfl) (Nat.le_of_ble_eq_true rfl) dX1_init_23 (fun q4 => ?_)
  refine x_putF C hi ku_X1 tyX1 tyX1_ok nmX1 4 kf_X1_18 1 rfl rfl (by decide) rfl rfl (ty := .array .int) (by decide +kernel) rfl rfl (Nat.le_of_ble_eq_true rfl) rfl dX1_init_25 ?_
  refine x_aload_n C dX1_init_28 rfl rfl ?_
  refine x_bipush C (v := 72) dX1_init_29 (by decide) ?_
  refine x_newa C (atype := .int) (ty := .int) (a0 := (72, .inl (fun _ => 0))) 5 0 rfl ka_I rfl (fun h => h) (fun _ => rfl) (by decide) (by decide) (by decide) (Nat.le_of_ble_eq_true rfl) (Nat.le_of_ble_eq_true rfl) dX1_init_31 (fun q5 => ?_)
  refine x_putF C hi ku_X1 tyX1 tyX1_ok nmX1 5 kf_X1_21 1 rfl rfl (by decide) rfl rfl (ty := .array .int) (by decide +kernel) rfl rfl (Nat.le_of_ble_eq_true rfl) rfl dX1_init_33 ?_
  exact x_vretN C dX1_init_36 (Nat.le_of_ble_eq_true rfl) (Nat.le_of_ble_eq_true rfl) ⟨q2, q3, q4, q5, rfl⟩
set_option maxRecDepth 100000 in
set_option maxHeartbeats 4000000 in
theorem n_X0_init (x0 x1 x2 x3 x4 x5 : Nat × va_E) (h0 h1 : Nat) : wo_N l yX0_init cX0_init 2 1 4 48 D ((cI, .int) :: (cZ, .boolean) :: tys) [.ref h0, .ref h1] (x0 :: x1 :: x2 :: x3 :: x4 :: x5 :: (h0, .inr (0, [.null, .int 0, .null, .int 0, .int 0, .null, .int 0, .null, .null])) :: Y) (fun w => ∃ q7 q8 q9 q10 : Nat, w = x0 :: x1 :: x2 :: x3 :: x4 :: x5 :: (h0, .inr (0, [.ref h1, .int 0, .ref q7, .int 0, .int 0, .ref q8, .int 0, .ref q9, .ref q10])) :: (q7, .inl (cI, 12, .inl (fun _ => 0))) :: (q8, .inl (cZ, 12, .inl (fun _ => 0))) :: (q9, .inl (cZ, 12, .inl (fun _ => 0))) :: (q10, .inl (cI, 12, .inl (fun _ => 0))) :: Y) := by
  refine wo_ofN (ls := [some (.ref h0), some (.ref h1)]) (by decide) rfl (Nat.le_of_ble_eq_true rfl) rfl ?_
  intro p e s m args below meth c A C hi
  refine x_aload_n C dX0_init_0 rfl rfl ?_
  refine x_objInit C km_X0_obj dX0_init_1 ⟨(Nat.le_of_ble_eq_true rfl), (Nat.le_of_ble_eq_true rfl)⟩ ?_
  refine x_aload_n C dX0_init_4 rfl rfl ?_
  refine x_aload_n C dX0_init_5 rfl rfl ?_
  refine x_putF C hi ku_X0 tyX0 tyX0_ok nmX0 0 kf_X0_9 6 rfl rfl (by decide) rfl rfl (ty := .object "WeighOff$Sheet") (by decide +kernel) rfl rfl (Nat.le_of_ble_eq_true rfl) rfl dX0_init_6 ?_
  refine x_aload_n C dX0_init_9 rfl rfl ?_
  refine x_bipush C (v := 12) dX0_init_10 (by decide) ?_
  refine x_newa C (atype := .int) (ty := .int) (a0 := (12, .inl (fun _ => 0))) 7 0 rfl ka_I rfl (fun h => h) (fun _ => rfl) (by decide) (by decide) (by decide) (Nat.le_of_ble_eq_true rfl) (Nat.le_of_ble_eq_true rfl) dX0_init_12 (fun q7 => ?_)
  refine x_putF C hi ku_X0 tyX0 tyX0_ok nmX0 2 kf_X0_15 6 rfl rfl (by decide) rfl rfl (ty := .array .int) (by decide +kernel) rfl rfl (Nat.le_of_ble_eq_true rfl) rfl dX0_init_14 ?_
  refine x_aload_n C dX0_init_17 rfl rfl ?_
  refine x_bipush C (v := 12) dX0_init_18 (by decide) ?_
  refine x_newa C (atype := .boolean) (ty := .boolean) (a0 := (12, .inl (fun _ => 0))) 8 1 rfl ka_Z rfl (fun h => h) (fun _ => rfl) (by decide) (by decide) (by decide) (Nat.le_of_ble_eq_true rfl) (Nat.le_of_ble_eq_true rfl) dX0_init_20 (fun q8 => ?_)
  refine x_putF C hi ku_X0 tyX0 tyX0_ok nmX0 5 kf_X0_19 6 rfl rfl (by decide) rfl rfl (ty := .array .boolean) (by decide +kernel) rfl rfl (Nat.le_of_ble_eq_true rfl) rfl dX0_init_22 ?_
  refine x_aload_n C dX0_init_25 rfl rfl ?_
  refine x_bipush C (v := 12) dX0_init_26 (by decide) ?_
  refine x_newa C (atype := .boolean) (ty := .boolean) (a0 := (12, .inl (fun _ => 0))) 9 1 rfl ka_Z rfl (fun h => h) (fun _ => rfl) (by decide) (by decide) (by decide) (Nat.le_of_ble_eq_true rfl) (Nat.le_of_ble_eq_true rfl) dX0_init_28 (fun q9 => ?_)
  refine x_putF C hi ku_X0 tyX0 tyX0_ok nmX0 7 kf_X0_23 6 rfl rfl (by decide) rfl rfl (ty := .array .boolean) (by decide +kernel) rfl rfl (Nat.le_of_ble_eq_true rfl) rfl dX0_init_30 ?_
  refine x_aload_n C dX0_init_33 rfl rfl ?_
  refine x_bipush C (v := 12) dX0_init_34 (by decide) ?_
  refine x_newa C (atype := .int) (ty := .int) (a0 := (12, .inl (fun _ => 0))) 10 0 rfl ka_I rfl (fun h => h) (fun _ => rfl) (by decide) (by decide) (by decide) (Nat.le_of_ble_eq_true rfl) (Nat.le_of_ble_eq_true rfl) dX0_init_36 (fun q10 => ?_)
  refine x_putF C hi ku_X0 tyX0 tyX0_ok nmX0 8 kf_X0_26 6 rfl rfl (by decide) rfl rfl (ty := .array .int) (by decide +kernel) rfl rfl (Nat.le_of_ble_eq_true rfl) rfl dX0_init_38 ?_
  exact x_vretN C dX0_init_41 (Nat.le_of_ble_eq_true rfl) (Nat.le_of_ble_eq_true rfl) ⟨q7, q8, q9, q10, rfl⟩
end CTR
