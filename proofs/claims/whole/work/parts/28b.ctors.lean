section CTR
variable {l : Launch} {D : va_G} {tys : List (ClassId × FieldType)} {cI cZ : ClassId} {Y : va_W}
def gn_ (x : Int32) : Int32 := if in_B x 3 12 then x else 8
set_option maxRecDepth 100000 in
set_option maxHeartbeats 4000000 in
theorem n_X2_init (x : Int32) (h0 : Nat) (W2 : (Nat → Nat) → va_W) (hb : ∀ a : Nat → Nat, a 0 = h0 → wo_E l yX2_begin cX2_begin 2 (none) 4 D ((cI, .int) :: (cZ, .boolean) :: tys) [.ref (a 0), .int (gn_ x)] (wA cI cZ a (0) (0) (fun _ => 0) (fun _ => 0) (fun _ => 0) (fun _ => 0) (0) (fun _ => 0) (0) (0) (fun _ => false) (0) (fun _ => false) (fun _ => 0) (true) (-1000000) (0) (-1000000) ++ Y) none (W2 a)) : wo_N l yX2_init cX2_init 2 5 10 351 D ((cI, .int) :: (cZ, .boolean) :: tys) [.ref h0, .int x] ((h0, .inr (2, [.null, .null, .int 0, .int 0, .int 0, .int 0])) :: Y) (fun w => ∃ a : Nat → Nat, a 0 = h0 ∧ w = W2 a) := by
  refine wo_ofN (ls := [some (.ref h0), some (.int x)]) (by decide) rfl (Nat.le_of_ble_eq_true rfl) rfl ?_
  intro p e s m args below meth c A C hi
  refine x_aload_n C dX2_init_0 rfl rfl ?_
  refine x_objInit C km_X2_obj dX2_init_1 ⟨(Nat.le_of_ble_eq_true rfl), (Nat.le_of_ble_eq_true rfl)⟩ ?_
  refine x_aload_n C dX2_init_4 rfl rfl ?_
  refine x_new C (ci := 1) (fs := [.int 0, .int 0, .null, .null, .null, .null]) 1 ku_X1 tyX1 tyX1_ok kl_X2_7 kq_X1 kn_X1 rfl (fun j hj => by rcases (show j = 0 ∨ j = 1 ∨ j = 2 ∨ j = 3 ∨ j = 4 ∨ j = 5 by omega) with rfl | rfl | rfl | rfl | rfl | rfl <;> rfl) (Nat.le_of_ble_eq_true rfl) (Nat.le_of_ble_eq_true rfl) dX2_init_5 (fun q1 => ?_)
  refine x_dup C dX2_init_8 rfl ?_
  refine x_callN C gi_X2_9 ki_X2_9 rfl (n_X1_init (cZ := cZ) (h0, .inr (2, [.null, .null, .int 0, .int 0, .int 0, .int 0])) q1) rfl rfl (Nat.le_of_ble_eq_true rfl) ⟨(Nat.le_of_ble_eq_true rfl), (Nat.le_of_ble_eq_true rfl)⟩ ⟨(Nat.le_of_ble_eq_true rfl), (Nat.le_of_ble_eq_true rfl)⟩ dX2_init_9 ?_
  rintro _ ⟨q2, q3, q4, q5, rfl⟩
  refine x_putF C hi ku_X2 tyX2 tyX2_ok nmX2 0 kf_X2_10 0 rfl rfl (by decide) rfl rfl (ty := .object "WeighOff$Sheet") (by decide +kernel) rfl rfl (Nat.le_of_ble_eq_true rfl) rfl dX2_init_12 ?_
  refine x_aload_n C dX2_init_15 rfl rfl ?_
  refine x_new C (ci := 0) (fs := [.null, .int 0, .null, .int 0, .int 0, .null, .int 0, .null, .null]) 6 ku_X0 tyX0 tyX0_ok kl_X2_16 kq_X0 kn_X0 rfl (fun j hj => by rcases (show j = 0 ∨ j = 1 ∨ j = 2 ∨ j = 3 ∨ j = 4 ∨ j = 5 ∨ j = 6 ∨ j = 7 ∨ j = 8 by omega) with rfl | rfl | rfl | rfl | rfl | rfl | rfl | rfl | rfl <;> rfl) (Nat.le_of_ble_eq_true rfl) (Nat.le_of_ble_eq_true rfl) dX2_init_16 (fun q6 => ?_)
  refine x_dup C dX2_init_19 rfl ?_
  refine x_aload_n C dX2_init_20 rfl rfl ?_
  refine x_get C ku_X2 0 kf_X2_10 0 rfl rfl (by decide) rfl dX2_init_21 ?_
  refine x_callN C gi_X2_18 ki_X2_18 rfl (n_X0_init (cI := cI) (cZ := cZ) _ _ _ _ _ _ q6 q1) rfl rfl (Nat.le_of_ble_eq_true rfl) ⟨(Nat.le_of_ble_eq_true rfl), (Nat.le_of_ble_eq_true rfl)⟩ ⟨(Nat.le_of_ble_eq_true rfl), (Nat.le_of_ble_eq_true rfl)⟩ dX2_init_24 ?_
  rintro _ ⟨q7, q8, q9, q10, rfl⟩
  refine x_putF C hi ku_X2 tyX2 tyX2_ok nmX2 1 kf_X2_21 0 rfl rfl (by decide) rfl rfl (ty := .object "WeighOff$Course") (by decide +kernel) rfl rfl (Nat.le_of_ble_eq_true rfl) rfl dX2_init_27 ?_
  obtain ⟨a, ha⟩ : ∃ a : Nat → Nat, a = fun k => [h0, q1, q2, q3, q4, q5, q6, q7, q8, q9, q10].getD k 0 := ⟨_, rfl⟩
  have e0 : h0 = a 0 := by rw [ha]; rfl
  have e1 : q1 = a 1 := by rw [ha]; rfl
  have e2 : q2 = a 2 := by rw [ha]; rfl
  have e3 : q3 = a 3 := by rw [ha]; rfl
  have e4 : q4 = a 4 := by rw [ha]; rfl
  have e5 : q5 = a 5 := by rw [ha]; rfl
  have e6 : q6 = a 6 := by rw [ha]; rfl
  have e7 : q7 = a 7 := by rw [ha]; rfl
  have e8 : q8 = a 8 := by rw [ha]; rfl
  have e9 : q9 = a 9 := by rw [ha]; rfl
  have e10 : q10 = a 10 := by rw [ha]; rfl
  have hB9 := hb a e0.symm
  clear ha
  subst e0 e1 e2 e3 e4 e5 e6 e7 e8 e9 e10

  refine x_ws (ws2 := (wA cI cZ a (0) (0) (fun _ => 0) (fun _ => 0) (fun _ => 0) (fun _ => 0) (0) (fun _ => 0) (0) (0) (fun _ => false) (0) (fun _ => false) (fun _ => 0) (false) (0) (0) (0) ++ Y)) rfl ?_
  refine x_aload_n C dX2_init_30 rfl rfl ?_
  refine x_iconst C (v := 1) dX2_init_31 (by decide) ?_
  refine pA0_levelOn C true rfl dX2_init_32 ?_
  refine x_aload_n C dX2_init_35 rfl rfl ?_
  refine x_ldc C kk_X2_29 dX2_init_36 ?_
  refine pA0_recordPounds C _ dX2_init_38 ?_
  refine x_aload_n C dX2_init_41 rfl rfl ?_
  refine x_iconst C (v := 0) dX2_init_42 (by decide) ?_
  refine pA0_recordCount C _ dX2_init_43 ?_
  refine x_aload_n C dX2_init_46 rfl rfl ?_
  refine x_ldc C kk_X2_29 dX2_init_47 ?_
  refine pA0_prizePounds C _ dX2_init_49 ?_
  refine x_aload_n C dX2_init_52 rfl rfl ?_
  refine x_iload_n C dX2_init_53 rfl rfl ?_
  refine x_callSi C gs_X2_40 (c_X2_mayTakePart x) rfl rfl (Nat.le_of_ble_eq_true rfl) ⟨(Nat.le_of_ble_eq_true rfl), (Nat.le_of_ble_eq_true rfl)⟩ ⟨(Nat.le_of_ble_eq_true rfl), (Nat.le_of_ble_eq_true rfl)⟩ dX2_init_54 ?_
  refine x_if_eq C (tgt := 64) dX2_init_57 (by decide) (fun h => ?_) (fun h => ?_)
  · refine x_bipush C (v := 8) dX2_init_64 (by decide) ?_
    refine x_top (y := gn_ x) (by rw [gn_, bz_f h]; rfl) ?_
    refine x_callVv C gv_X2_44 (hB9) 0 rfl rfl rfl rfl (Nat.le_of_ble_eq_true rfl) ⟨(Nat.le_of_ble_eq_true rfl), (Nat.le_of_ble_eq_true rfl)⟩ ⟨(Nat.le_of_ble_eq_true rfl), (Nat.le_of_ble_eq_true rfl)⟩ dX2_init_66 ?_
    exact x_vretN C dX2_init_69 (Nat.le_of_ble_eq_true rfl) (Nat.le_of_ble_eq_true rfl) ⟨a, rfl, rfl⟩
  · refine x_iload_n C dX2_init_60 rfl rfl ?_
    refine x_goto C (tgt := 66) dX2_init_61 (by decide) ?_
    refine x_top (y := gn_ x) (by rw [gn_, bz_t h]; rfl) ?_
    refine x_callVv C gv_X2_44 (hB9) 0 rfl rfl rfl rfl (Nat.le_of_ble_eq_true rfl) ⟨(Nat.le_of_ble_eq_true rfl), (Nat.le_of_ble_eq_true rfl)⟩ ⟨(Nat.le_of_ble_eq_true rfl), (Nat.le_of_ble_eq_true rfl)⟩ dX2_init_66 ?_
    exact x_vretN C dX2_init_69 (Nat.le_of_ble_eq_true rfl) (Nat.le_of_ble_eq_true rfl) ⟨a, rfl, rfl⟩
end CTR
