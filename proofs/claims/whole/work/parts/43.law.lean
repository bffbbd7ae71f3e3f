/-! ===== the law: its loop, and its start ===== -/
theorem x_lret {p : Program} {l : Launch} {e : Env} {s : State} {m : MethodId} {below : List Frame} {meth : Method} {c : Code} {D : va_G} {cI cZ cJ : ClassId} {bs : Nat} {cells slots : Nat} {ls : List (Option Value)} {ws : va_W} {pc : Nat} (C : wo_C p s m #[Value.ref bs] meth c (fun q : Nat => s.heap.size ≤ q) D cL_law 7 RL ((cI, .int) :: (cZ, .boolean) :: (cJ, .long) :: []) ret) (hc : cells ≤ 1060) (hs : slots ≤ 9124) (dg : decode cL_law pc = .ok (.ireturn, 1)) : wo_W p l e room_1 s m #[Value.ref bs] below meth c (fun q : Nat => s.heap.size ≤ q) D cells slots 7 (lw_Z below #[Value.ref bs] s) pc ls [.int 1] ws := by
  intro H locs hP hD hS lv hl
  refine va_forget (fun q hq => hS.2.2 q hq) ?_
  refine W.widen (k := 1060) (n := 9124) hc hs ?_
  exact lw_ret C.1 C.2.1 C.2.2.2.2.2.2.2.2 C.2.2.2.2.2.2.2.1 dg
set_option maxRecDepth 100000 in
set_option maxHeartbeats 4000000 in
theorem law_loop {p : Program} {l : Launch} {e : Env} {s : State} {m : MethodId} {below : List Frame} {meth : Method} {c : Code} {D : va_G} {cI cZ cJ : ClassId} {bs L : Nat} {xs : Nat → Int32} {a b : Nat → Nat} {o : Nat} (C : wo_C p s m #[Value.ref bs] meth c (fun q : Nat => s.heap.size ≤ q) D cL_law 7 RL ((cI, .int) :: (cZ, .boolean) :: (cJ, .long) :: []) ret) (hXT : wo_XT (fun q : Nat => s.heap.size ≤ q) s s.heap) (hX : va_X bs L xs s s.heap) (hbl : bs < s.heap.size) (hl : l.stackTraces = false) (hL : L ≤ 2049) :
    ∀ (n i cells slots : Nat) (k : Int32) (WA WB : va_W) (f : Nat → Int64) (x5 x6 : Option Value), 1 ≤ i → i ≤ 2053 → L < i + 4 * n + 4 → cells + n ≤ 1060 → slots + 6 * n ≤ 9124 → RWc cI cZ a b k WA WB → wo_W p l e room_1 s m #[Value.ref bs] below meth c (fun q : Nat => s.heap.size ≤ q) D cells slots 7 (lw_Z below #[Value.ref bs] s) 33 [some (.ref bs), some (.ref (a 0)), some (.ref (b 0)), some (.ref o), some (.int (nI i)), x5, x6] [] (WA ++ wo_o cJ o f :: WB) := by
  have hbA : ¬ (fun q : Nat => s.heap.size ≤ q) bs := Nat.not_le.mpr hbl
  intro n
  induction n with
  | zero =>
    intro i cells slots k WA WB f x5 x6 h1 h2 h3 h4 h5 h
    refine x_iload C dL_law_33 rfl ?_
    refine x_aload_n C dL_law_35 rfl rfl ?_
    refine x_slen C hX hbl hbA dL_law_36 ?_
    refine x_iconst C (v := 4) dL_law_37 (by decide) ?_
    refine x_isub C dL_law_38 ?_
    refine x_icmp_gt C (tgt := 1348) dL_law_39 (by decide) (fun z => ?_) (fun z => ?_)
    · refine x_iconst C (v := 1) dL_law_1348 (by decide) ?_
      exact x_lret C (by omega) (by omega) dL_law_1349
    · exact absurd (law_go h1 h2 hL z) (by omega)
  | succ n ih =>
    intro i cells slots k WA WB f x5 x6 h1 h2 h3 h4 h5 h
    refine x_iload C dL_law_33 rfl ?_
    refine x_aload_n C dL_law_35 rfl rfl ?_
    refine x_slen C hX hbl hbA dL_law_36 ?_
    refine x_iconst C (v := 4) dL_law_37 (by decide) ?_
    refine x_isub C dL_law_38 ?_
    refine x_icmp_gt C (tgt := 1348) dL_law_39 (by decide) (fun z => ?_) (fun z => ?_)
    · refine x_iconst C (v := 1) dL_law_1348 (by decide) ?_
      exact x_lret C (by omega) (by omega) dL_law_1349
    · have hi := law_go h1 h2 hL z
      have hc1 : cells + 1 ≤ room_1.cells := by show cells + 1 ≤ 1060; omega
      have hs1 : slots + 6 ≤ room_1.slots := by show slots + 6 ≤ 9124; omega
      have K : wo_K p l e s m #[Value.ref bs] below meth c (fun q : Nat => s.heap.size ≤ q) D cells slots (lw_Z below #[Value.ref bs] s) cI cZ cJ a b bs o i := by
        intro cells' slots' k' WA' WB' f' y5 y6 hcc hss hR
        refine x_iinc C dL_law_1342 rfl (v := nI (i + 4)) (by rw [show Int32.ofInt 4 = nI 4 from rfl]; exact nI_add i 4) (by decide) ?_
        refine x_goto C (tgt := 33) dL_law_1345 (by decide) ?_
        exact ih (i + 4) cells' slots' k' WA' WB' f' y5 y6 (by omega) (by omega) (by omega) (by omega) (by omega) hR
      refine x_aload_n C dL_law_42 rfl rfl ?_
      refine x_iload C dL_law_43 rfl ?_
      refine x_sld C hX hbl hbA i rfl (by omega) hL dL_law_45 ?_
      refine x_bipush C (v := 31) dL_law_46 (by decide) ?_
      refine x_iand C dL_law_48 ?_
      generalize xs i &&& 31 = y
      by_cases ho : y.toInt < 0 ∨ 21 < y.toInt
      · refine x_tableOut C (tgt := 1342) dL_law_49 ho (by decide) ?_
        exact K _ _ _ _ _ _ _ _ (Nat.le_add_right _ _) (Nat.le_add_right _ _) h
      rcases (show y.toInt = 0 ∨ y.toInt = 1 ∨ y.toInt = 2 ∨ y.toInt = 3 ∨ y.toInt = 4 ∨ y.toInt = 5 ∨ y.toInt = 6 ∨ y.toInt = 7 ∨ y.toInt = 8 ∨ y.toInt = 9 ∨ y.toInt = 10 ∨ y.toInt = 11 ∨ y.toInt = 12 ∨ y.toInt = 13 ∨ y.toInt = 14 ∨ y.toInt = 15 ∨ y.toInt = 16 ∨ y.toInt = 17 ∨ y.toInt = 18 ∨ y.toInt = 19 ∨ y.toInt = 20 ∨ y.toInt = 21 by omega) with ee | ee | ee | ee | ee | ee | ee | ee | ee | ee | ee | ee | ee | ee | ee | ee | ee | ee | ee | ee | ee | ee
      · refine x_tableIn C (tgt := 152) dL_law_49 (by omega) (by omega) (by rw [ee]; rfl) (by decide) ?_
        exact q_open C hXT hX hbl hbA hl hi hL hc1 hs1 h K
      · refine x_tableIn C (tgt := 188) dL_law_49 (by omega) (by omega) (by rw [ee]; rfl) (by decide) ?_
        exact q_weigh C hXT hX hbl hbA hl hi hL hc1 hs1 h K
      · refine x_tableIn C (tgt := 256) dL_law_49 (by omega) (by omega) (by rw [ee]; rfl) (by decide) ?_
        exact q_crack C hXT hX hbl hbA hl hi hL hc1 hs1 h K
      · refine x_tableIn C (tgt := 304) dL_law_49 (by omega) (by omega) (by rw [ee]; rfl) (by decide) ?_
        exact q_pass C hXT hX hbl hbA hl hi hL hc1 hs1 h K
      · refine x_tableIn C (tgt := 328) dL_law_49 (by omega) (by omega) (by rw [ee]; rfl) (by decide) ?_
        exact q_leave C hXT hX hbl hbA hl hi hL hc1 hs1 h K
      · refine x_tableIn C (tgt := 364) dL_law_49 (by omega) (by omega) (by rw [ee]; rfl) (by decide) ?_
        exact q_appeal C hXT hX hbl hbA hl hi hL hc1 hs1 h K
      · refine x_tableIn C (tgt := 432) dL_law_49 (by omega) (by omega) (by rw [ee]; rfl) (by decide) ?_
        exact q_level C hXT hX hbl hbA hl hi hL hc1 hs1 h K
      · refine x_tableIn C (tgt := 473) dL_law_49 (by omega) (by omega) (by rw [ee]; rfl) (by decide) ?_
        exact q_record C hXT hX hbl hbA hl hi hL hc1 hs1 h K
      · refine x_tableIn C (tgt := 509) dL_law_49 (by omega) (by omega) (by rw [ee]; rfl) (by decide) ?_
        exact q_prize C hXT hX hbl hbA hl hi hL hc1 hs1 h K
      · refine x_tableIn C (tgt := 545) dL_law_49 (by omega) (by omega) (by rw [ee]; rfl) (by decide) ?_
        exact q_turn C hXT hX hbl hbA hl hi hL hc1 hs1 h K
      · refine x_tableIn C (tgt := 558) dL_law_49 (by omega) (by omega) (by rw [ee]; rfl) (by decide) ?_
        exact q_day C hXT hX hbl hbA hl hi hL hc1 hs1 h K
      · refine x_tableIn C (tgt := 571) dL_law_49 (by omega) (by omega) (by rw [ee]; rfl) (by decide) ?_
        exact q_weight C hXT hX hbl hbA hl hi hL hc1 hs1 h K
      · refine x_tableIn C (tgt := 639) dL_law_49 (by omega) (by omega) (by rw [ee]; rfl) (by decide) ?_
        exact q_tilt C hXT hX hbl hbA hl hi hL hc1 hs1 h K
      · refine x_tableIn C (tgt := 707) dL_law_49 (by omega) (by omega) (by rw [ee]; rfl) (by decide) ?_
        exact q_best C hXT hX hbl hbA hl hi hL hc1 hs1 h K
      · refine x_tableIn C (tgt := 763) dL_law_49 (by omega) (by omega) (by rw [ee]; rfl) (by decide) ?_
        exact q_place C hXT hX hbl hbA hl hi hL hc1 hs1 h K
      · refine x_tableIn C (tgt := 819) dL_law_49 (by omega) (by omega) (by rw [ee]; rfl) (by decide) ?_
        exact q_wins C hXT hX hbl hbA hl hi hL hc1 hs1 h K
      · refine x_tableIn C (tgt := 882) dL_law_49 (by omega) (by omega) (by rw [ee]; rfl) (by decide) ?_
        exact q_count C hXT hX hbl hbA hl hi hL hc1 hs1 h K
      · refine x_tableIn C (tgt := 962) dL_law_49 (by omega) (by omega) (by rw [ee]; rfl) (by decide) ?_
        exact q_first C hXT hX hbl hbA hl hi hL hc1 hs1 h K
      · refine x_tableIn C (tgt := 1042) dL_law_49 (by omega) (by omega) (by rw [ee]; rfl) (by decide) ?_
        exact q_lamps C hXT hX hbl hbA hl hi hL hc1 hs1 h K
      · refine x_tableIn C (tgt := 1122) dL_law_49 (by omega) (by omega) (by rw [ee]; rfl) (by decide) ?_
        exact q_stands C hXT hX hbl hbA hl hi hL hc1 hs1 h K
      · refine x_tableIn C (tgt := 1202) dL_law_49 (by omega) (by omega) (by rw [ee]; rfl) (by decide) ?_
        exact q_lean C hXT hX hbl hbA hl hi hL hc1 hs1 h K
      · refine x_tableIn C (tgt := 1286) dL_law_49 (by omega) (by omega) (by rw [ee]; rfl) (by decide) ?_
        exact q_look C hXT hX hbl hbA hl hi hL hc1 hs1 h K
theorem gn_eq (x : Int32) : ∃ g, 3 ≤ g ∧ g ≤ 12 ∧ gn_ x = nI g := by
  unfold gn_
  cases h : in_B x 3 12 with
  | true =>
    obtain ⟨g, h3, h12, e⟩ := inB_nat (m := 3) (n := 12) rfl rfl (by omega) (by omega) h
    exact ⟨g, h3, h12, by rw [if_pos rfl]; exact e⟩
  | false => exact ⟨8, by omega, by omega, by rw [if_neg (by decide)]; rfl⟩
set_option maxRecDepth 100000 in
set_option maxHeartbeats 4000000 in
theorem law_first {p : Program} {l : Launch} {e : Env} {s : State} {m : MethodId} {below : List Frame} {meth : Method} {c : Code} {D : va_G} {cI cZ cJ : ClassId} {bs L : Nat} {xs : Nat → Int32} (C : wo_C p s m #[Value.ref bs] meth c (fun q : Nat => s.heap.size ≤ q) D cL_law 7 RL ((cI, .int) :: (cZ, .boolean) :: (cJ, .long) :: []) ret) (hXT : wo_XT (fun q : Nat => s.heap.size ≤ q) s s.heap) (hX : va_X bs L xs s s.heap) (hbl : bs < s.heap.size) (hl : l.stackTraces = false) (hL : L ≤ 2049) : wo_W p l e room_1 s m #[Value.ref bs] below meth c (fun q : Nat => s.heap.size ≤ q) D 0 0 7 (lw_Z below #[Value.ref bs] s) 0 [some (.ref bs), none, none, none, none, none, none] [] [] := by
  have hbA : ¬ (fun q : Nat => s.heap.size ≤ q) bs := Nat.not_le.mpr hbl
  obtain ⟨g, h3, h12, hg⟩ := gn_eq (cl_ L xs)
  refine x_new C (ci := 2) (fs := [.null, .null, .int 0, .int 0, .int 0, .int 0]) 0 ku_X2 tyX2 tyX2_ok kl_L_8 kq_X2 kn_X2 rfl (fun j hj => by rcases (show j = 0 ∨ j = 1 ∨ j = 2 ∨ j = 3 ∨ j = 4 ∨ j = 5 by omega) with rfl | rfl | rfl | rfl | rfl | rfl <;> rfl) (Nat.le_of_ble_eq_true rfl) (Nat.le_of_ble_eq_true rfl) dL_law_0 (fun q0 => ?_)
  refine x_dup C dL_law_3 rfl ?_
  refine x_aload_n C dL_law_4 rfl rfl ?_
  refine x_iconst C (v := 0) dL_law_5 (by decide) ?_
  refine x_callC C hX hbl hbA hL gs_L_77 rfl (Nat.le_of_ble_eq_true rfl) ⟨(Nat.le_of_ble_eq_true rfl), (Nat.le_of_ble_eq_true rfl)⟩ ⟨(Nat.le_of_ble_eq_true rfl), (Nat.le_of_ble_eq_true rfl)⟩ dL_law_6 ?_
  refine x_callN C gi_L_83 ki_L_83 rfl (n_X2_init (cI := cI) (cZ := cZ) (Y := []) (cl_ L xs) q0 (fun a => wA cI cZ a g 0 (wo_fill (fun _ => 0) (-1000000) 72) (wo_fill (fun _ => 0) (-1000000) 72) (wo_fill (fun _ => 0) 0 72) (wo_fill (fun _ => 0) (-1000000) 72) (if (lu_A g 1 (fun _ => 0) (wo_ff (fun _ => false) (fun _ => false) 12) (wo_ff (fun _ => false) (fun _ => false) 12) (wo_ff (fun _ => 0) (fun _ => 0) 12)).2 = 0 then 7 else 1) ((lu_A g 1 (fun _ => 0) (wo_ff (fun _ => false) (fun _ => false) 12) (wo_ff (fun _ => false) (fun _ => false) 12) (wo_ff (fun _ => 0) (fun _ => 0) 12)).1) ((lu_A g 1 (fun _ => 0) (wo_ff (fun _ => false) (fun _ => false) 12) (wo_ff (fun _ => false) (fun _ => false) 12) (wo_ff (fun _ => 0) (fun _ => 0) 12)).2) 0 (wo_ff (fun _ => false) (fun _ => false) 12) 0 (wo_ff (fun _ => false) (fun _ => false) 12) (wo_ff (fun _ => 0) (fun _ => 0) 12) true (-1000000) 0 (-1000000) ++ []) (fun a _ => by rw [hg]; exact c_X2_begin _ g (c_X0_restart h12))) rfl rfl (Nat.le_of_ble_eq_true rfl) ⟨(Nat.le_of_ble_eq_true rfl), (Nat.le_of_ble_eq_true rfl)⟩ ⟨(Nat.le_of_ble_eq_true rfl), (Nat.le_of_ble_eq_true rfl)⟩ dL_law_9 ?_
  rintro ws' ⟨a, ha0, rfl⟩
  subst ha0
  refine x_astore_n C dL_law_12 rfl (by decide) ?_
  refine x_new C (ci := 3) (fs := [.int 0, .int 0, .int 0, .null, .null, .null, .null, .null, .null, .null, .null, .null, .int 0, .int 0, .int 0, .int 0, .int 0, .int 0, .int 0, .int 0, .null, .null]) 0 ku_X3 tyX3 tyX3_ok kl_L_85 kq_X3 kn_X3 rfl (fun j hj => by rcases (show j = 0 ∨ j = 1 ∨ j = 2 ∨ j = 3 ∨ j = 4 ∨ j = 5 ∨ j = 6 ∨ j = 7 ∨ j = 8 ∨ j = 9 ∨ j = 10 ∨ j = 11 ∨ j = 12 ∨ j = 13 ∨ j = 14 ∨ j = 15 ∨ j = 16 ∨ j = 17 ∨ j = 18 ∨ j = 19 ∨ j = 20 ∨ j = 21 by omega) with rfl | rfl | rfl | rfl | rfl | rfl | rfl | rfl | rfl | rfl | rfl | rfl | rfl | rfl | rfl | rfl | rfl | rfl | rfl | rfl | rfl | rfl <;> rfl) (Nat.le_of_ble_eq_true rfl) (Nat.le_of_ble_eq_true rfl) dL_law_13 (fun q1 => ?_)
  refine x_dup C dL_law_16 rfl ?_
  refine x_aload_n C dL_law_17 rfl rfl ?_
  refine x_iconst C (v := 0) dL_law_18 (by decide) ?_
  refine x_callC C hX hbl hbA hL gs_L_77 rfl (Nat.le_of_ble_eq_true rfl) ⟨(Nat.le_of_ble_eq_true rfl), (Nat.le_of_ble_eq_true rfl)⟩ ⟨(Nat.le_of_ble_eq_true rfl), (Nat.le_of_ble_eq_true rfl)⟩ dL_law_19 ?_
  refine x_callN C gi_L_87 ki_L_87 rfl (n_X3_init (cI := cI) (cZ := cZ) (Y := wA cI cZ a g 0 (wo_fill (fun _ => 0) (-1000000) 72) (wo_fill (fun _ => 0) (-1000000) 72) (wo_fill (fun _ => 0) 0 72) (wo_fill (fun _ => 0) (-1000000) 72) (if (lu_A g 1 (fun _ => 0) (wo_ff (fun _ => false) (fun _ => false) 12) (wo_ff (fun _ => false) (fun _ => false) 12) (wo_ff (fun _ => 0) (fun _ => 0) 12)).2 = 0 then 7 else 1) ((lu_A g 1 (fun _ => 0) (wo_ff (fun _ => false) (fun _ => false) 12) (wo_ff (fun _ => false) (fun _ => false) 12) (wo_ff (fun _ => 0) (fun _ => 0) 12)).1) ((lu_A g 1 (fun _ => 0) (wo_ff (fun _ => false) (fun _ => false) 12) (wo_ff (fun _ => false) (fun _ => false) 12) (wo_ff (fun _ => 0) (fun _ => 0) 12)).2) 0 (wo_ff (fun _ => false) (fun _ => false) 12) 0 (wo_ff (fun _ => false) (fun _ => false) 12) (wo_ff (fun _ => 0) (fun _ => 0) 12) true (-1000000) 0 (-1000000) ++ []) (cl_ L xs) q1 (fun b o1 o2 => wB cI cZ b 0 g (if (lu_A g 1 (fun _ => 0) (wo_ff (fun _ => false) (fun _ => false) 12) (wo_ff (fun _ => false) (fun _ => false) 12) (wo_ff (fun _ => 0) (fun _ => 0) 12)).2 = 0 then 7 else 1) (wo_fill (fun _ => 0) 0 84) (fun _ => 0) (wo_ff (fun _ => false) (fun _ => false) 84) (fun _ => 0) (wo_ff (fun _ => false) (fun _ => false) 84) (wo_ff (fun _ => 0) (fun _ => 0) 12) (wo_ff (fun _ => false) (fun _ => false) 12) (kp_E (wo_fill (fun _ => 0) 0 84) (fun _ => 0) g 0 (wo_ff (fun _ => false) (fun _ => true) 12)) ((od_E (wo_fill (fun _ => 0) 0 84) (fun _ => 0) g 0 (wo_ff (fun _ => false) (fun _ => true) 12) (fun _ => 0) 0).1) ((od_E (wo_fill (fun _ => 0) 0 84) (fun _ => 0) g 0 (wo_ff (fun _ => false) (fun _ => true) 12) (fun _ => 0) 0).2) (nI (tn_E (wo_fill (fun _ => 0) 0 84) (fun _ => 0) g 0 (wo_ff (fun _ => false) (fun _ => true) 12) (wo_ff (fun _ => false) (fun _ => false) 12) (fun _ => 0) 0)) true false 0 0 false 0 o1 o2 ++ (wA cI cZ a g 0 (wo_fill (fun _ => 0) (-1000000) 72) (wo_fill (fun _ => 0) (-1000000) 72) (wo_fill (fun _ => 0) 0 72) (wo_fill (fun _ => 0) (-1000000) 72) (if (lu_A g 1 (fun _ => 0) (wo_ff (fun _ => false) (fun _ => false) 12) (wo_ff (fun _ => false) (fun _ => false) 12) (wo_ff (fun _ => 0) (fun _ => 0) 12)).2 = 0 then 7 else 1) ((lu_A g 1 (fun _ => 0) (wo_ff (fun _ => false) (fun _ => false) 12) (wo_ff (fun _ => false) (fun _ => false) 12) (wo_ff (fun _ => 0) (fun _ => 0) 12)).1) ((lu_A g 1 (fun _ => 0) (wo_ff (fun _ => false) (fun _ => false) 12) (wo_ff (fun _ => false) (fun _ => false) 12) (wo_ff (fun _ => 0) (fun _ => 0) 12)).2) 0 (wo_ff (fun _ => false) (fun _ => false) 12) 0 (wo_ff (fun _ => false) (fun _ => false) 12) (wo_ff (fun _ => 0) (fun _ => 0) 12) true (-1000000) 0 (-1000000) ++ [])) (fun b _ => ?_)) rfl rfl (Nat.le_of_ble_eq_true rfl) ⟨(Nat.le_of_ble_eq_true rfl), (Nat.le_of_ble_eq_true rfl)⟩ ⟨(Nat.le_of_ble_eq_true rfl), (Nat.le_of_ble_eq_true rfl)⟩ dL_law_22 ?_
  · rw [hg]
    have h2 := c_X3_begin (l := l) (D := D) (cI := cI) (cZ := cZ) (a := b) (tys := (cJ, .long) :: []) (Y := wA cI cZ a g 0 (wo_fill (fun _ => 0) (-1000000) 72) (wo_fill (fun _ => 0) (-1000000) 72) (wo_fill (fun _ => 0) 0 72) (wo_fill (fun _ => 0) (-1000000) 72) (if (lu_A g 1 (fun _ => 0) (wo_ff (fun _ => false) (fun _ => false) 12) (wo_ff (fun _ => false) (fun _ => false) 12) (wo_ff (fun _ => 0) (fun _ => 0) 12)).2 = 0 then 7 else 1) ((lu_A g 1 (fun _ => 0) (wo_ff (fun _ => false) (fun _ => false) 12) (wo_ff (fun _ => false) (fun _ => false) 12) (wo_ff (fun _ => 0) (fun _ => 0) 12)).1) ((lu_A g 1 (fun _ => 0) (wo_ff (fun _ => false) (fun _ => false) 12) (wo_ff (fun _ => false) (fun _ => false) 12) (wo_ff (fun _ => 0) (fun _ => 0) 12)).2) 0 (wo_ff (fun _ => false) (fun _ => false) 12) 0 (wo_ff (fun _ => false) (fun _ => false) 12) (wo_ff (fun _ => 0) (fun _ => 0) 12) true (-1000000) 0 (-1000000) ++ []) (co := 0) (gr := 0) (dy := 0) (kd := (fun _ => 0)) (wo := (fun _ => 0)) (me := (fun _ => false)) (ti := (fun _ => 0)) (td := (fun _ => false)) (la := (fun _ => 0)) (go := (fun _ => false)) (kp := (fun _ => false)) (od := (fun _ => 0)) (no := 0) (ax := 0) (lv := true) (rh := false) (re := 0) (rs := 0) (ph := false) (pr := 0) (o1 := fun _ => 0) (o2 := fun _ => 0) _ g (c_X3_nextDay h12 (by omega) (by omega) (fun k hk => absurd hk (by omega)))
    rw [(new_lin h12 (ln := fun _ => 0) (lf := fun _ => false) (tc := fun _ => false) (tp := fun _ => 0)).1] at h2
    exact h2
  rintro ws' ⟨b, o1, o2, hb0, rfl⟩
  subst hb0
  refine x_astore_n C dL_law_25 rfl (by decide) ?_
  refine x_iconst C (v := 1) dL_law_26 (by decide) ?_
  refine x_newa C (atype := .long) (ty := .long) (a0 := (1, .inr (.inl (fun _ => 0)))) 0 2 rfl ka_J rfl (fun h => h) (fun _ => rfl) (by decide) (by decide) (by decide) (Nat.le_of_ble_eq_true rfl) (Nat.le_of_ble_eq_true rfl) dL_law_27 (fun o => ?_)
  refine x_astore_n C dL_law_29 rfl (by decide) ?_
  refine x_iconst C (v := 1) dL_law_30 (by decide) ?_
  refine x_istore C dL_law_31 (by decide) ?_
  refine x_perm (ws2 := wA cI cZ a g 0 (wo_fill (fun _ => 0) (-1000000) 72) (wo_fill (fun _ => 0) (-1000000) 72) (wo_fill (fun _ => 0) 0 72) (wo_fill (fun _ => 0) (-1000000) 72) (if (lu_A g 1 (fun _ => 0) (wo_ff (fun _ => false) (fun _ => false) 12) (wo_ff (fun _ => false) (fun _ => false) 12) (wo_ff (fun _ => 0) (fun _ => 0) 12)).2 = 0 then 7 else 1) ((lu_A g 1 (fun _ => 0) (wo_ff (fun _ => false) (fun _ => false) 12) (wo_ff (fun _ => false) (fun _ => false) 12) (wo_ff (fun _ => 0) (fun _ => 0) 12)).1) ((lu_A g 1 (fun _ => 0) (wo_ff (fun _ => false) (fun _ => false) 12) (wo_ff (fun _ => false) (fun _ => false) 12) (wo_ff (fun _ => 0) (fun _ => 0) 12)).2) 0 (wo_ff (fun _ => false) (fun _ => false) 12) 0 (wo_ff (fun _ => false) (fun _ => false) 12) (wo_ff (fun _ => 0) (fun _ => 0) 12) true (-1000000) 0 (-1000000) ++ wo_o cJ o (fun _ => 0) :: wB cI cZ b 0 g (if (lu_A g 1 (fun _ => 0) (wo_ff (fun _ => false) (fun _ => false) 12) (wo_ff (fun _ => false) (fun _ => false) 12) (wo_ff (fun _ => 0) (fun _ => 0) 12)).2 = 0 then 7 else 1) (wo_fill (fun _ => 0) 0 84) (fun _ => 0) (wo_ff (fun _ => false) (fun _ => false) 84) (fun _ => 0) (wo_ff (fun _ => false) (fun _ => false) 84) (wo_ff (fun _ => 0) (fun _ => 0) 12) (wo_ff (fun _ => false) (fun _ => false) 12) (kp_E (wo_fill (fun _ => 0) 0 84) (fun _ => 0) g 0 (wo_ff (fun _ => false) (fun _ => true) 12)) ((od_E (wo_fill (fun _ => 0) 0 84) (fun _ => 0) g 0 (wo_ff (fun _ => false) (fun _ => true) 12) (fun _ => 0) 0).1) ((od_E (wo_fill (fun _ => 0) 0 84) (fun _ => 0) g 0 (wo_ff (fun _ => false) (fun _ => true) 12) (fun _ => 0) 0).2) (nI (tn_E (wo_fill (fun _ => 0) 0 84) (fun _ => 0) g 0 (wo_ff (fun _ => false) (fun _ => true) 12) (wo_ff (fun _ => false) (fun _ => false) 12) (fun _ => 0) 0)) true false 0 0 false 0 o1 o2) ?_ ?_
  · rw [List.append_nil]
    exact List.perm_append_comm (l₁ := wo_o cJ o (fun _ => 0) :: wB cI cZ b 0 g (if (lu_A g 1 (fun _ => 0) (wo_ff (fun _ => false) (fun _ => false) 12) (wo_ff (fun _ => false) (fun _ => false) 12) (wo_ff (fun _ => 0) (fun _ => 0) 12)).2 = 0 then 7 else 1) (wo_fill (fun _ => 0) 0 84) (fun _ => 0) (wo_ff (fun _ => false) (fun _ => false) 84) (fun _ => 0) (wo_ff (fun _ => false) (fun _ => false) 84) (wo_ff (fun _ => 0) (fun _ => 0) 12) (wo_ff (fun _ => false) (fun _ => false) 12) (kp_E (wo_fill (fun _ => 0) 0 84) (fun _ => 0) g 0 (wo_ff (fun _ => false) (fun _ => true) 12)) ((od_E (wo_fill (fun _ => 0) 0 84) (fun _ => 0) g 0 (wo_ff (fun _ => false) (fun _ => true) 12) (fun _ => 0) 0).1) ((od_E (wo_fill (fun _ => 0) 0 84) (fun _ => 0) g 0 (wo_ff (fun _ => false) (fun _ => true) 12) (fun _ => 0) 0).2) (nI (tn_E (wo_fill (fun _ => 0) 0 84) (fun _ => 0) g 0 (wo_ff (fun _ => false) (fun _ => true) 12) (wo_ff (fun _ => false) (fun _ => false) 12) (fun _ => 0) 0)) true false 0 0 false 0 o1 o2) (l₂ := wA cI cZ a g 0 (wo_fill (fun _ => 0) (-1000000) 72) (wo_fill (fun _ => 0) (-1000000) 72) (wo_fill (fun _ => 0) 0 72) (wo_fill (fun _ => 0) (-1000000) 72) (if (lu_A g 1 (fun _ => 0) (wo_ff (fun _ => false) (fun _ => false) 12) (wo_ff (fun _ => false) (fun _ => false) 12) (wo_ff (fun _ => 0) (fun _ => 0) 12)).2 = 0 then 7 else 1) ((lu_A g 1 (fun _ => 0) (wo_ff (fun _ => false) (fun _ => false) 12) (wo_ff (fun _ => false) (fun _ => false) 12) (wo_ff (fun _ => 0) (fun _ => 0) 12)).1) ((lu_A g 1 (fun _ => 0) (wo_ff (fun _ => false) (fun _ => false) 12) (wo_ff (fun _ => false) (fun _ => false) 12) (wo_ff (fun _ => 0) (fun _ => 0) 12)).2) 0 (wo_ff (fun _ => false) (fun _ => false) 12) 0 (wo_ff (fun _ => false) (fun _ => false) 12) (wo_ff (fun _ => 0) (fun _ => 0) 12) true (-1000000) 0 (-1000000))
  exact law_loop C hXT hX hbl hl hL 512 1 _ _ 0 _ _ _ _ _ (by omega) (by omega) (by omega) (by omega) (by omega) (new_rel h3 h12 ⟨rfl, fun z => absurd z (by decide), rfl⟩ ⟨rfl, fun z => absurd z (by decide)⟩)
