/-! ===== the law: its script, its own method cell, its end ===== -/
section LWR
variable {p : Program} {l : Launch} {e : Env} {R : Room} {s : State} {m : MethodId} {args : Array Value} {below : List Frame} {meth : Method} {c : Code} {A : Nat → Prop} {D : va_G} {cells slots nL : Nat} {Q : State → Prop} {cc : ByteArray} {own : String} {tys : List (ClassId × FieldType)} {rt : Option FieldType}
variable {pc : Nat} {ls : List (Option Value)} {st : List Value} {ws : va_W}
theorem x_slen (C : wo_C p s m args meth c A D cc nL own tys rt) {b L : Nat} {xs : Nat → Int32} (hX : va_X b L xs s s.heap) (hbl : b < s.heap.size) (hbA : ¬ A b) (dg : decode cc pc = .ok (.arraylength, 1)) (kk : wo_W p l e R s m args below meth c A D cells slots nL Q (pc + 1) ls (.int (nI L) :: st) ws) : wo_W p l e R s m args below meth c A D cells slots nL Q pc ls (.ref b :: st) ws := fun H locs hP hD hS lv hl => va_slen C.1 C.2.1 hX hbl hbA hS dg (kk H locs hP hD hS lv hl)
theorem x_sld (C : wo_C p s m args meth c A D cc nL own tys rt) {b L : Nat} {xs : Nat → Int32} (hX : va_X b L xs s s.heap) (hbl : b < s.heap.size) (hbA : ¬ A b) {x : Int32} (i : Nat) (hx : x = nI i) (hi : i < L) (hL : L ≤ 2049) (dg : decode cc pc = .ok (.iaload, 1)) (kk : wo_W p l e R s m args below meth c A D cells slots nL Q (pc + 1) ls (.int (xs i) :: st) ws) : wo_W p l e R s m args below meth c A D cells slots nL Q pc ls (.int x :: .ref b :: st) ws := by
  subst hx
  intro H locs hP hD hS lv hl
  refine va_sld C.1 C.2.1 hX hbl hbA hS (vp_in_nI hi (by omega)) dg ?_
  rw [nI_clamp (by omega)]
  exact kk H locs hP hD hS lv hl
def wo_preX (D : va_G) (tys : List (ClassId × FieldType)) (ws : va_W) (sz b L : Nat) (xs : Nat → Int32) : State → Prop := fun U => wo_pre D tys ws sz U ∧ va_X b L xs U U.heap ∧ b < U.heap.size ∧ ¬ va_A ws sz b
/-- the first int of the script, or 0 -/
def cl_ (L : Nat) (xs : Nat → Int32) : Int32 := if 0 < L then xs 0 else 0
set_option maxRecDepth 100000 in
set_option maxHeartbeats 4000000 in
theorem c_L_cell {b L : Nat} {xs : Nat → Int32} (hL : L ≤ 2049) (sz : Nat) : Met l yL_cell (.code yL_cell cL_cell 2 (some .int) :: wo_BG) (wo_rm 0) (va_Pc [.ref b, .int 0] (wo_preX D tys ws sz b L xs)) (wo_Q D tys (some (.int (cl_ L xs))) ws (va_A ws sz)) 0 0 (va_A ws sz) := by
  refine Met.ofW (cc := cL_cell) (maxL := 2) (ret := some .int) (by decide) rfl ?_
  intro p e s m args below meth c s₁ B hml hv
  obtain ⟨rfl, ⟨hsz, hP, hK, hD0⟩, hX, hbl, hbA⟩ := hv
  subst hsz
  have hts := atoms_spec (ws := .code yL_cell cL_cell 2 (some .int) :: wo_BG) B.pre
  have hown : s.vm.findClass yL_cell.cls = some m.cls := findClass_of_methodNamed B.named
  have hl := lv_entry [.ref b, .int 0] (n := 2) (Nat.le_of_ble_eq_true rfl)
  rw [lg_entry_eq]
  have C : wo_C p s m ([.ref b, .int 0] : List Value).toArray meth c (va_A ws s.heap.size) D cL_cell 2 yL_cell.cls tys (some .int) := ⟨B.exec, B.bytes, hml, hown, fun w h => hts w (List.mem_cons_of_mem _ h), hK, fun q h => Or.inr h, B.notSynchronized, B.returns⟩
  have K : wo_W p l e (wo_rm 0) s m ([.ref b, .int 0] : List Value).toArray below meth c (va_A ws s.heap.size) D 0 0 2 (MQ below (wo_Q D tys (some (.int (cl_ L xs))) ws (va_A ws s.heap.size)) ([.ref b, .int 0] : List Value).toArray s 0 0 (va_A ws s.heap.size)) 0 [some (.ref b), some (.int 0)] [] ws := by
    refine x_iload_n C dL_cell_0 rfl rfl ?_
    refine x_aload_n C dL_cell_1 rfl rfl ?_
    refine x_slen C hX hbl hbA dL_cell_2 ?_
    refine x_icmp_ge C (tgt := 12) dL_cell_3 (by decide) (fun h => ?_) (fun h => ?_)
    · refine x_iconst C (v := 0) dL_cell_12 (by decide) ?_
      have h0 : L ≤ 0 := wo_le (a := L) (b := 0) (by omega) (by omega) h
      exact x_iret C dL_cell_13 (by unfold cl_; rw [if_neg (by omega)]) rfl
    · refine x_aload_n C dL_cell_6 rfl rfl ?_
      refine x_iload_n C dL_cell_7 rfl rfl ?_
      have h0 : 0 < L := Nat.pos_of_ne_zero (fun z => h (by subst z; exact nI_le (a := 0) (b := 0) (Nat.le_refl 0) (by omega)))
      refine x_sld C hX hbl hbA 0 rfl h0 hL dL_cell_8 ?_
      refine x_goto C (tgt := 13) dL_cell_9 (by decide) ?_
      exact x_iret C dL_cell_13 (by unfold cl_; rw [if_pos h0]) rfl
  exact K s.heap [] hP hD0.self va_S.rf _ hl
theorem x_callC (C : wo_C p s m args meth c A D cc nL own tys rt) {b L : Nat} {xs : Nat → Int32} (hX : va_X b L xs s s.heap) (hbl : b < s.heap.size) (hbA : ¬ A b) (hL : L ≤ 2049) {idx : Nat} {rest : List Value} (G : wo_GS own idx yL_cell cL_cell 2 (some .int) 2) (hst : st = .int 0 :: .ref b :: rest) (hc : (rest.map fun v => v.category).sum ≤ 8) (hR : 0 + 1 ≤ R.frames ∧ 8 + (2 + 11) + 36 * 0 ≤ R.locals) (hf : cells ≤ R.cells ∧ slots ≤ R.slots) (dg : decode cc pc = .ok (.invokestatic idx, 3))
    (kk : wo_W p l e R s m args below meth c A D cells slots nL Q (pc + 3) ls (.int (cl_ L xs) :: rest) ws) : wo_W p l e R s m args below meth c A D cells slots nL Q pc ls st ws := by
  intro H locs hP hD hS lv hl
  have cb := wo_callB (R := R) (d := 0) C G.1 hR
  obtain ⟨hx, hb, hml, hown, hts, hK, hA, hlk, hr⟩ := C
  have hsub := wo_sub hD hS hA
  exact wo_back (va_runS (As := [.ref b, .int 0]) (rest := rest) (Ts := wo_BG) ⟨hx, hb, hml, hown, hts⟩ (c_L_cell (D := D) (tys := tys) (ws := ws) (b := b) (L := L) (xs := xs) hL H.size) ⟨cb, hts _ G.2⟩
    ⟨fun a U g mk q => by
      obtain ⟨q0, ⟨q1, qP, qK, qD⟩, q2, q3, q4⟩ := q
      exact ⟨q0, ⟨q1, qP, va_K.moved (u := U) (U := U.calling g mk a) (Vm.Alike.refl U.vm) qK, qD⟩, va_X.moved (u := U) (U := U.calling g mk a) (Vm.Alike.refl U.vm) q2, q3, q4⟩, fun U hU hW => ⟨rfl, ⟨by rw [hU], by rw [hU]; exact hP, va_K.moved hW.alike hK, hD.weaken (fun _ _ _ _ => trivial)⟩, by rw [hU]; exact (hX.kept (hS.2.1 b hbl hbA)).moved hW.alike, by rw [hU]; exact Nat.lt_of_lt_of_le hbl hS.1, fun z => hbA (hsub b z)⟩⟩ rfl rfl (hl.1) hst (lv_room hc) dg hf) hS hsub hl kk
end LWR
section STP
variable {l : Launch} {D : va_G} {tys : List (ClassId × FieldType)} {cI cZ cJ : ClassId} {a b : Nat → Nat} {WA WB : va_W}
theorem r_A {k : Int32} (h : RWc cI cZ a b k WA WB) : ∃ fs, ∀ Y, (WA ++ Y)[0]? = some (a 0, .inr (2, fs)) := by
  obtain ⟨gr, en, mk, tl, me, rk, dy, ln, ll, ps, lf, lc, tc, tp, lv, rp, rc, pp, kd, wo, mb, ti, td, la, go, kp, od, no, ax, rh, re, rs, ph, pr, o1, o2, rfl, rfl, hS, hlf, hlc, hR, hP, hL⟩ := h
  exact ⟨_, fun _ => rfl⟩
theorem r_B {k : Int32} (h : RWc cI cZ a b k WA WB) : ∃ fs, ∀ Y, (WB ++ Y)[0]? = some (b 0, .inr (3, fs)) := by
  obtain ⟨gr, en, mk, tl, me, rk, dy, ln, ll, ps, lf, lc, tc, tp, lv, rp, rc, pp, kd, wo, mb, ti, td, la, go, kp, od, no, ax, rh, re, rs, ph, pr, o1, o2, rfl, rfl, hS, hlf, hlc, hR, hP, hL⟩ := h
  exact ⟨_, fun _ => rfl⟩
theorem r_thrown {k : Int32} (h : RWc cI cZ a b k WA WB) : ∀ Z, wo_E l yX3_thrown cX3_thrown 1 (some .int) 0 D ((cI, .int) :: (cZ, .boolean) :: (cJ, .long) :: tys) [.ref (b 0)] (WB ++ Z) (some (.int k)) (WB ++ Z) := by
  obtain ⟨gr, en, mk, tl, me, rk, dy, ln, ll, ps, lf, lc, tc, tp, lv, rp, rc, pp, kd, wo, mb, ti, td, la, go, kp, od, no, ax, rh, re, rs, ph, pr, o1, o2, rfl, rfl, hS, hlf, hlc, hR, hP, hL⟩ := h
  exact fun _ => c_X3_thrown
theorem r_level (on : Bool) {k : Int32} (h : RWc cI cZ a b k WA WB) : ∃ (r : Bool) (WA2 WB2 : va_W), (∀ Y, wo_E l yX2_level cX2_level 3 (some .boolean) 0 D ((cI, .int) :: (cZ, .boolean) :: (cJ, .long) :: tys) [.ref (a 0), .int (bz on)] (WA ++ Y) (some (.int (bz r))) (WA2 ++ Y)) ∧ (∀ Z, wo_E l yX3_level cX3_level 3 (some .boolean) 0 D ((cI, .int) :: (cZ, .boolean) :: (cJ, .long) :: tys) [.ref (b 0), .int (bz on)] (WB ++ Z) (some (.int (bz r))) (WB2 ++ Z)) ∧ RWc cI cZ a b 0 WA2 WB2 := by
  obtain ⟨gr, en, mk, tl, me, rk, dy, ln, ll, ps, lf, lc, tc, tp, lv, rp, rc, pp, kd, wo, mb, ti, td, la, go, kp, od, no, ax, rh, re, rs, ph, pr, o1, o2, rfl, rfl, hS, hlf, hlc, hR, hP, hL⟩ := h
  exact ⟨_, _, _, fun _ => c_X2_level on, fun _ => c_X3_level on, ⟨_, _, _, _, _, _, _, _, _, _, _, _, _, _, _, _, _, _, _, _, _, _, _, _, _, _, _, _, _, _, _, _, _, _, _, _, rfl, rfl, hS, hlf, hlc, hR, hP, hL⟩⟩
theorem r_turn {k : Int32} (h : RWc cI cZ a b k WA WB) : ∃ (r : Int32) (WB2 : va_W), (∀ Y, wo_E l yX2_turn cX2_turn 1 (some .int) 1 D ((cI, .int) :: (cZ, .boolean) :: (cJ, .long) :: tys) [.ref (a 0)] (WA ++ Y) (some (.int r)) (WA ++ Y)) ∧ (∀ Z, wo_E l yX3_turn cX3_turn 1 (some .int) 0 D ((cI, .int) :: (cZ, .boolean) :: (cJ, .long) :: tys) [.ref (b 0)] (WB ++ Z) (some (.int r)) (WB2 ++ Z)) ∧ RWc cI cZ a b 0 WA WB2 := by
  obtain ⟨gr, en, mk, tl, me, rk, dy, ln, ll, ps, lf, lc, tc, tp, lv, rp, rc, pp, kd, wo, mb, ti, td, la, go, kp, od, no, ax, rh, re, rs, ph, pr, o1, o2, rfl, rfl, hS, hlf, hlc, hR, hP, hL⟩ := h
  have hLk := hL
  obtain ⟨hll, hp12, hno, hod, hday⟩ := hL
  rcases hday with ⟨hd7, hl0⟩ | ⟨h1, h6, t, hax, hps, ht, hln, heq, hr⟩
  · refine ⟨-1000000, wB cI cZ b 0 gr dy kd wo mb ti td la go kp od no ax lv rh re rs ph pr o1 o2, fun Y => ?_, fun Y => ?_, ⟨_, _, _, _, _, _, _, _, _, _, _, _, _, _, _, _, _, _, _, _, _, _, _, _, _, _, _, _, _, _, _, _, _, _, _, _, rfl, rfl, hS, hlf, hlc, hR, hP, hLk⟩⟩
    · have h2 := c_X2_turn (Y := Y) (l := l) (D := D) (tys := (cJ, .long) :: tys) (cI := cI) (cZ := cZ) (a := a) (gr := gr) (en := en) (mk := mk) (tl := tl) (me := me) (rk := rk) (dy := dy) (ln := ln) (lf := lf) (lc := lc) (tc := tc) (tp := tp) (lv := lv) (rp := rp) (rc := rc) (pp := pp) hp12 hll
      rw [if_neg (show ¬ ps < ll by omega)] at h2
      exact h2
    · have h2 := c_X3_turn (Y := Y) (l := l) (D := D) (tys := (cJ, .long) :: tys) (cI := cI) (cZ := cZ) (a := b) (co := k) (gr := gr) (dy := dy) (kd := kd) (wo := wo) (me := mb) (ti := ti) (td := td) (la := la) (go := go) (kp := kp) (od := od) (no := no) (ax := ax) (lv := lv) (rh := rh) (re := re) (rs := rs) (ph := ph) (pr := pr) (o1 := o1) (o2 := o2) 0 (by omega) (fun z => absurd hd7 z)
      rw [if_pos hd7] at h2
      exact h2
  · refine ⟨nI (od t), wB cI cZ b 0 gr dy kd wo mb ti td la go kp od no ax lv rh re rs ph pr o1 o2, fun Y => ?_, fun Y => ?_, ⟨_, _, _, _, _, _, _, _, _, _, _, _, _, _, _, _, _, _, _, _, _, _, _, _, _, _, _, _, _, _, _, _, _, _, _, _, rfl, rfl, hS, hlf, hlc, hR, hP, hLk⟩⟩
    · have h2 := c_X2_turn (Y := Y) (l := l) (D := D) (tys := (cJ, .long) :: tys) (cI := cI) (cZ := cZ) (a := a) (gr := gr) (en := en) (mk := mk) (tl := tl) (me := me) (rk := rk) (dy := dy) (ln := ln) (lf := lf) (lc := lc) (tc := tc) (tp := tp) (lv := lv) (rp := rp) (rc := rc) (pp := pp) hp12 hll
      rw [if_pos hps, heq] at h2
      exact h2
    · have h2 := c_X3_turn (Y := Y) (l := l) (D := D) (tys := (cJ, .long) :: tys) (cI := cI) (cZ := cZ) (a := b) (co := k) (gr := gr) (dy := dy) (kd := kd) (wo := wo) (me := mb) (ti := ti) (td := td) (la := la) (go := go) (kp := kp) (od := od) (no := no) (ax := ax) (lv := lv) (rh := rh) (re := re) (rs := rs) (ph := ph) (pr := pr) (o1 := o1) (o2 := o2) t (by omega) (fun _ => ⟨hax, by omega⟩)
      rw [if_neg (show ¬ dy = 7 by omega)] at h2
      exact h2
theorem r_day {k : Int32} (h : RWc cI cZ a b k WA WB) : ∃ (r : Int32) (WB2 : va_W), (∀ Y, wo_E l yX2_day cX2_day 1 (some .int) 1 D ((cI, .int) :: (cZ, .boolean) :: (cJ, .long) :: tys) [.ref (a 0)] (WA ++ Y) (some (.int r)) (WA ++ Y)) ∧ (∀ Z, wo_E l yX3_day cX3_day 1 (some .int) 0 D ((cI, .int) :: (cZ, .boolean) :: (cJ, .long) :: tys) [.ref (b 0)] (WB ++ Z) (some (.int r)) (WB2 ++ Z)) ∧ RWc cI cZ a b 0 WA WB2 := by
  obtain ⟨gr, en, mk, tl, me, rk, dy, ln, ll, ps, lf, lc, tc, tp, lv, rp, rc, pp, kd, wo, mb, ti, td, la, go, kp, od, no, ax, rh, re, rs, ph, pr, o1, o2, rfl, rfl, hS, hlf, hlc, hR, hP, hL⟩ := h
  exact ⟨_, _, fun _ => c_X2_day, fun _ => c_X3_day, ⟨_, _, _, _, _, _, _, _, _, _, _, _, _, _, _, _, _, _, _, _, _, _, _, _, _, _, _, _, _, _, _, _, _, _, _, _, rfl, rfl, hS, hlf, hlc, hR, hP, hL⟩⟩
end STP
theorem w_perm {o : Nat × va_E} {X Z : va_W} : (X ++ o :: Z).Perm (Z ++ (X ++ [o])) := by
  have h : X ++ o :: Z = (X ++ [o]) ++ Z := by rw [List.append_assoc]; rfl
  rw [h]
  exact List.perm_append_comm
theorem w_at {o : Nat × va_E} {X Z : va_W} : (X ++ o :: Z)[X.length]? = some o := by
  rw [List.getElem?_append_right (Nat.le_refl _), Nat.sub_self]; rfl
theorem cmp_eq {x y : Int64} (h : x = y) : lg_cmp x y = 0 := by
  subst h
  unfold lg_cmp
  simp
theorem law_go {i L : Nat} (h1 : 1 ≤ i) (hi : i ≤ 2053) (hL : L ≤ 2049) (h : ¬ nI L - 4 < nI i) : i + 4 ≤ L := by
  have e1 : (nI L - 4).toInt = (L : Int) - 4 := pk_sub_toInt (a := L) (b := 4) (by omega) (by omega)
  have e2 : (nI i).toInt = (i : Int) := nI_toInt (by omega)
  have h2 : ¬ (nI L - 4).toInt < (nI i).toInt := fun z => h (Int32.lt_iff_toInt_lt.mpr z)
  rw [e1, e2] at h2
  omega
