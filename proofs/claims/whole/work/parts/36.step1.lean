/-! ===== the relation at the worlds; a call on both sides ===== -/
def RWc (cI cZ : ClassId) (a b : Nat → Nat) (k : Int32) (WA WB : va_W) : Prop := ∃ (gr : Nat) (en : Nat) (mk : Nat → Int32) (tl : Nat → Int32) (me : Nat → Int32) (rk : Nat → Int32) (dy : Nat) (ln : Nat → Nat) (ll : Nat) (ps : Nat) (lf : Nat → Bool) (lc : Nat) (tc : Nat → Bool) (tp : Nat → Nat) (lv : Bool) (rp : Int32) (rc : Int32) (pp : Int32) (kd : Nat → Int32) (wo : Nat → Int32) (mb : Nat → Bool) (ti : Nat → Int32) (td : Nat → Bool) (la : Nat → Nat) (go : Nat → Bool) (kp : Nat → Bool) (od : Nat → Nat) (no : Nat) (ax : Int32) (rh : Bool) (re : Int32) (rs : Int32) (ph : Bool) (pr : Int32) (o1 : Nat → Int32) (o2 : Nat → Int32), WA = wA cI cZ a gr en mk tl me rk dy ln ll ps lf lc tc tp lv rp rc pp ∧ WB = wB cI cZ b k gr dy kd wo mb ti td la go kp od no ax lv rh re rs ph pr o1 o2 ∧ ShtR gr en mk tl me rk kd wo mb ti td la ∧ (∀ w, w < 12 → lf w = go w) ∧ lc = wo_cnt go gr ∧ RecR rp rc rh re rs ∧ PrzR pp ph pr ∧ LinR gr dy ln ll ps lf tc tp od no ax kp go kd
theorem wo_E.toS {l : Launch} {y : MethodName} {cd : ByteArray} {n : Nat} {ret : Option FieldType} {d : Nat} {D : va_G} {tys : List (ClassId × FieldType)} {As : List Value} {ws : va_W} {r : Option Value} {W2 : wo_sw} (o1 o2 : Nat → Int32) (h : wo_E l y cd n ret d D tys As ws r (W2 o1 o2)) : wo_S l y cd n ret d D tys As ws r W2 := by
  intro sz
  have h1 := h sz
  intro p e ha hc hk s m args below hf hP hPc ht
  obtain ⟨kk, o, g1, g2, g3, ⟨⟨q1, q2, q3, q4⟩, q5⟩, g5⟩ := h1 p e ha hc hk s m args below hf hP hPc ht
  exact ⟨kk, o, g1, g2, g3, ⟨⟨q1, o1, o2, q2, q3, q4⟩, q5⟩, g5⟩
abbrev wo_o (cJ : ClassId) (o : Nat) (f : Nat → Int64) : Nat × va_E := (o, .inl (cJ, 1, .inr (.inl f)))
theorem inB_nat {x lo hi : Int32} {m n : Nat} (hlo : lo = nI m) (hhi : hi = nI n) (hn : n < 2147483648) (hm : m < 2147483648) (h : in_B x lo hi = true) : ∃ j, m ≤ j ∧ j ≤ n ∧ x = nI j := by
  subst hlo; subst hhi
  obtain ⟨h1, h2⟩ := inB_t h
  have h0 : ¬ x < 0 := Int32.not_lt.mpr (Int32.le_trans (nI_pos' (by omega)) h1)
  obtain ⟨j, hj, rfl⟩ := nI_of h0
  exact ⟨j, wo_le (by omega) (by omega) h1, wo_le (by omega) (by omega) h2, rfl⟩
theorem and_t {x y : Bool} (h : (x && y) = true) : x = true ∧ y = true := by cases x <;> cases y <;> first | exact ⟨rfl, rfl⟩ | exact absurd h (by decide)
theorem updL_0 (f : Nat → Int64) (v : Int64) : vp_updL f 0 v 0 = v := pk_uLs
theorem wt_eq {mk tl me kd wo : Nat → Int32} {mb : Nat → Bool} {ti : Nat → Int32} {td : Nat → Bool} {i j : Nat} (h : r_cell mk tl me kd wo mb ti td i j) : mk i = wt_B kd wo j := by
  unfold wt_B
  rcases h.1 with ⟨a, b⟩ | ⟨a, b, c⟩ | ⟨a, b⟩ | ⟨a, b⟩
  · rw [a, b, if_neg (by decide), if_neg (by decide), if_neg (by decide)]
  · rw [b, if_pos a]
  · rw [a, b, if_neg (by decide), if_pos rfl]
  · rw [a, b, if_neg (by decide), if_neg (by decide), if_pos rfl]
theorem bs_eq {rk kd wo : Nat → Int32} {w : Nat} (h : row_ok rk kd wo w) : rk (w * 6) = bs_B kd wo w := by
  have e := row_at h (k := 0) (by omega)
  rw [Nat.add_zero] at e
  rw [e]; rfl
section STP
variable {l : Launch} {D : va_G} {tys : List (ClassId × FieldType)} {cI cZ cJ : ClassId} {a b : Nat → Nat} {WA WB : va_W}
set_option maxRecDepth 100000 in
set_option maxHeartbeats 4000000 in
theorem s_weight (hl : l.stackTraces = false) (x1 : Int32) (x2 : Int32) (o : Nat) (f : Nat → Int64) {k0 : Int32} (h : RWc cI cZ a b k0 WA WB) : ∃ (k : Int32) (r : Int32) (mc ms : Nat) (WA2 : va_W) (WB2 : wo_sw) (f2 : Nat → Int64), mc ≤ 1 ∧ ms ≤ 6 ∧ (∀ Y, wo_L l yL_weight cL_weight 5 [(0, 10, 13, 13)] 8 mc ms D ((cI, .int) :: (cZ, .boolean) :: (cJ, .long) :: tys) [.ref (a 0), .int x1, .int x2, .ref o] (WA ++ wo_o cJ o f :: Y) (some (.int k)) (WA2 ++ wo_o cJ o f2 :: Y)) ∧ (∀ Z, wo_S l yX3_weight cX3_weight 4 (some .int) 2 D ((cI, .int) :: (cZ, .boolean) :: (cJ, .long) :: tys) [.ref (b 0), .int x1, .int x2] (WB ++ Z) (some (.int r)) (fun o1 o2 => WB2 o1 o2 ++ Z)) ∧ (k = 0 → f2 0 = r.toInt64) ∧ ∀ o1 o2, RWc cI cZ a b k WA2 (WB2 o1 o2) := by
  obtain ⟨gr, en, mk, tl, me, rk, dy, ln, ll, ps, lf, lc, tc, tp, lv, rp, rc, pp, kd, wo, mb, ti, td, la, go, kp, od, no, ax, rh, re, rs, ph, pr, o1, o2, rfl, rfl, hS, hlf, hlc, hR, hP, hL⟩ := h
  have hg2 : gr ≤ 12 := hS.2.1
  have hg1 : 1 ≤ gr := by have := hS.1; omega
  cases hin : (in_B x1 0 (nI (gr - 1)) && in_B x2 1 6) with
  | false => exact ⟨1, 0, 1, 6, _, fun o1 o2 => wB cI cZ b 1 gr dy kd wo mb ti td la go kp od no ax lv rh re rs ph pr o1 o2, f, Nat.le_refl _, Nat.le_refl _, fun Y => w_weight_t1 x1 x2 rfl (t_X2_weight hl x1 x2 hg1 hg2 hin), fun Z => wo_E.toS o1 o2 (c_X3_weight_1 x1 x2 hg1 hin), fun z => absurd z (by decide), fun o1 o2 => ⟨_, _, _, _, _, _, _, _, _, _, _, _, _, _, _, _, _, _, _, _, _, _, _, _, _, _, _, _, _, _, _, _, _, _, _, _, rfl, rfl, hS, hlf, hlc, hR, hP, hL⟩⟩
  | true =>
    obtain ⟨hi1, hi2⟩ := and_t hin
    obtain ⟨w, hw, rfl⟩ := wo_in0 hg1 hg2 hi1
    obtain ⟨d, h1, h6, rfl⟩ := inB_nat (m := 1) (n := 6) rfl rfl (by omega) (by omega) hi2
    exact ⟨0, (wt_B kd wo (7 * w + d)), 0, 0, _, fun o1 o2 => wB cI cZ b 0 gr dy kd wo mb ti td la go kp od no ax lv rh re rs ph pr o1 o2, _, Nat.zero_le _, Nat.zero_le _, fun Y => w_weight (nI w) (nI d) (mk (w * 6 + d - 1)) rfl rfl (c_X2_weight w d hg2 hw h1 h6), fun Z => wo_E.toS o1 o2 (c_X3_weight w d hg1 hg2 hw h1 h6), fun _ => by rw [updL_0, wt_eq (hS.2.2.1 w d (by omega) h1 h6)], fun o1 o2 => ⟨_, _, _, _, _, _, _, _, _, _, _, _, _, _, _, _, _, _, _, _, _, _, _, _, _, _, _, _, _, _, _, _, _, _, _, _, rfl, rfl, hS, hlf, hlc, hR, hP, hL⟩⟩
set_option maxRecDepth 100000 in
set_option maxHeartbeats 4000000 in
theorem s_tilt (hl : l.stackTraces = false) (x1 : Int32) (x2 : Int32) (o : Nat) (f : Nat → Int64) {k0 : Int32} (h : RWc cI cZ a b k0 WA WB) : ∃ (k : Int32) (r : Int32) (mc ms : Nat) (WA2 : va_W) (WB2 : wo_sw) (f2 : Nat → Int64), mc ≤ 1 ∧ ms ≤ 6 ∧ (∀ Y, wo_L l yL_tilt cL_tilt 5 [(0, 10, 13, 13)] 8 mc ms D ((cI, .int) :: (cZ, .boolean) :: (cJ, .long) :: tys) [.ref (a 0), .int x1, .int x2, .ref o] (WA ++ wo_o cJ o f :: Y) (some (.int k)) (WA2 ++ wo_o cJ o f2 :: Y)) ∧ (∀ Z, wo_S l yX3_tilt cX3_tilt 3 (some .int) 2 D ((cI, .int) :: (cZ, .boolean) :: (cJ, .long) :: tys) [.ref (b 0), .int x1, .int x2] (WB ++ Z) (some (.int r)) (fun o1 o2 => WB2 o1 o2 ++ Z)) ∧ (k = 0 → f2 0 = r.toInt64) ∧ ∀ o1 o2, RWc cI cZ a b k WA2 (WB2 o1 o2) := by
  obtain ⟨gr, en, mk, tl, me, rk, dy, ln, ll, ps, lf, lc, tc, tp, lv, rp, rc, pp, kd, wo, mb, ti, td, la, go, kp, od, no, ax, rh, re, rs, ph, pr, o1, o2, rfl, rfl, hS, hlf, hlc, hR, hP, hL⟩ := h
  have hg2 : gr ≤ 12 := hS.2.1
  have hg1 : 1 ≤ gr := by have := hS.1; omega
  cases hin : (in_B x1 0 (nI (gr - 1)) && in_B x2 1 6) with
  | false => exact ⟨1, 0, 1, 6, _, fun o1 o2 => wB cI cZ b 1 gr dy kd wo mb ti td la go kp od no ax lv rh re rs ph pr o1 o2, f, Nat.le_refl _, Nat.le_refl _, fun Y => w_tilt_t1 x1 x2 rfl (t_X2_tilt hl x1 x2 hg1 hg2 hin), fun Z => wo_E.toS o1 o2 (c_X3_tilt_1 x1 x2 hg1 hin), fun z => absurd z (by decide), fun o1 o2 => ⟨_, _, _, _, _, _, _, _, _, _, _, _, _, _, _, _, _, _, _, _, _, _, _, _, _, _, _, _, _, _, _, _, _, _, _, _, rfl, rfl, hS, hlf, hlc, hR, hP, hL⟩⟩
  | true =>
    obtain ⟨hi1, hi2⟩ := and_t hin
    obtain ⟨w, hw, rfl⟩ := wo_in0 hg1 hg2 hi1
    obtain ⟨d, h1, h6, rfl⟩ := inB_nat (m := 1) (n := 6) rfl rfl (by omega) (by omega) hi2
    exact ⟨0, (if td (7 * w + d) then ti (7 * w + d) else -1000000), 0, 0, _, fun o1 o2 => wB cI cZ b 0 gr dy kd wo mb ti td la go kp od no ax lv rh re rs ph pr o1 o2, _, Nat.zero_le _, Nat.zero_le _, fun Y => w_tilt (nI w) (nI d) (tl (w * 6 + d - 1)) rfl rfl (c_X2_tilt w d hg2 hw h1 h6), fun Z => wo_E.toS o1 o2 (c_X3_tilt w d hg1 hg2 hw h1 h6), fun _ => by rw [updL_0, (hS.2.2.1 w d (by omega) h1 h6).2.1], fun o1 o2 => ⟨_, _, _, _, _, _, _, _, _, _, _, _, _, _, _, _, _, _, _, _, _, _, _, _, _, _, _, _, _, _, _, _, _, _, _, _, rfl, rfl, hS, hlf, hlc, hR, hP, hL⟩⟩
set_option maxRecDepth 100000 in
set_option maxHeartbeats 4000000 in
theorem s_best (hl : l.stackTraces = false) (x1 : Int32) (o : Nat) (f : Nat → Int64) {k0 : Int32} (h : RWc cI cZ a b k0 WA WB) : ∃ (k : Int32) (r : Int32) (mc ms : Nat) (WA2 : va_W) (WB2 : wo_sw) (f2 : Nat → Int64), mc ≤ 1 ∧ ms ≤ 6 ∧ (∀ Y, wo_L l yL_best cL_best 4 [(0, 9, 12, 13)] 8 mc ms D ((cI, .int) :: (cZ, .boolean) :: (cJ, .long) :: tys) [.ref (a 0), .int x1, .ref o] (WA ++ wo_o cJ o f :: Y) (some (.int k)) (WA2 ++ wo_o cJ o f2 :: Y)) ∧ (∀ Z, wo_S l yX3_best cX3_best 2 (some .int) 1 D ((cI, .int) :: (cZ, .boolean) :: (cJ, .long) :: tys) [.ref (b 0), .int x1] (WB ++ Z) (some (.int r)) (fun o1 o2 => WB2 o1 o2 ++ Z)) ∧ (k = 0 → f2 0 = r.toInt64) ∧ ∀ o1 o2, RWc cI cZ a b k WA2 (WB2 o1 o2) := by
  obtain ⟨gr, en, mk, tl, me, rk, dy, ln, ll, ps, lf, lc, tc, tp, lv, rp, rc, pp, kd, wo, mb, ti, td, la, go, kp, od, no, ax, rh, re, rs, ph, pr, o1, o2, rfl, rfl, hS, hlf, hlc, hR, hP, hL⟩ := h
  have hg2 : gr ≤ 12 := hS.2.1
  have hg1 : 1 ≤ gr := by have := hS.1; omega
  cases hin : in_B x1 0 (nI (gr - 1)) with
  | false => exact ⟨1, 0, 1, 6, _, fun o1 o2 => wB cI cZ b 1 gr dy kd wo mb ti td la go kp od no ax lv rh re rs ph pr o1 o2, f, Nat.le_refl _, Nat.le_refl _, fun Y => w_best_t1 x1 rfl (t_X2_best hl x1 hg1 hg2 hin), fun Z => wo_E.toS o1 o2 (c_X3_best_1 x1 hg1 hin), fun z => absurd z (by decide), fun o1 o2 => ⟨_, _, _, _, _, _, _, _, _, _, _, _, _, _, _, _, _, _, _, _, _, _, _, _, _, _, _, _, _, _, _, _, _, _, _, _, rfl, rfl, hS, hlf, hlc, hR, hP, hL⟩⟩
  | true =>
    obtain ⟨w, hw, rfl⟩ := wo_in0 hg1 hg2 hin
    exact ⟨0, (bs_B kd wo w), 0, 0, _, fun o1 o2 => wB cI cZ b 0 gr dy kd wo mb ti td la go kp od no ax lv rh re rs ph pr o1 o2, _, Nat.zero_le _, Nat.zero_le _, fun Y => w_best (nI w) (rk (w * 6)) rfl rfl (c_X2_best w hg2 hw), fun Z => c_X3_best w hg1 hg2 hw, fun _ => by rw [updL_0, bs_eq (hS.2.2.2.2.2.1 w (by omega))], fun o1 o2 => ⟨_, _, _, _, _, _, _, _, _, _, _, _, _, _, _, _, _, _, _, _, _, _, _, _, _, _, _, _, _, _, _, _, _, _, _, _, rfl, rfl, hS, hlf, hlc, hR, hP, hL⟩⟩
set_option maxRecDepth 100000 in
set_option maxHeartbeats 4000000 in
theorem s_place (hl : l.stackTraces = false) (x1 : Int32) (o : Nat) (f : Nat → Int64) {k0 : Int32} (h : RWc cI cZ a b k0 WA WB) : ∃ (k : Int32) (r : Int32) (mc ms : Nat) (WA2 : va_W) (WB2 : wo_sw) (f2 : Nat → Int64), mc ≤ 1 ∧ ms ≤ 6 ∧ (∀ Y, wo_L l yL_place cL_place 4 [(0, 9, 12, 13)] 8 mc ms D ((cI, .int) :: (cZ, .boolean) :: (cJ, .long) :: tys) [.ref (a 0), .int x1, .ref o] (WA ++ wo_o cJ o f :: Y) (some (.int k)) (WA2 ++ wo_o cJ o f2 :: Y)) ∧ (∀ Z, wo_S l yX3_place cX3_place 2 (some .int) 3 D ((cI, .int) :: (cZ, .boolean) :: (cJ, .long) :: tys) [.ref (b 0), .int x1] (WB ++ Z) (some (.int r)) (fun o1 o2 => WB2 o1 o2 ++ Z)) ∧ (k = 0 → f2 0 = r.toInt64) ∧ ∀ o1 o2, RWc cI cZ a b k WA2 (WB2 o1 o2) := by
  obtain ⟨gr, en, mk, tl, me, rk, dy, ln, ll, ps, lf, lc, tc, tp, lv, rp, rc, pp, kd, wo, mb, ti, td, la, go, kp, od, no, ax, rh, re, rs, ph, pr, o1, o2, rfl, rfl, hS, hlf, hlc, hR, hP, hL⟩ := h
  have hg2 : gr ≤ 12 := hS.2.1
  have hg1 : 1 ≤ gr := by have := hS.1; omega
  cases hin : in_B x1 0 (nI (gr - 1)) with
  | false => exact ⟨1, 0, 1, 6, _, fun o1 o2 => wB cI cZ b 1 gr dy kd wo mb ti td la go kp od no ax lv rh re rs ph pr o1 o2, f, Nat.le_refl _, Nat.le_refl _, fun Y => w_place_t1 x1 rfl (t_X2_place hl x1 hg1 hg2 hin), fun Z => wo_E.toS o1 o2 (c_X3_place_1 x1 hg1 hin), fun z => absurd z (by decide), fun o1 o2 => ⟨_, _, _, _, _, _, _, _, _, _, _, _, _, _, _, _, _, _, _, _, _, _, _, _, _, _, _, _, _, _, _, _, _, _, _, _, rfl, rfl, hS, hlf, hlc, hR, hP, hL⟩⟩
  | true =>
    obtain ⟨w, hw, rfl⟩ := wo_in0 hg1 hg2 hin
    exact ⟨0, (nI (pl_B kd wo gr w)), 0, 0, _, fun o1 o2 => wB cI cZ b 0 gr dy kd wo mb ti td la go kp od no ax lv rh re rs ph pr o1 o2, _, Nat.zero_le _, Nat.zero_le _, fun Y => w_place (nI w) (nI (pl_A rk gr w)) rfl rfl (c_X2_place w hg2 hw), fun Z => c_X3_place w hg1 hg2 hw, fun _ => by rw [updL_0, pl_eq hg2 (sht_wpos hS) hS.2.2.2.2.2.1 (by omega)], fun o1 o2 => ⟨_, _, _, _, _, _, _, _, _, _, _, _, _, _, _, _, _, _, _, _, _, _, _, _, _, _, _, _, _, _, _, _, _, _, _, _, rfl, rfl, hS, hlf, hlc, hR, hP, hL⟩⟩
set_option maxRecDepth 100000 in
set_option maxHeartbeats 4000000 in
theorem s_wins (hl : l.stackTraces = false) (x1 : Int32) (o : Nat) (f : Nat → Int64) {k0 : Int32} (h : RWc cI cZ a b k0 WA WB) : ∃ (k : Int32) (r : Bool) (mc ms : Nat) (WA2 : va_W) (WB2 : wo_sw) (f2 : Nat → Int64), mc ≤ 1 ∧ ms ≤ 6 ∧ (∀ Y, wo_L l yL_wins cL_wins 4 [(0, 16, 19, 13)] 8 mc ms D ((cI, .int) :: (cZ, .boolean) :: (cJ, .long) :: tys) [.ref (a 0), .int x1, .ref o] (WA ++ wo_o cJ o f :: Y) (some (.int k)) (WA2 ++ wo_o cJ o f2 :: Y)) ∧ (∀ Z, wo_S l yX3_wins cX3_wins 2 (some .boolean) 1 D ((cI, .int) :: (cZ, .boolean) :: (cJ, .long) :: tys) [.ref (b 0), .int x1] (WB ++ Z) (some (.int (bz r))) (fun o1 o2 => WB2 o1 o2 ++ Z)) ∧ (k = 0 → f2 0 = (bz r).toInt64) ∧ ∀ o1 o2, RWc cI cZ a b k WA2 (WB2 o1 o2) := by
  obtain ⟨gr, en, mk, tl, me, rk, dy, ln, ll, ps, lf, lc, tc, tp, lv, rp, rc, pp, kd, wo, mb, ti, td, la, go, kp, od, no, ax, rh, re, rs, ph, pr, o1, o2, rfl, rfl, hS, hlf, hlc, hR, hP, hL⟩ := h
  have hg2 : gr ≤ 12 := hS.2.1
  have hg1 : 1 ≤ gr := by have := hS.1; omega
  cases hin : in_B x1 0 (nI (gr - 1)) with
  | false => exact ⟨1, false, 1, 6, _, fun o1 o2 => wB cI cZ b 1 gr dy kd wo mb ti td la go kp od no ax lv rh re rs ph pr o1 o2, f, Nat.le_refl _, Nat.le_refl _, fun Y => w_wins_t1 x1 rfl (t_X2_wins hl x1 hg1 hg2 hin), fun Z => wo_E.toS o1 o2 (c_X3_wins_1 x1 hg1 hin), fun z => absurd z (by decide), fun o1 o2 => ⟨_, _, _, _, _, _, _, _, _, _, _, _, _, _, _, _, _, _, _, _, _, _, _, _, _, _, _, _, _, _, _, _, _, _, _, _, rfl, rfl, hS, hlf, hlc, hR, hP, hL⟩⟩
  | true =>
    obtain ⟨w, hw, rfl⟩ := wo_in0 hg1 hg2 hin
    have hb0 := bs_eq (hS.2.2.2.2.2.1 w (by omega))
    have heq : decide (¬ pp = -1000000 ∧ ¬ rk (w * 6) = -1000000 ∧ pp ≤ rk (w * 6)) = (ph && decide (0 < wn_B kd wo w ∧ pr ≤ wk_B kd wo w 0)) := by
      obtain ⟨p1, p2⟩ := hP
      rw [hb0, bs_B, p1]
      cases ph with
      | false => rw [Bool.false_and]; exact decide_eq_false (fun z => z.1 rfl)
      | true =>
        rw [Bool.true_and, if_pos rfl]
        refine decide_eq_decide.mpr ⟨fun z => ?_, fun z => ⟨none_ne (p2 rfl), ?_, ?_⟩⟩
        · by_cases h7 : 0 < wn_B kd wo w
          · rw [if_pos h7] at z; exact ⟨h7, z.2.2⟩
          · rw [if_neg h7] at z; exact absurd rfl z.2.1
        · rw [if_pos z.1]; exact none_ne (wk_pos (by omega) (sht_wpos hS) z.1)
        · rw [if_pos z.1]; exact z.2
    exact ⟨0, (ph && decide (0 < wn_B kd wo w ∧ pr ≤ wk_B kd wo w 0)), 0, 0, _, fun o1 o2 => wB cI cZ b 0 gr dy kd wo mb ti td la go kp od no ax lv rh re rs ph pr o1 o2, _, Nat.zero_le _, Nat.zero_le _, fun Y => w_wins (nI w) (decide (¬ pp = -1000000 ∧ ¬ rk (w * 6) = -1000000 ∧ pp ≤ rk (w * 6))) rfl rfl (c_X2_wins w hg2 hw), fun Z => c_X3_wins w hg1 hg2 hw, fun _ => by rw [updL_0, heq], fun o1 o2 => ⟨_, _, _, _, _, _, _, _, _, _, _, _, _, _, _, _, _, _, _, _, _, _, _, _, _, _, _, _, _, _, _, _, _, _, _, _, rfl, rfl, hS, hlf, hlc, hR, hP, hL⟩⟩
set_option maxRecDepth 100000 in
set_option maxHeartbeats 4000000 in
theorem s_record (hl : l.stackTraces = false) (x1 : Int32) {k0 : Int32} (h : RWc cI cZ a b k0 WA WB) : ∃ (k : Int32) (mc ms : Nat) (WA2 : va_W) (WB2 : wo_sw), mc ≤ 1 ∧ ms ≤ 6 ∧ (∀ Y, wo_L l yL_record cL_record 3 [(0, 5, 8, 13)] 8 mc ms D ((cI, .int) :: (cZ, .boolean) :: (cJ, .long) :: tys) [.ref (a 0), .int x1] (WA ++ Y) (some (.int k)) (WA2 ++ Y)) ∧ (∀ Z, wo_S l yX3_record cX3_record 2 (none) 1 D ((cI, .int) :: (cZ, .boolean) :: (cJ, .long) :: tys) [.ref (b 0), .int x1] (WB ++ Z) none (fun o1 o2 => WB2 o1 o2 ++ Z)) ∧ ∀ o1 o2, RWc cI cZ a b k WA2 (WB2 o1 o2) := by
  obtain ⟨gr, en, mk, tl, me, rk, dy, ln, ll, ps, lf, lc, tc, tp, lv, rp, rc, pp, kd, wo, mb, ti, td, la, go, kp, od, no, ax, rh, re, rs, ph, pr, o1, o2, rfl, rfl, hS, hlf, hlc, hR, hP, hL⟩ := h
  cases hin : in_B x1 0 999 with
  | false => exact ⟨1, 1, 6, _, fun o1 o2 => wB cI cZ b 1 gr dy kd wo mb ti td la go kp od no ax lv rh re rs ph pr o1 o2, Nat.le_refl _, Nat.le_refl _, fun Y => w_record_t1 x1 rfl (t_X2_record hl x1 hin), fun Z => wo_E.toS o1 o2 (c_X3_record_1 x1 hin), fun o1 o2 => ⟨_, _, _, _, _, _, _, _, _, _, _, _, _, _, _, _, _, _, _, _, _, _, _, _, _, _, _, _, _, _, _, _, _, _, _, _, rfl, rfl, hS, hlf, hlc, hR, hP, hL⟩⟩
  | true =>
    have hpos : ¬ x1 = 0 → 0 < x1 := fun h0 => by
      rcases i32_tri 0 x1 with q | q | q
      · exact q
      · exact absurd q.symm h0
      · exact absurd (inB_t hin).1 (Int32.not_le.mpr q)
    have hNew : RecR (if x1 = 0 then -1000000 else x1) rc (decide (0 < x1)) x1 rs := ⟨by by_cases h0 : x1 = 0; (rw [if_pos h0, decide_eq_false (by rw [h0]; decide)]; rfl); (rw [if_neg h0, decide_eq_true (hpos h0)]; rfl), fun z => of_decide_eq_true z, hR.2.2⟩
    exact ⟨0, 0, 0, _, fun o1 o2 => wB cI cZ b 0 gr dy kd wo mb ti td la go kp od no ax lv (decide (0 < x1)) x1 rs ph pr o1 o2, Nat.zero_le _, Nat.zero_le _, fun Y => w_record x1 rfl (c_X2_record x1 hin), fun Z => wo_E.toS o1 o2 (c_X3_record x1 hin), fun o1 o2 => ⟨_, _, _, _, _, _, _, _, _, _, _, _, _, _, _, _, _, _, _, _, _, _, _, _, _, _, _, _, _, _, _, _, _, _, _, _, rfl, rfl, hS, hlf, hlc, hNew, hP, hL⟩⟩
set_option maxRecDepth 100000 in
set_option maxHeartbeats 4000000 in
theorem s_prize (hl : l.stackTraces = false) (x1 : Int32) {k0 : Int32} (h : RWc cI cZ a b k0 WA WB) : ∃ (k : Int32) (mc ms : Nat) (WA2 : va_W) (WB2 : wo_sw), mc ≤ 1 ∧ ms ≤ 6 ∧ (∀ Y, wo_L l yL_prize cL_prize 3 [(0, 5, 8, 13)] 8 mc ms D ((cI, .int) :: (cZ, .boolean) :: (cJ, .long) :: tys) [.ref (a 0), .int x1] (WA ++ Y) (some (.int k)) (WA2 ++ Y)) ∧ (∀ Z, wo_S l yX3_prize cX3_prize 2 (none) 1 D ((cI, .int) :: (cZ, .boolean) :: (cJ, .long) :: tys) [.ref (b 0), .int x1] (WB ++ Z) none (fun o1 o2 => WB2 o1 o2 ++ Z)) ∧ ∀ o1 o2, RWc cI cZ a b k WA2 (WB2 o1 o2) := by
  obtain ⟨gr, en, mk, tl, me, rk, dy, ln, ll, ps, lf, lc, tc, tp, lv, rp, rc, pp, kd, wo, mb, ti, td, la, go, kp, od, no, ax, rh, re, rs, ph, pr, o1, o2, rfl, rfl, hS, hlf, hlc, hR, hP, hL⟩ := h
  cases hin : in_B x1 0 999 with
  | false => exact ⟨1, 1, 6, _, fun o1 o2 => wB cI cZ b 1 gr dy kd wo mb ti td la go kp od no ax lv rh re rs ph pr o1 o2, Nat.le_refl _, Nat.le_refl _, fun Y => w_prize_t1 x1 rfl (t_X2_prize hl x1 hin), fun Z => wo_E.toS o1 o2 (c_X3_prize_1 x1 hin), fun o1 o2 => ⟨_, _, _, _, _, _, _, _, _, _, _, _, _, _, _, _, _, _, _, _, _, _, _, _, _, _, _, _, _, _, _, _, _, _, _, _, rfl, rfl, hS, hlf, hlc, hR, hP, hL⟩⟩
  | true =>
    have hpos : ¬ x1 = 0 → 0 < x1 := fun h0 => by
      rcases i32_tri 0 x1 with q | q | q
      · exact q
      · exact absurd q.symm h0
      · exact absurd (inB_t hin).1 (Int32.not_le.mpr q)
    have hNew : PrzR (if x1 = 0 then -1000000 else x1) (decide (0 < x1)) x1 := ⟨by by_cases h0 : x1 = 0; (rw [if_pos h0, decide_eq_false (by rw [h0]; decide)]; rfl); (rw [if_neg h0, decide_eq_true (hpos h0)]; rfl), fun z => of_decide_eq_true z⟩
    exact ⟨0, 0, 0, _, fun o1 o2 => wB cI cZ b 0 gr dy kd wo mb ti td la go kp od no ax lv rh re rs (decide (0 < x1)) x1 o1 o2, Nat.zero_le _, Nat.zero_le _, fun Y => w_prize x1 rfl (c_X2_prize x1 hin), fun Z => wo_E.toS o1 o2 (c_X3_prize x1 hin), fun o1 o2 => ⟨_, _, _, _, _, _, _, _, _, _, _, _, _, _, _, _, _, _, _, _, _, _, _, _, _, _, _, _, _, _, _, _, _, _, _, _, rfl, rfl, hS, hlf, hlc, hR, hNew, hL⟩⟩
theorem le_congr {h1 h2 : Nat → Bool} {v1 v2 : Nat → Int32} {ls : Bool} : ∀ n, (∀ k, k < n → h1 k = h2 k ∧ (h1 k = true → v1 k = v2 k)) → le_F h1 v1 ls n = le_F h2 v2 ls n
  | 0, _ => rfl
  | n + 1, h => by
    have ih := le_congr (h1 := h1) (h2 := h2) (v1 := v1) (v2 := v2) (ls := ls) n (fun k hk => h k (by omega))
    obtain ⟨e1, e2⟩ := h n (by omega)
    rw [le_F, le_F, ih, ← e1]
    cases hb : h1 n with
    | false => rfl
    | true => rw [e2 hb]
set_option maxRecDepth 100000 in
set_option maxHeartbeats 4000000 in
theorem s_lean (hl : l.stackTraces = false) (x1 : Int32) (x2 : Bool) (o : Nat) (f : Nat → Int64) {k0 : Int32} (h : RWc cI cZ a b k0 WA WB) : ∃ (k : Int32) (r : Int32) (mc ms : Nat) (WA2 : va_W) (WB2 : wo_sw) (f2 : Nat → Int64), mc ≤ 1 ∧ ms ≤ 6 ∧ (∀ Y, wo_L l yL_lean cL_lean 5 [(0, 10, 13, 13)] 8 mc ms D ((cI, .int) :: (cZ, .boolean) :: (cJ, .long) :: tys) [.ref (a 0), .int x1, .int (bz x2), .ref o] (WA ++ wo_o cJ o f :: Y) (some (.int k)) (WA2 ++ wo_o cJ o f2 :: Y)) ∧ (∀ Z, wo_S l yX3_lean cX3_lean 6 (some .int) 1 D ((cI, .int) :: (cZ, .boolean) :: (cJ, .long) :: tys) [.ref (b 0), .int x1, .int (bz x2)] (WB ++ Z) (some (.int r)) (fun o1 o2 => WB2 o1 o2 ++ Z)) ∧ (k = 0 → f2 0 = r.toInt64) ∧ ∀ o1 o2, RWc cI cZ a b k WA2 (WB2 o1 o2) := by
  obtain ⟨gr, en, mk, tl, me, rk, dy, ln, ll, ps, lf, lc, tc, tp, lv, rp, rc, pp, kd, wo, mb, ti, td, la, go, kp, od, no, ax, rh, re, rs, ph, pr, o1, o2, rfl, rfl, hS, hlf, hlc, hR, hP, hL⟩ := h
  have hg2 : gr ≤ 12 := hS.2.1
  have hg1 : 1 ≤ gr := by have := hS.1; omega
  cases hin : in_B x1 1 6 with
  | false => exact ⟨1, 0, 1, 6, _, fun o1 o2 => wB cI cZ b 1 gr dy kd wo mb ti td la go kp od no ax lv rh re rs ph pr o1 o2, f, Nat.le_refl _, Nat.le_refl _, fun Y => w_lean_t1 x1 x2 rfl (t_X2_lean hl x1 x2 hin), fun Z => wo_E.toS o1 o2 (c_X3_lean_1 x1 x2 hin), fun z => absurd z (by decide), fun o1 o2 => ⟨_, _, _, _, _, _, _, _, _, _, _, _, _, _, _, _, _, _, _, _, _, _, _, _, _, _, _, _, _, _, _, _, _, _, _, _, rfl, rfl, hS, hlf, hlc, hR, hP, hL⟩⟩
  | true =>
    obtain ⟨d, h1, h6, rfl⟩ := inB_nat (m := 1) (n := 6) rfl rfl (by omega) (by omega) hin
    have heq : le_F (fun k => decide (¬ tl (k * 6 + d - 1) = -1000000)) (fun k => tl (k * 6 + d - 1)) x2 gr = le_F (fun k => td (7 * k + d)) (fun k => ti (7 * k + d)) x2 gr := by
      refine le_congr gr (fun k hk => ?_)
      have hc := hS.2.2.1 k d (by omega) h1 h6
      have e := hc.2.1
      cases htd : td (7 * k + d) with
      | false =>
        rw [htd, if_neg (by decide)] at e
        rw [e]
        exact ⟨decide_eq_false (fun z => z rfl), fun z => absurd z (by decide)⟩
      | true =>
        rw [htd, if_pos rfl] at e
        rw [e]
        exact ⟨decide_eq_true (hc.2.2.1 htd), fun _ => rfl⟩
    exact ⟨0, (le_F (fun k => td (7 * k + d)) (fun k => ti (7 * k + d)) x2 gr), 0, 0, _, fun o1 o2 => wB cI cZ b 0 gr dy kd wo mb ti td la go kp od no ax lv rh re rs ph pr o1 o2, _, Nat.zero_le _, Nat.zero_le _, fun Y => w_lean (nI d) x2 _ rfl rfl (c_X2_lean d x2 h1 h6 hg2), fun Z => wo_E.toS o1 o2 (c_X3_lean d x2 h1 h6 hg2), fun _ => by rw [updL_0, heq], fun o1 o2 => ⟨_, _, _, _, _, _, _, _, _, _, _, _, _, _, _, _, _, _, _, _, _, _, _, _, _, _, _, _, _, _, _, _, _, _, _, _, rfl, rfl, hS, hlf, hlc, hR, hP, hL⟩⟩
set_option maxRecDepth 100000 in
set_option maxHeartbeats 4000000 in
theorem s_look (hl : l.stackTraces = false) (x1 : Int32) (o : Nat) (f : Nat → Int64) {k0 : Int32} (h : RWc cI cZ a b k0 WA WB) : ∃ (k : Int32) (r : Int32) (mc ms : Nat) (WA2 : va_W) (WB2 : wo_sw) (f2 : Nat → Int64), mc ≤ 1 ∧ ms ≤ 6 ∧ (∀ Y, wo_L l yL_look cL_look 4 [(0, 9, 12, 13)] 8 mc ms D ((cI, .int) :: (cZ, .boolean) :: (cJ, .long) :: tys) [.ref (a 0), .int x1, .ref o] (WA ++ wo_o cJ o f :: Y) (some (.int k)) (WA2 ++ wo_o cJ o f2 :: Y)) ∧ (∀ Z, wo_S l yX3_look cX3_look 4 (some .int) 1 D ((cI, .int) :: (cZ, .boolean) :: (cJ, .long) :: tys) [.ref (b 0), .int x1] (WB ++ Z) (some (.int r)) (fun o1 o2 => WB2 o1 o2 ++ Z)) ∧ (k = 0 → f2 0 = r.toInt64) ∧ ∀ o1 o2, RWc cI cZ a b k WA2 (WB2 o1 o2) := by
  obtain ⟨gr, en, mk, tl, me, rk, dy, ln, ll, ps, lf, lc, tc, tp, lv, rp, rc, pp, kd, wo, mb, ti, td, la, go, kp, od, no, ax, rh, re, rs, ph, pr, o1, o2, rfl, rfl, hS, hlf, hlc, hR, hP, hL⟩ := h
  have hg2 : gr ≤ 12 := hS.2.1
  have hg1 : 1 ≤ gr := by have := hS.1; omega
  cases hin : in_B x1 0 5 with
  | false => exact ⟨1, 0, 1, 6, _, fun o1 o2 => wB cI cZ b 1 gr dy kd wo mb ti td la go kp od no ax lv rh re rs ph pr o1 o2, f, Nat.le_refl _, Nat.le_refl _, fun Y => w_look_t1 x1 rfl (t_X2_look hl x1 hin), fun Z => wo_E.toS o1 o2 (c_X3_look_1 x1 hin), fun z => absurd z (by decide), fun o1 o2 => ⟨_, _, _, _, _, _, _, _, _, _, _, _, _, _, _, _, _, _, _, _, _, _, _, _, _, _, _, _, _, _, _, _, _, _, _, _, rfl, rfl, hS, hlf, hlc, hR, hP, hL⟩⟩
  | true =>
    have heq : lo_A en gr lc rp rc pp x1 = lo_B kd go gr rh re rs ph pr x1 := by
      unfold lo_A lo_B
      rw [hR.1, hR.2.2, hP.1, hlc, hS.2.2.2.2.2.2.1]
    exact ⟨0, (lo_B kd go gr rh re rs ph pr x1), 0, 0, _, fun o1 o2 => wB cI cZ b 0 gr dy kd wo mb ti td la go kp od no ax lv rh re rs ph pr o1 o2, _, Nat.zero_le _, Nat.zero_le _, fun Y => w_look x1 _ rfl rfl (c_X2_look x1 hin), fun Z => wo_E.toS o1 o2 (c_X3_look x1 hin hg2), fun _ => by rw [updL_0, heq], fun o1 o2 => ⟨_, _, _, _, _, _, _, _, _, _, _, _, _, _, _, _, _, _, _, _, _, _, _, _, _, _, _, _, _, _, _, _, _, _, _, _, rfl, rfl, hS, hlf, hlc, hR, hP, hL⟩⟩
end STP
