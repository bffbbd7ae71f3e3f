/-! ===== the board, on both sides ===== -/
theorem st_congr {h k : Bool} {v v' w w' s : Int32} (a : h = true → v = v') (b : k = true → w = w') : st_B h v k w s = st_B h v' k w' s := by
  unfold st_B
  cases h with
  | false => rfl
  | true => cases k with
    | false => rfl
    | true => rw [a rfl, b rfl]
theorem in01 {x : Int32} (h : in_B x 0 1 = true) : x = 0 ∨ x = 1 := by
  obtain ⟨j, h1, h2, rfl⟩ := inB_nat (m := 0) (n := 1) rfl rfl (by omega) (by omega) h
  rcases (show j = 0 ∨ j = 1 by omega) with e | e
  · exact Or.inl (by rw [e]; rfl)
  · exact Or.inr (by rw [e]; rfl)
theorem vl_eq {mk tl me kd wo : Nat → Int32} {mb : Nat → Bool} {ti : Nat → Int32} {td : Nat → Bool} {i j : Nat} {what : Int32} (h : r_cell mk tl me kd wo mb ti td i j) (hw : what = 0 ∨ what = 1) : decide (¬ vl_A mk tl what i = -1000000) = (if what = 0 then decide (kd j = 1) else td j) ∧ (decide (¬ vl_A mk tl what i = -1000000) = true → vl_A mk tl what i = (if what = 0 then wo j else ti j)) := by
  unfold vl_A
  rcases hw with e | e
  · subst e
    rw [if_neg (by decide), if_pos rfl, if_pos rfl]
    rcases h.1 with ⟨a, b⟩ | ⟨a, b, c⟩ | ⟨a, b⟩ | ⟨a, b⟩
    · rw [a, b]; exact ⟨by decide, fun z => absurd z (by decide)⟩
    · rw [a, b, if_pos c]; exact ⟨by rw [decide_eq_true (none_ne c)]; rfl, fun _ => rfl⟩
    · rw [a, b]; exact ⟨by decide, fun z => absurd z (by decide)⟩
    · rw [a, b]; exact ⟨by decide, fun z => absurd z (by decide)⟩
  · subst e
    rw [if_pos rfl, if_neg (by decide), if_neg (by decide)]
    have e := h.2.1
    cases htd : td j with
    | false =>
      rw [htd, if_neg (by decide)] at e
      rw [e]
      exact ⟨decide_eq_false (fun z => z rfl), fun z => absurd z (by decide)⟩
    | true =>
      rw [htd, if_pos rfl] at e
      rw [e]
      exact ⟨decide_eq_true (h.2.2.1 htd), fun _ => rfl⟩
theorem es_eq {mk tl me kd wo : Nat → Int32} {mb : Nat → Bool} {ti : Nat → Int32} {td : Nat → Bool} {i j : Nat} {what sign num : Int32} (h : r_cell mk tl me kd wo mb ti td i j) (hw : what = 0 ∨ what = 1) : hd_A sign (vl_A mk tl what i) num = es_B kd wo ti td j what sign num := by
  obtain ⟨a, b⟩ := vl_eq h hw
  unfold hd_A es_B
  rw [← a]
  exact st_congr b (fun _ => rfl)
theorem cq_eq {mk tl me kd wo : Nat → Int32} {mb : Nat → Bool} {ti : Nat → Int32} {td : Nat → Bool} {w d : Nat} {what sign num : Int32} (h : r_cell mk tl me kd wo mb ti td (w * 6 + (d + 1) - 1) (7 * w + (d + 1))) (hw : what = 0 ∨ what = 1) : cq_A mk tl what sign num w d = (decide (¬ kd (7 * w + (d + 1)) = 0) && es_B kd wo ti td (7 * w + (d + 1)) what sign num) := by
  have e := es_eq (sign := sign) (num := num) h hw
  have c := cell_none h
  have ei : w * 6 + (d + 1) - 1 = w * 6 + d := by omega
  rw [ei] at e c
  unfold cq_A
  rw [e]
  congr 1
  exact decide_eq_decide.mpr (not_congr c)
theorem cc_congr {q q' : Nat → Nat → Bool} : ∀ n, (∀ w d, w < n → d < 6 → q w d = q' w d) → cc_A q n = cc_A q' n
  | 0, _ => rfl
  | n + 1, h => by
    rw [cc_A, cc_A, cc_congr n (fun w d hw hd => h w d (by omega) hd), cnt_congr 6 (fun d hd => h n d (by omega) hd)]
theorem cc_cut {q : Nat → Nat → Bool} {g : Nat} : ∀ m, (∀ w d, g ≤ w → w < g + m → d < 6 → q w d = false) → cc_A q (g + m) = cc_A q g
  | 0, _ => rfl
  | m + 1, h => by
    rw [← Nat.add_assoc, cc_A, cc_cut m (fun w d a b c => h w d a (by omega) c), cnt_zero 6 (fun d hd => h (g + m) d (by omega) (by omega) hd)]
    rfl
theorem cnt_rows {p : Nat → Bool} : ∀ n, (∀ w, w < n → p (7 * w) = false) → wo_cnt p (7 * n) = cc_A (fun w d => p (7 * w + (d + 1))) n
  | 0, _ => rfl
  | n + 1, h => by
    have ih := cnt_rows (p := p) n (fun w hw => h w (by omega))
    have h0 := h n (by omega)
    rw [cc_A, ← ih]
    show wo_cnt p (7 * n + 7) = _
    simp only [wo_cnt, h0]
    rw [if_neg Bool.false_ne_true, Nat.add_zero]
    simp only [Nat.add_assoc, Nat.zero_add]
theorem fs_congr {q q' : Nat → Bool} : ∀ n k, (∀ j, k ≤ j → j < k + n → q j = q' j) → fs_F q n k = fs_F q' n k
  | 0, _, _ => rfl
  | n + 1, k, h => by
    rw [fs_F, fs_F, h k (Nat.le_refl _) (by omega), fs_congr n (k + 1) (fun j a b => h j (by omega) (by omega))]
theorem lm_congr {q q' : Nat → Bool} : ∀ n, (∀ k, k < n → q k = q' k) → lm_F q n = lm_F q' n
  | 0, _ => rfl
  | n + 1, h => by rw [lm_F, lm_F, h n (by omega), lm_congr n (fun k hk => h k (by omega))]
theorem sht_la {gr en : Nat} {mk tl me rk kd wo : Nat → Int32} {mb : Nat → Bool} {ti : Nat → Int32} {td : Nat → Bool} {la : Nat → Nat} (h : ShtR gr en mk tl me rk kd wo mb ti td la) : ∀ k, k < 12 → la k ≤ 6 := fun k hk => by
  rw [h.2.2.2.2.2.2.2 k hk]; exact wo_lt_le mk k 6
theorem bl_eq {gr en : Nat} {mk tl me rk kd wo : Nat → Int32} {mb : Nat → Bool} {ti : Nat → Int32} {td : Nat → Bool} {la : Nat → Nat} {what : Int32} {w : Nat} (h : ShtR gr en mk tl me rk kd wo mb ti td la) (hw : w < 12) (hq : what = 0 ∨ what = 1) : decide (¬ bl_A mk tl rk what w = -1000000) = hs_B kd wo td la what w ∧ (decide (¬ bl_A mk tl rk what w = -1000000) = true → bl_A mk tl rk what w = tv_B kd wo ti la what w) := by
  have hla := sht_la h w hw
  unfold bl_A hs_B tv_B
  rcases hq with e | e
  · subst e
    rw [if_pos rfl, if_pos rfl, if_pos rfl, bs_eq (h.2.2.2.2.2.1 w hw), bs_B]
    by_cases h0 : 0 < wn_B kd wo w
    · rw [if_pos h0, if_pos h0, decide_eq_true h0]
      exact ⟨decide_eq_true (none_ne (wk_pos hw (sht_wpos h) h0)), fun _ => rfl⟩
    · rw [if_neg h0, decide_eq_false h0]
      exact ⟨decide_eq_false (fun z => z rfl), fun z => absurd rfl (of_decide_eq_true z)⟩
  · subst e
    have n1 : ¬ (1 : Int32) = 0 := by decide
    rw [if_neg n1, if_neg n1, if_neg n1, ← h.2.2.2.2.2.2.2 w hw]
    by_cases h0 : la w = 0
    · rw [if_pos h0, decide_eq_false (show ¬ 0 < la w by omega), Bool.false_and]
      exact ⟨decide_eq_false (fun z => z rfl), fun z => absurd rfl (of_decide_eq_true z)⟩
    · rw [if_neg h0, decide_eq_true (show 0 < la w by omega), Bool.true_and]
      have hc := h.2.2.1 w (la w) hw (by omega) hla
      have e := hc.2.1
      cases htd : td (7 * w + la w) with
      | false =>
        rw [htd, if_neg (by decide)] at e
        rw [e]
        exact ⟨decide_eq_false (fun z => z rfl), fun z => absurd rfl (of_decide_eq_true z)⟩
      | true =>
        rw [htd, if_pos rfl] at e
        rw [e]
        exact ⟨decide_eq_true (hc.2.2.1 htd), fun _ => rfl⟩
section STP
variable {l : Launch} {D : va_G} {tys : List (ClassId × FieldType)} {cI cZ cJ : ClassId} {a b : Nat → Nat} {WA WB : va_W}
set_option maxRecDepth 100000 in
set_option maxHeartbeats 4000000 in
theorem s_count (hl : l.stackTraces = false) (x1 : Int32) (x2 : Int32) (x3 : Int32) (o : Nat) (f : Nat → Int64) {k0 : Int32} (h : RWc cI cZ a b k0 WA WB) : ∃ (k : Int32) (r : Int32) (mc ms : Nat) (WA2 : va_W) (WB2 : wo_sw) (f2 : Nat → Int64), mc ≤ 1 ∧ ms ≤ 6 ∧ (∀ Y, wo_L l yL_count cL_count 6 [(0, 12, 15, 13)] 8 mc ms D ((cI, .int) :: (cZ, .boolean) :: (cJ, .long) :: tys) [.ref (a 0), .int x1, .int x2, .int x3, .ref o] (WA ++ wo_o cJ o f :: Y) (some (.int k)) (WA2 ++ wo_o cJ o f2 :: Y)) ∧ (∀ Z, wo_S l yX3_count cX3_count 6 (some .int) 2 D ((cI, .int) :: (cZ, .boolean) :: (cJ, .long) :: tys) [.ref (b 0), .int x1, .int x2, .int x3] (WB ++ Z) (some (.int r)) (fun o1 o2 => WB2 o1 o2 ++ Z)) ∧ (k = 0 → f2 0 = r.toInt64) ∧ ∀ o1 o2, RWc cI cZ a b k WA2 (WB2 o1 o2) := by
  obtain ⟨gr, en, mk, tl, me, rk, dy, ln, ll, ps, lf, lc, tc, tp, lv, rp, rc, pp, kd, wo, mb, ti, td, la, go, kp, od, no, ax, rh, re, rs, ph, pr, o1, o2, rfl, rfl, hS, hlf, hlc, hR, hP, hL⟩ := h
  have hg2 : gr ≤ 12 := hS.2.1
  have hg1 : 1 ≤ gr := by have := hS.1; omega
  cases hin : (in_B x1 0 1 && in_B x2 0 5) with
  | false => exact ⟨1, 0, 1, 6, _, fun o1 o2 => wB cI cZ b 1 gr dy kd wo mb ti td la go kp od no ax lv rh re rs ph pr o1 o2, f, Nat.le_refl _, Nat.le_refl _, fun Y => w_count_t1 x1 x2 x3 rfl (t_X2_count hl x1 x2 x3 hin), fun Z => wo_E.toS o1 o2 (c_X3_count_1 x1 x2 x3 hin), fun z => absurd z (by decide), fun o1 o2 => ⟨_, _, _, _, _, _, _, _, _, _, _, _, _, _, _, _, _, _, _, _, _, _, _, _, _, _, _, _, _, _, _, _, _, _, _, _, rfl, rfl, hS, hlf, hlc, hR, hP, hL⟩⟩
  | true =>
    obtain ⟨hi1, hi2⟩ := and_t hin
    have hw := in01 hi1
    have heq : cc_A (cq_A mk tl x1 x2 x3) gr = wo_cnt (fun k => decide (¬ kd k = 0) && es_B kd wo ti td k x1 x2 x3) 84 := by
      rw [show 84 = 7 * 12 from rfl, cnt_rows 12 (fun w hw2 => by rw [hS.2.2.2.1 w hw2]; rfl)]
      rw [show 12 = gr + (12 - gr) by omega, cc_cut (12 - gr) (fun w d a b c => by show (decide (¬ kd (7 * w + (d + 1)) = 0) && _) = false; rw [hS.2.2.2.2.1 w (d + 1) a (by omega) (by omega)]; rfl)]
      exact cc_congr gr (fun w d a b => cq_eq (hS.2.2.1 w (d + 1) (by omega) (by omega) (by omega)) hw)
    exact ⟨0, (nI (wo_cnt (fun k => decide (¬ kd k = 0) && es_B kd wo ti td k x1 x2 x3) 84)), 0, 0, _, fun o1 o2 => wB cI cZ b 0 gr dy kd wo mb ti td la go kp od no ax lv rh re rs ph pr o1 o2, _, Nat.zero_le _, Nat.zero_le _, fun Y => w_count x1 x2 x3 _ rfl rfl (c_X2_count x1 x2 x3 hi1 hi2 hg2), fun Z => wo_E.toS o1 o2 (c_X3_count x1 x2 x3 hin), fun _ => by rw [updL_0, heq], fun o1 o2 => ⟨_, _, _, _, _, _, _, _, _, _, _, _, _, _, _, _, _, _, _, _, _, _, _, _, _, _, _, _, _, _, _, _, _, _, _, _, rfl, rfl, hS, hlf, hlc, hR, hP, hL⟩⟩
set_option maxRecDepth 100000 in
set_option maxHeartbeats 4000000 in
theorem s_first (hl : l.stackTraces = false) (x1 : Int32) (x2 : Int32) (x3 : Int32) (o : Nat) (f : Nat → Int64) {k0 : Int32} (h : RWc cI cZ a b k0 WA WB) : ∃ (k : Int32) (r : Int32) (mc ms : Nat) (WA2 : va_W) (WB2 : wo_sw) (f2 : Nat → Int64), mc ≤ 1 ∧ ms ≤ 6 ∧ (∀ Y, wo_L l yL_first cL_first 6 [(0, 12, 15, 13)] 8 mc ms D ((cI, .int) :: (cZ, .boolean) :: (cJ, .long) :: tys) [.ref (a 0), .int x1, .int x2, .int x3, .ref o] (WA ++ wo_o cJ o f :: Y) (some (.int k)) (WA2 ++ wo_o cJ o f2 :: Y)) ∧ (∀ Z, wo_S l yX3_first cX3_first 5 (some .int) 2 D ((cI, .int) :: (cZ, .boolean) :: (cJ, .long) :: tys) [.ref (b 0), .int x1, .int x2, .int x3] (WB ++ Z) (some (.int r)) (fun o1 o2 => WB2 o1 o2 ++ Z)) ∧ (k = 0 → f2 0 = r.toInt64) ∧ ∀ o1 o2, RWc cI cZ a b k WA2 (WB2 o1 o2) := by
  obtain ⟨gr, en, mk, tl, me, rk, dy, ln, ll, ps, lf, lc, tc, tp, lv, rp, rc, pp, kd, wo, mb, ti, td, la, go, kp, od, no, ax, rh, re, rs, ph, pr, o1, o2, rfl, rfl, hS, hlf, hlc, hR, hP, hL⟩ := h
  have hg2 : gr ≤ 12 := hS.2.1
  have hg1 : 1 ≤ gr := by have := hS.1; omega
  cases hin : (in_B x1 0 1 && in_B x2 0 5) with
  | false => exact ⟨1, 0, 1, 6, _, fun o1 o2 => wB cI cZ b 1 gr dy kd wo mb ti td la go kp od no ax lv rh re rs ph pr o1 o2, f, Nat.le_refl _, Nat.le_refl _, fun Y => w_first_t1 x1 x2 x3 rfl (t_X2_first hl x1 x2 x3 hin), fun Z => wo_E.toS o1 o2 (c_X3_first_1 x1 x2 x3 hin), fun z => absurd z (by decide), fun o1 o2 => ⟨_, _, _, _, _, _, _, _, _, _, _, _, _, _, _, _, _, _, _, _, _, _, _, _, _, _, _, _, _, _, _, _, _, _, _, _, rfl, rfl, hS, hlf, hlc, hR, hP, hL⟩⟩
  | true =>
    obtain ⟨hi1, hi2⟩ := and_t hin
    have hw := in01 hi1
    have hla := sht_la hS
    have heq : fs_F (fq_A mk tl x1 x2 x3) gr 0 = fs_F (fun k => decide (0 < la k) && es_B kd wo ti td (7 * k + la k) x1 x2 x3) gr 0 := by
      refine fs_congr gr 0 (fun w a b => ?_)
      unfold fq_A
      rw [← hS.2.2.2.2.2.2.2 w (by omega)]
      by_cases h0 : la w = 0
      · rw [h0]; rfl
      · rw [decide_eq_true h0, decide_eq_true (by omega), Bool.true_and, Bool.true_and]
        exact es_eq (hS.2.2.1 w (la w) (by omega) (by omega) (hla w (by omega))) hw
    exact ⟨0, (fs_F (fun k => decide (0 < la k) && es_B kd wo ti td (7 * k + la k) x1 x2 x3) gr 0), 0, 0, _, fun o1 o2 => wB cI cZ b 0 gr dy kd wo mb ti td la go kp od no ax lv rh re rs ph pr o1 o2, _, Nat.zero_le _, Nat.zero_le _, fun Y => w_first x1 x2 x3 _ rfl rfl (c_X2_first x1 x2 x3 hi1 hi2 hg2), fun Z => wo_E.toS o1 o2 (c_X3_first x1 x2 x3 hin hg2 hla), fun _ => by rw [updL_0, heq], fun o1 o2 => ⟨_, _, _, _, _, _, _, _, _, _, _, _, _, _, _, _, _, _, _, _, _, _, _, _, _, _, _, _, _, _, _, _, _, _, _, _, rfl, rfl, hS, hlf, hlc, hR, hP, hL⟩⟩
set_option maxRecDepth 100000 in
set_option maxHeartbeats 4000000 in
theorem s_lamps (hl : l.stackTraces = false) (x1 : Int32) (x2 : Int32) (x3 : Int32) (o : Nat) (f : Nat → Int64) {k0 : Int32} (h : RWc cI cZ a b k0 WA WB) : ∃ (k : Int32) (r : Int32) (mc ms : Nat) (WA2 : va_W) (WB2 : wo_sw) (f2 : Nat → Int64), mc ≤ 1 ∧ ms ≤ 6 ∧ (∀ Y, wo_L l yL_lamps cL_lamps 6 [(0, 12, 15, 13)] 8 mc ms D ((cI, .int) :: (cZ, .boolean) :: (cJ, .long) :: tys) [.ref (a 0), .int x1, .int x2, .int x3, .ref o] (WA ++ wo_o cJ o f :: Y) (some (.int k)) (WA2 ++ wo_o cJ o f2 :: Y)) ∧ (∀ Z, wo_S l yX3_lamps cX3_lamps 6 (some .int) 2 D ((cI, .int) :: (cZ, .boolean) :: (cJ, .long) :: tys) [.ref (b 0), .int x1, .int x2, .int x3] (WB ++ Z) (some (.int r)) (fun o1 o2 => WB2 o1 o2 ++ Z)) ∧ (k = 0 → f2 0 = r.toInt64) ∧ ∀ o1 o2, RWc cI cZ a b k WA2 (WB2 o1 o2) := by
  obtain ⟨gr, en, mk, tl, me, rk, dy, ln, ll, ps, lf, lc, tc, tp, lv, rp, rc, pp, kd, wo, mb, ti, td, la, go, kp, od, no, ax, rh, re, rs, ph, pr, o1, o2, rfl, rfl, hS, hlf, hlc, hR, hP, hL⟩ := h
  have hg2 : gr ≤ 12 := hS.2.1
  have hg1 : 1 ≤ gr := by have := hS.1; omega
  cases hin : (in_B x1 0 1 && in_B x2 0 5) with
  | false => exact ⟨1, 0, 1, 6, _, fun o1 o2 => wB cI cZ b 1 gr dy kd wo mb ti td la go kp od no ax lv rh re rs ph pr o1 o2, f, Nat.le_refl _, Nat.le_refl _, fun Y => w_lamps_t1 x1 x2 x3 rfl (t_X2_lamps hl x1 x2 x3 hin), fun Z => wo_E.toS o1 o2 (c_X3_lamps_1 x1 x2 x3 hin), fun z => absurd z (by decide), fun o1 o2 => ⟨_, _, _, _, _, _, _, _, _, _, _, _, _, _, _, _, _, _, _, _, _, _, _, _, _, _, _, _, _, _, _, _, _, _, _, _, rfl, rfl, hS, hlf, hlc, hR, hP, hL⟩⟩
  | true =>
    obtain ⟨hi1, hi2⟩ := and_t hin
    have hw := in01 hi1
    have hla := sht_la hS
    have heq : lm_F (fun k => hd_A x2 (bl_A mk tl rk x1 k) x3) gr = (lm_F (fun k => st_B (hs_B kd wo td la x1 k) (tv_B kd wo ti la x1 k) (decide (¬ x3 = -1000000)) x3 x2) gr) := by
      refine lm_congr gr (fun w a => ?_)
      obtain ⟨e1, e2⟩ := bl_eq (w := w) hS (by omega) hw
      unfold hd_A
      rw [← e1]
      exact st_congr e2 (fun _ => rfl)
    exact ⟨0, (lm_F (fun k => st_B (hs_B kd wo td la x1 k) (tv_B kd wo ti la x1 k) (decide (¬ x3 = -1000000)) x3 x2) gr), 0, 0, _, fun o1 o2 => wB cI cZ b 0 gr dy kd wo mb ti td la go kp od no ax lv rh re rs ph pr o1 o2, _, Nat.zero_le _, Nat.zero_le _, fun Y => w_lamps x1 x2 x3 _ rfl rfl (c_X2_lamps x1 x2 x3 hi1 hi2 hg2), fun Z => c_X3_lamps x1 x2 x3 hin hg2 hla, fun _ => by rw [updL_0, heq], fun o1 o2 => ⟨_, _, _, _, _, _, _, _, _, _, _, _, _, _, _, _, _, _, _, _, _, _, _, _, _, _, _, _, _, _, _, _, _, _, _, _, rfl, rfl, hS, hlf, hlc, hR, hP, hL⟩⟩
set_option maxRecDepth 100000 in
set_option maxHeartbeats 4000000 in
theorem s_stands (hl : l.stackTraces = false) (x1 : Int32) (x2 : Int32) (x3 : Int32) (o : Nat) (f : Nat → Int64) {k0 : Int32} (h : RWc cI cZ a b k0 WA WB) : ∃ (k : Int32) (r : Int32) (mc ms : Nat) (WA2 : va_W) (WB2 : wo_sw) (f2 : Nat → Int64), mc ≤ 1 ∧ ms ≤ 6 ∧ (∀ Y, wo_L l yL_stands cL_stands 6 [(0, 12, 15, 13)] 8 mc ms D ((cI, .int) :: (cZ, .boolean) :: (cJ, .long) :: tys) [.ref (a 0), .int x1, .int x2, .int x3, .ref o] (WA ++ wo_o cJ o f :: Y) (some (.int k)) (WA2 ++ wo_o cJ o f2 :: Y)) ∧ (∀ Z, wo_S l yX3_stands cX3_stands 6 (some .int) 2 D ((cI, .int) :: (cZ, .boolean) :: (cJ, .long) :: tys) [.ref (b 0), .int x1, .int x2, .int x3] (WB ++ Z) (some (.int r)) (fun o1 o2 => WB2 o1 o2 ++ Z)) ∧ (k = 0 → f2 0 = r.toInt64) ∧ ∀ o1 o2, RWc cI cZ a b k WA2 (WB2 o1 o2) := by
  obtain ⟨gr, en, mk, tl, me, rk, dy, ln, ll, ps, lf, lc, tc, tp, lv, rp, rc, pp, kd, wo, mb, ti, td, la, go, kp, od, no, ax, rh, re, rs, ph, pr, o1, o2, rfl, rfl, hS, hlf, hlc, hR, hP, hL⟩ := h
  have hg2 : gr ≤ 12 := hS.2.1
  have hg1 : 1 ≤ gr := by have := hS.1; omega
  cases hin : (in_B x1 0 1 && in_B x2 0 (nI (gr - 1)) && in_B x3 0 (nI (gr - 1))) with
  | false => exact ⟨1, 0, 1, 6, _, fun o1 o2 => wB cI cZ b 1 gr dy kd wo mb ti td la go kp od no ax lv rh re rs ph pr o1 o2, f, Nat.le_refl _, Nat.le_refl _, fun Y => w_stands_t1 x1 x2 x3 rfl (t_X2_stands hl x1 x2 x3 hg1 hg2 hin), fun Z => wo_E.toS o1 o2 (c_X3_stands_1 x1 x2 x3 hg1 hin), fun z => absurd z (by decide), fun o1 o2 => ⟨_, _, _, _, _, _, _, _, _, _, _, _, _, _, _, _, _, _, _, _, _, _, _, _, _, _, _, _, _, _, _, _, _, _, _, _, rfl, rfl, hS, hlf, hlc, hR, hP, hL⟩⟩
  | true =>
    obtain ⟨hi0, hi3⟩ := and_t hin
    obtain ⟨hi1, hi2⟩ := and_t hi0
    have hq := in01 hi1
    have hla := sht_la hS
    obtain ⟨u, hu, rfl⟩ := wo_in0 hg1 hg2 hi2
    obtain ⟨w, hw, rfl⟩ := wo_in0 hg1 hg2 hi3
    have heq : lm_F (fun k => hd_A (nI k) (bl_A mk tl rk x1 u) (bl_A mk tl rk x1 w)) 6 = (lm_F (fun k => st_B (hs_B kd wo td la x1 u) (tv_B kd wo ti la x1 u) (hs_B kd wo td la x1 w) (tv_B kd wo ti la x1 w) (nI k)) 6) := by
      refine lm_congr 6 (fun k a => ?_)
      obtain ⟨e1, e2⟩ := bl_eq (w := u) hS (by omega) hq
      obtain ⟨e3, e4⟩ := bl_eq (w := w) hS (by omega) hq
      unfold hd_A
      rw [← e1, ← e3]
      exact st_congr e2 e4
    exact ⟨0, (lm_F (fun k => st_B (hs_B kd wo td la x1 u) (tv_B kd wo ti la x1 u) (hs_B kd wo td la x1 w) (tv_B kd wo ti la x1 w) (nI k)) 6), 0, 0, _, fun o1 o2 => wB cI cZ b 0 gr dy kd wo mb ti td la go kp od no ax lv rh re rs ph pr o1 o2, _, Nat.zero_le _, Nat.zero_le _, fun Y => w_stands x1 (nI u) (nI w) _ rfl rfl (c_X2_stands x1 u w hi1 hg2 hu hw), fun Z => c_X3_stands x1 u w hu hw hi1 hg2 hla, fun _ => by rw [updL_0, heq], fun o1 o2 => ⟨_, _, _, _, _, _, _, _, _, _, _, _, _, _, _, _, _, _, _, _, _, _, _, _, _, _, _, _, _, _, _, _, _, _, _, _, rfl, rfl, hS, hlf, hlc, hR, hP, hL⟩⟩
end STP
