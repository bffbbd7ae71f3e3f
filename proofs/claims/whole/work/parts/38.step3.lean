/-! ===== the calls that write, on both sides ===== -/
theorem wo_tenth {x : Int32} (h : in_B x 100 9999 = true) : 0 < x / 10 := by
  obtain ⟨j, h1, h2, rfl⟩ := inB_nat (m := 100) (n := 9999) rfl rfl (by omega) (by omega) h
  rw [show (10 : Int32) = nI 10 from rfl, pk_div (by omega) (by omega) (by omega)]
  exact (nI_ltI (a := 0) (by omega) (by omega)).mpr (by omega)
theorem deg_ne {y : Int32} (h : in_B y (-99) 99 = true) : ¬ y = -1000000 := fun z => by rw [z] at h; exact absurd h (by decide)
theorem row_keep {rk kd wo wo' : Nat → Int32} {w dy : Nat} {k : Int32} (h : row_ok rk kd wo w) (h0 : kd (7 * w + dy) = 0) (hk : ¬ k = 1) (hwo : ∀ x, ¬ x = 7 * w + dy → wo' x = wo x) : row_ok rk (va_up kd (7 * w + dy) k) wo' w := by
  refine row_same h (fun _ _ => rfl) (fun d a b => ?_)
  by_cases e : d = dy
  · rw [e, up_eq, h0]
    exact ⟨⟨fun z => absurd z hk, fun z => absurd z (by decide)⟩, fun z => absurd z (by decide)⟩
  · rw [up_ne (by omega)]
    exact ⟨Iff.rfl, fun _ => hwo _ (by omega)⟩
theorem row_new {rk kd wo : Nat → Int32} {w dy : Nat} {v : Int32} (h : row_ok rk kd wo w) (h1 : 1 ≤ dy) (h6 : dy ≤ 6) (h0 : kd (7 * w + dy) = 0) (hv : 0 < v) : row_ok (if 0 < v then rk_ins 5 rk (w * 6) v else rk) (va_up kd (7 * w + dy) 1) (va_up wo (7 * w + dy) v) w := by
  rw [if_pos hv]
  refine row_add h (d := dy) (none_lt hv) h1 h6 (by rw [h0]; decide) up_eq up_eq (fun e he => ?_)
  rw [up_ne (by omega), up_ne (by omega)]
  exact ⟨Iff.rfl, fun _ => rfl⟩
theorem ent_sim {gr dy : Nat} {ln : Nat → Nat} {ll ps : Nat} {lf tc : Nat → Bool} {tp od : Nat → Nat} {no : Nat} {ax : Int32} {kp go : Nat → Bool} {kd : Nat → Int32} {t : Nat} {en : Nat} {mk tl me rk wo : Nat → Int32} {mb : Nat → Bool} {ti : Nat → Int32} {td : Nat → Bool} {la : Nat → Nat} {k : Int32} (hS : ShtR gr en mk tl me rk (va_up kd (7 * od t + dy) k) wo mb ti td la) (hlf : ∀ w, w < 12 → lf w = go w) (hll : ll ≤ 12) (hno : no ≤ 12) (hod : ∀ k, k < no → od k < 12) (h1 : 1 ≤ dy) (h6 : dy ≤ 6) (hD : DayR gr dy ln ll ps lf tc tp od no ax kp go kd t) :
    ∃ (dy2 : Nat) (ln2 : Nat → Nat) (ll2 ps2 : Nat) (tc2 : Nat → Bool) (tp2 od2 : Nat → Nat) (no2 : Nat) (ax2 : Int32) (kp2 : Nat → Bool), advA gr rk dy ln ll ps lf tc tp dy2 ln2 ll2 ps2 tc2 tp2 ∧ advB gr (va_up kd (7 * od t + dy) k) wo dy od no ax kp go t dy2 od2 no2 ax2 kp2 ∧ LinR gr dy2 ln2 ll2 ps2 lf tc2 tp2 od2 no2 ax2 kp2 go (va_up kd (7 * od t + dy) k) := by
  obtain ⟨hax, hps, ht, hln, heq, hlf0, hT, hnd, hfr, hfr2, hO⟩ := hD
  have hn := List.nodup_cons.mp hnd
  refine adv_sim hS.2.1 (sht_wpos hS) hS.2.2.2.2.2.1 hlf hll hno hod h1 h6 hps ht hln hT hn.2 (fun w hw => ?_) (fun w d a b c => ?_) hO
  · have h2 := hfr w (List.mem_cons_of_mem _ hw)
    have h3 : ¬ w = od t := fun z => hn.1 (by rw [heq, ← z]; exact hw)
    rw [up_ne (by omega)]
    exact h2
  · rw [up_ne (by omega)]
    exact hfr2 w d a b c
theorem tl_left {f : Nat → Nat} {q : Nat → Bool} {w : Nat} (n k : Nat) {q' : Nat → Bool} (h : ∀ v, q' v = (q v && decide (¬ v = w))) : sg_ f q' n k = (sg_ f q n k).filter (fun v => decide (¬ v = w)) := by
  rw [sg_filter]
  exact sg_congr n k (fun j _ _ => ⟨rfl, h (f j)⟩)
theorem up_tr {lf : Nat → Bool} {w : Nat} (c : Bool) (v : Nat) : (c && !va_up lf w true v) = ((c && !lf v) && decide (¬ v = w)) := by
  by_cases e : v = w
  · rw [e, up_eq, decide_eq_false (fun z => z rfl)]
    cases c <;> cases lf w <;> rfl
  · rw [up_ne e, decide_eq_true e, Bool.and_true]
theorem up_tr' {lf : Nat → Bool} {w : Nat} (v : Nat) : (!va_up lf w true v) = ((!lf v) && decide (¬ v = w)) := by
  have := up_tr (lf := lf) (w := w) true v
  rw [Bool.true_and, Bool.true_and] at this
  exact this
section STP
variable {l : Launch} {D : va_G} {tys : List (ClassId × FieldType)} {cI cZ cJ : ClassId} {a b : Nat → Nat} {WA WB : va_W}
set_option maxRecDepth 100000 in
set_option maxHeartbeats 4000000 in
theorem s_weigh (hl : l.stackTraces = false) (x1 : Int32) (x2 : Int32) (o : Nat) (f : Nat → Int64) {k0 : Int32} (h : RWc cI cZ a b k0 WA WB) : ∃ (k : Int32) (r : Int32) (mc ms : Nat) (WA2 : va_W) (WB2 : wo_sw) (f2 : Nat → Int64), mc ≤ 1 ∧ ms ≤ 6 ∧ (∀ Y, wo_L l yL_weigh cL_weigh 5 [(0, 10, 13, 13), (0, 10, 17, 19)] 8 mc ms D ((cI, .int) :: (cZ, .boolean) :: (cJ, .long) :: tys) [.ref (a 0), .int x1, .int x2, .ref o] (WA ++ wo_o cJ o f :: Y) (some (.int k)) (WA2 ++ wo_o cJ o f2 :: Y)) ∧ (∀ Z, wo_S l yX3_weigh cX3_weigh 5 (some .int) 6 D ((cI, .int) :: (cZ, .boolean) :: (cJ, .long) :: tys) [.ref (b 0), .int x1, .int x2] (WB ++ Z) (some (.int r)) (fun o1 o2 => WB2 o1 o2 ++ Z)) ∧ (k = 0 → f2 0 = r.toInt64) ∧ ∀ o1 o2, RWc cI cZ a b k WA2 (WB2 o1 o2) := by
  obtain ⟨gr, en, mk, tl, me, rk, dy, ln, ll, ps, lf, lc, tc, tp, lv, rp, rc, pp, kd, wo, mb, ti, td, la, go, kp, od, no, ax, rh, re, rs, ph, pr, o1, o2, rfl, rfl, hS, hlf, hlc, hR, hP, hL⟩ := h
  have hg2 : gr ≤ 12 := hS.2.1
  have hg1 : 1 ≤ gr := by have := hS.1; omega
  by_cases hin : in_B x1 100 9999 = true ∧ in_B x2 (-99) 99 = true
  rotate_left
  · exact ⟨1, 0, 1, 6, _, fun o1 o2 => wB cI cZ b 1 gr dy kd wo mb ti td la go kp od no ax lv rh re rs ph pr o1 o2, f, Nat.le_refl _, Nat.le_refl _, fun Y => w_weigh_t1 x1 x2 rfl (t_X2_weigh_1 hl x1 x2 hin), fun Z => wo_E.toS o1 o2 (c_X3_weigh_1 x1 x2 hin), fun z => absurd z (by decide), fun o1 o2 => ⟨_, _, _, _, _, _, _, _, _, _, _, _, _, _, _, _, _, _, _, _, _, _, _, _, _, _, _, _, _, _, _, _, _, _, _, _, rfl, rfl, hS, hlf, hlc, hR, hP, hL⟩⟩
  obtain ⟨hx, hy⟩ := hin
  have hLk := hL
  obtain ⟨hll, hp12, hno, hod, hday⟩ := hL
  rcases hday with ⟨hd7, hl0⟩ | ⟨h1, h6, t, hD⟩
  · have hL := hLk
    exact ⟨2, 0, 1, 6, _, fun o1 o2 => wB cI cZ b 2 gr dy kd wo mb ti td la go kp od no ax lv rh re rs ph pr o1 o2, f, Nat.le_refl _, Nat.le_refl _, fun Y => w_weigh_t2 x1 x2 rfl (t_X2_weigh_2 hl x1 x2 hx hy hp12 hll (by omega)), fun Z => wo_E.toS o1 o2 (c_X3_weigh_2 x1 x2 hx hy hd7), fun z => absurd z (by decide), fun o1 o2 => ⟨_, _, _, _, _, _, _, _, _, _, _, _, _, _, _, _, _, _, _, _, _, _, _, _, _, _, _, _, _, _, _, _, _, _, _, _, rfl, rfl, hS, hlf, hlc, hR, hP, hL⟩⟩
  ·
    have hD2 := hD
    obtain ⟨hax, hps, ht, hln, heq, hlf0, hT, hnd, hfr, hfr2, hO⟩ := hD2
    have hw0 := hfr (ln ps) List.mem_cons_self
    rw [heq] at hw0
    have hodt := hod t ht
    have ht12 : t < 12 := by omega
    have hpos := wo_tenth hx
    have hc : r_cell (va_up mk (od t * 6 + dy - 1) (x1 / 10)) (va_up tl (od t * 6 + dy - 1) (if lv then x2 else -1000000)) (va_up me (od t * 6 + dy - 1) 0) (va_up kd (7 * od t + dy) 1) (va_up wo (7 * od t + dy) (x1 / 10)) (va_up mb (7 * od t + dy) false) (va_up ti (7 * od t + dy) x2) (va_up td (7 * od t + dy) lv) (od t * 6 + dy - 1) (7 * od t + dy) :=
      ⟨Or.inr (Or.inl ⟨up_eq, by rw [up_eq, up_eq], by rw [up_eq]; exact hpos⟩), by rw [up_eq, up_eq, up_eq], fun _ => by rw [up_eq]; exact deg_ne hy, fun z => by rw [up_eq] at z; exact absurd z (by decide)⟩
    have hSn := sht_entry (rk' := if 0 < x1 / 10 then rk_ins 5 rk (od t * 6) (x1 / 10) else rk) hS hw0.1 h1 h6 hw0.2 (fun d a b => hfr2 _ d hodt a b) (none_ne hpos) (by decide) (fun x hx => up_ne hx) (fun x hx => up_ne hx) hc (row_new (hS.2.2.2.2.2.1 _ hodt) h1 h6 hw0.2 hpos) (fun x hx => by rw [if_pos hpos]; exact rk_ins_out _ _ _ _ _ (by omega))
    obtain ⟨dy2, ln2, ll2, ps2, tc2, tp2, od2, no2, ax2, kp2, hA, hB, hL2⟩ := ent_sim hSn hlf hll hno hod h1 h6 hD
    have hrec : rec_A (x1 / 10) (if lv then x2 else -1000000) rp = rec_B (va_up td (7 * od t + dy) lv) (va_up ti (7 * od t + dy) x2) rh (va_up wo (7 * od t + dy) (x1 / 10)) re (7 * od t + dy) := rec_eq hR up_eq.symm (by rw [up_eq, up_eq]) (fun _ => by rw [up_eq]; exact deg_ne hy)
    have hR2 : RecR (if rec_A (x1 / 10) (if lv then x2 else -1000000) rp then x1 / 10 else rp) (if rec_A (x1 / 10) (if lv then x2 else -1000000) rp then rc + 1 else rc) (if rec_B (va_up td (7 * od t + dy) lv) (va_up ti (7 * od t + dy) x2) rh (va_up wo (7 * od t + dy) (x1 / 10)) re (7 * od t + dy) then true else rh) (if rec_B (va_up td (7 * od t + dy) lv) (va_up ti (7 * od t + dy) x2) rh (va_up wo (7 * od t + dy) (x1 / 10)) re (7 * od t + dy) then x1 / 10 else re) (if rec_B (va_up td (7 * od t + dy) lv) (va_up ti (7 * od t + dy) x2) rh (va_up wo (7 * od t + dy) (x1 / 10)) re (7 * od t + dy) then rs + 1 else rs) := by
      rw [hrec]; exact rec_upd _ hR hpos
    refine ⟨0, x1 / 10, 0, 0, _, fun o1 o2 => wB cI cZ b 0 gr dy2 (va_up kd (7 * od t + dy) 1) (va_up wo (7 * od t + dy) (x1 / 10)) (va_up mb (7 * od t + dy) false) (va_up ti (7 * od t + dy) x2) (va_up td (7 * od t + dy) lv) (va_up la (od t) dy) go kp2 od2 no2 ax2 lv _ _ _ ph pr o1 o2, _, Nat.zero_le _, Nat.zero_le _, fun Y => w_weigh x1 x2 (x1 / 10) rfl rfl (c_X2_weigh _ x1 x2 (od t) _ hx hy hps hll hln heq.symm h1 h6 rfl (c_X0_goOn2 hA hg2 h6 hll hps hln)), fun Z => c_X3_weigh _ x1 x2 t _ hx hy h6 hax ht12 hodt rfl (fun rh2 re2 rs2 e1 e2 e3 => by subst e1; subst e2; subst e3; exact c_X3_passOn2 hB hg2 h6 hax ht hno hod), fun _ => updL_0 _ _, fun o1 o2 => ⟨_, _, _, _, _, _, _, _, _, _, _, _, _, _, _, _, _, _, _, _, _, _, _, _, _, _, _, _, _, _, _, _, _, _, _, _, rfl, rfl, hSn, hlf, hlc, hR2, hP, hL2⟩⟩
set_option maxRecDepth 100000 in
set_option maxHeartbeats 4000000 in
theorem s_crack (hl : l.stackTraces = false) (x1 : Int32) (x2 : Int32) {k0 : Int32} (h : RWc cI cZ a b k0 WA WB) : ∃ (k : Int32) (mc ms : Nat) (WA2 : va_W) (WB2 : wo_sw), mc ≤ 1 ∧ ms ≤ 6 ∧ (∀ Y, wo_L l yL_crack cL_crack 4 [(0, 6, 9, 13), (0, 6, 12, 19)] 8 mc ms D ((cI, .int) :: (cZ, .boolean) :: (cJ, .long) :: tys) [.ref (a 0), .int x1, .int x2] (WA ++ Y) (some (.int k)) (WA2 ++ Y)) ∧ (∀ Z, wo_S l yX3_crack cX3_crack 4 (none) 6 D ((cI, .int) :: (cZ, .boolean) :: (cJ, .long) :: tys) [.ref (b 0), .int x1, .int x2] (WB ++ Z) none (fun o1 o2 => WB2 o1 o2 ++ Z)) ∧ ∀ o1 o2, RWc cI cZ a b k WA2 (WB2 o1 o2) := by
  obtain ⟨gr, en, mk, tl, me, rk, dy, ln, ll, ps, lf, lc, tc, tp, lv, rp, rc, pp, kd, wo, mb, ti, td, la, go, kp, od, no, ax, rh, re, rs, ph, pr, o1, o2, rfl, rfl, hS, hlf, hlc, hR, hP, hL⟩ := h
  have hg2 : gr ≤ 12 := hS.2.1
  have hg1 : 1 ≤ gr := by have := hS.1; omega
  by_cases hin : (x1 = 0 ∨ in_B x1 100 9999 = true) ∧ in_B x2 (-99) 99 = true
  rotate_left
  · exact ⟨1, 1, 6, _, fun o1 o2 => wB cI cZ b 1 gr dy kd wo mb ti td la go kp od no ax lv rh re rs ph pr o1 o2, Nat.le_refl _, Nat.le_refl _, fun Y => w_crack_t1 x1 x2 rfl (t_X2_crack_1 hl x1 x2 hin), fun Z => wo_E.toS o1 o2 (c_X3_crack_1 x1 x2 hin), fun o1 o2 => ⟨_, _, _, _, _, _, _, _, _, _, _, _, _, _, _, _, _, _, _, _, _, _, _, _, _, _, _, _, _, _, _, _, _, _, _, _, rfl, rfl, hS, hlf, hlc, hR, hP, hL⟩⟩
  obtain ⟨hx, hy⟩ := hin
  have hLk := hL
  obtain ⟨hll, hp12, hno, hod, hday⟩ := hL
  rcases hday with ⟨hd7, hl0⟩ | ⟨h1, h6, t, hD⟩
  · have hL := hLk
    exact ⟨2, 1, 6, _, fun o1 o2 => wB cI cZ b 2 gr dy kd wo mb ti td la go kp od no ax lv rh re rs ph pr o1 o2, Nat.le_refl _, Nat.le_refl _, fun Y => w_crack_t2 x1 x2 rfl (t_X2_crack_2 hl x1 x2 hx hy hp12 hll (by omega)), fun Z => wo_E.toS o1 o2 (c_X3_crack_2 x1 x2 hx hy hd7), fun o1 o2 => ⟨_, _, _, _, _, _, _, _, _, _, _, _, _, _, _, _, _, _, _, _, _, _, _, _, _, _, _, _, _, _, _, _, _, _, _, _, rfl, rfl, hS, hlf, hlc, hR, hP, hL⟩⟩
  ·
    have hD2 := hD
    obtain ⟨hax, hps, ht, hln, heq, hlf0, hT, hnd, hfr, hfr2, hO⟩ := hD2
    have hw0 := hfr (ln ps) List.mem_cons_self
    rw [heq] at hw0
    have hodt := hod t ht
    have ht12 : t < 12 := by omega
    have hm : (decide (¬ x1 = 0) = true ↔ ¬ x1 / 10 = 0) ∧ (decide (¬ x1 = 0) = true → 0 < x1 / 10) := by
      rcases hx with e | e
      · rw [e]; decide
      · have h2 := wo_tenth e
        have h3 : ¬ x1 = 0 := fun z => by rw [z] at e; exact absurd e (by decide)
        rw [decide_eq_true h3]
        exact ⟨⟨fun _ z => by rw [z] at h2; exact absurd h2 (by decide), fun _ => rfl⟩, fun _ => h2⟩
    have hc : r_cell (va_up mk (od t * 6 + dy - 1) (-1)) (va_up tl (od t * 6 + dy - 1) (if lv then x2 else -1000000)) (va_up me (od t * 6 + dy - 1) (x1 / 10)) (va_up kd (7 * od t + dy) 2) (va_up wo (7 * od t + dy) (x1 / 10)) (va_up mb (7 * od t + dy) (decide (¬ x1 = 0))) (va_up ti (7 * od t + dy) x2) (va_up td (7 * od t + dy) lv) (od t * 6 + dy - 1) (7 * od t + dy) :=
      ⟨Or.inr (Or.inr (Or.inl ⟨up_eq, up_eq⟩)), by rw [up_eq, up_eq, up_eq], fun _ => by rw [up_eq]; exact deg_ne hy, fun _ => by rw [up_eq, up_eq, up_eq]; exact ⟨hm.1, fun z => ⟨rfl, hm.2 z⟩⟩⟩
    have hSn := sht_entry (rk' := rk) hS hw0.1 h1 h6 hw0.2 (fun d a b => hfr2 _ d hodt a b) (by decide) (by decide) (fun x hx => up_ne hx) (fun x hx => up_ne hx) hc (row_keep (hS.2.2.2.2.2.1 _ hodt) hw0.2 (by decide) (fun x hx => up_ne hx)) (fun x hx => rfl)
    obtain ⟨dy2, ln2, ll2, ps2, tc2, tp2, od2, no2, ax2, kp2, hA, hB, hL2⟩ := ent_sim hSn hlf hll hno hod h1 h6 hD
    refine ⟨0, 0, 0, _, fun o1 o2 => wB cI cZ b 0 gr dy2 (va_up kd (7 * od t + dy) 2) (va_up wo (7 * od t + dy) (x1 / 10)) (va_up mb (7 * od t + dy) (decide (¬ x1 = 0))) (va_up ti (7 * od t + dy) x2) (va_up td (7 * od t + dy) lv) (va_up la (od t) dy) go kp2 od2 no2 ax2 lv rh re rs ph pr o1 o2, Nat.zero_le _, Nat.zero_le _, fun Y => w_crack x1 x2 rfl (c_X2_crack _ x1 x2 (od t) _ hx hy hps hll hln heq.symm h1 h6 rfl (c_X0_goOn2 hA hg2 h6 hll hps hln)), fun Z => c_X3_crack _ x1 x2 t _ hx hy h6 hax ht12 hodt rfl (c_X3_passOn2 hB hg2 h6 hax ht hno hod), fun o1 o2 => ⟨_, _, _, _, _, _, _, _, _, _, _, _, _, _, _, _, _, _, _, _, _, _, _, _, _, _, _, _, _, _, _, _, _, _, _, _, rfl, rfl, hSn, hlf, hlc, hR, hP, hL2⟩⟩
set_option maxRecDepth 100000 in
set_option maxHeartbeats 4000000 in
theorem s_pass (hl : l.stackTraces = false)  {k0 : Int32} (h : RWc cI cZ a b k0 WA WB) : ∃ (k : Int32) (mc ms : Nat) (WA2 : va_W) (WB2 : wo_sw), mc ≤ 1 ∧ ms ≤ 6 ∧ (∀ Y, wo_L l yL_pass cL_pass 2 [(0, 4, 7, 19)] 8 mc ms D ((cI, .int) :: (cZ, .boolean) :: (cJ, .long) :: tys) [.ref (a 0)] (WA ++ Y) (some (.int k)) (WA2 ++ Y)) ∧ (∀ Z, wo_S l yX3_pass cX3_pass 2 (none) 6 D ((cI, .int) :: (cZ, .boolean) :: (cJ, .long) :: tys) [.ref (b 0)] (WB ++ Z) none (fun o1 o2 => WB2 o1 o2 ++ Z)) ∧ ∀ o1 o2, RWc cI cZ a b k WA2 (WB2 o1 o2) := by
  obtain ⟨gr, en, mk, tl, me, rk, dy, ln, ll, ps, lf, lc, tc, tp, lv, rp, rc, pp, kd, wo, mb, ti, td, la, go, kp, od, no, ax, rh, re, rs, ph, pr, o1, o2, rfl, rfl, hS, hlf, hlc, hR, hP, hL⟩ := h
  have hg2 : gr ≤ 12 := hS.2.1
  have hg1 : 1 ≤ gr := by have := hS.1; omega
  have hLk := hL
  obtain ⟨hll, hp12, hno, hod, hday⟩ := hL
  rcases hday with ⟨hd7, hl0⟩ | ⟨h1, h6, t, hD⟩
  · have hL := hLk
    exact ⟨1, 1, 6, _, fun o1 o2 => wB cI cZ b 1 gr dy kd wo mb ti td la go kp od no ax lv rh re rs ph pr o1 o2, Nat.le_refl _, Nat.le_refl _, fun Y => w_pass_t1 rfl (t_X2_pass hl hp12 hll (by omega)), fun Z => wo_E.toS o1 o2 (c_X3_pass_1 hd7), fun o1 o2 => ⟨_, _, _, _, _, _, _, _, _, _, _, _, _, _, _, _, _, _, _, _, _, _, _, _, _, _, _, _, _, _, _, _, _, _, _, _, rfl, rfl, hS, hlf, hlc, hR, hP, hL⟩⟩
  ·
    have hD2 := hD
    obtain ⟨hax, hps, ht, hln, heq, hlf0, hT, hnd, hfr, hfr2, hO⟩ := hD2
    have hw0 := hfr (ln ps) List.mem_cons_self
    rw [heq] at hw0
    have hodt := hod t ht
    have ht12 : t < 12 := by omega
    have hc : r_cell (va_up mk (od t * 6 + dy - 1) (-2)) (va_up tl (od t * 6 + dy - 1) (-1000000)) (va_up me (od t * 6 + dy - 1) 0) (va_up kd (7 * od t + dy) 3) wo (va_up mb (7 * od t + dy) false) ti (va_up td (7 * od t + dy) false) (od t * 6 + dy - 1) (7 * od t + dy) :=
      ⟨Or.inr (Or.inr (Or.inr ⟨up_eq, up_eq⟩)), by rw [up_eq, up_eq]; rfl, fun z => by rw [up_eq] at z; exact absurd z (by decide), fun z => by rw [up_eq] at z; exact absurd z (by decide)⟩
    have hSn := sht_entry (rk' := rk) hS hw0.1 h1 h6 hw0.2 (fun d a b => hfr2 _ d hodt a b) (by decide) (by decide) (fun x hx => rfl) (fun x hx => rfl) hc (row_keep (hS.2.2.2.2.2.1 _ hodt) hw0.2 (by decide) (fun x hx => rfl)) (fun x hx => rfl)
    obtain ⟨dy2, ln2, ll2, ps2, tc2, tp2, od2, no2, ax2, kp2, hA, hB, hL2⟩ := ent_sim hSn hlf hll hno hod h1 h6 hD
    refine ⟨0, 0, 0, _, fun o1 o2 => wB cI cZ b 0 gr dy2 (va_up kd (7 * od t + dy) 3) wo (va_up mb (7 * od t + dy) false) ti (va_up td (7 * od t + dy) false) (va_up la (od t) dy) go kp2 od2 no2 ax2 lv rh re rs ph pr o1 o2, Nat.zero_le _, Nat.zero_le _, fun Y => w_pass rfl (c_X2_pass _ (od t) _ hps hll hln heq.symm h1 h6 rfl (c_X0_goOn2 hA hg2 h6 hll hps hln)), fun Z => c_X3_pass _ t _ h6 hax ht12 hodt rfl (c_X3_passOn2 hB hg2 h6 hax ht hno hod), fun o1 o2 => ⟨_, _, _, _, _, _, _, _, _, _, _, _, _, _, _, _, _, _, _, _, _, _, _, _, _, _, _, _, _, _, _, _, _, _, _, _, rfl, rfl, hSn, hlf, hlc, hR, hP, hL2⟩⟩
set_option maxRecDepth 100000 in
set_option maxHeartbeats 4000000 in
theorem s_leave (hl : l.stackTraces = false) (x1 : Int32) {k0 : Int32} (h : RWc cI cZ a b k0 WA WB) : ∃ (k : Int32) (mc ms : Nat) (WA2 : va_W) (WB2 : wo_sw), mc ≤ 1 ∧ ms ≤ 6 ∧ (∀ Y, wo_L l yL_leave cL_leave 3 [(0, 5, 8, 13), (0, 5, 11, 19)] 8 mc ms D ((cI, .int) :: (cZ, .boolean) :: (cJ, .long) :: tys) [.ref (a 0), .int x1] (WA ++ Y) (some (.int k)) (WA2 ++ Y)) ∧ (∀ Z, wo_S l yX3_leave cX3_leave 2 (none) 6 D ((cI, .int) :: (cZ, .boolean) :: (cJ, .long) :: tys) [.ref (b 0), .int x1] (WB ++ Z) none (fun o1 o2 => WB2 o1 o2 ++ Z)) ∧ ∀ o1 o2, RWc cI cZ a b k WA2 (WB2 o1 o2) := by
  obtain ⟨gr, en, mk, tl, me, rk, dy, ln, ll, ps, lf, lc, tc, tp, lv, rp, rc, pp, kd, wo, mb, ti, td, la, go, kp, od, no, ax, rh, re, rs, ph, pr, o1, o2, rfl, rfl, hS, hlf, hlc, hR, hP, hL⟩ := h
  have hg2 : gr ≤ 12 := hS.2.1
  have hg1 : 1 ≤ gr := by have := hS.1; omega
  cases hin : in_B x1 0 (nI (gr - 1)) with
  | false => exact ⟨1, 1, 6, _, fun o1 o2 => wB cI cZ b 1 gr dy kd wo mb ti td la go kp od no ax lv rh re rs ph pr o1 o2, Nat.le_refl _, Nat.le_refl _, fun Y => w_leave_t1 x1 rfl (t_X2_leave_1 hl x1 hg1 hg2 hin), fun Z => wo_E.toS o1 o2 (c_X3_leave_1 x1 hg1 hin), fun o1 o2 => ⟨_, _, _, _, _, _, _, _, _, _, _, _, _, _, _, _, _, _, _, _, _, _, _, _, _, _, _, _, _, _, _, _, _, _, _, _, rfl, rfl, hS, hlf, hlc, hR, hP, hL⟩⟩
  | true =>
    obtain ⟨w, hw, rfl⟩ := wo_in0 hg1 hg2 hin
    have hw12 : w < 12 := by omega
    cases hle : lf w with
    | true => exact ⟨2, 1, 6, _, fun o1 o2 => wB cI cZ b 2 gr dy kd wo mb ti td la go kp od no ax lv rh re rs ph pr o1 o2, Nat.le_refl _, Nat.le_refl _, fun Y => w_leave_t2 (nI w) rfl (t_X2_leave_2 hl w hg2 hw hle), fun Z => wo_E.toS o1 o2 (c_X3_leave_2 w hw hg2 (by rw [← hlf w hw12]; exact hle)), fun o1 o2 => ⟨_, _, _, _, _, _, _, _, _, _, _, _, _, _, _, _, _, _, _, _, _, _, _, _, _, _, _, _, _, _, _, _, _, _, _, _, rfl, rfl, hS, hlf, hlc, hR, hP, hL⟩⟩
    | false =>
      have hgo : go w = false := by rw [← hlf w hw12]; exact hle
      have hlf2 : ∀ v, v < 12 → va_up lf w true v = va_up go w true v := fun v hv => by
        by_cases e : v = w
        · rw [e, up_eq, up_eq]
        · rw [up_ne e, up_ne e]; exact hlf v hv
      have hlc2 : lc + 1 = wo_cnt (va_up go w true) gr := by
        rw [hlc]; exact (cnt_one hgo up_eq (fun k hk => up_ne hk) gr hw).symm
      obtain ⟨hll, hp12, hno, hod, hday⟩ := hL
      rcases hday with ⟨hd7, hl0⟩ | ⟨h1, h6, t, hD⟩
      · refine ⟨0, 0, 0, _, fun o1 o2 => wB cI cZ b 0 gr dy kd wo mb ti td la (va_up go w true) kp od no ax lv rh re rs ph pr o1 o2, Nat.zero_le _, Nat.zero_le _, fun Y => w_leave (nI w) rfl (c_X2_leave _ w hg2 hw hle (c_X0_dismiss _ w hw12 hll hp12 (fun k hk => absurd hk (by omega)) (fun _ => rfl) (fun z => absurd z.1 (by omega)))), fun Z => c_X3_leave _ w 0 hw hg2 hgo (by omega) (fun z => absurd hd7 z) (fun _ => rfl) (fun z => absurd hd7 z.1), fun o1 o2 => ⟨_, _, _, _, _, _, _, _, _, _, _, _, _, _, _, _, _, _, _, _, _, _, _, _, _, _, _, _, _, _, _, _, _, _, _, _, rfl, rfl, hS, hlf2, hlc2, hR, hP, hll, hp12, hno, hod, Or.inl ⟨hd7, hl0⟩⟩⟩
      · obtain ⟨hax, hps, ht, hln, heq, hlf0, hT, hnd, hfr, hfr2, hO⟩ := hD
        have hodt := hod t ht
        have ht12 : t < 12 := by omega
        have hn := List.nodup_cons.mp hnd
        have eA : ta_ ln (va_up lf w true) ll ps = (ta_ ln lf ll ps).filter (fun v => decide (¬ v = w)) := tl_left _ _ (fun v => up_tr' v)
        have eB : tb_ od kp (va_up go w true) no t = (tb_ od kp go no t).filter (fun v => decide (¬ v = w)) := tl_left _ _ (fun v => up_tr (kp v) v)
        have hT2 : ta_ ln (va_up lf w true) ll ps = tb_ od kp (va_up go w true) no t := by rw [eA, eB, hT]
        have hnd2 : (ta_ ln (va_up lf w true) ll ps).Nodup := by rw [eA]; exact hn.2.filter _
        have hfr3 : ∀ v ∈ ta_ ln (va_up lf w true) ll ps, v < gr ∧ kd (7 * v + dy) = 0 := fun v hv => by
          rw [eA] at hv
          exact hfr v (List.mem_cons_of_mem _ (List.mem_filter.mp hv).1)
        by_cases hon : od t = w
        · obtain ⟨dy2, ln2, ll2, ps2, tc2, tp2, od2, no2, ax2, kp2, hA, hB, hL2⟩ := adv_sim (ax := ax) hg2 (sht_wpos hS) hS.2.2.2.2.2.1 hlf2 hll hno hod h1 h6 hps ht hln hT2 hnd2 hfr3 hfr2 hO
          refine ⟨0, 0, 0, _, fun o1 o2 => wB cI cZ b 0 gr dy2 kd wo mb ti td la (va_up go w true) kp2 od2 no2 ax2 lv rh re rs ph pr o1 o2, Nat.zero_le _, Nat.zero_le _, fun Y => w_leave (nI w) rfl (c_X2_leave _ w hg2 hw hle (c_X0_dismiss _ w hw12 hll hp12 hln (fun z => absurd ⟨hps, heq.trans hon⟩ z) (fun _ => c_X0_goOn2 hA hg2 h6 hll hps hln))), fun Z => c_X3_leave _ w t hw hg2 hgo (by omega) (fun _ => ⟨hax, ht12, hodt⟩) (fun z => absurd ⟨by omega, hon⟩ z) (fun _ => c_X3_passOn2 hB hg2 h6 hax ht hno hod), fun o1 o2 => ⟨_, _, _, _, _, _, _, _, _, _, _, _, _, _, _, _, _, _, _, _, _, _, _, _, _, _, _, _, _, _, _, _, _, _, _, _, rfl, rfl, hS, hlf2, hlc2, hR, hP, hL2⟩⟩
        · have hon2 : ¬ ln ps = w := by rw [heq]; exact hon
          have hD2 : DayR gr dy ln ll ps (va_up lf w true) tc tp od no ax kp (va_up go w true) kd t := by
            refine ⟨hax, hps, ht, hln, heq, by rw [up_ne hon2]; exact hlf0, hT2, List.nodup_cons.mpr ⟨fun z => ?_, hnd2⟩, fun v hv => ?_, hfr2, hO⟩
            · rw [eA] at z; exact hn.1 (List.mem_filter.mp z).1
            · rcases List.mem_cons.mp hv with e | e
              · rw [e]; exact hfr _ List.mem_cons_self
              · exact hfr3 v e
          refine ⟨0, 0, 0, _, fun o1 o2 => wB cI cZ b 0 gr dy kd wo mb ti td la (va_up go w true) kp od no ax lv rh re rs ph pr o1 o2, Nat.zero_le _, Nat.zero_le _, fun Y => w_leave (nI w) rfl (c_X2_leave _ w hg2 hw hle (c_X0_dismiss _ w hw12 hll hp12 hln (fun _ => rfl) (fun z => absurd z.2 hon2))), fun Z => c_X3_leave _ w t hw hg2 hgo (by omega) (fun _ => ⟨hax, ht12, hodt⟩) (fun _ => rfl) (fun z => absurd z.2 hon), fun o1 o2 => ⟨_, _, _, _, _, _, _, _, _, _, _, _, _, _, _, _, _, _, _, _, _, _, _, _, _, _, _, _, _, _, _, _, _, _, _, _, rfl, rfl, hS, hlf2, hlc2, hR, hP, hll, hp12, hno, hod, Or.inr ⟨h1, h6, t, hD2⟩⟩⟩
set_option maxRecDepth 100000 in
set_option maxHeartbeats 4000000 in
theorem s_appeal (hl : l.stackTraces = false) (x1 : Int32) (x2 : Int32) (o : Nat) (f : Nat → Int64) {k0 : Int32} (h : RWc cI cZ a b k0 WA WB) : ∃ (k : Int32) (r : Int32) (mc ms : Nat) (WA2 : va_W) (WB2 : wo_sw) (f2 : Nat → Int64), mc ≤ 1 ∧ ms ≤ 6 ∧ (∀ Y, wo_L l yL_appeal cL_appeal 5 [(0, 10, 13, 13), (0, 10, 17, 19)] 8 mc ms D ((cI, .int) :: (cZ, .boolean) :: (cJ, .long) :: tys) [.ref (a 0), .int x1, .int x2, .ref o] (WA ++ wo_o cJ o f :: Y) (some (.int k)) (WA2 ++ wo_o cJ o f2 :: Y)) ∧ (∀ Z, wo_S l yX3_appeal cX3_appeal 4 (some .int) 2 D ((cI, .int) :: (cZ, .boolean) :: (cJ, .long) :: tys) [.ref (b 0), .int x1, .int x2] (WB ++ Z) (some (.int r)) (fun o1 o2 => WB2 o1 o2 ++ Z)) ∧ (k = 0 → f2 0 = r.toInt64) ∧ ∀ o1 o2, RWc cI cZ a b k WA2 (WB2 o1 o2) := by
  obtain ⟨gr, en, mk, tl, me, rk, dy, ln, ll, ps, lf, lc, tc, tp, lv, rp, rc, pp, kd, wo, mb, ti, td, la, go, kp, od, no, ax, rh, re, rs, ph, pr, o1, o2, rfl, rfl, hS, hlf, hlc, hR, hP, hL⟩ := h
  have hg2 : gr ≤ 12 := hS.2.1
  have hg1 : 1 ≤ gr := by have := hS.1; omega
  cases hin : (in_B x1 0 (nI (gr - 1)) && in_B x2 1 6) with
  | false => exact ⟨1, 0, 1, 6, _, fun o1 o2 => wB cI cZ b 1 gr dy kd wo mb ti td la go kp od no ax lv rh re rs ph pr o1 o2, f, Nat.le_refl _, Nat.le_refl _, fun Y => w_appeal_t1 x1 x2 rfl (t_X2_appeal_1 hl x1 x2 hg1 hg2 hin), fun Z => wo_E.toS o1 o2 (c_X3_appeal_1 x1 x2 hg1 hin), fun z => absurd z (by decide), fun o1 o2 => ⟨_, _, _, _, _, _, _, _, _, _, _, _, _, _, _, _, _, _, _, _, _, _, _, _, _, _, _, _, _, _, _, _, _, _, _, _, rfl, rfl, hS, hlf, hlc, hR, hP, hL⟩⟩
  | true =>
    obtain ⟨hi1, hi2⟩ := and_t hin
    obtain ⟨w, hw, rfl⟩ := wo_in0 hg1 hg2 hi1
    obtain ⟨d, h1, h6, rfl⟩ := inB_nat (m := 1) (n := 6) rfl rfl (by omega) (by omega) hi2
    have hc := hS.2.2.1 w d (by omega) h1 h6
    have hiff : (kd (7 * w + d) = 2 ∧ mb (7 * w + d) = true) ↔ (mk (w * 6 + d - 1) = -1 ∧ ¬ me (w * 6 + d - 1) = 0) := by
      rcases hc.1 with ⟨q, q2⟩ | ⟨q, q2, q3⟩ | ⟨q, q2⟩ | ⟨q, q2⟩
      · rw [q, q2]; exact ⟨fun z => absurd z.1 (by decide), fun z => absurd z.1 (by decide)⟩
      · rw [q, q2]; exact ⟨fun z => absurd z.1 (by decide), fun z => absurd z.1 (fun e => by rw [e] at q3; exact absurd q3 (by decide))⟩
      · have h3 := (hc.2.2.2 q).1
        exact ⟨fun z => ⟨q2, h3.mp z.2⟩, fun z => ⟨q, h3.mpr z.2⟩⟩
      · rw [q, q2]; exact ⟨fun z => absurd z.1 (by decide), fun z => absurd z.1 (by decide)⟩
    by_cases hok : kd (7 * w + d) = 2 ∧ mb (7 * w + d) = true
    rotate_left
    · exact ⟨2, 0, 1, 6, _, fun o1 o2 => wB cI cZ b 2 gr dy kd wo mb ti td la go kp od no ax lv rh re rs ph pr o1 o2, f, Nat.le_refl _, Nat.le_refl _, fun Y => w_appeal_t2 (nI w) (nI d) rfl (t_X2_appeal_2 hl w d hg2 hw h1 h6 (fun z => hok (hiff.mpr z))), fun Z => wo_E.toS o1 o2 (c_X3_appeal_2 w d hg1 hg2 hw h1 h6 hok), fun z => absurd z (by decide), fun o1 o2 => ⟨_, _, _, _, _, _, _, _, _, _, _, _, _, _, _, _, _, _, _, _, _, _, _, _, _, _, _, _, _, _, _, _, _, _, _, _, rfl, rfl, hS, hlf, hlc, hR, hP, hL⟩⟩
    obtain ⟨hk, hm⟩ := hok
    obtain ⟨m1, m2⟩ := (hc.2.2.2 hk).2 hm
    have hSn := sht_appeal hS (by omega) h1 h6 hk hm
    have hrec : rec_A (me (w * 6 + d - 1)) (tl (w * 6 + d - 1)) rp = rec_B td ti rh wo re (7 * w + d) := rec_eq hR m1 hc.2.1 hc.2.2.1
    have hR2 : RecR (if rec_A (me (w * 6 + d - 1)) (tl (w * 6 + d - 1)) rp then me (w * 6 + d - 1) else rp) (if rec_A (me (w * 6 + d - 1)) (tl (w * 6 + d - 1)) rp then rc + 1 else rc) (if rec_B td ti rh wo re (7 * w + d) then true else rh) (if rec_B td ti rh wo re (7 * w + d) then wo (7 * w + d) else re) (if rec_B td ti rh wo re (7 * w + d) then rs + 1 else rs) := by
      rw [hrec, m1]; exact rec_upd _ hR m2
    have hL2 : LinR gr dy ln ll ps lf tc tp od no ax kp go (va_up kd (7 * w + d) 1) := by
      obtain ⟨hll, hp12, hno, hod, hday⟩ := hL
      refine ⟨hll, hp12, hno, hod, ?_⟩
      rcases hday with h7 | ⟨q1, q6, t, hax, hps, ht, hln, heq, hlf0, hT, hnd, hfr, hfr2, hO⟩
      · exact Or.inl h7
      · refine Or.inr ⟨q1, q6, t, hax, hps, ht, hln, heq, hlf0, hT, hnd, fun v hv => ?_, fun v d2 a b c => ?_, hO⟩
        · have h2 := hfr v hv
          have h3 : ¬ 7 * v + dy = (7 * w + d) := fun z => by rw [z, hk] at h2; exact absurd h2.2 (by decide)
          rw [up_ne h3]; exact h2
        · have h2 := hfr2 v d2 a b c
          have h3 : ¬ 7 * v + d2 = (7 * w + d) := fun z => by rw [z, hk] at h2; exact absurd h2 (by decide)
          rw [up_ne h3]; exact h2
    exact ⟨0, wo (7 * w + d), 0, 0, _, fun o1 o2 => wB cI cZ b 0 gr dy (va_up kd (7 * w + d) 1) wo (va_up mb (7 * w + d) false) ti td la go kp od no ax lv (if rec_B td ti rh wo re (7 * w + d) then true else rh) (if rec_B td ti rh wo re (7 * w + d) then wo (7 * w + d) else re) (if rec_B td ti rh wo re (7 * w + d) then rs + 1 else rs) ph pr o1 o2, _, Nat.zero_le _, Nat.zero_le _, fun Y => w_appeal (nI w) (nI d) (me (w * 6 + d - 1)) rfl rfl (c_X2_appeal w d hg2 hw h1 h6 (hiff.mp ⟨hk, hm⟩)), fun Z => wo_E.toS o1 o2 (c_X3_appeal w d hg1 hg2 hw h1 h6 hk hm), fun _ => by rw [updL_0, m1], fun o1 o2 => ⟨_, _, _, _, _, _, _, _, _, _, _, _, _, _, _, _, _, _, _, _, _, _, _, _, _, _, _, _, _, _, _, _, _, _, _, _, rfl, rfl, hSn, hlf, hlc, hR2, hP, hL2⟩⟩
end STP
