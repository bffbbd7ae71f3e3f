/-! ===== both go on alike ===== -/
theorem lt_len_filter {p : Nat → Bool} {r : List Nat} : (r.filter p).length ≤ r.length := List.length_filter_le p r
theorem or_len {kd wo : Nat → Int32} {g : Nat} {kp : Nat → Bool} : (or_ (by_ok kd wo g kp) g g).length ≤ g := by
  have h := ls_byp (by_ok kd wo g kp) g g ((fun _ => 0), 0)
  have h2 := congrArg List.length h
  rw [ls_n, List.length_append] at h2
  have h3 : (ls_ ((fun _ => 0 : Nat → Nat), 0)).length = 0 := rfl
  have h4 := by_p_le (kd := kd) (wo := wo) (g := g) (kp := kp) (od := fun _ => 0)
  omega
theorem ln_ok_eq {tp : Nat → Nat} {tc lf : Nat → Bool} {q w : Nat} (hq : q ≤ 12) (hw : tp w ≤ 13) : ln_ok tp tc lf q w = ((tc w && decide (tp w = q)) && !lf w) := by
  unfold ln_ok
  have e : decide (nI (tp w) = nI q) = decide (tp w = q) := by
    by_cases h : tp w = q
    · rw [decide_eq_true h, decide_eq_true (by rw [h])]
    · rw [decide_eq_false h, decide_eq_false (fun z => h (wo_ieq (by omega) (by omega) z))]
  rw [e, Bool.and_comm (decide (tp w = q)) (tc w)]
theorem by_len {g : Nat} {tp : Nat → Nat} {tc : Nat → Bool} : ∀ n, (or_ (fun q w => tc w && decide (tp w = q)) g n).length + wo_cnt (fun k => tc k && decide (tp k < 1)) g = wo_cnt (fun k => tc k && decide (tp k < n + 1)) g
  | 0 => by
    show 0 + _ = _
    rw [Nat.zero_add]
  | n + 1 => by
    have ih := by_len (g := g) (tp := tp) (tc := tc) n
    have hdn : ∀ m, (dn_ ((fun q w => tc w && decide (tp w = q)) (n + 1)) m).length = wo_cnt (fun k => tc k && decide (tp k = n + 1)) m := by
      intro m
      induction m with
      | zero => rfl
      | succ m ihm =>
        rw [dn_, List.length_append, ihm, wo_cnt]
        dsimp only
        by_cases h : (tc m && decide (tp m = n + 1)) = true
        · rw [if_pos h, if_pos h]; show 1 + _ = _; omega
        · rw [if_neg h, if_neg h]; show 0 + _ = _; omega
    have hadd := cnt_add (fun k => tc k && decide (tp k = n + 1)) (fun k => tc k && decide (tp k < n + 1)) (fun k => tc k && decide (tp k < n + 1 + 1)) (fun k => by
      simp only [Bool.and_eq_true, decide_eq_true_eq]
      refine ⟨⟨fun z => ?_, fun z => ?_⟩, fun z => by omega⟩
      · rcases Nat.lt_or_eq_of_le (Nat.le_of_lt_succ z.2) with h | h
        · exact Or.inr ⟨z.1, h⟩
        · exact Or.inl ⟨z.1, h⟩
      · rcases z with z | z
        · exact ⟨z.1, by omega⟩
        · exact ⟨z.1, by omega⟩) g
    rw [or_, List.length_append, hdn g]
    omega
theorem or_le {g : Nat} {tp : Nat → Nat} {tc : Nat → Bool} : (or_ (fun q w => tc w && decide (tp w = q)) g g).length ≤ g := by
  have h1 := by_len (g := g) (tp := tp) (tc := tc) g
  have h2 := wo_cnt_le (fun k => tc k && decide (tp k < g + 1)) g
  omega
theorem or_nd2 {g : Nat} {tp : Nat → Nat} {tc : Nat → Bool} : (or_ (fun q w => tc w && decide (tp w = q)) g g).Nodup := or_nd (fun i j w h1 h2 => by
  simp only [Bool.and_eq_true, decide_eq_true_eq] at h1 h2
  rw [← h1.2, ← h2.2]) g
/-- the class lines up by the places taken -/
theorem lnp_ok {g : Nat} {tp : Nat → Nat} {tc lf : Nat → Bool} {ln : Nat → Nat} (hg : g ≤ 12) (ht : ∀ w, w < g → tp w ≤ 13) : ls_ (ln_p tp tc lf g g (ln, 0)) = (or_ (fun q w => tc w && decide (tp w = q)) g g).filter (fun w => !lf w) := by
  have e : or_ (ln_ok tp tc lf) g g = (or_ (fun q w => tc w && decide (tp w = q)) g g).filter (fun w => !lf w) := by
    rw [or_filter]
    exact or_congr g (fun j k hj hk => ln_ok_eq (by omega) (ht k hk))
  have hlen : (or_ (ln_ok tp tc lf) g g).length ≤ g := by rw [e]; exact Nat.le_trans lt_len_filter or_le
  have h0 : (ln, 0).2 = 0 := rfl
  rw [ls_lnp g (ln, 0) (by omega), e]
  rfl
theorem byp_ok {kd wo : Nat → Int32} {g : Nat} {kp tc : Nat → Bool} {tp od : Nat → Nat} (hk : ∀ w, w < g → kp w = tc w) (hp : ∀ w, w < g → tp w = pl_B kd wo g w) : ls_ (by_p (by_ok kd wo g kp) g g (od, 0)) = or_ (fun q w => tc w && decide (tp w = q)) g g := by
  rw [ls_byp]
  show [] ++ _ = _
  rw [List.nil_append]
  refine or_congr g (fun j k hj hk2 => ?_)
  unfold by_ok
  rw [hk k hk2, hp k hk2]
/-- a new day, or the end, out of one list -/
theorem newday {OL : List Nat} {gr dy : Nat} {ln : Nat → Nat} {ll : Nat} {lf tc : Nat → Bool} {tp od : Nat → Nat} {no : Nat} {kp go : Nat → Bool} {kd : Nat → Int32} (hg : gr ≤ 12) (hd1 : 1 ≤ dy) (hd : dy ≤ 6) (hll : ll ≤ 12) (hno : no ≤ 12) (hA : ls_ (ln, ll) = OL.filter (fun w => !lf w)) (hB : ls_ (od, no) = OL) (hkp : ∀ w ∈ OL, kp w = true) (hgo : ∀ w, w < 12 → lf w = go w) (hnd : OL.Nodup) (hlt : ∀ w ∈ OL, w < gr) (hfr : ∀ w d, w < 12 → dy ≤ d → d ≤ 6 → kd (7 * w + d) = 0) (hO : OrdR gr dy tc tp od no kp) :
    (nx_B od kp go no 0 = no ↔ ll = 0) ∧ LinR gr (if ll = 0 then 7 else dy) ln ll 0 lf tc tp od no (nI (nx_B od kp go no 0)) kp go kd := by
  have h := lineup (lf := lf) (go := go) hll hno hA hB hkp (fun w hw => hgo w (by have := hlt w hw; omega))
  have hlns : ∀ k, k < ll → ln k < 12 := by
    intro k hk
    have hm : ln k ∈ ls_ (ln, ll) := by
      have hgen : ∀ n j, j ≤ k → k < j + n → ln k ∈ sg_ ln (fun _ => true) n j := by
        intro n
        induction n with
        | zero => intro j h1 h2; omega
        | succ n ih =>
          intro j h1 h2
          rw [sg_, if_pos rfl]
          by_cases e : j = k
          · rw [e]; exact List.mem_cons_self
          · exact List.mem_cons_of_mem _ (ih (j + 1) (by omega) (by omega))
      exact hgen ll 0 (Nat.zero_le _) (by omega)
    rw [hA] at hm
    have := hlt _ (List.mem_filter.mp hm).1
    omega
  have hods : ∀ k, k < no → od k < 12 := by
    intro k hk
    have hm : od k ∈ ls_ (od, no) := by
      have hgen : ∀ n j, j ≤ k → k < j + n → od k ∈ sg_ od (fun _ => true) n j := by
        intro n
        induction n with
        | zero => intro j h1 h2; omega
        | succ n ih =>
          intro j h1 h2
          rw [sg_, if_pos rfl]
          by_cases e : j = k
          · rw [e]; exact List.mem_cons_self
          · exact List.mem_cons_of_mem _ (ih (j + 1) (by omega) (by omega))
      exact hgen no 0 (Nat.zero_le _) (by omega)
    rw [hB] at hm
    have := hlt _ hm
    omega
  by_cases h0 : ll = 0
  · refine ⟨⟨fun _ => h0, fun _ => h.1 h0⟩, hll, Nat.zero_le _, hno, hods, Or.inl ⟨by rw [if_pos h0], by omega⟩⟩
  · obtain ⟨b1, b2, b3, b4, b5⟩ := h.2 h0
    refine ⟨⟨fun z => by omega, fun z => absurd z h0⟩, hll, Nat.zero_le _, hno, hods, Or.inr ?_⟩
    rw [if_neg h0]
    refine ⟨hd1, hd, _, rfl, by omega, b1, hlns, b2, b3, b4, by rw [b5]; exact hnd.filter _, fun w hw => ?_, fun w d h1 h2 h3 => hfr w d h1 (by omega) h3, hO⟩
    rw [b5] at hw
    have h9 := hlt w (List.mem_filter.mp hw).1
    exact ⟨h9, hfr w dy (by omega) (Nat.le_refl _) hd⟩
theorem adv_sim {gr dy : Nat} {rk kd wo : Nat → Int32} {ln : Nat → Nat} {ll ps : Nat} {lf tc : Nat → Bool} {tp od : Nat → Nat} {no : Nat} {ax : Int32} {kp go : Nat → Bool} {t : Nat} (hg : gr ≤ 12) (hwp : wpos kd wo) (hrow : ∀ w, w < 12 → row_ok rk kd wo w) (hgo : ∀ w, w < 12 → lf w = go w) (hll : ll ≤ 12) (hno : no ≤ 12) (hod : ∀ k, k < no → od k < 12) (hd1 : 1 ≤ dy) (hd : dy ≤ 6) (hps : ps < ll) (ht : t < no) (hln : ∀ k, k < ll → ln k < 12) (hT : ta_ ln lf ll ps = tb_ od kp go no t) (hnd : (ta_ ln lf ll ps).Nodup) (hfr : ∀ w ∈ ta_ ln lf ll ps, w < gr ∧ kd (7 * w + dy) = 0) (hfr2 : ∀ w d, w < 12 → dy < d → d ≤ 6 → kd (7 * w + d) = 0) (hO : OrdR gr dy tc tp od no kp) :
    ∃ (dy2 : Nat) (ln2 : Nat → Nat) (ll2 ps2 : Nat) (tc2 : Nat → Bool) (tp2 od2 : Nat → Nat) (no2 : Nat) (ax2 : Int32) (kp2 : Nat → Bool), advA gr rk dy ln ll ps lf tc tp dy2 ln2 ll2 ps2 tc2 tp2 ∧ advB gr kd wo dy od no ax kp go t dy2 od2 no2 ax2 kp2 ∧ LinR gr dy2 ln2 ll2 ps2 lf tc2 tp2 od2 no2 ax2 kp2 go kd := by
  have hsA := nxA_seg (ln := ln) (lf := lf) hll (ll - (ps + 1)) (ps + 1) (by omega)
  have hsB := nxB_seg (od := od) (kp := kp) (go := go) hno (no - (t + 1)) (t + 1) (by omega)
  cases hTa : ta_ ln lf ll ps with
  | cons w r =>
    obtain ⟨a1, a2, a3, a4⟩ := hsA.2 w r hTa
    obtain ⟨b1, b2, b3⟩ := hsB.2 w r (by rw [← hTa]; exact hT.symm)
    refine ⟨dy, ln, ll, nx_A ln lf ll (ps + 1), tc, tp, od, no, nI (nx_B od kp go no (t + 1)), kp, Or.inl ⟨a1, rfl, rfl, rfl, rfl, rfl, rfl⟩, Or.inl ⟨b1, rfl, rfl, rfl, rfl, rfl⟩, hll, by omega, hno, hod, Or.inr ⟨hd1, hd, _, rfl, a1, b1, hln, by rw [a2, b2], by rw [a2]; exact a3, by rw [a4, b3], ?_, ?_, hfr2, hO⟩⟩
    · rw [a2, a4, ← hTa]; exact hnd
    · rw [a2, a4, ← hTa]; exact hfr
  | nil =>
    have hTa2 := hTa
    have a1 : ¬ nx_A ln lf ll (ps + 1) < ll := by rw [hsA.1 hTa]; omega
    have b1 : ¬ nx_B od kp go no (t + 1) < no := by rw [hsB.1 (by rw [← hTa]; exact hT.symm)]; omega
    have hplw : ∀ w, w < 12 → pl_A rk gr w = pl_B kd wo gr w := fun w hw => pl_eq hg hwp hrow hw
    -- what follows for the day that comes, out of one list
    have fin : ∀ OL : List Nat, dy ≤ 5 → ls_ (lu_E rk gr dy ln lf tc tp) = OL.filter (fun w => !lf w) → ls_ (od_E kd wo gr dy kp od no) = OL → (∀ w ∈ OL, kp_E kd wo gr dy kp w = true) → OL.Nodup → (∀ w ∈ OL, w < gr) → OrdR gr (dy + 1) (tc_E rk gr dy tp tc) (tp_E rk gr dy tp) (od_E kd wo gr dy kp od no).1 (od_E kd wo gr dy kp od no).2 (kp_E kd wo gr dy kp) →
        ∃ (dy2 : Nat) (ln2 : Nat → Nat) (ll2 ps2 : Nat) (tc2 : Nat → Bool) (tp2 od2 : Nat → Nat) (no2 : Nat) (ax2 : Int32) (kp2 : Nat → Bool), advA gr rk dy ln ll ps lf tc tp dy2 ln2 ll2 ps2 tc2 tp2 ∧ advB gr kd wo dy od no ax kp go t dy2 od2 no2 ax2 kp2 ∧ LinR gr dy2 ln2 ll2 ps2 lf tc2 tp2 od2 no2 ax2 kp2 go kd := by
      intro OL hd5 h1 h2 h3 h4 h5 h6
      have hq := newday (dy := dy + 1) (ln := (lu_E rk gr dy ln lf tc tp).1) (ll := (lu_E rk gr dy ln lf tc tp).2) (lf := lf) (od := (od_E kd wo gr dy kp od no).1) (no := (od_E kd wo gr dy kp od no).2) (go := go) (kd := kd) hg (by omega) (by omega) (lu_le ..) (od_E_le hg hno) h1 h2 h3 hgo h4 h5 (fun w d a b c => hfr2 w d a (by omega) c) h6
      refine ⟨_, _, _, 0, _, _, _, _, _, _, Or.inr ⟨a1, rfl, rfl, rfl, rfl, rfl, rfl⟩, Or.inr ⟨b1, ?_, rfl, rfl, rfl, rfl⟩, hq.2⟩
      unfold dn_E tn_E
      by_cases h0 : (lu_E rk gr dy ln lf tc tp).2 = 0
      · rw [if_pos h0, if_pos (hq.1.mpr h0)]
      · rw [if_neg h0, if_neg (fun z => h0 (hq.1.mp z)), if_neg (by omega)]
    by_cases h2 : dy ≤ 2
    · have e1 : lu_E rk gr dy ln lf tc tp = ln_num lf (ln, 0) gr := by unfold lu_E lu_A; rw [if_pos (by omega)]
      have e2 : od_E kd wo gr dy kp od no = (wo_ff od (fun k => k) gr, gr) := by unfold od_E; rw [if_pos (by omega)]
      have e3 : kp_E kd wo gr dy kp = kp := by unfold kp_E; rw [if_neg (by omega)]
      have e4 : ls_ (wo_ff od (fun k => k) gr, gr) = rg_ gr := ls_id _ gr (fun k hk => wo_ff_lt (f := od) (g := fun k => k) hk)
      have hkp := (hO.1 (by omega)).2
      refine fin (rg_ gr) (by omega) (by rw [e1]; exact ls_num gr hg) (by rw [e2]; exact e4) (fun w hw => by rw [e3]; exact hkp w (by have := (rg_mem gr w).mp hw; omega)) (rg_nd gr) (fun w hw => (rg_mem gr w).mp hw) ?_
      rw [e2, e3]
      exact ⟨fun _ => ⟨e4, hkp⟩, fun z => absurd z (by omega)⟩
    · by_cases h6 : dy = 6
      · refine ⟨7, _, _, 0, _, _, _, _, _, _, Or.inr ⟨a1, ?_, rfl, rfl, rfl, rfl, rfl⟩, Or.inr ⟨b1, ?_, rfl, rfl, rfl, rfl⟩, lu_le .., Nat.zero_le _, od_E_le hg hno, od_E_lt hg hod, Or.inl ⟨rfl, ?_⟩⟩
        · have e : (lu_E rk gr dy ln lf tc tp).2 = 0 := by unfold lu_E lu_A; rw [if_neg (by omega), if_neg (by omega)]
          rw [if_pos e]
        · unfold dn_E
          rw [if_pos h6, ite_self]
        · have e : (lu_E rk gr dy ln lf tc tp).2 = 0 := by unfold lu_E lu_A; rw [if_neg (by omega), if_neg (by omega)]
          omega
      · -- days 3, 4, 5
        have e1 : lu_E rk gr dy ln lf tc tp = ln_p (tp_E rk gr dy tp) (tc_E rk gr dy tp tc) lf gr gr (ln, 0) := by unfold lu_E lu_A; rw [if_neg (by omega), if_pos (by omega)]
        have htp : ∀ w, w < gr → tp_E rk gr dy tp w ≤ 13 := by
          intro w hw
          unfold tp_E
          split
          · rw [wo_ff_lt hw, hplw w (by omega)]; exact pl_B_le hg
          · exact ((hO.2 (by omega)).2 w hw).2
        have hkt : ∀ w, w < gr → kp_E kd wo gr dy kp w = tc_E rk gr dy tp tc w := by
          intro w hw
          unfold kp_E tc_E
          split
          · next h3 =>
            rw [wo_ff_lt hw, wo_ff_lt hw]
            unfold ck_B ct_A
            have e5 : tp_E rk gr dy tp w = pl_B kd wo gr w := by unfold tp_E; rw [if_pos (Or.inl h3), wo_ff_lt hw, hplw w (by omega)]
            have hple := pl_B_le (kd := kd) (wo := wo) (g := gr) (w := w) hg
            rw [e5]
            have e6 := row_at (hrow w (by omega)) (k := 0) (by omega)
            rw [Nat.add_zero] at e6
            refine decide_eq_decide.mpr ⟨fun z => ⟨?_, nI_le (b := 8) z.2 (by omega)⟩, fun z => ⟨?_, wo_le (a := pl_B kd wo gr w) (b := 8) (by omega) (by omega) z.2⟩⟩
            · rw [e6, if_pos z.1]; exact none_ne (wk_pos (by omega) hwp z.1)
            · by_cases h7 : 0 < wn_B kd wo w
              · exact h7
              · rw [e6, if_neg h7] at z; exact absurd rfl z.1
          · next h3 => exact ((hO.2 (by omega)).2 w hw).1
        have e2 : ls_ (od_E kd wo gr dy kp od no) = or_ (fun q w => tc_E rk gr dy tp tc w && decide (tp_E rk gr dy tp w = q)) gr gr := by
          by_cases h35 : dy = 3 ∨ dy = 5
          · have e : od_E kd wo gr dy kp od no = by_p (by_ok kd wo gr (kp_E kd wo gr dy kp)) gr gr (od, 0) := by unfold od_E; rw [if_neg (by omega), if_pos h35]
            rw [e]
            refine byp_ok hkt (fun w hw => ?_)
            unfold tp_E
            rw [if_pos h35, wo_ff_lt hw, hplw w (by omega)]
          · have e : od_E kd wo gr dy kp od no = (od, no) := by unfold od_E; rw [if_neg (by omega), if_neg h35]
            have e3 : tp_E rk gr dy tp = tp := by unfold tp_E; rw [if_neg h35]
            have e4 : tc_E rk gr dy tp tc = tc := by unfold tc_E; rw [if_neg (by omega)]
            rw [e, e3, e4]
            exact (hO.2 (by omega)).1
        refine fin _ (by omega) (by rw [e1]; exact lnp_ok hg htp) e2 (fun w hw => ?_) or_nd2 (fun w hw => (or_mem gr w hw).1) ?_
        · obtain ⟨h1, j, h3, h4⟩ := or_mem gr w hw
          rw [hkt w h1]
          simp only [Bool.and_eq_true] at h4
          exact h4.1
        · exact ⟨fun z => absurd z (by omega), fun _ => ⟨e2, fun w hw => ⟨hkt w hw, htp w hw⟩⟩⟩
