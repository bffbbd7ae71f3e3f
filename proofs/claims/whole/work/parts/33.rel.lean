/-! ===== the relation of both states, and how a day goes on ===== -/
def r_cell (mk tl me kd wo : Nat → Int32) (mb : Nat → Bool) (ti : Nat → Int32) (td : Nat → Bool) (i j : Nat) : Prop :=
  ((kd j = 0 ∧ mk i = -1000000) ∨ (kd j = 1 ∧ mk i = wo j ∧ 0 < wo j) ∨ (kd j = 2 ∧ mk i = -1) ∨ (kd j = 3 ∧ mk i = -2)) ∧ tl i = (if td j then ti j else -1000000) ∧ (td j = true → ¬ ti j = -1000000) ∧ (kd j = 2 → (mb j = true ↔ ¬ me i = 0) ∧ (mb j = true → me i = wo j ∧ 0 < wo j))
def CellsR (mk tl me kd wo : Nat → Int32) (mb : Nat → Bool) (ti : Nat → Int32) (td : Nat → Bool) : Prop := ∀ w d, w < 12 → 1 ≤ d → d ≤ 6 → r_cell mk tl me kd wo mb ti td (w * 6 + d - 1) (7 * w + d)
def ShtR (gr en : Nat) (mk tl me rk kd wo : Nat → Int32) (mb : Nat → Bool) (ti : Nat → Int32) (td : Nat → Bool) (la : Nat → Nat) : Prop :=
  3 ≤ gr ∧ gr ≤ 12 ∧ CellsR mk tl me kd wo mb ti td ∧ (∀ w, w < 12 → kd (7 * w) = 0) ∧ (∀ w d, gr ≤ w → w < 12 → d ≤ 6 → kd (7 * w + d) = 0) ∧ (∀ w, w < 12 → row_ok rk kd wo w) ∧ en = wo_cnt (fun k => decide (¬ kd k = 0)) 84 ∧ (∀ w, w < 12 → la w = lt_A mk w 6)
def OrdR (gr dy : Nat) (tc : Nat → Bool) (tp od : Nat → Nat) (no : Nat) (kp : Nat → Bool) : Prop := (dy ≤ 3 → ls_ (od, no) = rg_ gr ∧ ∀ w, w < 12 → kp w = true) ∧ (4 ≤ dy → ls_ (od, no) = or_ (fun q w => tc w && decide (tp w = q)) gr gr ∧ ∀ w, w < gr → kp w = tc w ∧ tp w ≤ 13)
def ta_ (ln : Nat → Nat) (lf : Nat → Bool) (ll ps : Nat) : List Nat := sg_ ln (fun w => !lf w) (ll - (ps + 1)) (ps + 1)
def tb_ (od : Nat → Nat) (kp go : Nat → Bool) (no t : Nat) : List Nat := sg_ od (fun w => kp w && !go w) (no - (t + 1)) (t + 1)
def DayR (gr dy : Nat) (ln : Nat → Nat) (ll ps : Nat) (lf tc : Nat → Bool) (tp od : Nat → Nat) (no : Nat) (ax : Int32) (kp go : Nat → Bool) (kd : Nat → Int32) (t : Nat) : Prop :=
  ax = nI t ∧ ps < ll ∧ t < no ∧ (∀ k, k < ll → ln k < 12) ∧ ln ps = od t ∧ lf (ln ps) = false ∧ ta_ ln lf ll ps = tb_ od kp go no t ∧ (ln ps :: ta_ ln lf ll ps).Nodup ∧ (∀ w ∈ ln ps :: ta_ ln lf ll ps, w < gr ∧ kd (7 * w + dy) = 0) ∧ (∀ w d, w < 12 → dy < d → d ≤ 6 → kd (7 * w + d) = 0) ∧ OrdR gr dy tc tp od no kp
def LinR (gr dy : Nat) (ln : Nat → Nat) (ll ps : Nat) (lf tc : Nat → Bool) (tp od : Nat → Nat) (no : Nat) (ax : Int32) (kp go : Nat → Bool) (kd : Nat → Int32) : Prop :=
  ll ≤ 12 ∧ ps ≤ 12 ∧ no ≤ 12 ∧ (∀ k, k < no → od k < 12) ∧ ((dy = 7 ∧ ll = 0) ∨ (1 ≤ dy ∧ dy ≤ 6 ∧ ∃ t, DayR gr dy ln ll ps lf tc tp od no ax kp go kd t))
theorem nxA_seg {ln : Nat → Nat} {lf : Nat → Bool} {ll : Nat} (hl : ll ≤ 12) : ∀ n ps, n + ps = ll → (sg_ ln (fun w => !lf w) n ps = [] → nx_A ln lf ll ps = ll) ∧ (∀ w r, sg_ ln (fun w => !lf w) n ps = w :: r → nx_A ln lf ll ps < ll ∧ ln (nx_A ln lf ll ps) = w ∧ lf w = false ∧ ta_ ln lf ll (nx_A ln lf ll ps) = r)
  | 0, ps, h => by
    refine ⟨fun _ => by rw [nx_end (by omega) (by omega)]; omega, fun w r e => ?_⟩
    cases e
  | n + 1, ps, h => by
    have ih := nxA_seg (ln := ln) (lf := lf) hl n (ps + 1) (by omega)
    cases hk : lf (ln ps) with
    | true =>
      have e : sg_ ln (fun w => !lf w) (n + 1) ps = sg_ ln (fun w => !lf w) n (ps + 1) := by rw [sg_, hk]; rfl
      rw [e, nx_step hl (by omega) hk]
      exact ih
    | false =>
      have e : sg_ ln (fun w => !lf w) (n + 1) ps = ln ps :: sg_ ln (fun w => !lf w) n (ps + 1) := by rw [sg_, hk]; rfl
      rw [e, nx_stop (by omega) hk]
      refine ⟨(fun z => by cases z), fun w r z => ?_⟩
      injection z with z1 z2
      refine ⟨by omega, z1, by rw [← z1]; exact hk, ?_⟩
      unfold ta_
      rw [show ll - (ps + 1) = n by omega]
      exact z2
theorem nxB_seg {od : Nat → Nat} {kp go : Nat → Bool} {no : Nat} (hl : no ≤ 12) : ∀ n t, n + t = no → (sg_ od (fun w => kp w && !go w) n t = [] → nx_B od kp go no t = no) ∧ (∀ w r, sg_ od (fun w => kp w && !go w) n t = w :: r → nx_B od kp go no t < no ∧ od (nx_B od kp go no t) = w ∧ tb_ od kp go no (nx_B od kp go no t) = r)
  | 0, t, h => by
    refine ⟨fun _ => by rw [nxB_end (by omega) (by omega)]; omega, fun w r e => ?_⟩
    cases e
  | n + 1, t, h => by
    have ih := nxB_seg (od := od) (kp := kp) (go := go) hl n (t + 1) (by omega)
    cases hk : (kp (od t) && !go (od t)) with
    | false =>
      have e : sg_ od (fun w => kp w && !go w) (n + 1) t = sg_ od (fun w => kp w && !go w) n (t + 1) := by rw [sg_, hk]; rfl
      rw [e, nxB_step hl (by omega) hk]
      exact ih
    | true =>
      have e : sg_ od (fun w => kp w && !go w) (n + 1) t = od t :: sg_ od (fun w => kp w && !go w) n (t + 1) := by rw [sg_, hk]; rfl
      rw [e, nxB_stop (by omega) hk]
      refine ⟨(fun z => by cases z), fun w r z => ?_⟩
      injection z with z1 z2
      refine ⟨by omega, z1, ?_⟩
      unfold tb_
      rw [show no - (t + 1) = n by omega]
      exact z2
theorem filter_self {p : Nat → Bool} {r : List Nat} (h : ∀ w ∈ r, p w = true) : r.filter p = r := List.filter_eq_self.mpr h
/-- both line up by one list -/
theorem lineup {OL : List Nat} {ln : Nat → Nat} {ll : Nat} {lf : Nat → Bool} {od : Nat → Nat} {no : Nat} {kp go : Nat → Bool} (hll : ll ≤ 12) (hno : no ≤ 12) (hA : ls_ (ln, ll) = OL.filter (fun w => !lf w)) (hB : ls_ (od, no) = OL) (hkp : ∀ w ∈ OL, kp w = true) (hgo : ∀ w ∈ OL, lf w = go w) :
    (ll = 0 → nx_B od kp go no 0 = no) ∧ (¬ ll = 0 → nx_B od kp go no 0 < no ∧ ln 0 = od (nx_B od kp go no 0) ∧ lf (ln 0) = false ∧ ta_ ln lf ll 0 = tb_ od kp go no (nx_B od kp go no 0) ∧ ln 0 :: ta_ ln lf ll 0 = OL.filter (fun w => !lf w)) := by
  have hF : sg_ od (fun w => kp w && !go w) no 0 = OL.filter (fun w => !lf w) := by
    have h1 : (ls_ (od, no)).filter (fun w => kp w && !go w) = sg_ od (fun w => kp w && !go w) no 0 := by
      show (sg_ od (fun _ => true) no 0).filter _ = _
      rw [sg_filter]; rfl
    rw [← h1, hB]
    refine List.filter_congr (fun w hw => ?_)
    rw [hkp w hw, hgo w hw, Bool.true_and]
  have hs := nxB_seg (od := od) (kp := kp) (go := go) hno no 0 (Nat.add_zero _)
  have hlen : (OL.filter (fun w => !lf w)).length = ll := by rw [← hA]; exact ls_n _
  constructor
  · intro h0
    rw [h0] at hlen
    exact hs.1 (by rw [hF]; exact List.length_eq_zero_iff.mp hlen)
  · intro h0
    cases hL : OL.filter (fun w => !lf w) with
    | nil => rw [hL] at hlen; exact absurd hlen.symm h0
    | cons w r =>
      obtain ⟨n, rfl⟩ : ∃ n, ll = n + 1 := ⟨ll - 1, by omega⟩
      have hA2 : sg_ ln (fun _ => true) (n + 1) 0 = w :: r := by rw [← hL]; exact hA
      rw [sg_, if_pos rfl] at hA2
      injection hA2 with a1 a2
      obtain ⟨b1, b2, b3⟩ := hs.2 w r (by rw [hF, hL])
      have hall : ∀ z ∈ w :: r, (!lf z) = true := fun z hz => by rw [← hL] at hz; exact (List.mem_filter.mp hz).2
      have ht : ta_ ln lf (n + 1) 0 = r := by
        unfold ta_
        show sg_ ln (fun w => !lf w) (n + 1 - (0 + 1)) (0 + 1) = r
        rw [show n + 1 - (0 + 1) = n by omega]
        have h2 : (sg_ ln (fun _ => true) n (0 + 1)).filter (fun w => !lf w) = sg_ ln (fun w => !lf w) n (0 + 1) := by rw [sg_filter]; rfl
        rw [← h2, a2]
        exact filter_self (fun z hz => hall z (List.mem_cons_of_mem _ hz))
      have hw : lf w = false := by have := hall w List.mem_cons_self; simpa using this
      exact ⟨b1, a1.trans b2.symm, by rw [a1]; exact hw, by rw [ht, b3], by rw [a1, ht]⟩
def advA (gr : Nat) (rk : Nat → Int32) (dy : Nat) (ln : Nat → Nat) (ll ps : Nat) (lf tc : Nat → Bool) (tp : Nat → Nat) (dy2 : Nat) (ln2 : Nat → Nat) (ll2 ps2 : Nat) (tc2 : Nat → Bool) (tp2 : Nat → Nat) : Prop :=
  (nx_A ln lf ll (ps + 1) < ll ∧ dy2 = dy ∧ ln2 = ln ∧ ll2 = ll ∧ ps2 = nx_A ln lf ll (ps + 1) ∧ tc2 = tc ∧ tp2 = tp) ∨ (¬ nx_A ln lf ll (ps + 1) < ll ∧ dy2 = (if (lu_E rk gr dy ln lf tc tp).2 = 0 then 7 else dy + 1) ∧ ln2 = (lu_E rk gr dy ln lf tc tp).1 ∧ ll2 = (lu_E rk gr dy ln lf tc tp).2 ∧ ps2 = 0 ∧ tc2 = tc_E rk gr dy tp tc ∧ tp2 = tp_E rk gr dy tp)
def advB (gr : Nat) (kd wo : Nat → Int32) (dy : Nat) (od : Nat → Nat) (no : Nat) (ax : Int32) (kp go : Nat → Bool) (t : Nat) (dy2 : Nat) (od2 : Nat → Nat) (no2 : Nat) (ax2 : Int32) (kp2 : Nat → Bool) : Prop :=
  (nx_B od kp go no (t + 1) < no ∧ dy2 = dy ∧ od2 = od ∧ no2 = no ∧ ax2 = nI (nx_B od kp go no (t + 1)) ∧ kp2 = kp) ∨ (¬ nx_B od kp go no (t + 1) < no ∧ dy2 = dn_E kd wo gr dy kp go od no ∧ od2 = (od_E kd wo gr dy kp od no).1 ∧ no2 = (od_E kd wo gr dy kp od no).2 ∧ ax2 = nI (tn_E kd wo gr dy kp go od no) ∧ kp2 = kp_E kd wo gr dy kp)
section ADV
variable {l : Launch} {D : va_G} {tys : List (ClassId × FieldType)} {cI cZ : ClassId} {a : Nat → Nat} {Y : va_W} {gr : Nat} {en : Nat} {mk : Nat → Int32} {tl : Nat → Int32} {me : Nat → Int32} {rk : Nat → Int32} {dy : Nat} {ln : Nat → Nat} {ll : Nat} {ps : Nat} {lf : Nat → Bool} {lc : Nat} {tc : Nat → Bool} {tp : Nat → Nat} {lv : Bool} {rp : Int32} {rc : Int32} {pp : Int32}
set_option maxRecDepth 100000 in
set_option maxHeartbeats 4000000 in
theorem c_X0_goOn2 {dy2 : Nat} {ln2 : Nat → Nat} {ll2 ps2 : Nat} {tc2 : Nat → Bool} {tp2 : Nat → Nat} (h : advA gr rk dy ln ll ps lf tc tp dy2 ln2 ll2 ps2 tc2 tp2) (hg : gr ≤ 12) (hd : dy ≤ 6) (hl : ll ≤ 12) (hp : ps < ll) (hln : ∀ k, k < ll → ln k < 12) : wo_E l yX0_goOn cX0_goOn 1 (none) 5 D ((cI, .int) :: (cZ, .boolean) :: tys) [.ref (a 6)] (wA cI cZ a gr en mk tl me rk dy ln ll ps lf lc tc tp lv rp rc pp ++ Y) none (wA cI cZ a gr en mk tl me rk (dy2) (ln2) (ll2) (ps2) lf lc (tc2) (tp2) lv rp rc pp ++ Y) := by
  rcases h with ⟨h, rfl, rfl, rfl, rfl, rfl, rfl⟩ | ⟨h, rfl, rfl, rfl, rfl, rfl, rfl⟩
  · exact c_X0_goOn _ hl hp hln (fun _ => rfl) (fun z => absurd h z)
  · exact c_X0_goOn _ hl hp hln (fun z => absurd z h) (fun _ => c_X0_endDay hg hd)
end ADV
section ADW
variable {l : Launch} {D : va_G} {tys : List (ClassId × FieldType)} {cI cZ : ClassId} {a : Nat → Nat} {Y : va_W} {co : Int32} {gr : Nat} {dy : Nat} {kd : Nat → Int32} {wo : Nat → Int32} {me : Nat → Bool} {ti : Nat → Int32} {td : Nat → Bool} {la : Nat → Nat} {go : Nat → Bool} {kp : Nat → Bool} {od : Nat → Nat} {no : Nat} {ax : Int32} {lv : Bool} {rh : Bool} {re : Int32} {rs : Int32} {ph : Bool} {pr : Int32} {o1 : Nat → Int32} {o2 : Nat → Int32}
set_option maxRecDepth 100000 in
set_option maxHeartbeats 4000000 in
theorem c_X3_passOn2 {t dy2 : Nat} {od2 : Nat → Nat} {no2 : Nat} {ax2 : Int32} {kp2 : Nat → Bool} (h : advB gr kd wo dy od no ax kp go t dy2 od2 no2 ax2 kp2) (hg : gr ≤ 12) (hd : dy ≤ 6) (hax : ax = nI t) (ht : t < no) (hno : no ≤ 12) (hod : ∀ k, k < no → od k < 12) : wo_S l yX3_passOn cX3_passOn 1 (none) 5 D ((cI, .int) :: (cZ, .boolean) :: tys) [.ref (a 0)] (wB cI cZ a co gr dy kd wo me ti td la go kp od no ax lv rh re rs ph pr o1 o2 ++ Y) none (fun o1 o2 => (wB cI cZ a co gr (dy2) kd wo me ti td la go (kp2) (od2) (no2) (ax2) lv rh re rs ph pr o1 o2 ++ Y)) := by
  have hax2 : ax + 1 = nI (t + 1) := by rw [hax]; exact nI_1 t
  rcases h with ⟨h, rfl, rfl, rfl, rfl, rfl⟩ | ⟨h, rfl, rfl, rfl, rfl, rfl⟩
  · exact c_X3_passOn _ (t + 1) hax2 (by omega) hno hod (fun _ => rfl) (fun z => absurd h z)
  · exact c_X3_passOn _ (t + 1) hax2 (by omega) hno hod (fun z => absurd z h) (fun _ => c_X3_nextDay hg hd hno hod)
end ADW
