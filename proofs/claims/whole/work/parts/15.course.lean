/-! ===== the course: mirror functions and contracts ===== -/
theorem wo_dec (x : Int32) : x + Int32.ofInt (-1) = x - 1 := by rw [Int32.sub_eq_add_neg]; rfl
def wo_ff {α : Type} (f g : Nat → α) (n : Nat) : Nat → α := fun j => if j < n then g j else f j
theorem wo_ff_up {α : Type} (f g : Nat → α) (n : Nat) : va_up (wo_ff f g n) n (g n) = wo_ff f g (n + 1) := by
  funext j; unfold va_up wo_ff
  by_cases h : j = n
  · rw [if_pos h, if_pos (by omega), h]
  · rw [if_neg h]
    by_cases h2 : j < n
    · rw [if_pos h2, if_pos (by omega)]
    · rw [if_neg h2, if_neg (by omega)]
theorem wo_ff_0 {α : Type} (f g : Nat → α) : wo_ff f g 0 = f := by funext j; unfold wo_ff; rw [if_neg (by omega)]
theorem wo_ff_ge {α : Type} {f g : Nat → α} {n j : Nat} (h : n ≤ j) : wo_ff f g n j = f j := by unfold wo_ff; rw [if_neg (by omega)]
theorem wo_ff_lt {α : Type} {f g : Nat → α} {n j : Nat} (h : j < n) : wo_ff f g n j = g j := by unfold wo_ff; rw [if_pos h]
def pu_A (s : (Nat → Nat) × Nat) (w : Nat) : (Nat → Nat) × Nat := if s.2 < 12 then (va_up s.1 s.2 w, s.2 + 1) else s
def ln_num (lf : Nat → Bool) (s : (Nat → Nat) × Nat) : Nat → (Nat → Nat) × Nat
  | 0 => s
  | n + 1 => if lf n then ln_num lf s n else pu_A (ln_num lf s n) n
def ln_ok (tp : Nat → Nat) (tc lf : Nat → Bool) (pl w : Nat) : Bool := decide (nI (tp w) = nI pl) && tc w && !lf w
def ln_w (tp : Nat → Nat) (tc lf : Nat → Bool) (pl : Nat) : Nat → (Nat → Nat) × Nat → (Nat → Nat) × Nat
  | 0, s => s
  | n + 1, s => ln_w tp tc lf pl n (if ln_ok tp tc lf pl n then pu_A s n else s)
def ln_p (tp : Nat → Nat) (tc lf : Nat → Bool) (g : Nat) : Nat → (Nat → Nat) × Nat → (Nat → Nat) × Nat
  | 0, s => s
  | n + 1, s => ln_p tp tc lf g n (ln_w tp tc lf (n + 1) g s)
def lu_A (g dy : Nat) (ln : Nat → Nat) (lf tc : Nat → Bool) (tp : Nat → Nat) : (Nat → Nat) × Nat := if dy ≤ 3 then ln_num lf (ln, 0) g else if dy ≤ 6 then ln_p tp tc lf g g (ln, 0) else (ln, 0)
theorem pu_le {s : (Nat → Nat) × Nat} {w : Nat} (h : s.2 ≤ 12) : (pu_A s w).2 ≤ 12 := by unfold pu_A; split; show s.2 + 1 ≤ 12; omega; exact h
theorem ln_num_le {lf : Nat → Bool} {s : (Nat → Nat) × Nat} (h : s.2 ≤ 12) : ∀ n, (ln_num lf s n).2 ≤ 12
  | 0 => h
  | n + 1 => by
    unfold ln_num
    split
    · exact ln_num_le h n
    · exact pu_le (ln_num_le h n)
def ct_A (rk : Nat → Int32) (tp : Nat → Nat) (j : Nat) : Bool := decide (¬ rk (j * 6) = -1000000 ∧ nI (tp j) ≤ 8)
section CRS
variable {l : Launch} {D : va_G} {tys : List (ClassId × FieldType)} {cI cZ : ClassId} {a : Nat → Nat} {Y : va_W} {gr : Nat} {en : Nat} {mk : Nat → Int32} {tl : Nat → Int32} {me : Nat → Int32} {rk : Nat → Int32} {dy : Nat} {ln : Nat → Nat} {ll : Nat} {ps : Nat} {lf : Nat → Bool} {lc : Nat} {tc : Nat → Bool} {tp : Nat → Nat} {lv : Bool} {rp : Int32} {rc : Int32} {pp : Int32}
set_option maxRecDepth 100000 in
set_option maxHeartbeats 4000000 in
theorem c_X0_today  : wo_E l yX0_today cX0_today 1 (some .int) 0 D ((cI, .int) :: (cZ, .boolean) :: tys) [.ref (a 6)] (wA cI cZ a gr en mk tl me rk dy ln ll ps lf lc tc tp lv rp rc pp ++ Y) (some (.int (nI dy))) (wA cI cZ a gr en mk tl me rk dy ln ll ps lf lc tc tp lv rp rc pp ++ Y) := by
  refine wo_of (ls := [some (.ref (a 6))]) (by decide) (Nat.le_of_ble_eq_true rfl) rfl ?_
  intro p e s m args below meth c A C
  refine x_aload_n C dX0_today_0 rfl rfl ?_
  refine gA6_day C dX0_today_1 ?_
  exact x_iret C dX0_today_4 rfl rfl
set_option maxRecDepth 100000 in
set_option maxHeartbeats 4000000 in
theorem c_X0_howManyLeft  : wo_E l yX0_howManyLeft cX0_howManyLeft 1 (some .int) 0 D ((cI, .int) :: (cZ, .boolean) :: tys) [.ref (a 6)] (wA cI cZ a gr en mk tl me rk dy ln ll ps lf lc tc tp lv rp rc pp ++ Y) (some (.int (nI lc))) (wA cI cZ a gr en mk tl me rk dy ln ll ps lf lc tc tp lv rp rc pp ++ Y) := by
  refine wo_of (ls := [some (.ref (a 6))]) (by decide) (Nat.le_of_ble_eq_true rfl) rfl ?_
  intro p e s m args below meth c A C
  refine x_aload_n C dX0_howManyLeft_0 rfl rfl ?_
  refine gA6_leftCount C dX0_howManyLeft_1 ?_
  exact x_iret C dX0_howManyLeft_4 rfl rfl
set_option maxRecDepth 100000 in
set_option maxHeartbeats 4000000 in
theorem c_X0_hasLeft (w : Nat) (hw : w < 12) : wo_E l yX0_hasLeft cX0_hasLeft 2 (some .boolean) 0 D ((cI, .int) :: (cZ, .boolean) :: tys) [.ref (a 6), .int (nI w)] (wA cI cZ a gr en mk tl me rk dy ln ll ps lf lc tc tp lv rp rc pp ++ Y) (some (.int (bz (lf w)))) (wA cI cZ a gr en mk tl me rk dy ln ll ps lf lc tc tp lv rp rc pp ++ Y) := by
  refine wo_of (ls := [some (.ref (a 6)), some (.int (nI w))]) (by decide) (Nat.le_of_ble_eq_true rfl) rfl ?_
  intro p e s m args below meth c A C
  refine x_aload_n C dX0_hasLeft_0 rfl rfl ?_
  refine gA6_left C dX0_hasLeft_1 ?_
  refine x_iload_n C dX0_hasLeft_4 rfl rfl ?_
  refine lA_lf C _ rfl (by omega) dX0_hasLeft_5 ?_
  exact x_zret C dX0_hasLeft_6 rfl rfl rfl
set_option maxRecDepth 100000 in
set_option maxHeartbeats 4000000 in
theorem c_X0_whoseTurn (hp : ps ≤ 12) (hl : ll ≤ 12) : wo_E l yX0_whoseTurn cX0_whoseTurn 1 (some .int) 0 D ((cI, .int) :: (cZ, .boolean) :: tys) [.ref (a 6)] (wA cI cZ a gr en mk tl me rk dy ln ll ps lf lc tc tp lv rp rc pp ++ Y) (some (.int (if ps < ll then nI (ln ps) else -1000000))) (wA cI cZ a gr en mk tl me rk dy ln ll ps lf lc tc tp lv rp rc pp ++ Y) := by
  refine wo_of (ls := [some (.ref (a 6))]) (by decide) (Nat.le_of_ble_eq_true rfl) rfl ?_
  intro p e s m args below meth c A C
  refine x_aload_n C dX0_whoseTurn_0 rfl rfl ?_
  refine gA6_position C dX0_whoseTurn_1 ?_
  refine x_aload_n C dX0_whoseTurn_4 rfl rfl ?_
  refine gA6_lineLength C dX0_whoseTurn_5 ?_
  refine x_icmp_ge C (tgt := 23) dX0_whoseTurn_8 (by decide) (fun h => ?_) (fun h => ?_)
  · have h2 := wo_le (by omega) (by omega) h
    refine x_ldc C kk_X0_45 dX0_whoseTurn_23 ?_
    exact x_iret C dX0_whoseTurn_25 (by rw [if_neg (by omega)]) rfl
  · have h2 := wo_nle (by omega) (by omega) h
    refine x_aload_n C dX0_whoseTurn_11 rfl rfl ?_
    refine gA6_line C dX0_whoseTurn_12 ?_
    refine x_aload_n C dX0_whoseTurn_15 rfl rfl ?_
    refine gA6_position C dX0_whoseTurn_16 ?_
    refine lA_ln C _ rfl (by omega) dX0_whoseTurn_19 ?_
    refine x_goto C (tgt := 25) dX0_whoseTurn_20 (by decide) ?_
    exact x_iret C dX0_whoseTurn_25 (by rw [if_pos h2]) rfl
set_option maxRecDepth 100000 in
set_option maxHeartbeats 4000000 in
theorem c_X0_putInLine (w : Nat) (hl : ll ≤ 12) : wo_E l yX0_putInLine cX0_putInLine 2 (none) 0 D ((cI, .int) :: (cZ, .boolean) :: tys) [.ref (a 6), .int (nI w)] (wA cI cZ a gr en mk tl me rk dy ln ll ps lf lc tc tp lv rp rc pp ++ Y) none (wA cI cZ a gr en mk tl me rk dy ((pu_A (ln, ll) w).1) ((pu_A (ln, ll) w).2) ps lf lc tc tp lv rp rc pp ++ Y) := by
  refine wo_of (ls := [some (.ref (a 6)), some (.int (nI w))]) (by decide) (Nat.le_of_ble_eq_true rfl) rfl ?_
  intro p e s m args below meth c A C
  refine x_aload_n C dX0_putInLine_0 rfl rfl ?_
  refine gA6_lineLength C dX0_putInLine_1 ?_
  refine x_bipush C (v := 12) dX0_putInLine_4 (by decide) ?_
  refine x_icmp_ge C (tgt := 29) dX0_putInLine_6 (by decide) (fun h => ?_) (fun h => ?_)
  · have h2 := wo_le (a := 12) (b := ll) (by omega) (by omega) h
    exact x_vret C dX0_putInLine_29 rfl (by unfold pu_A; rw [if_neg (show ¬ (ln, ll).2 < 12 from by show ¬ ll < 12; omega)])
  · have h2 := wo_nle (a := 12) (b := ll) (by omega) (by omega) h
    refine x_aload_n C dX0_putInLine_9 rfl rfl ?_
    refine gA6_line C dX0_putInLine_10 ?_
    refine x_aload_n C dX0_putInLine_13 rfl rfl ?_
    refine gA6_lineLength C dX0_putInLine_14 ?_
    refine x_iload_n C dX0_putInLine_17 rfl rfl ?_
    refine sA_ln C _ rfl _ rfl (by omega) dX0_putInLine_18 ?_
    refine x_aload_n C dX0_putInLine_19 rfl rfl ?_
    refine x_dup C dX0_putInLine_20 rfl ?_
    refine gA6_lineLength C dX0_putInLine_21 ?_
    refine x_iconst C (v := 1) dX0_putInLine_24 (by decide) ?_
    refine x_iadd C dX0_putInLine_25 ?_
    refine pA6_lineLength C (ll + 1) (nI_1 ll) dX0_putInLine_26 ?_
    exact x_vret C dX0_putInLine_29 rfl (by unfold pu_A; rw [if_pos (show (ln, ll).2 < 12 from h2)])
set_option maxRecDepth 100000 in
set_option maxHeartbeats 4000000 in
theorem c_X0_takePlaces (hg : gr ≤ 12) : wo_E l yX0_takePlaces cX0_takePlaces 2 (none) 3 D ((cI, .int) :: (cZ, .boolean) :: tys) [.ref (a 6)] (wA cI cZ a gr en mk tl me rk dy ln ll ps lf lc tc tp lv rp rc pp ++ Y) none (wA cI cZ a gr en mk tl me rk dy ln ll ps lf lc tc (wo_ff tp (pl_A rk gr) gr) lv rp rc pp ++ Y) := by
  refine wo_of (ls := [some (.ref (a 6)), none]) (by decide) (Nat.le_of_ble_eq_true rfl) rfl ?_
  intro p e s m args below meth c A C
  refine x_iconst C (v := 0) dX0_takePlaces_0 (by decide) ?_
  refine x_istore_n C dX0_takePlaces_1 rfl (by decide) ?_
  have loop : ∀ (n k : Nat), n + k = gr → wo_W p l e (wo_rm 3) s m args below meth c A D 0 0 2 (MQ below (wo_Q D ((cI, .int) :: (cZ, .boolean) :: tys) none (wA cI cZ a gr en mk tl me rk dy ln ll ps lf lc tc (wo_ff tp (pl_A rk gr) gr) lv rp rc pp ++ Y) A) args s 0 0 A) 2 [some (.ref (a 6)), some (.int (nI k))] [] (wA cI cZ a gr en mk tl me rk dy ln ll ps lf lc tc (wo_ff tp (pl_A rk gr) k) lv rp rc pp ++ Y) := by
    intro n
    induction n with
    | zero =>
      intro k hk
      refine x_iload_n C dX0_takePlaces_2 rfl rfl ?_
      refine x_aload_n C dX0_takePlaces_3 rfl rfl ?_
      refine gA6_sheet C dX0_takePlaces_4 ?_
      refine x_callVi C gv_X0_62 (c_X1_howManyGrowers) 1 rfl rfl rfl rfl (Nat.le_of_ble_eq_true rfl) ⟨(Nat.le_of_ble_eq_true rfl), (Nat.le_of_ble_eq_true rfl)⟩ ⟨Nat.zero_le _, Nat.zero_le _⟩ dX0_takePlaces_7 ?_
      refine x_icmp_ge C (tgt := 33) dX0_takePlaces_10 (by decide) (fun h => ?_) (fun h => ?_)
      · have hk2 : k = gr := by omega
        subst hk2
        exact x_vret C dX0_takePlaces_33 rfl rfl
      · exact absurd (show nI gr ≤ nI k from nI_le (by omega) (by omega)) h
    | succ n ih =>
      intro k hk
      refine x_iload_n C dX0_takePlaces_2 rfl rfl ?_
      refine x_aload_n C dX0_takePlaces_3 rfl rfl ?_
      refine gA6_sheet C dX0_takePlaces_4 ?_
      refine x_callVi C gv_X0_62 (c_X1_howManyGrowers) 1 rfl rfl rfl rfl (Nat.le_of_ble_eq_true rfl) ⟨(Nat.le_of_ble_eq_true rfl), (Nat.le_of_ble_eq_true rfl)⟩ ⟨Nat.zero_le _, Nat.zero_le _⟩ dX0_takePlaces_7 ?_
      refine x_icmp_ge C (tgt := 33) dX0_takePlaces_10 (by decide) (fun h => ?_) (fun h => ?_)
      · exact absurd (wo_le (by omega) (by omega) h) (by omega)
      · refine x_aload_n C dX0_takePlaces_13 rfl rfl ?_
        refine gA6_takenPlaces C dX0_takePlaces_14 ?_
        refine x_iload_n C dX0_takePlaces_17 rfl rfl ?_
        refine x_aload_n C dX0_takePlaces_18 rfl rfl ?_
        refine gA6_sheet C dX0_takePlaces_19 ?_
        refine x_iload_n C dX0_takePlaces_22 rfl rfl ?_
        refine x_callVi C gv_X0_67 (c_X1_placeOf k (by omega) hg) 1 rfl rfl rfl rfl (Nat.le_of_ble_eq_true rfl) ⟨(Nat.le_of_ble_eq_true rfl), (Nat.le_of_ble_eq_true rfl)⟩ ⟨Nat.zero_le _, Nat.zero_le _⟩ dX0_takePlaces_23 ?_
        refine sA_tp C _ rfl _ rfl (by omega) dX0_takePlaces_26 ?_
        refine x_iinc C dX0_takePlaces_27 rfl (nI_1 k) (by decide) ?_
        refine x_goto C (tgt := 2) dX0_takePlaces_30 (by decide) ?_
        exact x_ws (by rw [wo_ff_up]) (ih (k + 1) (by omega))
  exact x_ws (by rw [wo_ff_0]) (loop gr 0 (by omega))
set_option maxRecDepth 100000 in
set_option maxHeartbeats 4000000 in
theorem c_X0_makeCut (hg : gr ≤ 12) : wo_E l yX0_makeCut cX0_makeCut 2 (none) 2 D ((cI, .int) :: (cZ, .boolean) :: tys) [.ref (a 6)] (wA cI cZ a gr en mk tl me rk dy ln ll ps lf lc tc tp lv rp rc pp ++ Y) none (wA cI cZ a gr en mk tl me rk dy ln ll ps lf lc (wo_ff tc (ct_A rk tp) gr) tp lv rp rc pp ++ Y) := by
  refine wo_of (ls := [some (.ref (a 6)), none]) (by decide) (Nat.le_of_ble_eq_true rfl) rfl ?_
  intro p e s m args below meth c A C
  refine x_iconst C (v := 0) dX0_makeCut_0 (by decide) ?_
  refine x_istore_n C dX0_makeCut_1 rfl (by decide) ?_
  have loop : ∀ (n k : Nat), n + k = gr → wo_W p l e (wo_rm 2) s m args below meth c A D 0 0 2 (MQ below (wo_Q D ((cI, .int) :: (cZ, .boolean) :: tys) none (wA cI cZ a gr en mk tl me rk dy ln ll ps lf lc (wo_ff tc (ct_A rk tp) gr) tp lv rp rc pp ++ Y) A) args s 0 0 A) 2 [some (.ref (a 6)), some (.int (nI k))] [] (wA cI cZ a gr en mk tl me rk dy ln ll ps lf lc (wo_ff tc (ct_A rk tp) k) tp lv rp rc pp ++ Y) := by
    intro n
    induction n with
    | zero =>
      intro k hk
      refine x_iload_n C dX0_makeCut_2 rfl rfl ?_
      refine x_aload_n C dX0_makeCut_3 rfl rfl ?_
      refine gA6_sheet C dX0_makeCut_4 ?_
      refine x_callVi C gv_X0_62 (c_X1_howManyGrowers) 1 rfl rfl rfl rfl (Nat.le_of_ble_eq_true rfl) ⟨(Nat.le_of_ble_eq_true rfl), (Nat.le_of_ble_eq_true rfl)⟩ ⟨Nat.zero_le _, Nat.zero_le _⟩ dX0_makeCut_7 ?_
      refine x_icmp_ge C (tgt := 54) dX0_makeCut_10 (by decide) (fun h => ?_) (fun h => ?_)
      · have hk2 : k = gr := by omega
        subst hk2
        exact x_vret C dX0_makeCut_54 rfl rfl
      · exact absurd (show nI gr ≤ nI k from nI_le (by omega) (by omega)) h
    | succ n ih =>
      intro k hk
      refine x_iload_n C dX0_makeCut_2 rfl rfl ?_
      refine x_aload_n C dX0_makeCut_3 rfl rfl ?_
      refine gA6_sheet C dX0_makeCut_4 ?_
      refine x_callVi C gv_X0_62 (c_X1_howManyGrowers) 1 rfl rfl rfl rfl (Nat.le_of_ble_eq_true rfl) ⟨(Nat.le_of_ble_eq_true rfl), (Nat.le_of_ble_eq_true rfl)⟩ ⟨Nat.zero_le _, Nat.zero_le _⟩ dX0_makeCut_7 ?_
      refine x_icmp_ge C (tgt := 54) dX0_makeCut_10 (by decide) (fun h => ?_) (fun h => ?_)
      · exact absurd (wo_le (by omega) (by omega) h) (by omega)
      · refine x_aload_n C dX0_makeCut_13 rfl rfl ?_
        refine gA6_throughCut C dX0_makeCut_14 ?_
        refine x_iload_n C dX0_makeCut_17 rfl rfl ?_
        refine x_aload_n C dX0_makeCut_18 rfl rfl ?_
        refine gA6_sheet C dX0_makeCut_19 ?_
        refine x_iload_n C dX0_makeCut_22 rfl rfl ?_
        refine x_callVi C gv_X0_71 (c_X1_bestOf k (by omega)) 1 rfl rfl rfl rfl (Nat.le_of_ble_eq_true rfl) ⟨(Nat.le_of_ble_eq_true rfl), (Nat.le_of_ble_eq_true rfl)⟩ ⟨Nat.zero_le _, Nat.zero_le _⟩ dX0_makeCut_23 ?_
        refine x_ldc C kk_X0_45 dX0_makeCut_26 ?_
        refine x_icmp_eq C (tgt := 46) dX0_makeCut_28 (by decide) (fun h2 => ?_) (fun h2 => ?_)
        · have h3 : ct_A rk tp k = false := decide_eq_false (fun z => z.1 h2)
          refine x_iconst C (v := 0) dX0_makeCut_46 (by decide) ?_
          refine sA_tc C (ct_A rk tp k) (by rw [h3]; rfl) k rfl (by omega) dX0_makeCut_47 ?_
          refine x_iinc C dX0_makeCut_48 rfl (nI_1 k) (by decide) ?_
          refine x_goto C (tgt := 2) dX0_makeCut_51 (by decide) ?_
          exact x_ws (by rw [wo_ff_up]) (ih (k + 1) (by omega))
        · refine x_aload_n C dX0_makeCut_31 rfl rfl ?_
          refine gA6_takenPlaces C dX0_makeCut_32 ?_
          refine x_iload_n C dX0_makeCut_35 rfl rfl ?_
          refine lA_tp C _ rfl (by omega) dX0_makeCut_36 ?_
          refine x_bipush C (v := 8) dX0_makeCut_37 (by decide) ?_
          refine x_icmp_gt C (tgt := 46) dX0_makeCut_39 (by decide) (fun h3 => ?_) (fun h3 => ?_)
          · have h4 : ct_A rk tp k = false := decide_eq_false (fun z => Int32.not_le.mpr h3 z.2)
            refine x_iconst C (v := 0) dX0_makeCut_46 (by decide) ?_
            refine sA_tc C (ct_A rk tp k) (by rw [h4]; rfl) k rfl (by omega) dX0_makeCut_47 ?_
            refine x_iinc C dX0_makeCut_48 rfl (nI_1 k) (by decide) ?_
            refine x_goto C (tgt := 2) dX0_makeCut_51 (by decide) ?_
            exact x_ws (by rw [wo_ff_up]) (ih (k + 1) (by omega))
          · have h4 : ct_A rk tp k = true := decide_eq_true ⟨h2, Int32.not_lt.mp h3⟩
            refine x_iconst C (v := 1) dX0_makeCut_42 (by decide) ?_
            refine x_goto C (tgt := 47) dX0_makeCut_43 (by decide) ?_
            refine sA_tc C (ct_A rk tp k) (by rw [h4]; rfl) k rfl (by omega) dX0_makeCut_47 ?_
            refine x_iinc C dX0_makeCut_48 rfl (nI_1 k) (by decide) ?_
            refine x_goto C (tgt := 2) dX0_makeCut_51 (by decide) ?_
            exact x_ws (by rw [wo_ff_up]) (ih (k + 1) (by omega))
  exact x_ws (by rw [wo_ff_0]) (loop gr 0 (by omega))
set_option maxRecDepth 100000 in
set_option maxHeartbeats 4000000 in
theorem c_X0_lineUpByNumber (hg : gr ≤ 12) (hl : ll ≤ 12) : wo_E l yX0_lineUpByNumber cX0_lineUpByNumber 2 (none) 1 D ((cI, .int) :: (cZ, .boolean) :: tys) [.ref (a 6)] (wA cI cZ a gr en mk tl me rk dy ln ll ps lf lc tc tp lv rp rc pp ++ Y) none (wA cI cZ a gr en mk tl me rk dy ((ln_num lf (ln, ll) gr).1) ((ln_num lf (ln, ll) gr).2) ps lf lc tc tp lv rp rc pp ++ Y) := by
  refine wo_of (ls := [some (.ref (a 6)), none]) (by decide) (Nat.le_of_ble_eq_true rfl) rfl ?_
  intro p e s m args below meth c A C
  refine x_iconst C (v := 0) dX0_lineUpByNumber_0 (by decide) ?_
  refine x_istore_n C dX0_lineUpByNumber_1 rfl (by decide) ?_
  have loop : ∀ (n k : Nat), n + k = gr → wo_W p l e (wo_rm 1) s m args below meth c A D 0 0 2 (MQ below (wo_Q D ((cI, .int) :: (cZ, .boolean) :: tys) none (wA cI cZ a gr en mk tl me rk dy ((ln_num lf (ln, ll) gr).1) ((ln_num lf (ln, ll) gr).2) ps lf lc tc tp lv rp rc pp ++ Y) A) args s 0 0 A) 2 [some (.ref (a 6)), some (.int (nI k))] [] (wA cI cZ a gr en mk tl me rk dy ((ln_num lf (ln, ll) k).1) ((ln_num lf (ln, ll) k).2) ps lf lc tc tp lv rp rc pp ++ Y) := by
    intro n
    induction n with
    | zero =>
      intro k hk
      refine x_iload_n C dX0_lineUpByNumber_2 rfl rfl ?_
      refine x_aload_n C dX0_lineUpByNumber_3 rfl rfl ?_
      refine gA6_sheet C dX0_lineUpByNumber_4 ?_
      refine x_callVi C gv_X0_62 (c_X1_howManyGrowers) 1 rfl rfl rfl rfl (Nat.le_of_ble_eq_true rfl) ⟨(Nat.le_of_ble_eq_true rfl), (Nat.le_of_ble_eq_true rfl)⟩ ⟨Nat.zero_le _, Nat.zero_le _⟩ dX0_lineUpByNumber_7 ?_
      refine x_icmp_ge C (tgt := 33) dX0_lineUpByNumber_10 (by decide) (fun h => ?_) (fun h => ?_)
      · have hk2 : k = gr := by omega
        subst hk2
        exact x_vret C dX0_lineUpByNumber_33 rfl rfl
      · exact absurd (show nI gr ≤ nI k from nI_le (by omega) (by omega)) h
    | succ n ih =>
      intro k hk
      refine x_iload_n C dX0_lineUpByNumber_2 rfl rfl ?_
      refine x_aload_n C dX0_lineUpByNumber_3 rfl rfl ?_
      refine gA6_sheet C dX0_lineUpByNumber_4 ?_
      refine x_callVi C gv_X0_62 (c_X1_howManyGrowers) 1 rfl rfl rfl rfl (Nat.le_of_ble_eq_true rfl) ⟨(Nat.le_of_ble_eq_true rfl), (Nat.le_of_ble_eq_true rfl)⟩ ⟨Nat.zero_le _, Nat.zero_le _⟩ dX0_lineUpByNumber_7 ?_
      refine x_icmp_ge C (tgt := 33) dX0_lineUpByNumber_10 (by decide) (fun h => ?_) (fun h => ?_)
      · exact absurd (wo_le (by omega) (by omega) h) (by omega)
      · refine x_aload_n C dX0_lineUpByNumber_13 rfl rfl ?_
        refine gA6_left C dX0_lineUpByNumber_14 ?_
        refine x_iload_n C dX0_lineUpByNumber_17 rfl rfl ?_
        refine lA_lf C _ rfl (by omega) dX0_lineUpByNumber_18 ?_
        refine x_if_ne C (tgt := 27) dX0_lineUpByNumber_19 (by decide) (fun h2 => ?_) (fun h2 => ?_)
        · have h3 : lf k = true := bz_t h2
          refine x_iinc C dX0_lineUpByNumber_27 rfl (nI_1 k) (by decide) ?_
          refine x_goto C (tgt := 2) dX0_lineUpByNumber_30 (by decide) ?_
          exact x_ws (by rw [ln_num, if_pos h3]) (ih (k + 1) (by omega))
        · have h3 : lf k = false := bz_f h2
          refine x_aload_n C dX0_lineUpByNumber_22 rfl rfl ?_
          refine x_iload_n C dX0_lineUpByNumber_23 rfl rfl ?_
          refine x_callVv C gv_X0_80 (c_X0_putInLine k (ln_num_le hl k)) 6 rfl rfl rfl rfl (Nat.le_of_ble_eq_true rfl) ⟨(Nat.le_of_ble_eq_true rfl), (Nat.le_of_ble_eq_true rfl)⟩ ⟨Nat.zero_le _, Nat.zero_le _⟩ dX0_lineUpByNumber_24 ?_
          refine x_iinc C dX0_lineUpByNumber_27 rfl (nI_1 k) (by decide) ?_
          refine x_goto C (tgt := 2) dX0_lineUpByNumber_30 (by decide) ?_
          exact x_ws (by rw [ln_num, if_neg (by rw [h3]; decide)]) (ih (k + 1) (by omega))
  exact loop gr 0 (by omega)
theorem ln_w_le {tp : Nat → Nat} {tc lf : Nat → Bool} {pl : Nat} : ∀ (n : Nat) (s : (Nat → Nat) × Nat), s.2 ≤ 12 → (ln_w tp tc lf pl n s).2 ≤ 12
  | 0, s, h => h
  | n + 1, s, h => by
    unfold ln_w
    refine ln_w_le n _ ?_
    split
    · exact pu_le h
    · exact h
set_option maxRecDepth 100000 in
set_option maxHeartbeats 4000000 in
theorem c_X0_lineUpByPlace (hg : gr ≤ 12) (hl : ll ≤ 12) : wo_E l yX0_lineUpByPlace cX0_lineUpByPlace 3 (none) 1 D ((cI, .int) :: (cZ, .boolean) :: tys) [.ref (a 6)] (wA cI cZ a gr en mk tl me rk dy ln ll ps lf lc tc tp lv rp rc pp ++ Y) none (wA cI cZ a gr en mk tl me rk dy ((ln_p tp tc lf gr gr (ln, ll)).1) ((ln_p tp tc lf gr gr (ln, ll)).2) ps lf lc tc tp lv rp rc pp ++ Y) := by
  refine wo_of (ls := [some (.ref (a 6)), none, none]) (by decide) (Nat.le_of_ble_eq_true rfl) rfl ?_
  intro p e s m args below meth c A C
  refine x_aload_n C dX0_lineUpByPlace_0 rfl rfl ?_
  refine gA6_sheet C dX0_lineUpByPlace_1 ?_
  refine x_callVi C gv_X0_62 (c_X1_howManyGrowers) 1 rfl rfl rfl rfl (Nat.le_of_ble_eq_true rfl) ⟨(Nat.le_of_ble_eq_true rfl), (Nat.le_of_ble_eq_true rfl)⟩ ⟨Nat.zero_le _, Nat.zero_le _⟩ dX0_lineUpByPlace_4 ?_
  refine x_istore_n C dX0_lineUpByPlace_7 rfl (by decide) ?_
  have outer : ∀ (q : Nat) (S : (Nat → Nat) × Nat) (x2 : Option Value), q ≤ 12 → S.2 ≤ 12 → ln_p tp tc lf gr q S = ln_p tp tc lf gr gr (ln, ll) → wo_W p l e (wo_rm 1) s m args below meth c A D 0 0 3 (MQ below (wo_Q D ((cI, .int) :: (cZ, .boolean) :: tys) none (wA cI cZ a gr en mk tl me rk dy ((ln_p tp tc lf gr gr (ln, ll)).1) ((ln_p tp tc lf gr gr (ln, ll)).2) ps lf lc tc tp lv rp rc pp ++ Y) A) args s 0 0 A) 8 [some (.ref (a 6)), some (.int (nI q)), x2] [] (wA cI cZ a gr en mk tl me rk dy (S.1) (S.2) ps lf lc tc tp lv rp rc pp ++ Y) := by
    intro q
    induction q with
    | zero =>
      intro S x2 hq hS he
      refine x_iload_n C dX0_lineUpByPlace_8 rfl rfl ?_
      refine x_iconst C (v := 1) dX0_lineUpByPlace_9 (by decide) ?_
      refine x_icmp_lt C (tgt := 72) dX0_lineUpByPlace_10 (by decide) (fun h => ?_) (fun h => ?_)
      · exact x_vret C dX0_lineUpByPlace_72 rfl (by rw [← he]; rfl)
      · exact absurd (show nI 0 < nI 1 by decide) h
    | succ q ihq =>
      intro S x2 hq hS he
      refine x_iload_n C dX0_lineUpByPlace_8 rfl rfl ?_
      refine x_iconst C (v := 1) dX0_lineUpByPlace_9 (by decide) ?_
      refine x_icmp_lt C (tgt := 72) dX0_lineUpByPlace_10 (by decide) (fun h => ?_) (fun h => ?_)
      · exact absurd (wo_lt (a := q + 1) (b := 1) (by omega) (by omega) h) (by omega)
      · refine x_aload_n C dX0_lineUpByPlace_13 rfl rfl ?_
        refine gA6_sheet C dX0_lineUpByPlace_14 ?_
        refine x_callVi C gv_X0_62 (c_X1_howManyGrowers) 1 rfl rfl rfl rfl (Nat.le_of_ble_eq_true rfl) ⟨(Nat.le_of_ble_eq_true rfl), (Nat.le_of_ble_eq_true rfl)⟩ ⟨Nat.zero_le _, Nat.zero_le _⟩ dX0_lineUpByPlace_17 ?_
        refine x_iconst C (v := 1) dX0_lineUpByPlace_20 (by decide) ?_
        refine x_isub C dX0_lineUpByPlace_21 ?_
        refine x_istore_n C dX0_lineUpByPlace_22 rfl (by decide) ?_
        have inner : ∀ (n : Nat) (S2 : (Nat → Nat) × Nat), n ≤ 12 → S2.2 ≤ 12 → ln_w tp tc lf (q + 1) n S2 = ln_w tp tc lf (q + 1) gr S → wo_W p l e (wo_rm 1) s m args below meth c A D 0 0 3 (MQ below (wo_Q D ((cI, .int) :: (cZ, .boolean) :: tys) none (wA cI cZ a gr en mk tl me rk dy ((ln_p tp tc lf gr gr (ln, ll)).1) ((ln_p tp tc lf gr gr (ln, ll)).2) ps lf lc tc tp lv rp rc pp ++ Y) A) args s 0 0 A) 23 [some (.ref (a 6)), some (.int (nI (q + 1))), some (.int (nI n - 1))] [] (wA cI cZ a gr en mk tl me rk dy (S2.1) (S2.2) ps lf lc tc tp lv rp rc pp ++ Y) := by
          intro n
          induction n with
          | zero =>
            intro S2 hn hS2 he2
            refine x_iload_n C dX0_lineUpByPlace_23 rfl rfl ?_
            refine x_if_lt C (tgt := 66) dX0_lineUpByPlace_24 (by decide) (fun h2 => ?_) (fun h2 => ?_)
            · refine x_iinc C dX0_lineUpByPlace_66 rfl (wo_m1' (b := q) rfl) (by decide) ?_
              refine x_goto C (tgt := 8) dX0_lineUpByPlace_69 (by decide) ?_
              exact ihq S2 _ (by omega) hS2 (by rw [← he, show S2 = ln_w tp tc lf (q + 1) gr S from he2]; rfl)
            · exact absurd (show nI 0 - 1 < 0 by decide) h2
          | succ n ihn =>
            intro S2 hn hS2 he2
            refine x_ls (ls2 := [some (.ref (a 6)), some (.int (nI (q + 1))), some (.int (nI n))]) (by rw [nI_pred]) ?_
            refine x_iload_n C dX0_lineUpByPlace_23 rfl rfl ?_
            refine x_if_lt C (tgt := 66) dX0_lineUpByPlace_24 (by decide) (fun h2 => ?_) (fun h2 => ?_)
            · exact absurd h2 (nI_pos (by omega))
            · refine x_aload_n C dX0_lineUpByPlace_27 rfl rfl ?_
              refine gA6_takenPlaces C dX0_lineUpByPlace_28 ?_
              refine x_iload_n C dX0_lineUpByPlace_31 rfl rfl ?_
              refine lA_tp C _ rfl (by omega) dX0_lineUpByPlace_32 ?_
              refine x_iload_n C dX0_lineUpByPlace_33 rfl rfl ?_
              refine x_icmp_ne C (tgt := 60) dX0_lineUpByPlace_34 (by decide) (fun h3 => ?_) (fun h3 => ?_)
              · have h9 : ln_ok tp tc lf (q + 1) n = false := by unfold ln_ok; rw [decide_eq_false h3]; rfl
                refine x_iinc C dX0_lineUpByPlace_60 rfl (wo_dec _) (by decide) ?_
                refine x_goto C (tgt := 23) dX0_lineUpByPlace_63 (by decide) ?_
                exact ihn S2 (by omega) hS2 (by rw [← he2]; show _ = ln_w tp tc lf (q + 1) (n + 1) S2; rw [ln_w, if_neg (by rw [h9]; decide)])
              · refine x_aload_n C dX0_lineUpByPlace_37 rfl rfl ?_
                refine gA6_throughCut C dX0_lineUpByPlace_38 ?_
                refine x_iload_n C dX0_lineUpByPlace_41 rfl rfl ?_
                refine lA_tc C _ rfl (by omega) dX0_lineUpByPlace_42 ?_
                refine x_if_eq C (tgt := 60) dX0_lineUpByPlace_43 (by decide) (fun h4 => ?_) (fun h4 => ?_)
                · have h9 : ln_ok tp tc lf (q + 1) n = false := by unfold ln_ok; rw [bz_f h4]; simp
                  refine x_iinc C dX0_lineUpByPlace_60 rfl (wo_dec _) (by decide) ?_
                  refine x_goto C (tgt := 23) dX0_lineUpByPlace_63 (by decide) ?_
                  exact ihn S2 (by omega) hS2 (by rw [← he2]; show _ = ln_w tp tc lf (q + 1) (n + 1) S2; rw [ln_w, if_neg (by rw [h9]; decide)])
                · refine x_aload_n C dX0_lineUpByPlace_46 rfl rfl ?_
                  refine gA6_left C dX0_lineUpByPlace_47 ?_
                  refine x_iload_n C dX0_lineUpByPlace_50 rfl rfl ?_
                  refine lA_lf C _ rfl (by omega) dX0_lineUpByPlace_51 ?_
                  refine x_if_ne C (tgt := 60) dX0_lineUpByPlace_52 (by decide) (fun h5 => ?_) (fun h5 => ?_)
                  · have h9 : ln_ok tp tc lf (q + 1) n = false := by unfold ln_ok; rw [bz_t h5]; simp
                    refine x_iinc C dX0_lineUpByPlace_60 rfl (wo_dec _) (by decide) ?_
                    refine x_goto C (tgt := 23) dX0_lineUpByPlace_63 (by decide) ?_
                    exact ihn S2 (by omega) hS2 (by rw [← he2]; show _ = ln_w tp tc lf (q + 1) (n + 1) S2; rw [ln_w, if_neg (by rw [h9]; decide)])
                  · have h9 : ln_ok tp tc lf (q + 1) n = true := by unfold ln_ok; rw [decide_eq_true h3, bz_t h4, bz_f h5]; rfl
                    refine x_aload_n C dX0_lineUpByPlace_55 rfl rfl ?_
                    refine x_iload_n C dX0_lineUpByPlace_56 rfl rfl ?_
                    refine x_callVv C gv_X0_80 (c_X0_putInLine n hS2) 6 rfl rfl rfl rfl (Nat.le_of_ble_eq_true rfl) ⟨(Nat.le_of_ble_eq_true rfl), (Nat.le_of_ble_eq_true rfl)⟩ ⟨Nat.zero_le _, Nat.zero_le _⟩ dX0_lineUpByPlace_57 ?_
                    refine x_iinc C dX0_lineUpByPlace_60 rfl (wo_dec _) (by decide) ?_
                    refine x_goto C (tgt := 23) dX0_lineUpByPlace_63 (by decide) ?_
                    exact ihn (pu_A S2 n) (by omega) (pu_le hS2) (by rw [← he2]; show _ = ln_w tp tc lf (q + 1) (n + 1) S2; rw [ln_w, if_pos h9])
        exact inner gr S hg hS rfl
  exact outer gr (ln, ll) _ hg hl rfl
theorem ln_p_le {tp : Nat → Nat} {tc lf : Nat → Bool} {g : Nat} : ∀ (n : Nat) (s : (Nat → Nat) × Nat), s.2 ≤ 12 → (ln_p tp tc lf g n s).2 ≤ 12
  | 0, s, h => h
  | n + 1, s, h => by
    unfold ln_p
    exact ln_p_le n _ (ln_w_le g s h)
theorem lu_le (g dy : Nat) (ln : Nat → Nat) (lf tc : Nat → Bool) (tp : Nat → Nat) : (lu_A g dy ln lf tc tp).2 ≤ 12 := by
  unfold lu_A
  split
  · exact ln_num_le (Nat.zero_le 12) _
  · split
    · exact ln_p_le _ _ (Nat.zero_le 12)
    · exact Nat.zero_le 12
set_option maxRecDepth 100000 in
set_option maxHeartbeats 4000000 in
theorem c_X0_lineUp (hg : gr ≤ 12) (hd : dy ≤ 7) : wo_E l yX0_lineUp cX0_lineUp 1 (none) 2 D ((cI, .int) :: (cZ, .boolean) :: tys) [.ref (a 6)] (wA cI cZ a gr en mk tl me rk dy ln ll ps lf lc tc tp lv rp rc pp ++ Y) none (wA cI cZ a gr en mk tl me rk (if (lu_A gr dy ln lf tc tp).2 = 0 then 7 else dy) ((lu_A gr dy ln lf tc tp).1) ((lu_A gr dy ln lf tc tp).2) (0) lf lc tc tp lv rp rc pp ++ Y) := by
  refine wo_of (ls := [some (.ref (a 6))]) (by decide) (Nat.le_of_ble_eq_true rfl) rfl ?_
  intro p e s m args below meth c A C
  refine x_aload_n C dX0_lineUp_0 rfl rfl ?_
  refine x_iconst C (v := 0) dX0_lineUp_1 (by decide) ?_
  refine pA6_position C 0 rfl dX0_lineUp_2 ?_
  refine x_aload_n C dX0_lineUp_5 rfl rfl ?_
  refine x_iconst C (v := 0) dX0_lineUp_6 (by decide) ?_
  refine pA6_lineLength C 0 rfl dX0_lineUp_7 ?_
  refine x_aload_n C dX0_lineUp_10 rfl rfl ?_
  refine gA6_day C dX0_lineUp_11 ?_
  refine x_iconst C (v := 3) dX0_lineUp_14 (by decide) ?_
  have fin : ∀ (S : (Nat → Nat) × Nat), S = lu_A gr dy ln lf tc tp → wo_W p l e (wo_rm 2) s m args below meth c A D 0 0 1 (MQ below (wo_Q D ((cI, .int) :: (cZ, .boolean) :: tys) none (wA cI cZ a gr en mk tl me rk (if (lu_A gr dy ln lf tc tp).2 = 0 then 7 else dy) ((lu_A gr dy ln lf tc tp).1) ((lu_A gr dy ln lf tc tp).2) (0) lf lc tc tp lv rp rc pp ++ Y) A) args s 0 0 A) 38 [some (.ref (a 6))] [] (wA cI cZ a gr en mk tl me rk dy (S.1) (S.2) (0) lf lc tc tp lv rp rc pp ++ Y) := by
    intro S hS
    have hSl : S.2 ≤ 12 := by rw [hS]; exact lu_le ..
    refine x_aload_n C dX0_lineUp_38 rfl rfl ?_
    refine gA6_lineLength C dX0_lineUp_39 ?_
    refine x_if_ne C (tgt := 51) dX0_lineUp_42 (by decide) (fun h => ?_) (fun h => ?_)
    · have h2 : ¬ S.2 = 0 := fun z => h (by rw [z]; rfl)
      exact x_vret C dX0_lineUp_51 rfl (by rw [← hS, if_neg h2])
    · have h2 : S.2 = 0 := wo_ieq (a := S.2) (b := 0) (by omega) (by omega) h
      refine x_aload_n C dX0_lineUp_45 rfl rfl ?_
      refine x_bipush C (v := 7) dX0_lineUp_46 (by decide) ?_
      refine pA6_day C 7 rfl dX0_lineUp_48 ?_
      exact x_vret C dX0_lineUp_51 rfl (by rw [← hS, if_pos h2])
  refine x_icmp_gt C (tgt := 25) dX0_lineUp_15 (by decide) (fun h => ?_) (fun h => ?_)
  · have h2 := wo_lt (a := 3) (b := dy) (by omega) (by omega) h
    refine x_aload_n C dX0_lineUp_25 rfl rfl ?_
    refine gA6_day C dX0_lineUp_26 ?_
    refine x_bipush C (v := 6) dX0_lineUp_29 (by decide) ?_
    refine x_icmp_gt C (tgt := 38) dX0_lineUp_31 (by decide) (fun h3 => ?_) (fun h3 => ?_)
    · have h4 := wo_lt (a := 6) (b := dy) (by omega) (by omega) h3
      exact fin (ln, 0) (by unfold lu_A; rw [if_neg (by omega), if_neg (by omega)])
    · have h4 := wo_nlt (a := 6) (b := dy) (by omega) (by omega) h3
      refine x_aload_n C dX0_lineUp_34 rfl rfl ?_
      refine x_callVv C gv_X0_77 (c_X0_lineUpByPlace hg (by omega)) 6 rfl rfl rfl rfl (Nat.le_of_ble_eq_true rfl) ⟨(Nat.le_of_ble_eq_true rfl), (Nat.le_of_ble_eq_true rfl)⟩ ⟨Nat.zero_le _, Nat.zero_le _⟩ dX0_lineUp_35 ?_
      exact fin (ln_p tp tc lf gr gr (ln, 0)) (by unfold lu_A; rw [if_neg (by omega), if_pos h4])
  · have h2 := wo_nlt (a := 3) (b := dy) (by omega) (by omega) h
    refine x_aload_n C dX0_lineUp_18 rfl rfl ?_
    refine x_callVv C gv_X0_74 (c_X0_lineUpByNumber hg (by omega)) 6 rfl rfl rfl rfl (Nat.le_of_ble_eq_true rfl) ⟨(Nat.le_of_ble_eq_true rfl), (Nat.le_of_ble_eq_true rfl)⟩ ⟨Nat.zero_le _, Nat.zero_le _⟩ dX0_lineUp_19 ?_
    refine x_goto C (tgt := 38) dX0_lineUp_22 (by decide) ?_
    exact fin (ln_num lf (ln, 0) gr) (by unfold lu_A; rw [if_pos h2])
set_option maxRecDepth 100000 in
set_option maxHeartbeats 4000000 in
theorem c_X0_restart (hg : gr ≤ 12) : wo_E l yX0_restart cX0_restart 2 (none) 3 D ((cI, .int) :: (cZ, .boolean) :: tys) [.ref (a 6)] (wA cI cZ a gr en mk tl me rk dy ln ll ps lf lc tc tp lv rp rc pp ++ Y) none (wA cI cZ a gr en mk tl me rk (if (lu_A gr 1 ln (wo_ff lf (fun _ => false) 12) (wo_ff tc (fun _ => false) 12) (wo_ff tp (fun _ => 0) 12)).2 = 0 then 7 else 1) ((lu_A gr 1 ln (wo_ff lf (fun _ => false) 12) (wo_ff tc (fun _ => false) 12) (wo_ff tp (fun _ => 0) 12)).1) ((lu_A gr 1 ln (wo_ff lf (fun _ => false) 12) (wo_ff tc (fun _ => false) 12) (wo_ff tp (fun _ => 0) 12)).2) (0) (wo_ff lf (fun _ => false) 12) (0) (wo_ff tc (fun _ => false) 12) (wo_ff tp (fun _ => 0) 12) lv rp rc pp ++ Y) := by
  refine wo_of (ls := [some (.ref (a 6)), none]) (by decide) (Nat.le_of_ble_eq_true rfl) rfl ?_
  intro p e s m args below meth c A C
  refine x_iconst C (v := 0) dX0_restart_0 (by decide) ?_
  refine x_istore_n C dX0_restart_1 rfl (by decide) ?_
  have loop : ∀ (n k : Nat), n + k = 12 → wo_W p l e (wo_rm 3) s m args below meth c A D 0 0 2 (MQ below (wo_Q D ((cI, .int) :: (cZ, .boolean) :: tys) none (wA cI cZ a gr en mk tl me rk (if (lu_A gr 1 ln (wo_ff lf (fun _ => false) 12) (wo_ff tc (fun _ => false) 12) (wo_ff tp (fun _ => 0) 12)).2 = 0 then 7 else 1) ((lu_A gr 1 ln (wo_ff lf (fun _ => false) 12) (wo_ff tc (fun _ => false) 12) (wo_ff tp (fun _ => 0) 12)).1) ((lu_A gr 1 ln (wo_ff lf (fun _ => false) 12) (wo_ff tc (fun _ => false) 12) (wo_ff tp (fun _ => 0) 12)).2) (0) (wo_ff lf (fun _ => false) 12) (0) (wo_ff tc (fun _ => false) 12) (wo_ff tp (fun _ => 0) 12) lv rp rc pp ++ Y) A) args s 0 0 A) 2 [some (.ref (a 6)), some (.int (nI k))] [] (wA cI cZ a gr en mk tl me rk dy ln ll ps (wo_ff lf (fun _ => false) k) lc (wo_ff tc (fun _ => false) k) (wo_ff tp (fun _ => 0) k) lv rp rc pp ++ Y) := by
    intro n
    induction n with
    | zero =>
      intro k hk
      refine x_iload_n C dX0_restart_2 rfl rfl ?_
      refine x_bipush C (v := 12) dX0_restart_3 (by decide) ?_
      refine x_icmp_ge C (tgt := 35) dX0_restart_5 (by decide) (fun h => ?_) (fun h => ?_)
      · have hk2 : k = 12 := by omega
        subst hk2
        refine x_aload_n C dX0_restart_35 rfl rfl ?_
        refine x_iconst C (v := 0) dX0_restart_36 (by decide) ?_
        refine pA6_leftCount C 0 rfl dX0_restart_37 ?_
        refine x_aload_n C dX0_restart_40 rfl rfl ?_
        refine x_iconst C (v := 1) dX0_restart_41 (by decide) ?_
        refine pA6_day C 1 rfl dX0_restart_42 ?_
        refine x_aload_n C dX0_restart_45 rfl rfl ?_
        refine x_callVv C gv_X0_36 (c_X0_lineUp hg (by omega)) 6 rfl rfl rfl rfl (Nat.le_of_ble_eq_true rfl) ⟨(Nat.le_of_ble_eq_true rfl), (Nat.le_of_ble_eq_true rfl)⟩ ⟨Nat.zero_le _, Nat.zero_le _⟩ dX0_restart_46 ?_
        exact x_vret C dX0_restart_49 rfl rfl
      · exact absurd (show nI 12 ≤ nI k from nI_le (by omega) (by omega)) h
    | succ n ih =>
      intro k hk
      refine x_iload_n C dX0_restart_2 rfl rfl ?_
      refine x_bipush C (v := 12) dX0_restart_3 (by decide) ?_
      refine x_icmp_ge C (tgt := 35) dX0_restart_5 (by decide) (fun h => ?_) (fun h => ?_)
      · exact absurd (wo_le (a := 12) (b := k) (by omega) (by omega) h) (by omega)
      · refine x_aload_n C dX0_restart_8 rfl rfl ?_
        refine gA6_left C dX0_restart_9 ?_
        refine x_iload_n C dX0_restart_12 rfl rfl ?_
        refine x_iconst C (v := 0) dX0_restart_13 (by decide) ?_
        refine sA_lf C false rfl k rfl (by omega) dX0_restart_14 ?_
        refine x_aload_n C dX0_restart_15 rfl rfl ?_
        refine gA6_throughCut C dX0_restart_16 ?_
        refine x_iload_n C dX0_restart_19 rfl rfl ?_
        refine x_iconst C (v := 0) dX0_restart_20 (by decide) ?_
        refine sA_tc C false rfl k rfl (by omega) dX0_restart_21 ?_
        refine x_aload_n C dX0_restart_22 rfl rfl ?_
        refine gA6_takenPlaces C dX0_restart_23 ?_
        refine x_iload_n C dX0_restart_26 rfl rfl ?_
        refine x_iconst C (v := 0) dX0_restart_27 (by decide) ?_
        refine sA_tp C 0 rfl k rfl (by omega) dX0_restart_28 ?_
        refine x_iinc C dX0_restart_29 rfl (nI_1 k) (by decide) ?_
        refine x_goto C (tgt := 2) dX0_restart_32 (by decide) ?_
        refine x_ws ?_ (ih (k + 1) (by omega))
        rw [wo_ff_up lf (fun _ => false), wo_ff_up tc (fun _ => false), wo_ff_up tp (fun _ => 0)]
  exact x_ws (by rw [wo_ff_0, wo_ff_0, wo_ff_0]) (loop 12 0 rfl)
/-- the day's end: places taken, the cut, the next line -/
def tp_E (rk : Nat → Int32) (g dy : Nat) (tp : Nat → Nat) : Nat → Nat := if dy = 3 ∨ dy = 5 then wo_ff tp (pl_A rk g) g else tp
def tc_E (rk : Nat → Int32) (g dy : Nat) (tp : Nat → Nat) (tc : Nat → Bool) : Nat → Bool := if dy = 3 then wo_ff tc (ct_A rk (tp_E rk g dy tp)) g else tc
def lu_E (rk : Nat → Int32) (g dy : Nat) (ln : Nat → Nat) (lf tc : Nat → Bool) (tp : Nat → Nat) : (Nat → Nat) × Nat := lu_A g (dy + 1) ln lf (tc_E rk g dy tp tc) (tp_E rk g dy tp)
set_option maxRecDepth 100000 in
set_option maxHeartbeats 4000000 in
theorem c_X0_endDay (hg : gr ≤ 12) (hd : dy ≤ 6) : wo_E l yX0_endDay cX0_endDay 1 (none) 4 D ((cI, .int) :: (cZ, .boolean) :: tys) [.ref (a 6)] (wA cI cZ a gr en mk tl me rk dy ln ll ps lf lc tc tp lv rp rc pp ++ Y) none (wA cI cZ a gr en mk tl me rk (if (lu_E rk gr dy ln lf tc tp).2 = 0 then 7 else dy + 1) ((lu_E rk gr dy ln lf tc tp).1) ((lu_E rk gr dy ln lf tc tp).2) (0) lf lc (tc_E rk gr dy tp tc) (tp_E rk gr dy tp) lv rp rc pp ++ Y) := by
  refine wo_of (ls := [some (.ref (a 6))]) (by decide) (Nat.le_of_ble_eq_true rfl) rfl ?_
  intro p e s m args below meth c A C
  have fin : ∀ (tp2 : Nat → Nat) (tc2 : Nat → Bool), tp2 = tp_E rk gr dy tp → tc2 = tc_E rk gr dy tp tc → wo_W p l e (wo_rm 4) s m args below meth c A D 0 0 1 (MQ below (wo_Q D ((cI, .int) :: (cZ, .boolean) :: tys) none (wA cI cZ a gr en mk tl me rk (if (lu_E rk gr dy ln lf tc tp).2 = 0 then 7 else dy + 1) ((lu_E rk gr dy ln lf tc tp).1) ((lu_E rk gr dy ln lf tc tp).2) (0) lf lc (tc_E rk gr dy tp tc) (tp_E rk gr dy tp) lv rp rc pp ++ Y) A) args s 0 0 A) 28 [some (.ref (a 6))] [] (wA cI cZ a gr en mk tl me rk dy ln ll ps lf lc (tc2) (tp2) lv rp rc pp ++ Y) := by
    intro tp2 tc2 h1 h2
    subst h1; subst h2
    refine x_aload_n C dX0_endDay_28 rfl rfl ?_
    refine x_dup C dX0_endDay_29 rfl ?_
    refine gA6_day C dX0_endDay_30 ?_
    refine x_iconst C (v := 1) dX0_endDay_33 (by decide) ?_
    refine x_iadd C dX0_endDay_34 ?_
    refine pA6_day C (dy + 1) (nI_1 dy) dX0_endDay_35 ?_
    refine x_aload_n C dX0_endDay_38 rfl rfl ?_
    refine x_callVv C gv_X0_36 (c_X0_lineUp hg (by omega)) 6 rfl rfl rfl rfl (Nat.le_of_ble_eq_true rfl) ⟨(Nat.le_of_ble_eq_true rfl), (Nat.le_of_ble_eq_true rfl)⟩ ⟨Nat.zero_le _, Nat.zero_le _⟩ dX0_endDay_39 ?_
    exact x_vret C dX0_endDay_42 rfl rfl
  refine x_aload_n C dX0_endDay_0 rfl rfl ?_
  refine gA6_day C dX0_endDay_1 ?_
  refine x_iconst C (v := 3) dX0_endDay_4 (by decide) ?_
  refine x_icmp_ne C (tgt := 16) dX0_endDay_5 (by decide) (fun h => ?_) (fun h => ?_)
  · have h2 : ¬ dy = 3 := fun z => h (by rw [z]; rfl)
    refine x_aload_n C dX0_endDay_16 rfl rfl ?_
    refine gA6_day C dX0_endDay_17 ?_
    refine x_iconst C (v := 5) dX0_endDay_20 (by decide) ?_
    refine x_icmp_ne C (tgt := 28) dX0_endDay_21 (by decide) (fun h3 => ?_) (fun h3 => ?_)
    · have h4 : ¬ dy = 5 := fun z => h3 (by rw [z]; rfl)
      exact fin _ _ (by unfold tp_E; rw [if_neg (by omega)]) (by unfold tc_E; rw [if_neg h2])
    · have h4 : dy = 5 := wo_ieq (a := dy) (b := 5) (by omega) (by omega) h3
      refine x_aload_n C dX0_endDay_24 rfl rfl ?_
      refine x_callVv C gv_X0_56 (c_X0_takePlaces hg) 6 rfl rfl rfl rfl (Nat.le_of_ble_eq_true rfl) ⟨(Nat.le_of_ble_eq_true rfl), (Nat.le_of_ble_eq_true rfl)⟩ ⟨Nat.zero_le _, Nat.zero_le _⟩ dX0_endDay_25 ?_
      exact fin _ _ (by unfold tp_E; rw [if_pos (by omega)]) (by unfold tc_E; rw [if_neg h2])
  · have h2 : dy = 3 := wo_ieq (a := dy) (b := 3) (by omega) (by omega) h
    refine x_aload_n C dX0_endDay_8 rfl rfl ?_
    refine x_callVv C gv_X0_56 (c_X0_takePlaces hg) 6 rfl rfl rfl rfl (Nat.le_of_ble_eq_true rfl) ⟨(Nat.le_of_ble_eq_true rfl), (Nat.le_of_ble_eq_true rfl)⟩ ⟨Nat.zero_le _, Nat.zero_le _⟩ dX0_endDay_9 ?_
    refine x_aload_n C dX0_endDay_12 rfl rfl ?_
    refine x_callVv C gv_X0_59 (c_X0_makeCut hg) 6 rfl rfl rfl rfl (Nat.le_of_ble_eq_true rfl) ⟨(Nat.le_of_ble_eq_true rfl), (Nat.le_of_ble_eq_true rfl)⟩ ⟨Nat.zero_le _, Nat.zero_le _⟩ dX0_endDay_13 ?_
    refine x_aload_n C dX0_endDay_16 rfl rfl ?_
    refine gA6_day C dX0_endDay_17 ?_
    refine x_iconst C (v := 5) dX0_endDay_20 (by decide) ?_
    refine x_icmp_ne C (tgt := 28) dX0_endDay_21 (by decide) (fun h3 => ?_) (fun h3 => ?_)
    · exact fin _ _ (by unfold tp_E; rw [if_pos (by omega)]) (by unfold tc_E tp_E; rw [if_pos h2, if_pos (by omega)])
    · exact absurd (wo_ieq (a := dy) (b := 5) (by omega) (by omega) h3) (by omega)
/-- from place ps on, past those that left -/
def fw_A (ln : Nat → Nat) (lf : Nat → Bool) (ll : Nat) : Nat → Nat → Nat
  | 0, ps => ps
  | n + 1, ps => if ps < ll then (if lf (ln ps) then fw_A ln lf ll n (ps + 1) else ps) else ps
def nx_A (ln : Nat → Nat) (lf : Nat → Bool) (ll ps : Nat) : Nat := fw_A ln lf ll (13 - ps) ps
theorem nx_step {ln : Nat → Nat} {lf : Nat → Bool} {ll ps : Nat} (hl : ll ≤ 12) (h : ps < ll) (h2 : lf (ln ps) = true) : nx_A ln lf ll ps = nx_A ln lf ll (ps + 1) := by
  unfold nx_A
  rw [show 13 - ps = (13 - (ps + 1)) + 1 by omega, fw_A, if_pos h, if_pos h2]
theorem nx_stop {ln : Nat → Nat} {lf : Nat → Bool} {ll ps : Nat} (hp : ps ≤ 12) (h2 : lf (ln ps) = false) : nx_A ln lf ll ps = ps := by
  unfold nx_A
  rw [show 13 - ps = (13 - (ps + 1)) + 1 by omega, fw_A]
  split
  · rw [if_neg (by rw [h2]; decide)]
  · rfl
theorem nx_end {ln : Nat → Nat} {lf : Nat → Bool} {ll ps : Nat} (hp : ps ≤ 12) (h : ll ≤ ps) : nx_A ln lf ll ps = ps := by
  unfold nx_A
  rw [show 13 - ps = (13 - (ps + 1)) + 1 by omega, fw_A, if_neg (by omega)]
set_option maxRecDepth 100000 in
set_option maxHeartbeats 4000000 in
theorem c_X0_goOn (W2 : va_W) (hl : ll ≤ 12) (hp : ps < ll) (hln : ∀ k, k < ll → ln k < 12)
    (h1 : nx_A ln lf ll (ps + 1) < ll → W2 = (wA cI cZ a gr en mk tl me rk dy ln ll (nx_A ln lf ll (ps + 1)) lf lc tc tp lv rp rc pp ++ Y))
    (h2 : ¬ nx_A ln lf ll (ps + 1) < ll → wo_E l yX0_endDay cX0_endDay 1 (none) 4 D ((cI, .int) :: (cZ, .boolean) :: tys) [.ref (a 6)] (wA cI cZ a gr en mk tl me rk dy ln ll (nx_A ln lf ll (ps + 1)) lf lc tc tp lv rp rc pp ++ Y) none W2) : wo_E l yX0_goOn cX0_goOn 1 (none) 5 D ((cI, .int) :: (cZ, .boolean) :: tys) [.ref (a 6)] (wA cI cZ a gr en mk tl me rk dy ln ll ps lf lc tc tp lv rp rc pp ++ Y) none W2 := by
  refine wo_of (ls := [some (.ref (a 6))]) (by decide) (Nat.le_of_ble_eq_true rfl) rfl ?_
  intro p e s m args below meth c A C
  refine x_aload_n C dX0_goOn_0 rfl rfl ?_
  refine x_dup C dX0_goOn_1 rfl ?_
  refine gA6_position C dX0_goOn_2 ?_
  refine x_iconst C (v := 1) dX0_goOn_5 (by decide) ?_
  refine x_iadd C dX0_goOn_6 ?_
  refine pA6_position C (ps + 1) (nI_1 ps) dX0_goOn_7 ?_
  have fin : ∀ k, k = nx_A ln lf ll (ps + 1) → k ≤ 12 → wo_W p l e (wo_rm 5) s m args below meth c A D 0 0 1 (MQ below (wo_Q D ((cI, .int) :: (cZ, .boolean) :: tys) none W2 A) args s 0 0 A) 51 [some (.ref (a 6))] [] (wA cI cZ a gr en mk tl me rk dy ln ll (k) lf lc tc tp lv rp rc pp ++ Y) := by
    intro k hk hk2
    subst hk
    refine x_aload_n C dX0_goOn_51 rfl rfl ?_
    refine gA6_position C dX0_goOn_52 ?_
    refine x_aload_n C dX0_goOn_55 rfl rfl ?_
    refine gA6_lineLength C dX0_goOn_56 ?_
    refine x_icmp_lt C (tgt := 66) dX0_goOn_59 (by decide) (fun h => ?_) (fun h => ?_)
    · have h3 := wo_lt (by omega) (by omega) h
      exact x_vret C dX0_goOn_66 rfl (h1 h3).symm
    · have h3 := wo_nlt (by omega) (by omega) h
      refine x_aload_n C dX0_goOn_62 rfl rfl ?_
      refine x_callVv C gv_X0_53 (h2 (by omega)) 6 rfl rfl rfl rfl (Nat.le_of_ble_eq_true rfl) ⟨(Nat.le_of_ble_eq_true rfl), (Nat.le_of_ble_eq_true rfl)⟩ ⟨Nat.zero_le _, Nat.zero_le _⟩ dX0_goOn_63 ?_
      exact x_vret C dX0_goOn_66 rfl rfl
  have loop : ∀ (n k : Nat), n + k = ll → nx_A ln lf ll k = nx_A ln lf ll (ps + 1) → wo_W p l e (wo_rm 5) s m args below meth c A D 0 0 1 (MQ below (wo_Q D ((cI, .int) :: (cZ, .boolean) :: tys) none W2 A) args s 0 0 A) 10 [some (.ref (a 6))] [] (wA cI cZ a gr en mk tl me rk dy ln ll (k) lf lc tc tp lv rp rc pp ++ Y) := by
    intro n
    induction n with
    | zero =>
      intro k hk he
      refine x_aload_n C dX0_goOn_10 rfl rfl ?_
      refine gA6_position C dX0_goOn_11 ?_
      refine x_aload_n C dX0_goOn_14 rfl rfl ?_
      refine gA6_lineLength C dX0_goOn_15 ?_
      refine x_icmp_ge C (tgt := 51) dX0_goOn_18 (by decide) (fun h => ?_) (fun h => ?_)
      · exact fin k (by rw [← he, nx_end (by omega) (by omega)]) (by omega)
      · exact absurd (show nI ll ≤ nI k from nI_le (by omega) (by omega)) h
    | succ n ih =>
      intro k hk he
      refine x_aload_n C dX0_goOn_10 rfl rfl ?_
      refine gA6_position C dX0_goOn_11 ?_
      refine x_aload_n C dX0_goOn_14 rfl rfl ?_
      refine gA6_lineLength C dX0_goOn_15 ?_
      refine x_icmp_ge C (tgt := 51) dX0_goOn_18 (by decide) (fun h => ?_) (fun h => ?_)
      · exact absurd (wo_le (by omega) (by omega) h) (by omega)
      · have hk3 := hln k (by omega)
        refine x_aload_n C dX0_goOn_21 rfl rfl ?_
        refine gA6_left C dX0_goOn_22 ?_
        refine x_aload_n C dX0_goOn_25 rfl rfl ?_
        refine gA6_line C dX0_goOn_26 ?_
        refine x_aload_n C dX0_goOn_29 rfl rfl ?_
        refine gA6_position C dX0_goOn_30 ?_
        refine lA_ln C _ rfl (by omega) dX0_goOn_33 ?_
        refine lA_lf C _ rfl (by omega) dX0_goOn_34 ?_
        refine x_if_eq C (tgt := 51) dX0_goOn_35 (by decide) (fun h3 => ?_) (fun h3 => ?_)
        · exact fin k (by rw [← he, nx_stop (by omega) (bz_f h3)]) (by omega)
        · refine x_aload_n C dX0_goOn_38 rfl rfl ?_
          refine x_dup C dX0_goOn_39 rfl ?_
          refine gA6_position C dX0_goOn_40 ?_
          refine x_iconst C (v := 1) dX0_goOn_43 (by decide) ?_
          refine x_iadd C dX0_goOn_44 ?_
          refine pA6_position C (k + 1) (nI_1 k) dX0_goOn_45 ?_
          refine x_goto C (tgt := 10) dX0_goOn_48 (by decide) ?_
          exact ih (k + 1) (by omega) (by rw [← he, nx_step hl (by omega) (bz_t h3)])
  exact loop (ll - (ps + 1)) (ps + 1) (by omega) rfl
set_option maxRecDepth 100000 in
set_option maxHeartbeats 4000000 in
theorem c_X0_dismiss (W2 : va_W) (w : Nat) (hw : w < 12) (hl : ll ≤ 12) (hp : ps ≤ 12) (hln : ∀ k, k < ll → ln k < 12)
    (h1 : ¬ (ps < ll ∧ ln ps = w) → W2 = (wA cI cZ a gr en mk tl me rk dy ln ll ps (va_up lf w true) (lc + 1) tc tp lv rp rc pp ++ Y))
    (h2 : ps < ll ∧ ln ps = w → wo_E l yX0_goOn cX0_goOn 1 (none) 5 D ((cI, .int) :: (cZ, .boolean) :: tys) [.ref (a 6)] (wA cI cZ a gr en mk tl me rk dy ln ll ps (va_up lf w true) (lc + 1) tc tp lv rp rc pp ++ Y) none W2) : wo_E l yX0_dismiss cX0_dismiss 2 (none) 6 D ((cI, .int) :: (cZ, .boolean) :: tys) [.ref (a 6), .int (nI w)] (wA cI cZ a gr en mk tl me rk dy ln ll ps lf lc tc tp lv rp rc pp ++ Y) none W2 := by
  refine wo_of (ls := [some (.ref (a 6)), some (.int (nI w))]) (by decide) (Nat.le_of_ble_eq_true rfl) rfl ?_
  intro p e s m args below meth c A C
  refine x_aload_n C dX0_dismiss_0 rfl rfl ?_
  refine gA6_left C dX0_dismiss_1 ?_
  refine x_iload_n C dX0_dismiss_4 rfl rfl ?_
  refine x_iconst C (v := 1) dX0_dismiss_5 (by decide) ?_
  refine sA_lf C true rfl w rfl hw dX0_dismiss_6 ?_
  refine x_aload_n C dX0_dismiss_7 rfl rfl ?_
  refine x_dup C dX0_dismiss_8 rfl ?_
  refine gA6_leftCount C dX0_dismiss_9 ?_
  refine x_iconst C (v := 1) dX0_dismiss_12 (by decide) ?_
  refine x_iadd C dX0_dismiss_13 ?_
  refine pA6_leftCount C (lc + 1) (nI_1 lc) dX0_dismiss_14 ?_
  refine x_aload_n C dX0_dismiss_17 rfl rfl ?_
  refine x_callVi C gv_X0_46 (c_X0_whoseTurn hp hl) 6 rfl rfl rfl rfl (Nat.le_of_ble_eq_true rfl) ⟨(Nat.le_of_ble_eq_true rfl), (Nat.le_of_ble_eq_true rfl)⟩ ⟨Nat.zero_le _, Nat.zero_le _⟩ dX0_dismiss_18 ?_
  refine x_iload_n C dX0_dismiss_21 rfl rfl ?_
  refine x_icmp_ne C (tgt := 29) dX0_dismiss_22 (by decide) (fun h => ?_) (fun h => ?_)
  · have h3 : ¬ (ps < ll ∧ ln ps = w) := fun z => h (by rw [if_pos z.1, z.2])
    exact x_vret C dX0_dismiss_29 rfl (h1 h3).symm
  · have h3 : ps < ll ∧ ln ps = w := by
      by_cases h4 : ps < ll
      · rw [if_pos h4] at h
        have h5 := hln ps h4
        exact ⟨h4, wo_ieq (by omega) (by omega) h⟩
      · rw [if_neg h4] at h
        have h5 := congrArg Int32.toInt h
        rw [nI_toInt (by omega), show (-1000000 : Int32).toInt = -1000000 by decide] at h5
        omega
    refine x_aload_n C dX0_dismiss_25 rfl rfl ?_
    refine x_callVv C gv_X0_50 (h2 h3) 6 rfl rfl rfl rfl (Nat.le_of_ble_eq_true rfl) ⟨(Nat.le_of_ble_eq_true rfl), (Nat.le_of_ble_eq_true rfl)⟩ ⟨Nat.zero_le _, Nat.zero_le _⟩ dX0_dismiss_26 ?_
    exact x_vret C dX0_dismiss_29 rfl rfl
end CRS
