/-! ===== the class: reads and the board ===== -/
def hd_A (sign x y : Int32) : Bool := st_B (decide (¬ x = -1000000)) x (decide (¬ y = -1000000)) y sign
def bl_A (mk tl rk : Nat → Int32) (what : Int32) (w : Nat) : Int32 := if what = 0 then rk (w * 6) else if lt_A mk w 6 = 0 then -1000000 else tl (w * 6 + lt_A mk w 6 - 1)
def cc_A (q : Nat → Nat → Bool) : Nat → Nat
  | 0 => 0
  | n + 1 => cc_A q n + wo_cnt (q n) 6
theorem cc_le (q : Nat → Nat → Bool) : ∀ n, cc_A q n ≤ 6 * n
  | 0 => Nat.le_refl 0
  | n + 1 => by
    have h1 := cc_le q n
    have h2 := wo_cnt_le (q n) 6
    unfold cc_A
    omega
def cq_A (mk tl : Nat → Int32) (what sign num : Int32) (w d : Nat) : Bool := decide (¬ mk (w * 6 + d) = -1000000) && hd_A sign (vl_A mk tl what (w * 6 + d)) num
def fq_A (mk tl : Nat → Int32) (what sign num : Int32) (w : Nat) : Bool := decide (¬ lt_A mk w 6 = 0) && hd_A sign (vl_A mk tl what (w * 6 + lt_A mk w 6 - 1)) num
section OFC
variable {l : Launch} {D : va_G} {tys : List (ClassId × FieldType)} {cI cZ : ClassId} {a : Nat → Nat} {Y : va_W} {gr : Nat} {en : Nat} {mk : Nat → Int32} {tl : Nat → Int32} {me : Nat → Int32} {rk : Nat → Int32} {dy : Nat} {ln : Nat → Nat} {ll : Nat} {ps : Nat} {lf : Nat → Bool} {lc : Nat} {tc : Nat → Bool} {tp : Nat → Nat} {lv : Bool} {rp : Int32} {rc : Int32} {pp : Int32}
set_option maxRecDepth 100000 in
set_option maxHeartbeats 4000000 in
theorem c_X2_holds {ws : va_W} (sign x y : Int32) : wo_E l yX2_holds cX2_holds 3 (some .boolean) 0 D ((cI, .int) :: (cZ, .boolean) :: tys) [.int sign, .int x, .int y] (ws) (some (.int (bz (hd_A sign x y)))) (ws) := by
  refine wo_of (ls := [some (.int sign), some (.int x), some (.int y)]) (by decide) (Nat.le_of_ble_eq_true rfl) rfl ?_
  intro p e s m args below meth c A C
  have f12 : (decide (¬ x = -1000000) && decide (¬ y = -1000000)) = false → wo_W p l e (wo_rm 0) s m args below meth c A D 0 0 3 (MQ below (wo_Q D ((cI, .int) :: (cZ, .boolean) :: tys) (some (.int (bz (hd_A sign x y)))) ws A) args s 0 0 A) 12 [some (.int sign), some (.int x), some (.int y)] [] ws := by
    intro h
    refine x_iload_n C dX2_holds_12 rfl rfl ?_
    refine x_iconst C (v := 5) dX2_holds_13 (by decide) ?_
    refine x_icmp_ne C (tgt := 21) dX2_holds_14 (by decide) (fun h2 => ?_) (fun h2 => ?_)
    · refine x_iconst C (v := 0) dX2_holds_21 (by decide) ?_
      exact x_zret C dX2_holds_22 (b := false) rfl (by rw [hd_A, st_B, h, decide_eq_false h2]; rfl) rfl
    · refine x_iconst C (v := 1) dX2_holds_17 (by decide) ?_
      refine x_goto C (tgt := 22) dX2_holds_18 (by decide) ?_
      exact x_zret C dX2_holds_22 (b := true) rfl (by rw [hd_A, st_B, h, decide_eq_true h2]; rfl) rfl
  have f23 : (decide (¬ x = -1000000) && decide (¬ y = -1000000)) = true → wo_W p l e (wo_rm 0) s m args below meth c A D 0 0 3 (MQ below (wo_Q D ((cI, .int) :: (cZ, .boolean) :: tys) (some (.int (bz (hd_A sign x y)))) ws A) args s 0 0 A) 23 [some (.int sign), some (.int x), some (.int y)] [] ws := by
    intro h
    have hst : hd_A sign x y = st_F sign x y := by rw [hd_A, st_B, h]; rfl
    rw [hst]
    refine x_iload_n C dX2_holds_23 rfl rfl ?_
    by_cases h0 : sign = 0
    · subst h0
      refine x_tableIn C (off := 36) (tgt := 60) dX2_holds_24 (by decide) (by decide) (by decide) (by decide) ?_
      refine x_iload_n C dX2_holds_60 rfl rfl ?_
      refine x_iload_n C dX2_holds_61 rfl rfl ?_
      refine x_icmp_ge C (tgt := 69) dX2_holds_62 (by decide) (fun h9 => ?_) (fun h9 => ?_)
      · refine x_iconst C (v := 0) dX2_holds_69 (by decide) ?_
        exact x_zret C dX2_holds_70 (b := false) rfl (by rw [st_F, if_pos rfl, decide_eq_false (Int32.not_lt.mpr h9)]) rfl
      · refine x_iconst C (v := 1) dX2_holds_65 (by decide) ?_
        refine x_goto C (tgt := 70) dX2_holds_66 (by decide) ?_
        exact x_zret C dX2_holds_70 (b := true) rfl (by rw [st_F, if_pos rfl, decide_eq_true (Int32.not_le.mp h9)]) rfl
    by_cases h1 : sign = 1
    · subst h1
      refine x_tableIn C (off := 47) (tgt := 71) dX2_holds_24 (by decide) (by decide) (by decide) (by decide) ?_
      refine x_iload_n C dX2_holds_71 rfl rfl ?_
      refine x_iload_n C dX2_holds_72 rfl rfl ?_
      refine x_icmp_gt C (tgt := 80) dX2_holds_73 (by decide) (fun h9 => ?_) (fun h9 => ?_)
      · refine x_iconst C (v := 0) dX2_holds_80 (by decide) ?_
        exact x_zret C dX2_holds_81 (b := false) rfl (by rw [st_F, if_neg (by decide), if_pos rfl, decide_eq_false (Int32.not_le.mpr h9)]) rfl
      · refine x_iconst C (v := 1) dX2_holds_76 (by decide) ?_
        refine x_goto C (tgt := 81) dX2_holds_77 (by decide) ?_
        exact x_zret C dX2_holds_81 (b := true) rfl (by rw [st_F, if_neg (by decide), if_pos rfl, decide_eq_true (Int32.not_lt.mp h9)]) rfl
    by_cases h2 : sign = 2
    · subst h2
      refine x_tableIn C (off := 58) (tgt := 82) dX2_holds_24 (by decide) (by decide) (by decide) (by decide) ?_
      refine x_iload_n C dX2_holds_82 rfl rfl ?_
      refine x_iload_n C dX2_holds_83 rfl rfl ?_
      refine x_icmp_le C (tgt := 91) dX2_holds_84 (by decide) (fun h9 => ?_) (fun h9 => ?_)
      · refine x_iconst C (v := 0) dX2_holds_91 (by decide) ?_
        exact x_zret C dX2_holds_92 (b := false) rfl (by rw [st_F, if_neg (by decide), if_neg (by decide), if_pos rfl, decide_eq_false (Int32.not_lt.mpr h9)]) rfl
      · refine x_iconst C (v := 1) dX2_holds_87 (by decide) ?_
        refine x_goto C (tgt := 92) dX2_holds_88 (by decide) ?_
        exact x_zret C dX2_holds_92 (b := true) rfl (by rw [st_F, if_neg (by decide), if_neg (by decide), if_pos rfl, decide_eq_true (Int32.not_le.mp h9)]) rfl
    by_cases h3 : sign = 3
    · subst h3
      refine x_tableIn C (off := 69) (tgt := 93) dX2_holds_24 (by decide) (by decide) (by decide) (by decide) ?_
      refine x_iload_n C dX2_holds_93 rfl rfl ?_
      refine x_iload_n C dX2_holds_94 rfl rfl ?_
      refine x_icmp_lt C (tgt := 102) dX2_holds_95 (by decide) (fun h9 => ?_) (fun h9 => ?_)
      · refine x_iconst C (v := 0) dX2_holds_102 (by decide) ?_
        exact x_zret C dX2_holds_103 (b := false) rfl (by rw [st_F, if_neg (by decide), if_neg (by decide), if_neg (by decide), if_pos rfl, decide_eq_false (Int32.not_le.mpr h9)]) rfl
      · refine x_iconst C (v := 1) dX2_holds_98 (by decide) ?_
        refine x_goto C (tgt := 103) dX2_holds_99 (by decide) ?_
        exact x_zret C dX2_holds_103 (b := true) rfl (by rw [st_F, if_neg (by decide), if_neg (by decide), if_neg (by decide), if_pos rfl, decide_eq_true (Int32.not_lt.mp h9)]) rfl
    by_cases h4 : sign = 4
    · subst h4
      refine x_tableIn C (off := 80) (tgt := 104) dX2_holds_24 (by decide) (by decide) (by decide) (by decide) ?_
      refine x_iload_n C dX2_holds_104 rfl rfl ?_
      refine x_iload_n C dX2_holds_105 rfl rfl ?_
      refine x_icmp_ne C (tgt := 113) dX2_holds_106 (by decide) (fun h9 => ?_) (fun h9 => ?_)
      · refine x_iconst C (v := 0) dX2_holds_113 (by decide) ?_
        exact x_zret C dX2_holds_114 (b := false) rfl (by rw [st_F, if_neg (by decide), if_neg (by decide), if_neg (by decide), if_neg (by decide), if_pos rfl, decide_eq_false h9]) rfl
      · refine x_iconst C (v := 1) dX2_holds_109 (by decide) ?_
        refine x_goto C (tgt := 114) dX2_holds_110 (by decide) ?_
        exact x_zret C dX2_holds_114 (b := true) rfl (by rw [st_F, if_neg (by decide), if_neg (by decide), if_neg (by decide), if_neg (by decide), if_pos rfl, decide_eq_true h9]) rfl
    refine x_tableOut C (tgt := 115) dX2_holds_24 (wo_out5 h0 h1 h2 h3 h4) (by decide) ?_
    refine x_iload_n C dX2_holds_115 rfl rfl ?_
    refine x_iload_n C dX2_holds_116 rfl rfl ?_
    refine x_icmp_eq C (tgt := 124) dX2_holds_117 (by decide) (fun h9 => ?_) (fun h9 => ?_)
    · refine x_iconst C (v := 0) dX2_holds_124 (by decide) ?_
      exact x_zret C dX2_holds_125 (b := false) rfl (by rw [st_F, if_neg h0, if_neg h1, if_neg h2, if_neg h3, if_neg h4, decide_eq_false (fun z => z h9)]) rfl
    · refine x_iconst C (v := 1) dX2_holds_120 (by decide) ?_
      refine x_goto C (tgt := 125) dX2_holds_121 (by decide) ?_
      exact x_zret C dX2_holds_125 (b := true) rfl (by rw [st_F, if_neg h0, if_neg h1, if_neg h2, if_neg h3, if_neg h4, decide_eq_true h9]) rfl
  refine x_iload_n C dX2_holds_0 rfl rfl ?_
  refine x_ldc C kk_X2_29 dX2_holds_1 ?_
  refine x_icmp_eq C (tgt := 12) dX2_holds_3 (by decide) (fun h => ?_) (fun h => ?_)
  · exact f12 (by rw [decide_eq_false (fun z => z h)]; rfl)
  · refine x_iload_n C dX2_holds_6 rfl rfl ?_
    refine x_ldc C kk_X2_29 dX2_holds_7 ?_
    refine x_icmp_ne C (tgt := 23) dX2_holds_9 (by decide) (fun h2 => ?_) (fun h2 => ?_)
    · exact f23 (by rw [decide_eq_true h, decide_eq_true h2]; rfl)
    · exact f12 (by rw [decide_eq_false (p := ¬ y = -1000000) (fun z => z h2), Bool.and_false])
set_option maxRecDepth 100000 in
set_option maxHeartbeats 4000000 in
theorem c_X2_turn (hp : ps ≤ 12) (hl : ll ≤ 12) : wo_E l yX2_turn cX2_turn 1 (some .int) 1 D ((cI, .int) :: (cZ, .boolean) :: tys) [.ref (a 0)] (wA cI cZ a gr en mk tl me rk dy ln ll ps lf lc tc tp lv rp rc pp ++ Y) (some (.int (if ps < ll then nI (ln ps) else -1000000))) (wA cI cZ a gr en mk tl me rk dy ln ll ps lf lc tc tp lv rp rc pp ++ Y) := by
  refine wo_of (ls := [some (.ref (a 0))]) (by decide) (Nat.le_of_ble_eq_true rfl) rfl ?_
  intro p e s m args below meth c A C
  refine x_aload_n C dX2_turn_0 rfl rfl ?_
  refine gA0_course C dX2_turn_1 ?_
  refine x_callVi C gv_X2_119 (c_X0_whoseTurn hp hl) 6 rfl rfl rfl rfl (Nat.le_of_ble_eq_true rfl) ⟨(Nat.le_of_ble_eq_true rfl), (Nat.le_of_ble_eq_true rfl)⟩ ⟨Nat.zero_le _, Nat.zero_le _⟩ dX2_turn_4 ?_
  exact x_iret C dX2_turn_7 rfl rfl
set_option maxRecDepth 100000 in
set_option maxHeartbeats 4000000 in
theorem c_X2_day  : wo_E l yX2_day cX2_day 1 (some .int) 1 D ((cI, .int) :: (cZ, .boolean) :: tys) [.ref (a 0)] (wA cI cZ a gr en mk tl me rk dy ln ll ps lf lc tc tp lv rp rc pp ++ Y) (some (.int (nI dy))) (wA cI cZ a gr en mk tl me rk dy ln ll ps lf lc tc tp lv rp rc pp ++ Y) := by
  refine wo_of (ls := [some (.ref (a 0))]) (by decide) (Nat.le_of_ble_eq_true rfl) rfl ?_
  intro p e s m args below meth c A C
  refine x_aload_n C dX2_day_0 rfl rfl ?_
  refine gA0_course C dX2_day_1 ?_
  refine x_callVi C gv_X2_69 (c_X0_today) 6 rfl rfl rfl rfl (Nat.le_of_ble_eq_true rfl) ⟨(Nat.le_of_ble_eq_true rfl), (Nat.le_of_ble_eq_true rfl)⟩ ⟨Nat.zero_le _, Nat.zero_le _⟩ dX2_day_4 ?_
  exact x_iret C dX2_day_7 rfl rfl
set_option maxRecDepth 100000 in
set_option maxHeartbeats 4000000 in
theorem t_X2_weight (hl : l.stackTraces = false) (x y : Int32) (hg : 1 ≤ gr) (hg2 : gr ≤ 12) (hx : (in_B x 0 (nI (gr - 1)) && in_B y 1 6) = false) : wo_X l yX2_weight cX2_weight 3 (some .int) 7 D ((cI, .int) :: (cZ, .boolean) :: tys) [.ref (a 0), .int x, .int y] (wA cI cZ a gr en mk tl me rk dy ln ll ps lf lc tc tp lv rp rc pp ++ Y) wo_IAE := by
  refine wo_ofX (ls := [some (.ref (a 0)), some (.int x), some (.int y)]) (by decide) (Nat.le_of_ble_eq_true rfl) rfl ?_
  intro p e s m args below meth c A C ht hX
  refine x_aload_n C dX2_weight_0 rfl rfl ?_
  refine x_iload_n C dX2_weight_1 rfl rfl ?_
  cases h1 : in_B x 0 (nI (gr - 1)) with
  | false =>
    exact x_callVX C hX gv_X2_83 (t_X2_requireGrower hl x hg hg2 h1) 0 rfl rfl rfl rfl (Nat.le_of_ble_eq_true rfl) ⟨(Nat.le_of_ble_eq_true rfl), (Nat.le_of_ble_eq_true rfl)⟩ ⟨(Nat.le_of_ble_eq_true rfl), (Nat.le_of_ble_eq_true rfl)⟩ dX2_weight_2 (x_prop C ht)
  | true =>
    refine x_callVv C gv_X2_83 (c_X2_requireGrower x hg hg2 h1) 0 rfl rfl rfl rfl (Nat.le_of_ble_eq_true rfl) ⟨(Nat.le_of_ble_eq_true rfl), (Nat.le_of_ble_eq_true rfl)⟩ ⟨Nat.zero_le _, Nat.zero_le _⟩ dX2_weight_2 ?_
    refine x_iload_n C dX2_weight_5 rfl rfl ?_
    exact x_callSX C hX gs_X2_97 (t_X2_requireDay hl y (by rw [h1] at hx; exact hx)) rfl rfl (Nat.le_of_ble_eq_true rfl) ⟨(Nat.le_of_ble_eq_true rfl), (Nat.le_of_ble_eq_true rfl)⟩ ⟨(Nat.le_of_ble_eq_true rfl), (Nat.le_of_ble_eq_true rfl)⟩ dX2_weight_6 (x_prop C ht)
set_option maxRecDepth 100000 in
set_option maxHeartbeats 4000000 in
theorem c_X2_weight (w d : Nat) (hg2 : gr ≤ 12) (hw : w < gr) (h1 : 1 ≤ d) (h6 : d ≤ 6) : wo_E l yX2_weight cX2_weight 3 (some .int) 7 D ((cI, .int) :: (cZ, .boolean) :: tys) [.ref (a 0), .int (nI w), .int (nI d)] (wA cI cZ a gr en mk tl me rk dy ln ll ps lf lc tc tp lv rp rc pp ++ Y) (some (.int (mk (w * 6 + d - 1)))) (wA cI cZ a gr en mk tl me rk dy ln ll ps lf lc tc tp lv rp rc pp ++ Y) := by
  refine wo_of (ls := [some (.ref (a 0)), some (.int (nI w)), some (.int (nI d))]) (by decide) (Nat.le_of_ble_eq_true rfl) rfl ?_
  intro p e s m args below meth c A C
  refine x_aload_n C dX2_weight_0 rfl rfl ?_
  refine x_iload_n C dX2_weight_1 rfl rfl ?_
  refine x_callVv C gv_X2_83 (c_X2_requireGrower (nI w) (by omega) hg2 (wo_in0' hg2 hw)) 0 rfl rfl rfl rfl (Nat.le_of_ble_eq_true rfl) ⟨(Nat.le_of_ble_eq_true rfl), (Nat.le_of_ble_eq_true rfl)⟩ ⟨Nat.zero_le _, Nat.zero_le _⟩ dX2_weight_2 ?_
  refine x_iload_n C dX2_weight_5 rfl rfl ?_
  refine x_callSv C gs_X2_97 (c_X2_requireDay (nI d) (decide_eq_true ⟨nI_le (a := 1) h1 (by omega), nI_le (b := 6) h6 (by omega)⟩)) rfl rfl (Nat.le_of_ble_eq_true rfl) ⟨(Nat.le_of_ble_eq_true rfl), (Nat.le_of_ble_eq_true rfl)⟩ ⟨Nat.zero_le _, Nat.zero_le _⟩ dX2_weight_6 ?_
  refine x_aload_n C dX2_weight_9 rfl rfl ?_
  refine gA0_sheet C dX2_weight_10 ?_
  refine x_iload_n C dX2_weight_13 rfl rfl ?_
  refine x_iload_n C dX2_weight_14 rfl rfl ?_
  refine x_callVi C gv_X2_122 (c_X1_markOn w d (by omega) h1 h6) 1 rfl rfl rfl rfl (Nat.le_of_ble_eq_true rfl) ⟨(Nat.le_of_ble_eq_true rfl), (Nat.le_of_ble_eq_true rfl)⟩ ⟨Nat.zero_le _, Nat.zero_le _⟩ dX2_weight_15 ?_
  exact x_iret C dX2_weight_18 rfl rfl
set_option maxRecDepth 100000 in
set_option maxHeartbeats 4000000 in
theorem t_X2_tilt (hl : l.stackTraces = false) (x y : Int32) (hg : 1 ≤ gr) (hg2 : gr ≤ 12) (hx : (in_B x 0 (nI (gr - 1)) && in_B y 1 6) = false) : wo_X l yX2_tilt cX2_tilt 3 (some .int) 7 D ((cI, .int) :: (cZ, .boolean) :: tys) [.ref (a 0), .int x, .int y] (wA cI cZ a gr en mk tl me rk dy ln ll ps lf lc tc tp lv rp rc pp ++ Y) wo_IAE := by
  refine wo_ofX (ls := [some (.ref (a 0)), some (.int x), some (.int y)]) (by decide) (Nat.le_of_ble_eq_true rfl) rfl ?_
  intro p e s m args below meth c A C ht hX
  refine x_aload_n C dX2_tilt_0 rfl rfl ?_
  refine x_iload_n C dX2_tilt_1 rfl rfl ?_
  cases h1 : in_B x 0 (nI (gr - 1)) with
  | false =>
    exact x_callVX C hX gv_X2_83 (t_X2_requireGrower hl x hg hg2 h1) 0 rfl rfl rfl rfl (Nat.le_of_ble_eq_true rfl) ⟨(Nat.le_of_ble_eq_true rfl), (Nat.le_of_ble_eq_true rfl)⟩ ⟨(Nat.le_of_ble_eq_true rfl), (Nat.le_of_ble_eq_true rfl)⟩ dX2_tilt_2 (x_prop C ht)
  | true =>
    refine x_callVv C gv_X2_83 (c_X2_requireGrower x hg hg2 h1) 0 rfl rfl rfl rfl (Nat.le_of_ble_eq_true rfl) ⟨(Nat.le_of_ble_eq_true rfl), (Nat.le_of_ble_eq_true rfl)⟩ ⟨Nat.zero_le _, Nat.zero_le _⟩ dX2_tilt_2 ?_
    refine x_iload_n C dX2_tilt_5 rfl rfl ?_
    exact x_callSX C hX gs_X2_97 (t_X2_requireDay hl y (by rw [h1] at hx; exact hx)) rfl rfl (Nat.le_of_ble_eq_true rfl) ⟨(Nat.le_of_ble_eq_true rfl), (Nat.le_of_ble_eq_true rfl)⟩ ⟨(Nat.le_of_ble_eq_true rfl), (Nat.le_of_ble_eq_true rfl)⟩ dX2_tilt_6 (x_prop C ht)
set_option maxRecDepth 100000 in
set_option maxHeartbeats 4000000 in
theorem c_X2_tilt (w d : Nat) (hg2 : gr ≤ 12) (hw : w < gr) (h1 : 1 ≤ d) (h6 : d ≤ 6) : wo_E l yX2_tilt cX2_tilt 3 (some .int) 7 D ((cI, .int) :: (cZ, .boolean) :: tys) [.ref (a 0), .int (nI w), .int (nI d)] (wA cI cZ a gr en mk tl me rk dy ln ll ps lf lc tc tp lv rp rc pp ++ Y) (some (.int (tl (w * 6 + d - 1)))) (wA cI cZ a gr en mk tl me rk dy ln ll ps lf lc tc tp lv rp rc pp ++ Y) := by
  refine wo_of (ls := [some (.ref (a 0)), some (.int (nI w)), some (.int (nI d))]) (by decide) (Nat.le_of_ble_eq_true rfl) rfl ?_
  intro p e s m args below meth c A C
  refine x_aload_n C dX2_tilt_0 rfl rfl ?_
  refine x_iload_n C dX2_tilt_1 rfl rfl ?_
  refine x_callVv C gv_X2_83 (c_X2_requireGrower (nI w) (by omega) hg2 (wo_in0' hg2 hw)) 0 rfl rfl rfl rfl (Nat.le_of_ble_eq_true rfl) ⟨(Nat.le_of_ble_eq_true rfl), (Nat.le_of_ble_eq_true rfl)⟩ ⟨Nat.zero_le _, Nat.zero_le _⟩ dX2_tilt_2 ?_
  refine x_iload_n C dX2_tilt_5 rfl rfl ?_
  refine x_callSv C gs_X2_97 (c_X2_requireDay (nI d) (decide_eq_true ⟨nI_le (a := 1) h1 (by omega), nI_le (b := 6) h6 (by omega)⟩)) rfl rfl (Nat.le_of_ble_eq_true rfl) ⟨(Nat.le_of_ble_eq_true rfl), (Nat.le_of_ble_eq_true rfl)⟩ ⟨Nat.zero_le _, Nat.zero_le _⟩ dX2_tilt_6 ?_
  refine x_aload_n C dX2_tilt_9 rfl rfl ?_
  refine gA0_sheet C dX2_tilt_10 ?_
  refine x_iload_n C dX2_tilt_13 rfl rfl ?_
  refine x_iload_n C dX2_tilt_14 rfl rfl ?_
  refine x_callVi C gv_X2_110 (c_X1_tiltOn w d (by omega) h1 h6) 1 rfl rfl rfl rfl (Nat.le_of_ble_eq_true rfl) ⟨(Nat.le_of_ble_eq_true rfl), (Nat.le_of_ble_eq_true rfl)⟩ ⟨Nat.zero_le _, Nat.zero_le _⟩ dX2_tilt_15 ?_
  exact x_iret C dX2_tilt_18 rfl rfl
set_option maxRecDepth 100000 in
set_option maxHeartbeats 4000000 in
theorem t_X2_best (hl : l.stackTraces = false) (x : Int32) (hg : 1 ≤ gr) (hg2 : gr ≤ 12) (hx : in_B x 0 (nI (gr - 1)) = false) : wo_X l yX2_best cX2_best 2 (some .int) 7 D ((cI, .int) :: (cZ, .boolean) :: tys) [.ref (a 0), .int x] (wA cI cZ a gr en mk tl me rk dy ln ll ps lf lc tc tp lv rp rc pp ++ Y) wo_IAE := by
  refine wo_ofX (ls := [some (.ref (a 0)), some (.int x)]) (by decide) (Nat.le_of_ble_eq_true rfl) rfl ?_
  intro p e s m args below meth c A C ht hX
  refine x_aload_n C dX2_best_0 rfl rfl ?_
  refine x_iload_n C dX2_best_1 rfl rfl ?_
  exact x_callVX C hX gv_X2_83 (t_X2_requireGrower hl x hg hg2 hx) 0 rfl rfl rfl rfl (Nat.le_of_ble_eq_true rfl) ⟨(Nat.le_of_ble_eq_true rfl), (Nat.le_of_ble_eq_true rfl)⟩ ⟨(Nat.le_of_ble_eq_true rfl), (Nat.le_of_ble_eq_true rfl)⟩ dX2_best_2 (x_prop C ht)
set_option maxRecDepth 100000 in
set_option maxHeartbeats 4000000 in
theorem c_X2_best (w : Nat) (hg2 : gr ≤ 12) (hw : w < gr) : wo_E l yX2_best cX2_best 2 (some .int) 7 D ((cI, .int) :: (cZ, .boolean) :: tys) [.ref (a 0), .int (nI w)] (wA cI cZ a gr en mk tl me rk dy ln ll ps lf lc tc tp lv rp rc pp ++ Y) (some (.int (rk (w * 6)))) (wA cI cZ a gr en mk tl me rk dy ln ll ps lf lc tc tp lv rp rc pp ++ Y) := by
  refine wo_of (ls := [some (.ref (a 0)), some (.int (nI w))]) (by decide) (Nat.le_of_ble_eq_true rfl) rfl ?_
  intro p e s m args below meth c A C
  refine x_aload_n C dX2_best_0 rfl rfl ?_
  refine x_iload_n C dX2_best_1 rfl rfl ?_
  refine x_callVv C gv_X2_83 (c_X2_requireGrower (nI w) (by omega) hg2 (wo_in0' hg2 hw)) 0 rfl rfl rfl rfl (Nat.le_of_ble_eq_true rfl) ⟨(Nat.le_of_ble_eq_true rfl), (Nat.le_of_ble_eq_true rfl)⟩ ⟨Nat.zero_le _, Nat.zero_le _⟩ dX2_best_2 ?_
  refine x_aload_n C dX2_best_5 rfl rfl ?_
  refine gA0_sheet C dX2_best_6 ?_
  refine x_iload_n C dX2_best_9 rfl rfl ?_
  refine x_callVi C gv_X2_125 (c_X1_bestOf w (by omega)) 1 rfl rfl rfl rfl (Nat.le_of_ble_eq_true rfl) ⟨(Nat.le_of_ble_eq_true rfl), (Nat.le_of_ble_eq_true rfl)⟩ ⟨Nat.zero_le _, Nat.zero_le _⟩ dX2_best_10 ?_
  exact x_iret C dX2_best_13 rfl rfl
set_option maxRecDepth 100000 in
set_option maxHeartbeats 4000000 in
theorem t_X2_place (hl : l.stackTraces = false) (x : Int32) (hg : 1 ≤ gr) (hg2 : gr ≤ 12) (hx : in_B x 0 (nI (gr - 1)) = false) : wo_X l yX2_place cX2_place 2 (some .int) 7 D ((cI, .int) :: (cZ, .boolean) :: tys) [.ref (a 0), .int x] (wA cI cZ a gr en mk tl me rk dy ln ll ps lf lc tc tp lv rp rc pp ++ Y) wo_IAE := by
  refine wo_ofX (ls := [some (.ref (a 0)), some (.int x)]) (by decide) (Nat.le_of_ble_eq_true rfl) rfl ?_
  intro p e s m args below meth c A C ht hX
  refine x_aload_n C dX2_place_0 rfl rfl ?_
  refine x_iload_n C dX2_place_1 rfl rfl ?_
  exact x_callVX C hX gv_X2_83 (t_X2_requireGrower hl x hg hg2 hx) 0 rfl rfl rfl rfl (Nat.le_of_ble_eq_true rfl) ⟨(Nat.le_of_ble_eq_true rfl), (Nat.le_of_ble_eq_true rfl)⟩ ⟨(Nat.le_of_ble_eq_true rfl), (Nat.le_of_ble_eq_true rfl)⟩ dX2_place_2 (x_prop C ht)
set_option maxRecDepth 100000 in
set_option maxHeartbeats 4000000 in
theorem c_X2_place (w : Nat) (hg2 : gr ≤ 12) (hw : w < gr) : wo_E l yX2_place cX2_place 2 (some .int) 7 D ((cI, .int) :: (cZ, .boolean) :: tys) [.ref (a 0), .int (nI w)] (wA cI cZ a gr en mk tl me rk dy ln ll ps lf lc tc tp lv rp rc pp ++ Y) (some (.int (nI (pl_A rk gr w)))) (wA cI cZ a gr en mk tl me rk dy ln ll ps lf lc tc tp lv rp rc pp ++ Y) := by
  refine wo_of (ls := [some (.ref (a 0)), some (.int (nI w))]) (by decide) (Nat.le_of_ble_eq_true rfl) rfl ?_
  intro p e s m args below meth c A C
  refine x_aload_n C dX2_place_0 rfl rfl ?_
  refine x_iload_n C dX2_place_1 rfl rfl ?_
  refine x_callVv C gv_X2_83 (c_X2_requireGrower (nI w) (by omega) hg2 (wo_in0' hg2 hw)) 0 rfl rfl rfl rfl (Nat.le_of_ble_eq_true rfl) ⟨(Nat.le_of_ble_eq_true rfl), (Nat.le_of_ble_eq_true rfl)⟩ ⟨Nat.zero_le _, Nat.zero_le _⟩ dX2_place_2 ?_
  refine x_aload_n C dX2_place_5 rfl rfl ?_
  refine gA0_sheet C dX2_place_6 ?_
  refine x_iload_n C dX2_place_9 rfl rfl ?_
  refine x_callVi C gv_X2_128 (c_X1_placeOf w (by omega) hg2) 1 rfl rfl rfl rfl (Nat.le_of_ble_eq_true rfl) ⟨(Nat.le_of_ble_eq_true rfl), (Nat.le_of_ble_eq_true rfl)⟩ ⟨Nat.zero_le _, Nat.zero_le _⟩ dX2_place_10 ?_
  exact x_iret C dX2_place_13 rfl rfl
set_option maxRecDepth 100000 in
set_option maxHeartbeats 4000000 in
theorem t_X2_wins (hl : l.stackTraces = false) (x : Int32) (hg : 1 ≤ gr) (hg2 : gr ≤ 12) (hx : in_B x 0 (nI (gr - 1)) = false) : wo_X l yX2_wins cX2_wins 3 (some .boolean) 7 D ((cI, .int) :: (cZ, .boolean) :: tys) [.ref (a 0), .int x] (wA cI cZ a gr en mk tl me rk dy ln ll ps lf lc tc tp lv rp rc pp ++ Y) wo_IAE := by
  refine wo_ofX (ls := [some (.ref (a 0)), some (.int x), none]) (by decide) (Nat.le_of_ble_eq_true rfl) rfl ?_
  intro p e s m args below meth c A C ht hX
  refine x_aload_n C dX2_wins_0 rfl rfl ?_
  refine x_iload_n C dX2_wins_1 rfl rfl ?_
  exact x_callVX C hX gv_X2_83 (t_X2_requireGrower hl x hg hg2 hx) 0 rfl rfl rfl rfl (Nat.le_of_ble_eq_true rfl) ⟨(Nat.le_of_ble_eq_true rfl), (Nat.le_of_ble_eq_true rfl)⟩ ⟨(Nat.le_of_ble_eq_true rfl), (Nat.le_of_ble_eq_true rfl)⟩ dX2_wins_2 (x_prop C ht)
set_option maxRecDepth 100000 in
set_option maxHeartbeats 4000000 in
theorem c_X2_wins (w : Nat) (hg2 : gr ≤ 12) (hw : w < gr) : wo_E l yX2_wins cX2_wins 3 (some .boolean) 7 D ((cI, .int) :: (cZ, .boolean) :: tys) [.ref (a 0), .int (nI w)] (wA cI cZ a gr en mk tl me rk dy ln ll ps lf lc tc tp lv rp rc pp ++ Y) (some (.int (bz (decide (¬ pp = -1000000 ∧ ¬ rk (w * 6) = -1000000 ∧ pp ≤ rk (w * 6)))))) (wA cI cZ a gr en mk tl me rk dy ln ll ps lf lc tc tp lv rp rc pp ++ Y) := by
  refine wo_of (ls := [some (.ref (a 0)), some (.int (nI w)), none]) (by decide) (Nat.le_of_ble_eq_true rfl) rfl ?_
  intro p e s m args below meth c A C
  refine x_aload_n C dX2_wins_0 rfl rfl ?_
  refine x_iload_n C dX2_wins_1 rfl rfl ?_
  refine x_callVv C gv_X2_83 (c_X2_requireGrower (nI w) (by omega) hg2 (wo_in0' hg2 hw)) 0 rfl rfl rfl rfl (Nat.le_of_ble_eq_true rfl) ⟨(Nat.le_of_ble_eq_true rfl), (Nat.le_of_ble_eq_true rfl)⟩ ⟨Nat.zero_le _, Nat.zero_le _⟩ dX2_wins_2 ?_
  refine x_aload_n C dX2_wins_5 rfl rfl ?_
  refine gA0_sheet C dX2_wins_6 ?_
  refine x_iload_n C dX2_wins_9 rfl rfl ?_
  refine x_callVi C gv_X2_125 (c_X1_bestOf w (by omega)) 1 rfl rfl rfl rfl (Nat.le_of_ble_eq_true rfl) ⟨(Nat.le_of_ble_eq_true rfl), (Nat.le_of_ble_eq_true rfl)⟩ ⟨Nat.zero_le _, Nat.zero_le _⟩ dX2_wins_10 ?_
  refine x_istore_n C dX2_wins_13 rfl (by decide) ?_
  refine x_aload_n C dX2_wins_14 rfl rfl ?_
  refine gA0_prizePounds C dX2_wins_15 ?_
  refine x_ldc C kk_X2_29 dX2_wins_18 ?_
  refine x_icmp_eq C (tgt := 41) dX2_wins_20 (by decide) (fun h => ?_) (fun h => ?_)
  · refine x_iconst C (v := 0) dX2_wins_41 (by decide) ?_
    exact x_zret C dX2_wins_42 (b := false) rfl (by rw [decide_eq_false (fun z => z.1 h)]) rfl
  · refine x_iload_n C dX2_wins_23 rfl rfl ?_
    refine x_ldc C kk_X2_29 dX2_wins_24 ?_
    refine x_icmp_eq C (tgt := 41) dX2_wins_26 (by decide) (fun h2 => ?_) (fun h2 => ?_)
    · refine x_iconst C (v := 0) dX2_wins_41 (by decide) ?_
      exact x_zret C dX2_wins_42 (b := false) rfl (by rw [decide_eq_false (fun z => z.2.1 h2)]) rfl
    · refine x_iload_n C dX2_wins_29 rfl rfl ?_
      refine x_aload_n C dX2_wins_30 rfl rfl ?_
      refine gA0_prizePounds C dX2_wins_31 ?_
      refine x_icmp_lt C (tgt := 41) dX2_wins_34 (by decide) (fun h3 => ?_) (fun h3 => ?_)
      · refine x_iconst C (v := 0) dX2_wins_41 (by decide) ?_
        exact x_zret C dX2_wins_42 (b := false) rfl (by rw [decide_eq_false (fun z => Int32.not_lt.mpr z.2.2 h3)]) rfl
      · refine x_iconst C (v := 1) dX2_wins_37 (by decide) ?_
        refine x_goto C (tgt := 42) dX2_wins_38 (by decide) ?_
        exact x_zret C dX2_wins_42 (b := true) rfl (by rw [decide_eq_true ⟨h, h2, Int32.not_lt.mp h3⟩]) rfl
set_option maxRecDepth 100000 in
set_option maxHeartbeats 4000000 in
theorem t_X2_count (hl : l.stackTraces = false) (what sign num : Int32) (hx : (in_B what 0 1 && in_B sign 0 5) = false) : wo_X l yX2_count cX2_count 7 (some .int) 7 D ((cI, .int) :: (cZ, .boolean) :: tys) [.ref (a 0), .int what, .int sign, .int num] (wA cI cZ a gr en mk tl me rk dy ln ll ps lf lc tc tp lv rp rc pp ++ Y) wo_IAE := by
  refine wo_ofX (ls := [some (.ref (a 0)), some (.int what), some (.int sign), some (.int num), none, none, none]) (by decide) (Nat.le_of_ble_eq_true rfl) rfl ?_
  intro p e s m args below meth c A C ht hX
  refine x_iload_n C dX2_count_0 rfl rfl ?_
  cases h1 : in_B what 0 1 with
  | false =>
    exact x_callSX C hX gs_X2_131 (t_X2_requireWhat hl what h1) rfl rfl (Nat.le_of_ble_eq_true rfl) ⟨(Nat.le_of_ble_eq_true rfl), (Nat.le_of_ble_eq_true rfl)⟩ ⟨(Nat.le_of_ble_eq_true rfl), (Nat.le_of_ble_eq_true rfl)⟩ dX2_count_1 (x_prop C ht)
  | true =>
    refine x_callSv C gs_X2_131 (c_X2_requireWhat what h1) rfl rfl (Nat.le_of_ble_eq_true rfl) ⟨(Nat.le_of_ble_eq_true rfl), (Nat.le_of_ble_eq_true rfl)⟩ ⟨Nat.zero_le _, Nat.zero_le _⟩ dX2_count_1 ?_
    refine x_iload_n C dX2_count_4 rfl rfl ?_
    exact x_callSX C hX gs_X2_134 (t_X2_requireSign hl sign (by rw [h1] at hx; exact hx)) rfl rfl (Nat.le_of_ble_eq_true rfl) ⟨(Nat.le_of_ble_eq_true rfl), (Nat.le_of_ble_eq_true rfl)⟩ ⟨(Nat.le_of_ble_eq_true rfl), (Nat.le_of_ble_eq_true rfl)⟩ dX2_count_5 (x_prop C ht)
set_option maxRecDepth 100000 in
set_option maxHeartbeats 4000000 in
theorem t_X2_first (hl : l.stackTraces = false) (what sign num : Int32) (hx : (in_B what 0 1 && in_B sign 0 5) = false) : wo_X l yX2_first cX2_first 6 (some .int) 7 D ((cI, .int) :: (cZ, .boolean) :: tys) [.ref (a 0), .int what, .int sign, .int num] (wA cI cZ a gr en mk tl me rk dy ln ll ps lf lc tc tp lv rp rc pp ++ Y) wo_IAE := by
  refine wo_ofX (ls := [some (.ref (a 0)), some (.int what), some (.int sign), some (.int num), none, none]) (by decide) (Nat.le_of_ble_eq_true rfl) rfl ?_
  intro p e s m args below meth c A C ht hX
  refine x_iload_n C dX2_first_0 rfl rfl ?_
  cases h1 : in_B what 0 1 with
  | false =>
    exact x_callSX C hX gs_X2_131 (t_X2_requireWhat hl what h1) rfl rfl (Nat.le_of_ble_eq_true rfl) ⟨(Nat.le_of_ble_eq_true rfl), (Nat.le_of_ble_eq_true rfl)⟩ ⟨(Nat.le_of_ble_eq_true rfl), (Nat.le_of_ble_eq_true rfl)⟩ dX2_first_1 (x_prop C ht)
  | true =>
    refine x_callSv C gs_X2_131 (c_X2_requireWhat what h1) rfl rfl (Nat.le_of_ble_eq_true rfl) ⟨(Nat.le_of_ble_eq_true rfl), (Nat.le_of_ble_eq_true rfl)⟩ ⟨Nat.zero_le _, Nat.zero_le _⟩ dX2_first_1 ?_
    refine x_iload_n C dX2_first_4 rfl rfl ?_
    exact x_callSX C hX gs_X2_134 (t_X2_requireSign hl sign (by rw [h1] at hx; exact hx)) rfl rfl (Nat.le_of_ble_eq_true rfl) ⟨(Nat.le_of_ble_eq_true rfl), (Nat.le_of_ble_eq_true rfl)⟩ ⟨(Nat.le_of_ble_eq_true rfl), (Nat.le_of_ble_eq_true rfl)⟩ dX2_first_5 (x_prop C ht)
set_option maxRecDepth 100000 in
set_option maxHeartbeats 4000000 in
theorem t_X2_lamps (hl : l.stackTraces = false) (what sign num : Int32) (hx : (in_B what 0 1 && in_B sign 0 5) = false) : wo_X l yX2_lamps cX2_lamps 6 (some .int) 7 D ((cI, .int) :: (cZ, .boolean) :: tys) [.ref (a 0), .int what, .int sign, .int num] (wA cI cZ a gr en mk tl me rk dy ln ll ps lf lc tc tp lv rp rc pp ++ Y) wo_IAE := by
  refine wo_ofX (ls := [some (.ref (a 0)), some (.int what), some (.int sign), some (.int num), none, none]) (by decide) (Nat.le_of_ble_eq_true rfl) rfl ?_
  intro p e s m args below meth c A C ht hX
  refine x_iload_n C dX2_lamps_0 rfl rfl ?_
  cases h1 : in_B what 0 1 with
  | false =>
    exact x_callSX C hX gs_X2_131 (t_X2_requireWhat hl what h1) rfl rfl (Nat.le_of_ble_eq_true rfl) ⟨(Nat.le_of_ble_eq_true rfl), (Nat.le_of_ble_eq_true rfl)⟩ ⟨(Nat.le_of_ble_eq_true rfl), (Nat.le_of_ble_eq_true rfl)⟩ dX2_lamps_1 (x_prop C ht)
  | true =>
    refine x_callSv C gs_X2_131 (c_X2_requireWhat what h1) rfl rfl (Nat.le_of_ble_eq_true rfl) ⟨(Nat.le_of_ble_eq_true rfl), (Nat.le_of_ble_eq_true rfl)⟩ ⟨Nat.zero_le _, Nat.zero_le _⟩ dX2_lamps_1 ?_
    refine x_iload_n C dX2_lamps_4 rfl rfl ?_
    exact x_callSX C hX gs_X2_134 (t_X2_requireSign hl sign (by rw [h1] at hx; exact hx)) rfl rfl (Nat.le_of_ble_eq_true rfl) ⟨(Nat.le_of_ble_eq_true rfl), (Nat.le_of_ble_eq_true rfl)⟩ ⟨(Nat.le_of_ble_eq_true rfl), (Nat.le_of_ble_eq_true rfl)⟩ dX2_lamps_5 (x_prop C ht)
set_option maxRecDepth 100000 in
set_option maxHeartbeats 4000000 in
theorem c_X2_count (what sign num : Int32) (h1 : in_B what 0 1 = true) (h2 : in_B sign 0 5 = true) (hg2 : gr ≤ 12) : wo_E l yX2_count cX2_count 7 (some .int) 7 D ((cI, .int) :: (cZ, .boolean) :: tys) [.ref (a 0), .int what, .int sign, .int num] (wA cI cZ a gr en mk tl me rk dy ln ll ps lf lc tc tp lv rp rc pp ++ Y) (some (.int (nI (cc_A (cq_A mk tl what sign num) gr)))) (wA cI cZ a gr en mk tl me rk dy ln ll ps lf lc tc tp lv rp rc pp ++ Y) := by
  refine wo_of (ls := [some (.ref (a 0)), some (.int what), some (.int sign), some (.int num), none, none, none]) (by decide) (Nat.le_of_ble_eq_true rfl) rfl ?_
  intro p e s m args below meth c A C
  refine x_iload_n C dX2_count_0 rfl rfl ?_
  refine x_callSv C gs_X2_131 (c_X2_requireWhat what h1) rfl rfl (Nat.le_of_ble_eq_true rfl) ⟨(Nat.le_of_ble_eq_true rfl), (Nat.le_of_ble_eq_true rfl)⟩ ⟨Nat.zero_le _, Nat.zero_le _⟩ dX2_count_1 ?_
  refine x_iload_n C dX2_count_4 rfl rfl ?_
  refine x_callSv C gs_X2_134 (c_X2_requireSign sign h2) rfl rfl (Nat.le_of_ble_eq_true rfl) ⟨(Nat.le_of_ble_eq_true rfl), (Nat.le_of_ble_eq_true rfl)⟩ ⟨Nat.zero_le _, Nat.zero_le _⟩ dX2_count_5 ?_
  refine x_iconst C (v := 0) dX2_count_8 (by decide) ?_
  refine x_istore C dX2_count_9 (by decide) ?_
  refine x_iconst C (v := 0) dX2_count_11 (by decide) ?_
  refine x_istore C dX2_count_12 (by decide) ?_
  have outer : ∀ (n k : Nat) (x6 : Option Value), n + k = gr → wo_W p l e (wo_rm 7) s m args below meth c A D 0 0 7 (MQ below (wo_Q D ((cI, .int) :: (cZ, .boolean) :: tys) (some (.int (nI (cc_A (cq_A mk tl what sign num) gr)))) (wA cI cZ a gr en mk tl me rk dy ln ll ps lf lc tc tp lv rp rc pp ++ Y) A) args s 0 0 A) 14 [some (.ref (a 0)), some (.int what), some (.int sign), some (.int num), some (.int (nI (cc_A (cq_A mk tl what sign num) k))), some (.int (nI k)), x6] [] (wA cI cZ a gr en mk tl me rk dy ln ll ps lf lc tc tp lv rp rc pp ++ Y) := by
    intro n
    induction n with
    | zero =>
      intro k x6 hk
      refine x_iload C dX2_count_14 rfl ?_
      refine x_aload_n C dX2_count_16 rfl rfl ?_
      refine gA0_sheet C dX2_count_17 ?_
      refine x_callVi C gv_X2_137 (c_X1_howManyGrowers) 1 rfl rfl rfl rfl (Nat.le_of_ble_eq_true rfl) ⟨(Nat.le_of_ble_eq_true rfl), (Nat.le_of_ble_eq_true rfl)⟩ ⟨Nat.zero_le _, Nat.zero_le _⟩ dX2_count_20 ?_
      refine x_icmp_ge C (tgt := 85) dX2_count_23 (by decide) (fun h => ?_) (fun h => ?_)
      · have hk2 : k = gr := by omega
        subst hk2
        refine x_iload C dX2_count_85 rfl ?_
        exact x_iret C dX2_count_87 rfl rfl
      · exact absurd (show nI gr ≤ nI k from nI_le (by omega) (by omega)) h
    | succ n ih =>
      intro k x6 hk
      have hcc := cc_le (cq_A mk tl what sign num) k
      refine x_iload C dX2_count_14 rfl ?_
      refine x_aload_n C dX2_count_16 rfl rfl ?_
      refine gA0_sheet C dX2_count_17 ?_
      refine x_callVi C gv_X2_137 (c_X1_howManyGrowers) 1 rfl rfl rfl rfl (Nat.le_of_ble_eq_true rfl) ⟨(Nat.le_of_ble_eq_true rfl), (Nat.le_of_ble_eq_true rfl)⟩ ⟨Nat.zero_le _, Nat.zero_le _⟩ dX2_count_20 ?_
      refine x_icmp_ge C (tgt := 85) dX2_count_23 (by decide) (fun h => ?_) (fun h => ?_)
      · exact absurd (wo_le (by omega) (by omega) h) (by omega)
      · refine x_iconst C (v := 1) dX2_count_26 (by decide) ?_
        refine x_istore C dX2_count_27 (by decide) ?_
        have inner : ∀ (r d : Nat), r + d = 6 → wo_W p l e (wo_rm 7) s m args below meth c A D 0 0 7 (MQ below (wo_Q D ((cI, .int) :: (cZ, .boolean) :: tys) (some (.int (nI (cc_A (cq_A mk tl what sign num) gr)))) (wA cI cZ a gr en mk tl me rk dy ln ll ps lf lc tc tp lv rp rc pp ++ Y) A) args s 0 0 A) 29 [some (.ref (a 0)), some (.int what), some (.int sign), some (.int num), some (.int (nI (cc_A (cq_A mk tl what sign num) k + wo_cnt (cq_A mk tl what sign num k) d))), some (.int (nI k)), some (.int (nI (d + 1)))] [] (wA cI cZ a gr en mk tl me rk dy ln ll ps lf lc tc tp lv rp rc pp ++ Y) := by
          intro r
          induction r with
          | zero =>
            intro d hd
            refine x_iload C dX2_count_29 rfl ?_
            refine x_bipush C (v := 6) dX2_count_31 (by decide) ?_
            refine x_icmp_gt C (tgt := 79) dX2_count_33 (by decide) (fun h3 => ?_) (fun h3 => ?_)
            · have hd2 : d = 6 := by omega
              subst hd2
              refine x_iinc C dX2_count_79 rfl (nI_1 k) (by decide) ?_
              refine x_goto C (tgt := 14) dX2_count_82 (by decide) ?_
              exact ih (k + 1) _ (by omega)
            · exact absurd (show nI 6 < nI (d + 1) from nI_lt (by omega) (by omega)) h3
          | succ r ihr =>
            intro d hd
            refine x_iload C dX2_count_29 rfl ?_
            refine x_bipush C (v := 6) dX2_count_31 (by decide) ?_
            refine x_icmp_gt C (tgt := 79) dX2_count_33 (by decide) (fun h3 => ?_) (fun h3 => ?_)
            · exact absurd (wo_lt (a := 6) (b := d + 1) (by omega) (by omega) h3) (by omega)
            · refine x_aload_n C dX2_count_36 rfl rfl ?_
              refine gA0_sheet C dX2_count_37 ?_
              refine x_iload C dX2_count_40 rfl ?_
              refine x_iload C dX2_count_42 rfl ?_
              refine x_callVi C gv_X2_140 (c_X1_hasEntry k (d + 1) (by omega) (by omega) (by omega)) 1 rfl rfl rfl rfl (Nat.le_of_ble_eq_true rfl) ⟨(Nat.le_of_ble_eq_true rfl), (Nat.le_of_ble_eq_true rfl)⟩ ⟨Nat.zero_le _, Nat.zero_le _⟩ dX2_count_44 ?_
              refine x_if_eq C (tgt := 73) dX2_count_47 (by decide) (fun h4 => ?_) (fun h4 => ?_)
              · have h5 := of_decide_eq_false (bz_f h4)
                refine x_iinc C dX2_count_73 rfl (nI_1 (d + 1)) (by decide) ?_
                refine x_goto C (tgt := 29) dX2_count_76 (by decide) ?_
                have h9 := ihr (d + 1) (by omega)
                rw [wo_cnt_f (n := d) (q := cq_A mk tl what sign num k) (by unfold cq_A; rw [decide_eq_false (show ¬ ¬ mk (k * 6 + d) = -1000000 from h5)]; rfl)] at h9
                exact h9
              · have h5 := of_decide_eq_true (bz_t h4)
                refine x_iload_n C dX2_count_50 rfl rfl ?_
                refine x_aload_n C dX2_count_51 rfl rfl ?_
                refine gA0_sheet C dX2_count_52 ?_
                refine x_iload_n C dX2_count_55 rfl rfl ?_
                refine x_iload C dX2_count_56 rfl ?_
                refine x_iload C dX2_count_58 rfl ?_
                refine x_callVi C gv_X2_143 (c_X1_valueOn what k (d + 1) (by omega) (by omega) (by omega)) 1 rfl rfl rfl rfl (Nat.le_of_ble_eq_true rfl) ⟨(Nat.le_of_ble_eq_true rfl), (Nat.le_of_ble_eq_true rfl)⟩ ⟨Nat.zero_le _, Nat.zero_le _⟩ dX2_count_60 ?_
                refine x_iload_n C dX2_count_63 rfl rfl ?_
                refine x_callSi C gs_X2_147 (c_X2_holds sign _ num) rfl rfl (Nat.le_of_ble_eq_true rfl) ⟨(Nat.le_of_ble_eq_true rfl), (Nat.le_of_ble_eq_true rfl)⟩ ⟨Nat.zero_le _, Nat.zero_le _⟩ dX2_count_64 ?_
                refine x_if_eq C (tgt := 73) dX2_count_67 (by decide) (fun h6 => ?_) (fun h6 => ?_)
                · refine x_iinc C dX2_count_73 rfl (nI_1 (d + 1)) (by decide) ?_
                  refine x_goto C (tgt := 29) dX2_count_76 (by decide) ?_
                  have h9 := ihr (d + 1) (by omega)
                  rw [wo_cnt_f (n := d) (q := cq_A mk tl what sign num k) (by unfold cq_A; rw [show hd_A sign (vl_A mk tl what (k * 6 + d)) num = false from bz_f h6, Bool.and_false])] at h9
                  exact h9
                · refine x_iinc C dX2_count_70 rfl (nI_1 _) (by decide) ?_
                  refine x_iinc C dX2_count_73 rfl (nI_1 (d + 1)) (by decide) ?_
                  refine x_goto C (tgt := 29) dX2_count_76 (by decide) ?_
                  have h9 := ihr (d + 1) (by omega)
                  rw [wo_cnt_t (n := d) (q := cq_A mk tl what sign num k) (by unfold cq_A; rw [show hd_A sign (vl_A mk tl what (k * 6 + d)) num = true from bz_t h6, decide_eq_true (show ¬ mk (k * 6 + d) = -1000000 from h5)]; rfl)] at h9
                  exact h9
        exact inner 6 0 rfl
  exact outer gr 0 _ (by omega)
set_option maxRecDepth 100000 in
set_option maxHeartbeats 4000000 in
theorem c_X2_first (what sign num : Int32) (h1 : in_B what 0 1 = true) (h2 : in_B sign 0 5 = true) (hg2 : gr ≤ 12) : wo_E l yX2_first cX2_first 6 (some .int) 7 D ((cI, .int) :: (cZ, .boolean) :: tys) [.ref (a 0), .int what, .int sign, .int num] (wA cI cZ a gr en mk tl me rk dy ln ll ps lf lc tc tp lv rp rc pp ++ Y) (some (.int (fs_F (fq_A mk tl what sign num) gr 0))) (wA cI cZ a gr en mk tl me rk dy ln ll ps lf lc tc tp lv rp rc pp ++ Y) := by
  refine wo_of (ls := [some (.ref (a 0)), some (.int what), some (.int sign), some (.int num), none, none]) (by decide) (Nat.le_of_ble_eq_true rfl) rfl ?_
  intro p e s m args below meth c A C
  refine x_iload_n C dX2_first_0 rfl rfl ?_
  refine x_callSv C gs_X2_131 (c_X2_requireWhat what h1) rfl rfl (Nat.le_of_ble_eq_true rfl) ⟨(Nat.le_of_ble_eq_true rfl), (Nat.le_of_ble_eq_true rfl)⟩ ⟨Nat.zero_le _, Nat.zero_le _⟩ dX2_first_1 ?_
  refine x_iload_n C dX2_first_4 rfl rfl ?_
  refine x_callSv C gs_X2_134 (c_X2_requireSign sign h2) rfl rfl (Nat.le_of_ble_eq_true rfl) ⟨(Nat.le_of_ble_eq_true rfl), (Nat.le_of_ble_eq_true rfl)⟩ ⟨Nat.zero_le _, Nat.zero_le _⟩ dX2_first_5 ?_
  refine x_iconst C (v := 0) dX2_first_8 (by decide) ?_
  refine x_istore C dX2_first_9 (by decide) ?_
  have loop : ∀ (n k : Nat) (x5 : Option Value), n + k = gr → fs_F (fq_A mk tl what sign num) n k = fs_F (fq_A mk tl what sign num) gr 0 → wo_W p l e (wo_rm 7) s m args below meth c A D 0 0 6 (MQ below (wo_Q D ((cI, .int) :: (cZ, .boolean) :: tys) (some (.int (fs_F (fq_A mk tl what sign num) gr 0))) (wA cI cZ a gr en mk tl me rk dy ln ll ps lf lc tc tp lv rp rc pp ++ Y) A) args s 0 0 A) 11 [some (.ref (a 0)), some (.int what), some (.int sign), some (.int num), some (.int (nI k)), x5] [] (wA cI cZ a gr en mk tl me rk dy ln ll ps lf lc tc tp lv rp rc pp ++ Y) := by
    intro n
    induction n with
    | zero =>
      intro k x5 hk he
      refine x_iload C dX2_first_11 rfl ?_
      refine x_aload_n C dX2_first_13 rfl rfl ?_
      refine gA0_sheet C dX2_first_14 ?_
      refine x_callVi C gv_X2_137 (c_X1_howManyGrowers) 1 rfl rfl rfl rfl (Nat.le_of_ble_eq_true rfl) ⟨(Nat.le_of_ble_eq_true rfl), (Nat.le_of_ble_eq_true rfl)⟩ ⟨Nat.zero_le _, Nat.zero_le _⟩ dX2_first_17 ?_
      refine x_icmp_ge C (tgt := 70) dX2_first_20 (by decide) (fun h => ?_) (fun h => ?_)
      · refine x_ldc C kk_X2_29 dX2_first_70 ?_
        exact x_iret C dX2_first_72 (by rw [← he]; rfl) rfl
      · exact absurd (show nI gr ≤ nI k from nI_le (by omega) (by omega)) h
    | succ n ih =>
      intro k x5 hk he
      have hle := wo_lt_le mk k 6
      refine x_iload C dX2_first_11 rfl ?_
      refine x_aload_n C dX2_first_13 rfl rfl ?_
      refine gA0_sheet C dX2_first_14 ?_
      refine x_callVi C gv_X2_137 (c_X1_howManyGrowers) 1 rfl rfl rfl rfl (Nat.le_of_ble_eq_true rfl) ⟨(Nat.le_of_ble_eq_true rfl), (Nat.le_of_ble_eq_true rfl)⟩ ⟨Nat.zero_le _, Nat.zero_le _⟩ dX2_first_17 ?_
      refine x_icmp_ge C (tgt := 70) dX2_first_20 (by decide) (fun h => ?_) (fun h => ?_)
      · exact absurd (wo_le (by omega) (by omega) h) (by omega)
      · refine x_aload_n C dX2_first_23 rfl rfl ?_
        refine gA0_sheet C dX2_first_24 ?_
        refine x_iload C dX2_first_27 rfl ?_
        refine x_callVi C gv_X2_151 (c_X1_latestDayOf k (by omega)) 1 rfl rfl rfl rfl (Nat.le_of_ble_eq_true rfl) ⟨(Nat.le_of_ble_eq_true rfl), (Nat.le_of_ble_eq_true rfl)⟩ ⟨Nat.zero_le _, Nat.zero_le _⟩ dX2_first_29 ?_
        refine x_istore C dX2_first_32 (by decide) ?_
        refine x_iload C dX2_first_34 rfl ?_
        refine x_ldc C kk_X2_29 dX2_first_36 ?_
        refine x_icmp_eq C (tgt := 64) dX2_first_38 (by decide) (fun h3 => ?_) (fun h3 => ?_)
        · have h4 : lt_A mk k 6 = 0 := (wo_dN_0 hle).mp h3
          refine x_iinc C dX2_first_64 rfl (nI_1 k) (by decide) ?_
          refine x_goto C (tgt := 11) dX2_first_67 (by decide) ?_
          exact ih (k + 1) _ (by omega) (by rw [← he]; show _ = fs_F _ (n + 1) k; rw [fs_F, if_neg (by unfold fq_A; rw [decide_eq_false (fun z => z h4)]; exact Bool.false_ne_true)])
        · have h4 : ¬ lt_A mk k 6 = 0 := fun z => h3 ((wo_dN_0 hle).mpr z)
          refine x_iload_n C dX2_first_41 rfl rfl ?_
          refine x_aload_n C dX2_first_42 rfl rfl ?_
          refine gA0_sheet C dX2_first_43 ?_
          refine x_iload_n C dX2_first_46 rfl rfl ?_
          refine x_iload C dX2_first_47 rfl ?_
          refine x_iload C dX2_first_49 rfl ?_
          refine x_top (y := nI (lt_A mk k 6)) (wo_dN_s h4) ?_
          refine x_callVi C gv_X2_143 (c_X1_valueOn what k (lt_A mk k 6) (by omega) (by omega) hle) 1 rfl rfl rfl rfl (Nat.le_of_ble_eq_true rfl) ⟨(Nat.le_of_ble_eq_true rfl), (Nat.le_of_ble_eq_true rfl)⟩ ⟨Nat.zero_le _, Nat.zero_le _⟩ dX2_first_51 ?_
          refine x_iload_n C dX2_first_54 rfl rfl ?_
          refine x_callSi C gs_X2_147 (c_X2_holds sign _ num) rfl rfl (Nat.le_of_ble_eq_true rfl) ⟨(Nat.le_of_ble_eq_true rfl), (Nat.le_of_ble_eq_true rfl)⟩ ⟨Nat.zero_le _, Nat.zero_le _⟩ dX2_first_55 ?_
          refine x_if_eq C (tgt := 64) dX2_first_58 (by decide) (fun h5 => ?_) (fun h5 => ?_)
          · refine x_iinc C dX2_first_64 rfl (nI_1 k) (by decide) ?_
            refine x_goto C (tgt := 11) dX2_first_67 (by decide) ?_
            exact ih (k + 1) _ (by omega) (by rw [← he]; show _ = fs_F _ (n + 1) k; rw [fs_F, if_neg (by unfold fq_A; rw [bz_f h5, Bool.and_false]; exact Bool.false_ne_true)])
          · refine x_iload C dX2_first_61 rfl ?_
            exact x_iret C dX2_first_63 (by rw [← he]; show some (Value.int (fs_F _ (n + 1) k)) = _; rw [fs_F, if_pos (by unfold fq_A; rw [bz_t h5, decide_eq_true h4]; rfl)]) rfl
  exact loop gr 0 _ (by omega) rfl
set_option maxRecDepth 100000 in
set_option maxHeartbeats 4000000 in
theorem c_X2_lamps (what sign num : Int32) (h1 : in_B what 0 1 = true) (h2 : in_B sign 0 5 = true) (hg2 : gr ≤ 12) : wo_E l yX2_lamps cX2_lamps 6 (some .int) 7 D ((cI, .int) :: (cZ, .boolean) :: tys) [.ref (a 0), .int what, .int sign, .int num] (wA cI cZ a gr en mk tl me rk dy ln ll ps lf lc tc tp lv rp rc pp ++ Y) (some (.int (lm_F (fun k => hd_A sign (bl_A mk tl rk what k) num) gr))) (wA cI cZ a gr en mk tl me rk dy ln ll ps lf lc tc tp lv rp rc pp ++ Y) := by
  refine wo_of (ls := [some (.ref (a 0)), some (.int what), some (.int sign), some (.int num), none, none]) (by decide) (Nat.le_of_ble_eq_true rfl) rfl ?_
  intro p e s m args below meth c A C
  refine x_iload_n C dX2_lamps_0 rfl rfl ?_
  refine x_callSv C gs_X2_131 (c_X2_requireWhat what h1) rfl rfl (Nat.le_of_ble_eq_true rfl) ⟨(Nat.le_of_ble_eq_true rfl), (Nat.le_of_ble_eq_true rfl)⟩ ⟨Nat.zero_le _, Nat.zero_le _⟩ dX2_lamps_1 ?_
  refine x_iload_n C dX2_lamps_4 rfl rfl ?_
  refine x_callSv C gs_X2_134 (c_X2_requireSign sign h2) rfl rfl (Nat.le_of_ble_eq_true rfl) ⟨(Nat.le_of_ble_eq_true rfl), (Nat.le_of_ble_eq_true rfl)⟩ ⟨Nat.zero_le _, Nat.zero_le _⟩ dX2_lamps_5 ?_
  refine x_iconst C (v := 0) dX2_lamps_8 (by decide) ?_
  refine x_istore C dX2_lamps_9 (by decide) ?_
  refine x_iconst C (v := 0) dX2_lamps_11 (by decide) ?_
  refine x_istore C dX2_lamps_12 (by decide) ?_
  have loop : ∀ (n k : Nat), n + k = gr → wo_W p l e (wo_rm 7) s m args below meth c A D 0 0 6 (MQ below (wo_Q D ((cI, .int) :: (cZ, .boolean) :: tys) (some (.int (lm_F (fun k => hd_A sign (bl_A mk tl rk what k) num) gr))) (wA cI cZ a gr en mk tl me rk dy ln ll ps lf lc tc tp lv rp rc pp ++ Y) A) args s 0 0 A) 14 [some (.ref (a 0)), some (.int what), some (.int sign), some (.int num), some (.int (lm_F (fun k => hd_A sign (bl_A mk tl rk what k) num) k)), some (.int (nI k))] [] (wA cI cZ a gr en mk tl me rk dy ln ll ps lf lc tc tp lv rp rc pp ++ Y) := by
    intro n
    induction n with
    | zero =>
      intro k hk
      refine x_iload C dX2_lamps_14 rfl ?_
      refine x_aload_n C dX2_lamps_16 rfl rfl ?_
      refine gA0_sheet C dX2_lamps_17 ?_
      refine x_callVi C gv_X2_137 (c_X1_howManyGrowers) 1 rfl rfl rfl rfl (Nat.le_of_ble_eq_true rfl) ⟨(Nat.le_of_ble_eq_true rfl), (Nat.le_of_ble_eq_true rfl)⟩ ⟨Nat.zero_le _, Nat.zero_le _⟩ dX2_lamps_20 ?_
      refine x_icmp_ge C (tgt := 56) dX2_lamps_23 (by decide) (fun h => ?_) (fun h => ?_)
      · have hk2 : k = gr := by omega
        subst hk2
        refine x_iload C dX2_lamps_56 rfl ?_
        exact x_iret C dX2_lamps_58 rfl rfl
      · exact absurd (show nI gr ≤ nI k from nI_le (by omega) (by omega)) h
    | succ n ih =>
      intro k hk
      refine x_iload C dX2_lamps_14 rfl ?_
      refine x_aload_n C dX2_lamps_16 rfl rfl ?_
      refine gA0_sheet C dX2_lamps_17 ?_
      refine x_callVi C gv_X2_137 (c_X1_howManyGrowers) 1 rfl rfl rfl rfl (Nat.le_of_ble_eq_true rfl) ⟨(Nat.le_of_ble_eq_true rfl), (Nat.le_of_ble_eq_true rfl)⟩ ⟨Nat.zero_le _, Nat.zero_le _⟩ dX2_lamps_20 ?_
      refine x_icmp_ge C (tgt := 56) dX2_lamps_23 (by decide) (fun h => ?_) (fun h => ?_)
      · exact absurd (wo_le (by omega) (by omega) h) (by omega)
      · refine x_iload_n C dX2_lamps_26 rfl rfl ?_
        refine x_aload_n C dX2_lamps_27 rfl rfl ?_
        refine x_iload_n C dX2_lamps_28 rfl rfl ?_
        refine x_iload C dX2_lamps_29 rfl ?_
        refine x_callVi C gv_X2_154 (c_X2_bestOrLatestTilt what k (by omega)) 0 rfl rfl rfl rfl (Nat.le_of_ble_eq_true rfl) ⟨(Nat.le_of_ble_eq_true rfl), (Nat.le_of_ble_eq_true rfl)⟩ ⟨Nat.zero_le _, Nat.zero_le _⟩ dX2_lamps_31 ?_
        refine x_iload_n C dX2_lamps_34 rfl rfl ?_
        refine x_callSi C gs_X2_147 (c_X2_holds sign (bl_A mk tl rk what k) num) rfl rfl (Nat.le_of_ble_eq_true rfl) ⟨(Nat.le_of_ble_eq_true rfl), (Nat.le_of_ble_eq_true rfl)⟩ ⟨Nat.zero_le _, Nat.zero_le _⟩ dX2_lamps_35 ?_
        refine x_if_eq C (tgt := 50) dX2_lamps_38 (by decide) (fun h3 => ?_) (fun h3 => ?_)
        · refine x_iinc C dX2_lamps_50 rfl (nI_1 k) (by decide) ?_
          refine x_goto C (tgt := 14) dX2_lamps_53 (by decide) ?_
          have h9 := ih (k + 1) (by omega)
          rw [lm_f (n := k) (bz_f h3)] at h9
          exact h9
        · refine x_iload C dX2_lamps_41 rfl ?_
          refine x_iconst C (v := 1) dX2_lamps_43 (by decide) ?_
          refine x_iload C dX2_lamps_44 rfl ?_
          refine x_ishl C dX2_lamps_46 ?_
          refine x_ior C dX2_lamps_47 ?_
          refine x_istore C dX2_lamps_48 (by decide) ?_
          refine x_iinc C dX2_lamps_50 rfl (nI_1 k) (by decide) ?_
          refine x_goto C (tgt := 14) dX2_lamps_53 (by decide) ?_
          have h9 := ih (k + 1) (by omega)
          rw [lm_t (n := k) (bz_t h3)] at h9
          exact h9
  exact loop gr 0 (by omega)
set_option maxRecDepth 100000 in
set_option maxHeartbeats 4000000 in
theorem t_X2_stands (hl : l.stackTraces = false) (what x y : Int32) (hg : 1 ≤ gr) (hg2 : gr ≤ 12) (hx : (in_B what 0 1 && in_B x 0 (nI (gr - 1)) && in_B y 0 (nI (gr - 1))) = false) : wo_X l yX2_stands cX2_stands 8 (some .int) 7 D ((cI, .int) :: (cZ, .boolean) :: tys) [.ref (a 0), .int what, .int x, .int y] (wA cI cZ a gr en mk tl me rk dy ln ll ps lf lc tc tp lv rp rc pp ++ Y) wo_IAE := by
  refine wo_ofX (ls := [some (.ref (a 0)), some (.int what), some (.int x), some (.int y), none, none, none, none]) (by decide) (Nat.le_of_ble_eq_true rfl) rfl ?_
  intro p e s m args below meth c A C ht hX
  refine x_iload_n C dX2_stands_0 rfl rfl ?_
  cases h1 : in_B what 0 1 with
  | false =>
    exact x_callSX C hX gs_X2_131 (t_X2_requireWhat hl what h1) rfl rfl (Nat.le_of_ble_eq_true rfl) ⟨(Nat.le_of_ble_eq_true rfl), (Nat.le_of_ble_eq_true rfl)⟩ ⟨(Nat.le_of_ble_eq_true rfl), (Nat.le_of_ble_eq_true rfl)⟩ dX2_stands_1 (x_prop C ht)
  | true =>
    refine x_callSv C gs_X2_131 (c_X2_requireWhat what h1) rfl rfl (Nat.le_of_ble_eq_true rfl) ⟨(Nat.le_of_ble_eq_true rfl), (Nat.le_of_ble_eq_true rfl)⟩ ⟨Nat.zero_le _, Nat.zero_le _⟩ dX2_stands_1 ?_
    refine x_aload_n C dX2_stands_4 rfl rfl ?_
    refine x_iload_n C dX2_stands_5 rfl rfl ?_
    cases h2 : in_B x 0 (nI (gr - 1)) with
    | false =>
      exact x_callVX C hX gv_X2_83 (t_X2_requireGrower hl x hg hg2 h2) 0 rfl rfl rfl rfl (Nat.le_of_ble_eq_true rfl) ⟨(Nat.le_of_ble_eq_true rfl), (Nat.le_of_ble_eq_true rfl)⟩ ⟨(Nat.le_of_ble_eq_true rfl), (Nat.le_of_ble_eq_true rfl)⟩ dX2_stands_6 (x_prop C ht)
    | true =>
      refine x_callVv C gv_X2_83 (c_X2_requireGrower x hg hg2 h2) 0 rfl rfl rfl rfl (Nat.le_of_ble_eq_true rfl) ⟨(Nat.le_of_ble_eq_true rfl), (Nat.le_of_ble_eq_true rfl)⟩ ⟨Nat.zero_le _, Nat.zero_le _⟩ dX2_stands_6 ?_
      refine x_aload_n C dX2_stands_9 rfl rfl ?_
      refine x_iload_n C dX2_stands_10 rfl rfl ?_
      exact x_callVX C hX gv_X2_83 (t_X2_requireGrower hl y hg hg2 (by rw [h1, h2] at hx; exact hx)) 0 rfl rfl rfl rfl (Nat.le_of_ble_eq_true rfl) ⟨(Nat.le_of_ble_eq_true rfl), (Nat.le_of_ble_eq_true rfl)⟩ ⟨(Nat.le_of_ble_eq_true rfl), (Nat.le_of_ble_eq_true rfl)⟩ dX2_stands_11 (x_prop C ht)
set_option maxRecDepth 100000 in
set_option maxHeartbeats 4000000 in
theorem c_X2_stands (what : Int32) (u w : Nat) (h1 : in_B what 0 1 = true) (hg2 : gr ≤ 12) (hu : u < gr) (hw : w < gr) : wo_E l yX2_stands cX2_stands 8 (some .int) 7 D ((cI, .int) :: (cZ, .boolean) :: tys) [.ref (a 0), .int what, .int (nI u), .int (nI w)] (wA cI cZ a gr en mk tl me rk dy ln ll ps lf lc tc tp lv rp rc pp ++ Y) (some (.int (lm_F (fun k => hd_A (nI k) (bl_A mk tl rk what u) (bl_A mk tl rk what w)) 6))) (wA cI cZ a gr en mk tl me rk dy ln ll ps lf lc tc tp lv rp rc pp ++ Y) := by
  refine wo_of (ls := [some (.ref (a 0)), some (.int what), some (.int (nI u)), some (.int (nI w)), none, none, none, none]) (by decide) (Nat.le_of_ble_eq_true rfl) rfl ?_
  intro p e s m args below meth c A C
  refine x_iload_n C dX2_stands_0 rfl rfl ?_
  refine x_callSv C gs_X2_131 (c_X2_requireWhat what h1) rfl rfl (Nat.le_of_ble_eq_true rfl) ⟨(Nat.le_of_ble_eq_true rfl), (Nat.le_of_ble_eq_true rfl)⟩ ⟨Nat.zero_le _, Nat.zero_le _⟩ dX2_stands_1 ?_
  refine x_aload_n C dX2_stands_4 rfl rfl ?_
  refine x_iload_n C dX2_stands_5 rfl rfl ?_
  refine x_callVv C gv_X2_83 (c_X2_requireGrower (nI u) (by omega) hg2 (wo_in0' hg2 hu)) 0 rfl rfl rfl rfl (Nat.le_of_ble_eq_true rfl) ⟨(Nat.le_of_ble_eq_true rfl), (Nat.le_of_ble_eq_true rfl)⟩ ⟨Nat.zero_le _, Nat.zero_le _⟩ dX2_stands_6 ?_
  refine x_aload_n C dX2_stands_9 rfl rfl ?_
  refine x_iload_n C dX2_stands_10 rfl rfl ?_
  refine x_callVv C gv_X2_83 (c_X2_requireGrower (nI w) (by omega) hg2 (wo_in0' hg2 hw)) 0 rfl rfl rfl rfl (Nat.le_of_ble_eq_true rfl) ⟨(Nat.le_of_ble_eq_true rfl), (Nat.le_of_ble_eq_true rfl)⟩ ⟨Nat.zero_le _, Nat.zero_le _⟩ dX2_stands_11 ?_
  refine x_aload_n C dX2_stands_14 rfl rfl ?_
  refine x_iload_n C dX2_stands_15 rfl rfl ?_
  refine x_iload_n C dX2_stands_16 rfl rfl ?_
  refine x_callVi C gv_X2_154 (c_X2_bestOrLatestTilt what u (by omega)) 0 rfl rfl rfl rfl (Nat.le_of_ble_eq_true rfl) ⟨(Nat.le_of_ble_eq_true rfl), (Nat.le_of_ble_eq_true rfl)⟩ ⟨Nat.zero_le _, Nat.zero_le _⟩ dX2_stands_17 ?_
  refine x_istore C dX2_stands_20 (by decide) ?_
  refine x_aload_n C dX2_stands_22 rfl rfl ?_
  refine x_iload_n C dX2_stands_23 rfl rfl ?_
  refine x_iload_n C dX2_stands_24 rfl rfl ?_
  refine x_callVi C gv_X2_154 (c_X2_bestOrLatestTilt what w (by omega)) 0 rfl rfl rfl rfl (Nat.le_of_ble_eq_true rfl) ⟨(Nat.le_of_ble_eq_true rfl), (Nat.le_of_ble_eq_true rfl)⟩ ⟨Nat.zero_le _, Nat.zero_le _⟩ dX2_stands_25 ?_
  refine x_istore C dX2_stands_28 (by decide) ?_
  refine x_iconst C (v := 0) dX2_stands_30 (by decide) ?_
  refine x_istore C dX2_stands_31 (by decide) ?_
  refine x_iconst C (v := 0) dX2_stands_33 (by decide) ?_
  refine x_istore C dX2_stands_34 (by decide) ?_
  have loop : ∀ (n k : Nat), n + k = 6 → wo_W p l e (wo_rm 7) s m args below meth c A D 0 0 8 (MQ below (wo_Q D ((cI, .int) :: (cZ, .boolean) :: tys) (some (.int (lm_F (fun k => hd_A (nI k) (bl_A mk tl rk what u) (bl_A mk tl rk what w)) 6))) (wA cI cZ a gr en mk tl me rk dy ln ll ps lf lc tc tp lv rp rc pp ++ Y) A) args s 0 0 A) 36 [some (.ref (a 0)), some (.int what), some (.int (nI u)), some (.int (nI w)), some (.int (bl_A mk tl rk what u)), some (.int (bl_A mk tl rk what w)), some (.int (lm_F (fun k => hd_A (nI k) (bl_A mk tl rk what u) (bl_A mk tl rk what w)) k)), some (.int (nI k))] [] (wA cI cZ a gr en mk tl me rk dy ln ll ps lf lc tc tp lv rp rc pp ++ Y) := by
    intro n
    induction n with
    | zero =>
      intro k hk
      refine x_iload C dX2_stands_36 rfl ?_
      refine x_bipush C (v := 6) dX2_stands_38 (by decide) ?_
      refine x_icmp_ge C (tgt := 70) dX2_stands_40 (by decide) (fun h => ?_) (fun h => ?_)
      · have hk2 : k = 6 := by omega
        subst hk2
        refine x_iload C dX2_stands_70 rfl ?_
        exact x_iret C dX2_stands_72 rfl rfl
      · exact absurd (show nI 6 ≤ nI k from nI_le (by omega) (by omega)) h
    | succ n ih =>
      intro k hk
      refine x_iload C dX2_stands_36 rfl ?_
      refine x_bipush C (v := 6) dX2_stands_38 (by decide) ?_
      refine x_icmp_ge C (tgt := 70) dX2_stands_40 (by decide) (fun h => ?_) (fun h => ?_)
      · exact absurd (wo_le (a := 6) (b := k) (by omega) (by omega) h) (by omega)
      · refine x_iload C dX2_stands_43 rfl ?_
        refine x_iload C dX2_stands_45 rfl ?_
        refine x_iload C dX2_stands_47 rfl ?_
        refine x_callSi C gs_X2_147 (c_X2_holds (nI k) _ _) rfl rfl (Nat.le_of_ble_eq_true rfl) ⟨(Nat.le_of_ble_eq_true rfl), (Nat.le_of_ble_eq_true rfl)⟩ ⟨Nat.zero_le _, Nat.zero_le _⟩ dX2_stands_49 ?_
        refine x_if_eq C (tgt := 64) dX2_stands_52 (by decide) (fun h3 => ?_) (fun h3 => ?_)
        · refine x_iinc C dX2_stands_64 rfl (nI_1 k) (by decide) ?_
          refine x_goto C (tgt := 36) dX2_stands_67 (by decide) ?_
          have h9 := ih (k + 1) (by omega)
          rw [lm_f (n := k) (bz_f h3)] at h9
          exact h9
        · refine x_iload C dX2_stands_55 rfl ?_
          refine x_iconst C (v := 1) dX2_stands_57 (by decide) ?_
          refine x_iload C dX2_stands_58 rfl ?_
          refine x_ishl C dX2_stands_60 ?_
          refine x_ior C dX2_stands_61 ?_
          refine x_istore C dX2_stands_62 (by decide) ?_
          refine x_iinc C dX2_stands_64 rfl (nI_1 k) (by decide) ?_
          refine x_goto C (tgt := 36) dX2_stands_67 (by decide) ?_
          have h9 := ih (k + 1) (by omega)
          rw [lm_t (n := k) (bz_t h3)] at h9
          exact h9
  exact loop 6 0 rfl
set_option maxRecDepth 100000 in
set_option maxHeartbeats 4000000 in
theorem t_X2_lean (hl : l.stackTraces = false) (x : Int32) (least : Bool) (hx : in_B x 1 6 = false) : wo_X l yX2_lean cX2_lean 6 (some .int) 7 D ((cI, .int) :: (cZ, .boolean) :: tys) [.ref (a 0), .int x, .int (bz least)] (wA cI cZ a gr en mk tl me rk dy ln ll ps lf lc tc tp lv rp rc pp ++ Y) wo_IAE := by
  refine wo_ofX (ls := [some (.ref (a 0)), some (.int x), some (.int (bz least)), none, none, none]) (by decide) (Nat.le_of_ble_eq_true rfl) rfl ?_
  intro p e s m args below meth c A C ht hX
  refine x_iload_n C dX2_lean_0 rfl rfl ?_
  exact x_callSX C hX gs_X2_97 (t_X2_requireDay hl x hx) rfl rfl (Nat.le_of_ble_eq_true rfl) ⟨(Nat.le_of_ble_eq_true rfl), (Nat.le_of_ble_eq_true rfl)⟩ ⟨(Nat.le_of_ble_eq_true rfl), (Nat.le_of_ble_eq_true rfl)⟩ dX2_lean_1 (x_prop C ht)
set_option maxRecDepth 100000 in
set_option maxHeartbeats 4000000 in
theorem c_X2_lean (d : Nat) (least : Bool) (h1 : 1 ≤ d) (h6 : d ≤ 6) (hg2 : gr ≤ 12) : wo_E l yX2_lean cX2_lean 6 (some .int) 7 D ((cI, .int) :: (cZ, .boolean) :: tys) [.ref (a 0), .int (nI d), .int (bz least)] (wA cI cZ a gr en mk tl me rk dy ln ll ps lf lc tc tp lv rp rc pp ++ Y) (some (.int (le_F (fun k => decide (¬ tl (k * 6 + d - 1) = -1000000)) (fun k => tl (k * 6 + d - 1)) least gr))) (wA cI cZ a gr en mk tl me rk dy ln ll ps lf lc tc tp lv rp rc pp ++ Y) := by
  refine wo_of (ls := [some (.ref (a 0)), some (.int (nI d)), some (.int (bz least)), none, none, none]) (by decide) (Nat.le_of_ble_eq_true rfl) rfl ?_
  intro p e s m args below meth c A C
  refine x_iload_n C dX2_lean_0 rfl rfl ?_
  refine x_callSv C gs_X2_97 (c_X2_requireDay (nI d) (decide_eq_true ⟨nI_le (a := 1) h1 (by omega), nI_le (b := 6) h6 (by omega)⟩)) rfl rfl (Nat.le_of_ble_eq_true rfl) ⟨(Nat.le_of_ble_eq_true rfl), (Nat.le_of_ble_eq_true rfl)⟩ ⟨Nat.zero_le _, Nat.zero_le _⟩ dX2_lean_1 ?_
  refine x_ldc C kk_X2_29 dX2_lean_4 ?_
  refine x_istore_n C dX2_lean_6 rfl (by decide) ?_
  refine x_iconst C (v := 0) dX2_lean_7 (by decide) ?_
  refine x_istore C dX2_lean_8 (by decide) ?_
  have loop : ∀ (n k : Nat) (x5 : Option Value), n + k = gr → wo_W p l e (wo_rm 7) s m args below meth c A D 0 0 6 (MQ below (wo_Q D ((cI, .int) :: (cZ, .boolean) :: tys) (some (.int (le_F (fun k => decide (¬ tl (k * 6 + d - 1) = -1000000)) (fun k => tl (k * 6 + d - 1)) least gr))) (wA cI cZ a gr en mk tl me rk dy ln ll ps lf lc tc tp lv rp rc pp ++ Y) A) args s 0 0 A) 10 [some (.ref (a 0)), some (.int (nI d)), some (.int (bz least)), some (.int (le_F (fun k => decide (¬ tl (k * 6 + d - 1) = -1000000)) (fun k => tl (k * 6 + d - 1)) least k)), some (.int (nI k)), x5] [] (wA cI cZ a gr en mk tl me rk dy ln ll ps lf lc tc tp lv rp rc pp ++ Y) := by
    intro n
    induction n with
    | zero =>
      intro k x5 hk
      refine x_iload C dX2_lean_10 rfl ?_
      refine x_aload_n C dX2_lean_12 rfl rfl ?_
      refine gA0_sheet C dX2_lean_13 ?_
      refine x_callVi C gv_X2_137 (c_X1_howManyGrowers) 1 rfl rfl rfl rfl (Nat.le_of_ble_eq_true rfl) ⟨(Nat.le_of_ble_eq_true rfl), (Nat.le_of_ble_eq_true rfl)⟩ ⟨Nat.zero_le _, Nat.zero_le _⟩ dX2_lean_16 ?_
      refine x_icmp_ge C (tgt := 75) dX2_lean_19 (by decide) (fun h => ?_) (fun h => ?_)
      · have hk2 : k = gr := by omega
        subst hk2
        refine x_iload_n C dX2_lean_75 rfl rfl ?_
        exact x_iret C dX2_lean_76 rfl rfl
      · exact absurd (show nI gr ≤ nI k from nI_le (by omega) (by omega)) h
    | succ n ih =>
      intro k x5 hk
      generalize hF : le_F (fun k => decide (¬ tl (k * 6 + d - 1) = -1000000)) (fun k => tl (k * 6 + d - 1)) least k = F
      have hno : (decide (¬ tl (k * 6 + d - 1) = -1000000) && (decide (F = -1000000) || (if least then decide (tl (k * 6 + d - 1) < F) else decide (F < tl (k * 6 + d - 1))))) = false → ∀ x5, wo_W p l e (wo_rm 7) s m args below meth c A D 0 0 6 (MQ below (wo_Q D ((cI, .int) :: (cZ, .boolean) :: tys) (some (.int (le_F (fun k => decide (¬ tl (k * 6 + d - 1) = -1000000)) (fun k => tl (k * 6 + d - 1)) least gr))) (wA cI cZ a gr en mk tl me rk dy ln ll ps lf lc tc tp lv rp rc pp ++ Y) A) args s 0 0 A) 69 [some (.ref (a 0)), some (.int (nI d)), some (.int (bz least)), some (.int F), some (.int (nI k)), x5] [] (wA cI cZ a gr en mk tl me rk dy ln ll ps lf lc tc tp lv rp rc pp ++ Y) := by
        intro hc x5
        refine x_iinc C dX2_lean_69 rfl (nI_1 k) (by decide) ?_
        refine x_goto C (tgt := 10) dX2_lean_72 (by decide) ?_
        have h9 := ih (k + 1) x5 (by omega)
        rw [le_f (n := k) (by rw [hF]; exact hc), hF] at h9
        exact h9
      have hyes : (decide (¬ tl (k * 6 + d - 1) = -1000000) && (decide (F = -1000000) || (if least then decide (tl (k * 6 + d - 1) < F) else decide (F < tl (k * 6 + d - 1))))) = true → wo_W p l e (wo_rm 7) s m args below meth c A D 0 0 6 (MQ below (wo_Q D ((cI, .int) :: (cZ, .boolean) :: tys) (some (.int (le_F (fun k => decide (¬ tl (k * 6 + d - 1) = -1000000)) (fun k => tl (k * 6 + d - 1)) least gr))) (wA cI cZ a gr en mk tl me rk dy ln ll ps lf lc tc tp lv rp rc pp ++ Y) A) args s 0 0 A) 66 [some (.ref (a 0)), some (.int (nI d)), some (.int (bz least)), some (.int F), some (.int (nI k)), some (.int (tl (k * 6 + d - 1)))] [] (wA cI cZ a gr en mk tl me rk dy ln ll ps lf lc tc tp lv rp rc pp ++ Y) := by
        intro hc
        refine x_iload C dX2_lean_66 rfl ?_
        refine x_istore_n C dX2_lean_68 rfl (by decide) ?_
        refine x_iinc C dX2_lean_69 rfl (nI_1 k) (by decide) ?_
        refine x_goto C (tgt := 10) dX2_lean_72 (by decide) ?_
        have h9 := ih (k + 1) (some (.int (tl (k * 6 + d - 1)))) (by omega)
        rw [le_t (n := k) (by rw [hF]; exact hc)] at h9
        exact h9
      refine x_iload C dX2_lean_10 rfl ?_
      refine x_aload_n C dX2_lean_12 rfl rfl ?_
      refine gA0_sheet C dX2_lean_13 ?_
      refine x_callVi C gv_X2_137 (c_X1_howManyGrowers) 1 rfl rfl rfl rfl (Nat.le_of_ble_eq_true rfl) ⟨(Nat.le_of_ble_eq_true rfl), (Nat.le_of_ble_eq_true rfl)⟩ ⟨Nat.zero_le _, Nat.zero_le _⟩ dX2_lean_16 ?_
      refine x_icmp_ge C (tgt := 75) dX2_lean_19 (by decide) (fun h => ?_) (fun h => ?_)
      · exact absurd (wo_le (by omega) (by omega) h) (by omega)
      · refine x_aload_n C dX2_lean_22 rfl rfl ?_
        refine gA0_sheet C dX2_lean_23 ?_
        refine x_iload C dX2_lean_26 rfl ?_
        refine x_iload_n C dX2_lean_28 rfl rfl ?_
        refine x_callVi C gv_X2_110 (c_X1_tiltOn k d (by omega) h1 h6) 1 rfl rfl rfl rfl (Nat.le_of_ble_eq_true rfl) ⟨(Nat.le_of_ble_eq_true rfl), (Nat.le_of_ble_eq_true rfl)⟩ ⟨Nat.zero_le _, Nat.zero_le _⟩ dX2_lean_29 ?_
        refine x_istore C dX2_lean_32 (by decide) ?_
        refine x_iload C dX2_lean_34 rfl ?_
        refine x_ldc C kk_X2_29 dX2_lean_36 ?_
        refine x_icmp_eq C (tgt := 69) dX2_lean_38 (by decide) (fun h4 => ?_) (fun h4 => ?_)
        · exact hno (by rw [decide_eq_false (fun z => z h4)]; rfl) _
        · refine x_iload_n C dX2_lean_41 rfl rfl ?_
          refine x_ldc C kk_X2_29 dX2_lean_42 ?_
          refine x_icmp_eq C (tgt := 66) dX2_lean_44 (by decide) (fun h5 => ?_) (fun h5 => ?_)
          · exact hyes (by rw [decide_eq_true h4, decide_eq_true h5]; rfl)
          · refine x_iload_n C dX2_lean_47 rfl rfl ?_
            refine x_if_eq C (tgt := 60) dX2_lean_48 (by decide) (fun h7 => ?_) (fun h7 => ?_)
            · refine x_iload C dX2_lean_60 rfl ?_
              refine x_iload_n C dX2_lean_62 rfl rfl ?_
              refine x_icmp_le C (tgt := 69) dX2_lean_63 (by decide) (fun h8 => ?_) (fun h8 => ?_)
              · exact hno (by rw [decide_eq_true h4, decide_eq_false h5, if_neg (by rw [bz_f h7]; decide), decide_eq_false (Int32.not_lt.mpr h8)]; rfl) _
              · exact hyes (by rw [decide_eq_true h4, decide_eq_false h5, if_neg (by rw [bz_f h7]; decide), decide_eq_true (Int32.not_le.mp h8)]; rfl)
            · refine x_iload C dX2_lean_51 rfl ?_
              refine x_iload_n C dX2_lean_53 rfl rfl ?_
              refine x_icmp_ge C (tgt := 69) dX2_lean_54 (by decide) (fun h8 => ?_) (fun h8 => ?_)
              · exact hno (by rw [decide_eq_true h4, decide_eq_false h5, if_pos (bz_t h7), decide_eq_false (Int32.not_lt.mpr h8)]; rfl) _
              · refine x_goto C (tgt := 66) dX2_lean_57 (by decide) ?_
                exact hyes (by rw [decide_eq_true h4, decide_eq_false h5, if_pos (bz_t h7), decide_eq_true (Int32.not_le.mp h8)]; rfl)
  exact loop gr 0 _ (by omega)
def lo_A (en gr lc : Nat) (rp rc pp : Int32) (what : Int32) : Int32 := if what = 0 then rp else if what = 1 then pp else if what = 2 then rc else if what = 3 then nI en else if what = 4 then nI gr else if what = 5 then nI lc else 0
set_option maxRecDepth 100000 in
set_option maxHeartbeats 4000000 in
theorem t_X2_look (hl : l.stackTraces = false) (x : Int32) (hx : in_B x 0 5 = false) : wo_X l yX2_look cX2_look 2 (some .int) 7 D ((cI, .int) :: (cZ, .boolean) :: tys) [.ref (a 0), .int x] (wA cI cZ a gr en mk tl me rk dy ln ll ps lf lc tc tp lv rp rc pp ++ Y) wo_IAE := by
  refine wo_ofX (ls := [some (.ref (a 0)), some (.int x)]) (by decide) (Nat.le_of_ble_eq_true rfl) rfl ?_
  intro p e s m args below meth c A C ht hX
  refine x_iload_n C dX2_look_0 rfl rfl ?_
  refine x_tableOut C (tgt := 79) dX2_look_1 (wo_out6 hx) (by decide) ?_
  exact x_throw C ht hl hX wo_x1 (List.mem_of_getElem? (i := 11) rfl) ⟨(Nat.le_of_ble_eq_true rfl), (Nat.le_of_ble_eq_true rfl), (Nat.le_of_ble_eq_true rfl), (Nat.le_of_ble_eq_true rfl)⟩ dX2_look_79 dX2_look_82 dX2_look_83 dX2_look_85 dX2_look_88
set_option maxRecDepth 100000 in
set_option maxHeartbeats 4000000 in
theorem c_X2_look (x : Int32) (hx : in_B x 0 5 = true) : wo_E l yX2_look cX2_look 2 (some .int) 7 D ((cI, .int) :: (cZ, .boolean) :: tys) [.ref (a 0), .int x] (wA cI cZ a gr en mk tl me rk dy ln ll ps lf lc tc tp lv rp rc pp ++ Y) (some (.int (lo_A en gr lc rp rc pp x))) (wA cI cZ a gr en mk tl me rk dy ln ll ps lf lc tc tp lv rp rc pp ++ Y) := by
  refine wo_of (ls := [some (.ref (a 0)), some (.int x)]) (by decide) (Nat.le_of_ble_eq_true rfl) rfl ?_
  intro p e s m args below meth c A C
  refine x_iload_n C dX2_look_0 rfl rfl ?_
  rcases wo_in6 hx with rfl | rfl | rfl | rfl | rfl | rfl
  · refine x_tableIn C (off := 39) (tgt := 40) dX2_look_1 (by decide) (by decide) (by decide) (by decide) ?_
    refine x_aload_n C dX2_look_40 rfl rfl ?_
    refine gA0_recordPounds C dX2_look_41 ?_
    exact x_iret C dX2_look_44 rfl rfl
  · refine x_tableIn C (off := 44) (tgt := 45) dX2_look_1 (by decide) (by decide) (by decide) (by decide) ?_
    refine x_aload_n C dX2_look_45 rfl rfl ?_
    refine gA0_prizePounds C dX2_look_46 ?_
    exact x_iret C dX2_look_49 rfl rfl
  · refine x_tableIn C (off := 49) (tgt := 50) dX2_look_1 (by decide) (by decide) (by decide) (by decide) ?_
    refine x_aload_n C dX2_look_50 rfl rfl ?_
    refine gA0_recordCount C dX2_look_51 ?_
    exact x_iret C dX2_look_54 rfl rfl
  · refine x_tableIn C (off := 54) (tgt := 55) dX2_look_1 (by decide) (by decide) (by decide) (by decide) ?_
    refine x_aload_n C dX2_look_55 rfl rfl ?_
    refine gA0_sheet C dX2_look_56 ?_
    refine x_callVi C gv_X2_157 (c_X1_howManyEntries) 1 rfl rfl rfl rfl (Nat.le_of_ble_eq_true rfl) ⟨(Nat.le_of_ble_eq_true rfl), (Nat.le_of_ble_eq_true rfl)⟩ ⟨Nat.zero_le _, Nat.zero_le _⟩ dX2_look_59 ?_
    exact x_iret C dX2_look_62 rfl rfl
  · refine x_tableIn C (off := 62) (tgt := 63) dX2_look_1 (by decide) (by decide) (by decide) (by decide) ?_
    refine x_aload_n C dX2_look_63 rfl rfl ?_
    refine gA0_sheet C dX2_look_64 ?_
    refine x_callVi C gv_X2_137 (c_X1_howManyGrowers) 1 rfl rfl rfl rfl (Nat.le_of_ble_eq_true rfl) ⟨(Nat.le_of_ble_eq_true rfl), (Nat.le_of_ble_eq_true rfl)⟩ ⟨Nat.zero_le _, Nat.zero_le _⟩ dX2_look_67 ?_
    exact x_iret C dX2_look_70 rfl rfl
  · refine x_tableIn C (off := 70) (tgt := 71) dX2_look_1 (by decide) (by decide) (by decide) (by decide) ?_
    refine x_aload_n C dX2_look_71 rfl rfl ?_
    refine gA0_course C dX2_look_72 ?_
    refine x_callVi C gv_X2_160 (c_X0_howManyLeft) 6 rfl rfl rfl rfl (Nat.le_of_ble_eq_true rfl) ⟨(Nat.le_of_ble_eq_true rfl), (Nat.le_of_ble_eq_true rfl)⟩ ⟨Nat.zero_le _, Nat.zero_le _⟩ dX2_look_75 ?_
    exact x_iret C dX2_look_78 rfl rfl
end OFC
