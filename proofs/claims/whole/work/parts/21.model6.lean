/-! ===== the reference: reads ===== -/
def st_F (sign v w : Int32) : Bool := if sign = 0 then decide (v < w) else if sign = 1 then decide (v ≤ w) else if sign = 2 then decide (w < v) else if sign = 3 then decide (w ≤ v) else if sign = 4 then decide (v = w) else decide (¬ v = w)
def st_B (has : Bool) (v : Int32) (ho : Bool) (w sign : Int32) : Bool := if has && ho then st_F sign v w else decide (sign = 5)
theorem wo_out5 {x : Int32} (h0 : ¬ x = 0) (h1 : ¬ x = 1) (h2 : ¬ x = 2) (h3 : ¬ x = 3) (h4 : ¬ x = 4) : x.toInt < 0 ∨ 4 < x.toInt := by
  have e0 := lv_neT (a := 0) h0 rfl
  have e1 := lv_neT (a := 1) h1 rfl
  have e2 := lv_neT (a := 2) h2 rfl
  have e3 := lv_neT (a := 3) h3 rfl
  have e4 := lv_neT (a := 4) h4 rfl
  omega
def wt_B (kd wo : Nat → Int32) (i : Nat) : Int32 := if kd i = 1 then wo i else if kd i = 2 then -1 else if kd i = 3 then -2 else -1000000
def bs_B (kd wo : Nat → Int32) (w : Nat) : Int32 := if 0 < wn_B kd wo w then wk_B kd wo w 0 else -1000000
def es_B (kd wo ti : Nat → Int32) (td : Nat → Bool) (i : Nat) (what sign num : Int32) : Bool := st_B (if what = 0 then decide (kd i = 1) else td i) (if what = 0 then wo i else ti i) (decide (¬ num = -1000000)) num sign
section MDF
variable {l : Launch} {D : va_G} {tys : List (ClassId × FieldType)} {cI cZ : ClassId} {a : Nat → Nat} {Y : va_W} {co : Int32} {gr : Nat} {dy : Nat} {kd : Nat → Int32} {wo : Nat → Int32} {me : Nat → Bool} {ti : Nat → Int32} {td : Nat → Bool} {la : Nat → Nat} {go : Nat → Bool} {kp : Nat → Bool} {od : Nat → Nat} {no : Nat} {ax : Int32} {lv : Bool} {rh : Bool} {re : Int32} {rs : Int32} {ph : Bool} {pr : Int32} {o1 : Nat → Int32} {o2 : Nat → Int32}
set_option maxRecDepth 100000 in
set_option maxHeartbeats 4000000 in
theorem c_X3_level (on : Bool) : wo_E l yX3_level cX3_level 3 (some .boolean) 0 D ((cI, .int) :: (cZ, .boolean) :: tys) [.ref (a 0), .int (bz on)] (wB cI cZ a co gr dy kd wo me ti td la go kp od no ax lv rh re rs ph pr o1 o2 ++ Y) (some (.int (bz (decide (¬ on = lv))))) (wB cI cZ a (0) gr dy kd wo me ti td la go kp od no ax (on) rh re rs ph pr o1 o2 ++ Y) := by
  refine wo_of (ls := [some (.ref (a 0)), some (.int (bz on)), none]) (by decide) (Nat.le_of_ble_eq_true rfl) rfl ?_
  intro p e s m args below meth c A C
  refine x_aload_n C dX3_level_0 rfl rfl ?_
  refine x_iconst C (v := 0) dX3_level_1 (by decide) ?_
  refine pB0_code C _ dX3_level_2 ?_
  refine x_iload_n C dX3_level_5 rfl rfl ?_
  refine x_aload_n C dX3_level_6 rfl rfl ?_
  refine gB0_level C dX3_level_7 ?_
  refine x_icmp_eq C (tgt := 17) dX3_level_10 (by decide) (fun h => ?_) (fun h => ?_)
  · have h2 : on = lv := by cases on <;> cases lv <;> first | rfl | exact absurd h (by decide)
    refine x_iconst C (v := 0) dX3_level_17 (by decide) ?_
    refine x_istore_n C dX3_level_18 rfl (by decide) ?_
    refine x_aload_n C dX3_level_19 rfl rfl ?_
    refine x_iload_n C dX3_level_20 rfl rfl ?_
    refine pB0_level C _ rfl dX3_level_21 ?_
    refine x_iload_n C dX3_level_24 rfl rfl ?_
    exact x_zret C dX3_level_25 (b := false) rfl (by rw [decide_eq_false (fun z => z h2)]) rfl
  · have h2 : ¬ on = lv := fun z => h (by rw [z])
    refine x_iconst C (v := 1) dX3_level_13 (by decide) ?_
    refine x_goto C (tgt := 18) dX3_level_14 (by decide) ?_
    refine x_istore_n C dX3_level_18 rfl (by decide) ?_
    refine x_aload_n C dX3_level_19 rfl rfl ?_
    refine x_iload_n C dX3_level_20 rfl rfl ?_
    refine pB0_level C _ rfl dX3_level_21 ?_
    refine x_iload_n C dX3_level_24 rfl rfl ?_
    exact x_zret C dX3_level_25 (b := true) rfl (by rw [decide_eq_true h2]) rfl
set_option maxRecDepth 100000 in
set_option maxHeartbeats 4000000 in
theorem c_X3_record_1 (x : Int32) (hx : in_B x 0 999 = false) : wo_E l yX3_record cX3_record 2 (none) 1 D ((cI, .int) :: (cZ, .boolean) :: tys) [.ref (a 0), .int x] (wB cI cZ a co gr dy kd wo me ti td la go kp od no ax lv rh re rs ph pr o1 o2 ++ Y) none (wB cI cZ a (1) gr dy kd wo me ti td la go kp od no ax lv rh re rs ph pr o1 o2 ++ Y) := by
  refine wo_of (ls := [some (.ref (a 0)), some (.int x)]) (by decide) (Nat.le_of_ble_eq_true rfl) rfl ?_
  intro p e s m args below meth c A C
  refine x_aload_n C dX3_record_0 rfl rfl ?_
  refine x_iload_n C dX3_record_1 rfl rfl ?_
  refine x_iconst C (v := 0) dX3_record_2 (by decide) ?_
  refine x_sipush C (v := 999) dX3_record_3 (by decide) ?_
  refine x_callSi C gs_X3_48 (c_X3_in x 0 999) rfl rfl (Nat.le_of_ble_eq_true rfl) ⟨(Nat.le_of_ble_eq_true rfl), (Nat.le_of_ble_eq_true rfl)⟩ ⟨Nat.zero_le _, Nat.zero_le _⟩ dX3_record_6 ?_
  refine x_if_eq C (tgt := 16) dX3_record_9 (by decide) (fun h => ?_) (fun h => ?_)
  · refine x_iconst C (v := 1) dX3_record_16 (by decide) ?_
    refine pB0_code C _ dX3_record_17 ?_
    refine x_aload_n C dX3_record_20 rfl rfl ?_
    refine gB0_code C dX3_record_21 ?_
    refine x_if_ne C (tgt := 45) dX3_record_24 (by decide) (fun h2 => ?_) (fun h2 => ?_)
    · exact x_vret C dX3_record_45 rfl rfl
    · exact absurd h2 (by decide)
  · exact absurd hx (by rw [bz_t h]; decide)
set_option maxRecDepth 100000 in
set_option maxHeartbeats 4000000 in
theorem c_X3_record (x : Int32) (hx : in_B x 0 999 = true) : wo_E l yX3_record cX3_record 2 (none) 1 D ((cI, .int) :: (cZ, .boolean) :: tys) [.ref (a 0), .int x] (wB cI cZ a co gr dy kd wo me ti td la go kp od no ax lv rh re rs ph pr o1 o2 ++ Y) none (wB cI cZ a (0) gr dy kd wo me ti td la go kp od no ax lv (decide (0 < x)) (x) rs ph pr o1 o2 ++ Y) := by
  refine wo_of (ls := [some (.ref (a 0)), some (.int x)]) (by decide) (Nat.le_of_ble_eq_true rfl) rfl ?_
  intro p e s m args below meth c A C
  refine x_aload_n C dX3_record_0 rfl rfl ?_
  refine x_iload_n C dX3_record_1 rfl rfl ?_
  refine x_iconst C (v := 0) dX3_record_2 (by decide) ?_
  refine x_sipush C (v := 999) dX3_record_3 (by decide) ?_
  refine x_callSi C gs_X3_48 (c_X3_in x 0 999) rfl rfl (Nat.le_of_ble_eq_true rfl) ⟨(Nat.le_of_ble_eq_true rfl), (Nat.le_of_ble_eq_true rfl)⟩ ⟨Nat.zero_le _, Nat.zero_le _⟩ dX3_record_6 ?_
  refine x_if_eq C (tgt := 16) dX3_record_9 (by decide) (fun h => ?_) (fun h => ?_)
  · exact absurd hx (by rw [bz_f h]; decide)
  · refine x_iconst C (v := 0) dX3_record_12 (by decide) ?_
    refine x_goto C (tgt := 17) dX3_record_13 (by decide) ?_
    refine pB0_code C _ dX3_record_17 ?_
    refine x_aload_n C dX3_record_20 rfl rfl ?_
    refine gB0_code C dX3_record_21 ?_
    refine x_if_ne C (tgt := 45) dX3_record_24 (by decide) (fun h2 => ?_) (fun h2 => ?_)
    · exact absurd rfl h2
    · refine x_aload_n C dX3_record_27 rfl rfl ?_
      refine x_iload_n C dX3_record_28 rfl rfl ?_
      refine x_if_le C (tgt := 36) dX3_record_29 (by decide) (fun h3 => ?_) (fun h3 => ?_)
      · refine x_iconst C (v := 0) dX3_record_36 (by decide) ?_
        refine pB0_hasRecord C false rfl dX3_record_37 ?_
        refine x_aload_n C dX3_record_40 rfl rfl ?_
        refine x_iload_n C dX3_record_41 rfl rfl ?_
        refine pB0_record C _ dX3_record_42 ?_
        exact x_vret C dX3_record_45 rfl (by rw [decide_eq_false (Int32.not_lt.mpr h3)])
      · refine x_iconst C (v := 1) dX3_record_32 (by decide) ?_
        refine x_goto C (tgt := 37) dX3_record_33 (by decide) ?_
        refine pB0_hasRecord C true rfl dX3_record_37 ?_
        refine x_aload_n C dX3_record_40 rfl rfl ?_
        refine x_iload_n C dX3_record_41 rfl rfl ?_
        refine pB0_record C _ dX3_record_42 ?_
        exact x_vret C dX3_record_45 rfl (by rw [decide_eq_true (Int32.not_le.mp h3)])
set_option maxRecDepth 100000 in
set_option maxHeartbeats 4000000 in
theorem c_X3_prize_1 (x : Int32) (hx : in_B x 0 999 = false) : wo_E l yX3_prize cX3_prize 2 (none) 1 D ((cI, .int) :: (cZ, .boolean) :: tys) [.ref (a 0), .int x] (wB cI cZ a co gr dy kd wo me ti td la go kp od no ax lv rh re rs ph pr o1 o2 ++ Y) none (wB cI cZ a (1) gr dy kd wo me ti td la go kp od no ax lv rh re rs ph pr o1 o2 ++ Y) := by
  refine wo_of (ls := [some (.ref (a 0)), some (.int x)]) (by decide) (Nat.le_of_ble_eq_true rfl) rfl ?_
  intro p e s m args below meth c A C
  refine x_aload_n C dX3_prize_0 rfl rfl ?_
  refine x_iload_n C dX3_prize_1 rfl rfl ?_
  refine x_iconst C (v := 0) dX3_prize_2 (by decide) ?_
  refine x_sipush C (v := 999) dX3_prize_3 (by decide) ?_
  refine x_callSi C gs_X3_48 (c_X3_in x 0 999) rfl rfl (Nat.le_of_ble_eq_true rfl) ⟨(Nat.le_of_ble_eq_true rfl), (Nat.le_of_ble_eq_true rfl)⟩ ⟨Nat.zero_le _, Nat.zero_le _⟩ dX3_prize_6 ?_
  refine x_if_eq C (tgt := 16) dX3_prize_9 (by decide) (fun h => ?_) (fun h => ?_)
  · refine x_iconst C (v := 1) dX3_prize_16 (by decide) ?_
    refine pB0_code C _ dX3_prize_17 ?_
    refine x_aload_n C dX3_prize_20 rfl rfl ?_
    refine gB0_code C dX3_prize_21 ?_
    refine x_if_ne C (tgt := 45) dX3_prize_24 (by decide) (fun h2 => ?_) (fun h2 => ?_)
    · exact x_vret C dX3_prize_45 rfl rfl
    · exact absurd h2 (by decide)
  · exact absurd hx (by rw [bz_t h]; decide)
set_option maxRecDepth 100000 in
set_option maxHeartbeats 4000000 in
theorem c_X3_prize (x : Int32) (hx : in_B x 0 999 = true) : wo_E l yX3_prize cX3_prize 2 (none) 1 D ((cI, .int) :: (cZ, .boolean) :: tys) [.ref (a 0), .int x] (wB cI cZ a co gr dy kd wo me ti td la go kp od no ax lv rh re rs ph pr o1 o2 ++ Y) none (wB cI cZ a (0) gr dy kd wo me ti td la go kp od no ax lv rh re rs (decide (0 < x)) (x) o1 o2 ++ Y) := by
  refine wo_of (ls := [some (.ref (a 0)), some (.int x)]) (by decide) (Nat.le_of_ble_eq_true rfl) rfl ?_
  intro p e s m args below meth c A C
  refine x_aload_n C dX3_prize_0 rfl rfl ?_
  refine x_iload_n C dX3_prize_1 rfl rfl ?_
  refine x_iconst C (v := 0) dX3_prize_2 (by decide) ?_
  refine x_sipush C (v := 999) dX3_prize_3 (by decide) ?_
  refine x_callSi C gs_X3_48 (c_X3_in x 0 999) rfl rfl (Nat.le_of_ble_eq_true rfl) ⟨(Nat.le_of_ble_eq_true rfl), (Nat.le_of_ble_eq_true rfl)⟩ ⟨Nat.zero_le _, Nat.zero_le _⟩ dX3_prize_6 ?_
  refine x_if_eq C (tgt := 16) dX3_prize_9 (by decide) (fun h => ?_) (fun h => ?_)
  · exact absurd hx (by rw [bz_f h]; decide)
  · refine x_iconst C (v := 0) dX3_prize_12 (by decide) ?_
    refine x_goto C (tgt := 17) dX3_prize_13 (by decide) ?_
    refine pB0_code C _ dX3_prize_17 ?_
    refine x_aload_n C dX3_prize_20 rfl rfl ?_
    refine gB0_code C dX3_prize_21 ?_
    refine x_if_ne C (tgt := 45) dX3_prize_24 (by decide) (fun h2 => ?_) (fun h2 => ?_)
    · exact absurd rfl h2
    · refine x_aload_n C dX3_prize_27 rfl rfl ?_
      refine x_iload_n C dX3_prize_28 rfl rfl ?_
      refine x_if_le C (tgt := 36) dX3_prize_29 (by decide) (fun h3 => ?_) (fun h3 => ?_)
      · refine x_iconst C (v := 0) dX3_prize_36 (by decide) ?_
        refine pB0_hasPrize C false rfl dX3_prize_37 ?_
        refine x_aload_n C dX3_prize_40 rfl rfl ?_
        refine x_iload_n C dX3_prize_41 rfl rfl ?_
        refine pB0_prize C _ dX3_prize_42 ?_
        exact x_vret C dX3_prize_45 rfl (by rw [decide_eq_false (Int32.not_lt.mpr h3)])
      · refine x_iconst C (v := 1) dX3_prize_32 (by decide) ?_
        refine x_goto C (tgt := 37) dX3_prize_33 (by decide) ?_
        refine pB0_hasPrize C true rfl dX3_prize_37 ?_
        refine x_aload_n C dX3_prize_40 rfl rfl ?_
        refine x_iload_n C dX3_prize_41 rfl rfl ?_
        refine pB0_prize C _ dX3_prize_42 ?_
        exact x_vret C dX3_prize_45 rfl (by rw [decide_eq_true (Int32.not_le.mp h3)])
set_option maxRecDepth 100000 in
set_option maxHeartbeats 4000000 in
theorem c_X3_turn (t : Nat) (hd : dy ≤ 7) (hax : ¬ dy = 7 → ax = nI t ∧ t < 12) : wo_E l yX3_turn cX3_turn 1 (some .int) 0 D ((cI, .int) :: (cZ, .boolean) :: tys) [.ref (a 0)] (wB cI cZ a co gr dy kd wo me ti td la go kp od no ax lv rh re rs ph pr o1 o2 ++ Y) (some (.int (if dy = 7 then -1000000 else nI (od t)))) (wB cI cZ a (0) gr dy kd wo me ti td la go kp od no ax lv rh re rs ph pr o1 o2 ++ Y) := by
  refine wo_of (ls := [some (.ref (a 0))]) (by decide) (Nat.le_of_ble_eq_true rfl) rfl ?_
  intro p e s m args below meth c A C
  refine x_aload_n C dX3_turn_0 rfl rfl ?_
  refine x_iconst C (v := 0) dX3_turn_1 (by decide) ?_
  refine pB0_code C _ dX3_turn_2 ?_
  refine x_aload_n C dX3_turn_5 rfl rfl ?_
  refine gB0_day C dX3_turn_6 ?_
  refine x_bipush C (v := 7) dX3_turn_9 (by decide) ?_
  refine x_icmp_ne C (tgt := 19) dX3_turn_11 (by decide) (fun h => ?_) (fun h => ?_)
  · have h6 : ¬ dy = 7 := fun z => h (by rw [z]; rfl)
    obtain ⟨g1, g2⟩ := hax h6
    refine x_aload_n C dX3_turn_19 rfl rfl ?_
    refine gB0_order C dX3_turn_20 ?_
    refine x_aload_n C dX3_turn_23 rfl rfl ?_
    refine gB0_at C dX3_turn_24 ?_
    refine lB_od C t g1 g2 dX3_turn_27 ?_
    exact x_iret C dX3_turn_28 (by rw [if_neg h6]) rfl
  · have h6 : dy = 7 := wo_ieq (a := dy) (b := 7) (by omega) (by omega) h
    refine x_ldc C kk_X3_124 dX3_turn_14 ?_
    refine x_goto C (tgt := 28) dX3_turn_16 (by decide) ?_
    exact x_iret C dX3_turn_28 (by rw [if_pos h6]) rfl
set_option maxRecDepth 100000 in
set_option maxHeartbeats 4000000 in
theorem c_X3_day  : wo_E l yX3_day cX3_day 1 (some .int) 0 D ((cI, .int) :: (cZ, .boolean) :: tys) [.ref (a 0)] (wB cI cZ a co gr dy kd wo me ti td la go kp od no ax lv rh re rs ph pr o1 o2 ++ Y) (some (.int (nI dy))) (wB cI cZ a (0) gr dy kd wo me ti td la go kp od no ax lv rh re rs ph pr o1 o2 ++ Y) := by
  refine wo_of (ls := [some (.ref (a 0))]) (by decide) (Nat.le_of_ble_eq_true rfl) rfl ?_
  intro p e s m args below meth c A C
  refine x_aload_n C dX3_day_0 rfl rfl ?_
  refine x_iconst C (v := 0) dX3_day_1 (by decide) ?_
  refine pB0_code C _ dX3_day_2 ?_
  refine x_aload_n C dX3_day_5 rfl rfl ?_
  refine gB0_day C dX3_day_6 ?_
  exact x_iret C dX3_day_9 rfl rfl
set_option maxRecDepth 100000 in
set_option maxHeartbeats 4000000 in
theorem c_X3_weight_1 (x y : Int32) (hg : 1 ≤ gr) (hx : (in_B x 0 (nI (gr - 1)) && in_B y 1 6) = false) : wo_E l yX3_weight cX3_weight 4 (some .int) 2 D ((cI, .int) :: (cZ, .boolean) :: tys) [.ref (a 0), .int x, .int y] (wB cI cZ a co gr dy kd wo me ti td la go kp od no ax lv rh re rs ph pr o1 o2 ++ Y) (some (.int 0)) (wB cI cZ a (1) gr dy kd wo me ti td la go kp od no ax lv rh re rs ph pr o1 o2 ++ Y) := by
  refine wo_of (ls := [some (.ref (a 0)), some (.int x), some (.int y), none]) (by decide) (Nat.le_of_ble_eq_true rfl) rfl ?_
  intro p e s m args below meth c A C
  refine x_aload_n C dX3_weight_0 rfl rfl ?_
  refine x_aload_n C dX3_weight_1 rfl rfl ?_
  refine x_iload_n C dX3_weight_2 rfl rfl ?_
  refine x_iload_n C dX3_weight_3 rfl rfl ?_
  refine x_callVi C gv_X3_111 (c_X3_isEntry x y hg) 0 rfl rfl rfl rfl (Nat.le_of_ble_eq_true rfl) ⟨(Nat.le_of_ble_eq_true rfl), (Nat.le_of_ble_eq_true rfl)⟩ ⟨Nat.zero_le _, Nat.zero_le _⟩ dX3_weight_4 ?_
  refine x_if_eq C (tgt := 14) dX3_weight_7 (by decide) (fun h => ?_) (fun h => ?_)
  · refine x_iconst C (v := 1) dX3_weight_14 (by decide) ?_
    refine pB0_code C _ dX3_weight_15 ?_
    refine x_aload_n C dX3_weight_18 rfl rfl ?_
    refine gB0_code C dX3_weight_19 ?_
    refine x_if_le C (tgt := 27) dX3_weight_22 (by decide) (fun h2 => ?_) (fun h2 => ?_)
    · exact absurd h2 (by decide)
    · refine x_iconst C (v := 0) dX3_weight_25 (by decide) ?_
      exact x_iret C dX3_weight_26 rfl rfl
  · exact absurd hx (by rw [bz_t h]; decide)
set_option maxRecDepth 100000 in
set_option maxHeartbeats 4000000 in
theorem c_X3_weight (w d : Nat) (hg : 1 ≤ gr) (hg2 : gr ≤ 12) (hw : w < gr) (h1 : 1 ≤ d) (h6 : d ≤ 6) : wo_E l yX3_weight cX3_weight 4 (some .int) 2 D ((cI, .int) :: (cZ, .boolean) :: tys) [.ref (a 0), .int (nI w), .int (nI d)] (wB cI cZ a co gr dy kd wo me ti td la go kp od no ax lv rh re rs ph pr o1 o2 ++ Y) (some (.int (wt_B kd wo (7 * w + d)))) (wB cI cZ a (0) gr dy kd wo me ti td la go kp od no ax lv rh re rs ph pr o1 o2 ++ Y) := by
  refine wo_of (ls := [some (.ref (a 0)), some (.int (nI w)), some (.int (nI d)), none]) (by decide) (Nat.le_of_ble_eq_true rfl) rfl ?_
  intro p e s m args below meth c A C
  have hin : (in_B (nI w) 0 (nI (gr - 1)) && in_B (nI d) 1 6) = true := by rw [wo_in0' hg2 hw, show in_B (nI d) 1 6 = true from decide_eq_true ⟨nI_le (a := 1) h1 (by omega), nI_le (b := 6) h6 (by omega)⟩]; rfl
  refine x_aload_n C dX3_weight_0 rfl rfl ?_
  refine x_aload_n C dX3_weight_1 rfl rfl ?_
  refine x_iload_n C dX3_weight_2 rfl rfl ?_
  refine x_iload_n C dX3_weight_3 rfl rfl ?_
  refine x_callVi C gv_X3_111 (c_X3_isEntry _ _ hg) 0 rfl rfl rfl rfl (Nat.le_of_ble_eq_true rfl) ⟨(Nat.le_of_ble_eq_true rfl), (Nat.le_of_ble_eq_true rfl)⟩ ⟨Nat.zero_le _, Nat.zero_le _⟩ dX3_weight_4 ?_
  refine x_if_eq C (tgt := 14) dX3_weight_7 (by decide) (fun h => ?_) (fun h => ?_)
  · exact absurd hin (by rw [bz_f h]; decide)
  · refine x_iconst C (v := 0) dX3_weight_10 (by decide) ?_
    refine x_goto C (tgt := 15) dX3_weight_11 (by decide) ?_
    refine pB0_code C _ dX3_weight_15 ?_
    refine x_aload_n C dX3_weight_18 rfl rfl ?_
    refine gB0_code C dX3_weight_19 ?_
    refine x_if_le C (tgt := 27) dX3_weight_22 (by decide) (fun h2 => ?_) (fun h2 => ?_)
    · refine x_bipush C (v := 7) dX3_weight_27 (by decide) ?_
      refine x_iload_n C dX3_weight_29 rfl rfl ?_
      refine x_imul C dX3_weight_30 ?_
      refine x_iload_n C dX3_weight_31 rfl rfl ?_
      refine x_iadd C dX3_weight_32 ?_
      refine x_top (wo_7 w d) ?_
      refine x_istore_n C dX3_weight_33 rfl (by decide) ?_
      refine x_aload_n C dX3_weight_34 rfl rfl ?_
      refine gB0_kind C dX3_weight_35 ?_
      refine x_iload_n C dX3_weight_38 rfl rfl ?_
      refine lB_kd C _ rfl (by omega) dX3_weight_39 ?_
      refine x_iconst C (v := 1) dX3_weight_40 (by decide) ?_
      refine x_icmp_ne C (tgt := 53) dX3_weight_41 (by decide) (fun h3 => ?_) (fun h3 => ?_)
      · refine x_aload_n C dX3_weight_53 rfl rfl ?_
        refine gB0_kind C dX3_weight_54 ?_
        refine x_iload_n C dX3_weight_57 rfl rfl ?_
        refine lB_kd C _ rfl (by omega) dX3_weight_58 ?_
        refine x_iconst C (v := 2) dX3_weight_59 (by decide) ?_
        refine x_icmp_ne C (tgt := 67) dX3_weight_60 (by decide) (fun h4 => ?_) (fun h4 => ?_)
        · refine x_aload_n C dX3_weight_67 rfl rfl ?_
          refine gB0_kind C dX3_weight_68 ?_
          refine x_iload_n C dX3_weight_71 rfl rfl ?_
          refine lB_kd C _ rfl (by omega) dX3_weight_72 ?_
          refine x_iconst C (v := 3) dX3_weight_73 (by decide) ?_
          refine x_icmp_ne C (tgt := 82) dX3_weight_74 (by decide) (fun h5 => ?_) (fun h5 => ?_)
          · refine x_ldc C kk_X3_124 dX3_weight_82 ?_
            exact x_iret C dX3_weight_84 (by rw [wt_B, if_neg h3, if_neg h4, if_neg h5]) rfl
          · refine x_bipush C (v := -2) dX3_weight_77 (by decide) ?_
            refine x_goto C (tgt := 84) dX3_weight_79 (by decide) ?_
            exact x_iret C dX3_weight_84 (by rw [wt_B, if_neg h3, if_neg h4, if_pos h5]) rfl
        · refine x_iconst C (v := -1) dX3_weight_63 (by decide) ?_
          refine x_goto C (tgt := 84) dX3_weight_64 (by decide) ?_
          exact x_iret C dX3_weight_84 (by rw [wt_B, if_neg h3, if_pos h4]) rfl
      · refine x_aload_n C dX3_weight_44 rfl rfl ?_
        refine gB0_worth C dX3_weight_45 ?_
        refine x_iload_n C dX3_weight_48 rfl rfl ?_
        refine lB_wo C _ rfl (by omega) dX3_weight_49 ?_
        refine x_goto C (tgt := 84) dX3_weight_50 (by decide) ?_
        exact x_iret C dX3_weight_84 (by rw [wt_B, if_pos h3]) rfl
    · exact absurd (by decide) h2
set_option maxRecDepth 100000 in
set_option maxHeartbeats 4000000 in
theorem c_X3_tilt_1 (x y : Int32) (hg : 1 ≤ gr) (hx : (in_B x 0 (nI (gr - 1)) && in_B y 1 6) = false) : wo_E l yX3_tilt cX3_tilt 3 (some .int) 2 D ((cI, .int) :: (cZ, .boolean) :: tys) [.ref (a 0), .int x, .int y] (wB cI cZ a co gr dy kd wo me ti td la go kp od no ax lv rh re rs ph pr o1 o2 ++ Y) (some (.int 0)) (wB cI cZ a (1) gr dy kd wo me ti td la go kp od no ax lv rh re rs ph pr o1 o2 ++ Y) := by
  refine wo_of (ls := [some (.ref (a 0)), some (.int x), some (.int y)]) (by decide) (Nat.le_of_ble_eq_true rfl) rfl ?_
  intro p e s m args below meth c A C
  refine x_aload_n C dX3_tilt_0 rfl rfl ?_
  refine x_aload_n C dX3_tilt_1 rfl rfl ?_
  refine x_iload_n C dX3_tilt_2 rfl rfl ?_
  refine x_iload_n C dX3_tilt_3 rfl rfl ?_
  refine x_callVi C gv_X3_111 (c_X3_isEntry x y hg) 0 rfl rfl rfl rfl (Nat.le_of_ble_eq_true rfl) ⟨(Nat.le_of_ble_eq_true rfl), (Nat.le_of_ble_eq_true rfl)⟩ ⟨Nat.zero_le _, Nat.zero_le _⟩ dX3_tilt_4 ?_
  refine x_if_eq C (tgt := 14) dX3_tilt_7 (by decide) (fun h => ?_) (fun h => ?_)
  · refine x_iconst C (v := 1) dX3_tilt_14 (by decide) ?_
    refine pB0_code C _ dX3_tilt_15 ?_
    refine x_aload_n C dX3_tilt_18 rfl rfl ?_
    refine gB0_code C dX3_tilt_19 ?_
    refine x_if_ne C (tgt := 53) dX3_tilt_22 (by decide) (fun h2 => ?_) (fun h2 => ?_)
    · refine x_aload_n C dX3_tilt_53 rfl rfl ?_
      refine gB0_code C dX3_tilt_54 ?_
      refine x_if_ne C (tgt := 65) dX3_tilt_57 (by decide) (fun h3 => ?_) (fun h3 => ?_)
      · refine x_iconst C (v := 0) dX3_tilt_65 (by decide) ?_
        exact x_iret C dX3_tilt_66 rfl rfl
      · exact absurd h3 h2
    · exact absurd h2 (by decide)
  · exact absurd hx (by rw [bz_t h]; decide)
set_option maxRecDepth 100000 in
set_option maxHeartbeats 4000000 in
theorem c_X3_tilt (w d : Nat) (hg : 1 ≤ gr) (hg2 : gr ≤ 12) (hw : w < gr) (h1 : 1 ≤ d) (h6 : d ≤ 6) : wo_E l yX3_tilt cX3_tilt 3 (some .int) 2 D ((cI, .int) :: (cZ, .boolean) :: tys) [.ref (a 0), .int (nI w), .int (nI d)] (wB cI cZ a co gr dy kd wo me ti td la go kp od no ax lv rh re rs ph pr o1 o2 ++ Y) (some (.int (if td (7 * w + d) then ti (7 * w + d) else -1000000))) (wB cI cZ a (0) gr dy kd wo me ti td la go kp od no ax lv rh re rs ph pr o1 o2 ++ Y) := by
  refine wo_of (ls := [some (.ref (a 0)), some (.int (nI w)), some (.int (nI d))]) (by decide) (Nat.le_of_ble_eq_true rfl) rfl ?_
  intro p e s m args below meth c A C
  have hin : (in_B (nI w) 0 (nI (gr - 1)) && in_B (nI d) 1 6) = true := by rw [wo_in0' hg2 hw, show in_B (nI d) 1 6 = true from decide_eq_true ⟨nI_le (a := 1) h1 (by omega), nI_le (b := 6) h6 (by omega)⟩]; rfl
  refine x_aload_n C dX3_tilt_0 rfl rfl ?_
  refine x_aload_n C dX3_tilt_1 rfl rfl ?_
  refine x_iload_n C dX3_tilt_2 rfl rfl ?_
  refine x_iload_n C dX3_tilt_3 rfl rfl ?_
  refine x_callVi C gv_X3_111 (c_X3_isEntry _ _ hg) 0 rfl rfl rfl rfl (Nat.le_of_ble_eq_true rfl) ⟨(Nat.le_of_ble_eq_true rfl), (Nat.le_of_ble_eq_true rfl)⟩ ⟨Nat.zero_le _, Nat.zero_le _⟩ dX3_tilt_4 ?_
  refine x_if_eq C (tgt := 14) dX3_tilt_7 (by decide) (fun h => ?_) (fun h => ?_)
  · exact absurd hin (by rw [bz_f h]; decide)
  · refine x_iconst C (v := 0) dX3_tilt_10 (by decide) ?_
    refine x_goto C (tgt := 15) dX3_tilt_11 (by decide) ?_
    refine pB0_code C _ dX3_tilt_15 ?_
    refine x_aload_n C dX3_tilt_18 rfl rfl ?_
    refine gB0_code C dX3_tilt_19 ?_
    refine x_if_ne C (tgt := 53) dX3_tilt_22 (by decide) (fun h2 => ?_) (fun h2 => ?_)
    · exact absurd rfl h2
    · refine x_aload_n C dX3_tilt_25 rfl rfl ?_
      refine gB0_tilted C dX3_tilt_26 ?_
      refine x_bipush C (v := 7) dX3_tilt_29 (by decide) ?_
      refine x_iload_n C dX3_tilt_31 rfl rfl ?_
      refine x_imul C dX3_tilt_32 ?_
      refine x_iload_n C dX3_tilt_33 rfl rfl ?_
      refine x_iadd C dX3_tilt_34 ?_
      refine lB_td C (7 * w + d) (wo_7 w d) (by omega) dX3_tilt_35 ?_
      refine x_if_eq C (tgt := 53) dX3_tilt_36 (by decide) (fun h3 => ?_) (fun h3 => ?_)
      · refine x_aload_n C dX3_tilt_53 rfl rfl ?_
        refine gB0_code C dX3_tilt_54 ?_
        refine x_if_ne C (tgt := 65) dX3_tilt_57 (by decide) (fun h4 => ?_) (fun h4 => ?_)
        · exact absurd rfl h4
        · refine x_ldc C kk_X3_124 dX3_tilt_60 ?_
          refine x_goto C (tgt := 66) dX3_tilt_62 (by decide) ?_
          exact x_iret C dX3_tilt_66 (by rw [bz_f h3]; rfl) rfl
      · refine x_aload_n C dX3_tilt_39 rfl rfl ?_
        refine gB0_tilt C dX3_tilt_40 ?_
        refine x_bipush C (v := 7) dX3_tilt_43 (by decide) ?_
        refine x_iload_n C dX3_tilt_45 rfl rfl ?_
        refine x_imul C dX3_tilt_46 ?_
        refine x_iload_n C dX3_tilt_47 rfl rfl ?_
        refine x_iadd C dX3_tilt_48 ?_
        refine lB_ti C (7 * w + d) (wo_7 w d) (by omega) dX3_tilt_49 ?_
        refine x_goto C (tgt := 66) dX3_tilt_50 (by decide) ?_
        exact x_iret C dX3_tilt_66 (by rw [bz_t h3]; rfl) rfl
set_option maxRecDepth 100000 in
set_option maxHeartbeats 4000000 in
theorem c_X3_best_1 (x : Int32) (hg : 1 ≤ gr) (hx : in_B x 0 (nI (gr - 1)) = false) : wo_E l yX3_best cX3_best 2 (some .int) 1 D ((cI, .int) :: (cZ, .boolean) :: tys) [.ref (a 0), .int x] (wB cI cZ a co gr dy kd wo me ti td la go kp od no ax lv rh re rs ph pr o1 o2 ++ Y) (some (.int 0)) (wB cI cZ a (1) gr dy kd wo me ti td la go kp od no ax lv rh re rs ph pr o1 o2 ++ Y) := by
  refine wo_of (ls := [some (.ref (a 0)), some (.int x)]) (by decide) (Nat.le_of_ble_eq_true rfl) rfl ?_
  intro p e s m args below meth c A C
  refine x_aload_n C dX3_best_0 rfl rfl ?_
  refine x_iload_n C dX3_best_1 rfl rfl ?_
  refine x_iconst C (v := 0) dX3_best_2 (by decide) ?_
  refine x_aload_n C dX3_best_3 rfl rfl ?_
  refine gB0_growers C dX3_best_4 ?_
  refine x_iconst C (v := 1) dX3_best_7 (by decide) ?_
  refine x_isub C dX3_best_8 ?_
  refine x_top (wo_gr1 hg) ?_
  refine x_callSi C gs_X3_48 (c_X3_in x 0 (nI (gr - 1))) rfl rfl (Nat.le_of_ble_eq_true rfl) ⟨(Nat.le_of_ble_eq_true rfl), (Nat.le_of_ble_eq_true rfl)⟩ ⟨Nat.zero_le _, Nat.zero_le _⟩ dX3_best_9 ?_
  refine x_if_eq C (tgt := 19) dX3_best_12 (by decide) (fun h => ?_) (fun h => ?_)
  · refine x_iconst C (v := 1) dX3_best_19 (by decide) ?_
    refine pB0_code C _ dX3_best_20 ?_
    refine x_aload_n C dX3_best_23 rfl rfl ?_
    refine gB0_code C dX3_best_24 ?_
    refine x_if_le C (tgt := 32) dX3_best_27 (by decide) (fun h2 => ?_) (fun h2 => ?_)
    · exact absurd h2 (by decide)
    · refine x_iconst C (v := 0) dX3_best_30 (by decide) ?_
      exact x_iret C dX3_best_31 rfl rfl
  · exact absurd hx (by rw [bz_t h]; decide)
set_option maxRecDepth 100000 in
set_option maxHeartbeats 4000000 in
theorem c_X3_best (w : Nat) (hg : 1 ≤ gr) (hg2 : gr ≤ 12) (hw : w < gr) : wo_S l yX3_best cX3_best 2 (some .int) 1 D ((cI, .int) :: (cZ, .boolean) :: tys) [.ref (a 0), .int (nI w)] (wB cI cZ a co gr dy kd wo me ti td la go kp od no ax lv rh re rs ph pr o1 o2 ++ Y) (some (.int (bs_B kd wo w))) (fun o1 o2 => (wB cI cZ a (0) gr dy kd wo me ti td la go kp od no ax lv rh re rs ph pr o1 o2 ++ Y)) := by
  refine wo_ofS (ls := [some (.ref (a 0)), some (.int (nI w))]) (by decide) (Nat.le_of_ble_eq_true rfl) rfl ?_
  intro p e s m args below meth c A C
  have hwn := wn_le kd wo w
  refine x_aload_n C dX3_best_0 rfl rfl ?_
  refine x_iload_n C dX3_best_1 rfl rfl ?_
  refine x_iconst C (v := 0) dX3_best_2 (by decide) ?_
  refine x_aload_n C dX3_best_3 rfl rfl ?_
  refine gB0_growers C dX3_best_4 ?_
  refine x_iconst C (v := 1) dX3_best_7 (by decide) ?_
  refine x_isub C dX3_best_8 ?_
  refine x_top (wo_gr1 hg) ?_
  refine x_callSi C gs_X3_48 (c_X3_in (nI w) 0 (nI (gr - 1))) rfl rfl (Nat.le_of_ble_eq_true rfl) ⟨(Nat.le_of_ble_eq_true rfl), (Nat.le_of_ble_eq_true rfl)⟩ ⟨Nat.zero_le _, Nat.zero_le _⟩ dX3_best_9 ?_
  refine x_if_eq C (tgt := 19) dX3_best_12 (by decide) (fun h => ?_) (fun h => ?_)
  · exact absurd (wo_in0' hg2 hw) (by rw [bz_f h]; decide)
  · refine x_iconst C (v := 0) dX3_best_15 (by decide) ?_
    refine x_goto C (tgt := 20) dX3_best_16 (by decide) ?_
    refine pB0_code C _ dX3_best_20 ?_
    refine x_aload_n C dX3_best_23 rfl rfl ?_
    refine gB0_code C dX3_best_24 ?_
    refine x_if_le C (tgt := 32) dX3_best_27 (by decide) (fun h2 => ?_) (fun h2 => ?_)
    · refine x_aload_n C dX3_best_32 rfl rfl ?_
      refine x_iload_n C dX3_best_33 rfl rfl ?_
      refine x_aload_n C dX3_best_34 rfl rfl ?_
      refine gB0_one C dX3_best_35 ?_
      refine x_callVi C gv_X3_69 (c_X3_weightsOf_o1 w (by omega)) 0 rfl rfl rfl rfl (Nat.le_of_ble_eq_true rfl) ⟨(Nat.le_of_ble_eq_true rfl), (Nat.le_of_ble_eq_true rfl)⟩ ⟨Nat.zero_le _, Nat.zero_le _⟩ dX3_best_38 ?_
      refine x_if_le C (tgt := 53) dX3_best_41 (by decide) (fun h3 => ?_) (fun h3 => ?_)
      · have h4 := wo_le (a := wn_B kd wo w) (b := 0) (by omega) (by omega) h3
        refine x_ldc C kk_X3_124 dX3_best_53 ?_
        exact x_iretS C dX3_best_55 (by rw [bs_B, if_neg (by omega)]) rfl
      · have h4 := wo_nle (a := wn_B kd wo w) (b := 0) (by omega) (by omega) h3
        refine x_aload_n C dX3_best_44 rfl rfl ?_
        refine gB0_one C dX3_best_45 ?_
        refine x_iconst C (v := 0) dX3_best_48 (by decide) ?_
        refine lB_o1 C 0 rfl (by omega) dX3_best_49 ?_
        refine x_goto C (tgt := 55) dX3_best_50 (by decide) ?_
        exact x_iretS C dX3_best_55 (by rw [bs_B, if_pos h4, wk_eq _ _ _ _ h4]) rfl
    · exact absurd (by decide) h2
set_option maxRecDepth 100000 in
set_option maxHeartbeats 4000000 in
theorem c_X3_place_1 (x : Int32) (hg : 1 ≤ gr) (hx : in_B x 0 (nI (gr - 1)) = false) : wo_E l yX3_place cX3_place 2 (some .int) 3 D ((cI, .int) :: (cZ, .boolean) :: tys) [.ref (a 0), .int x] (wB cI cZ a co gr dy kd wo me ti td la go kp od no ax lv rh re rs ph pr o1 o2 ++ Y) (some (.int 0)) (wB cI cZ a (1) gr dy kd wo me ti td la go kp od no ax lv rh re rs ph pr o1 o2 ++ Y) := by
  refine wo_of (ls := [some (.ref (a 0)), some (.int x)]) (by decide) (Nat.le_of_ble_eq_true rfl) rfl ?_
  intro p e s m args below meth c A C
  refine x_aload_n C dX3_place_0 rfl rfl ?_
  refine x_iload_n C dX3_place_1 rfl rfl ?_
  refine x_iconst C (v := 0) dX3_place_2 (by decide) ?_
  refine x_aload_n C dX3_place_3 rfl rfl ?_
  refine gB0_growers C dX3_place_4 ?_
  refine x_iconst C (v := 1) dX3_place_7 (by decide) ?_
  refine x_isub C dX3_place_8 ?_
  refine x_top (wo_gr1 hg) ?_
  refine x_callSi C gs_X3_48 (c_X3_in x 0 (nI (gr - 1))) rfl rfl (Nat.le_of_ble_eq_true rfl) ⟨(Nat.le_of_ble_eq_true rfl), (Nat.le_of_ble_eq_true rfl)⟩ ⟨Nat.zero_le _, Nat.zero_le _⟩ dX3_place_9 ?_
  refine x_if_eq C (tgt := 19) dX3_place_12 (by decide) (fun h => ?_) (fun h => ?_)
  · refine x_iconst C (v := 1) dX3_place_19 (by decide) ?_
    refine pB0_code C _ dX3_place_20 ?_
    refine x_aload_n C dX3_place_23 rfl rfl ?_
    refine gB0_code C dX3_place_24 ?_
    refine x_if_ne C (tgt := 38) dX3_place_27 (by decide) (fun h2 => ?_) (fun h2 => ?_)
    · refine x_iconst C (v := 0) dX3_place_38 (by decide) ?_
      exact x_iret C dX3_place_39 rfl rfl
    · exact absurd h2 (by decide)
  · exact absurd hx (by rw [bz_t h]; decide)
set_option maxRecDepth 100000 in
set_option maxHeartbeats 4000000 in
theorem c_X3_place (w : Nat) (hg : 1 ≤ gr) (hg2 : gr ≤ 12) (hw : w < gr) : wo_S l yX3_place cX3_place 2 (some .int) 3 D ((cI, .int) :: (cZ, .boolean) :: tys) [.ref (a 0), .int (nI w)] (wB cI cZ a co gr dy kd wo me ti td la go kp od no ax lv rh re rs ph pr o1 o2 ++ Y) (some (.int (nI (pl_B kd wo gr w)))) (fun o1 o2 => (wB cI cZ a (0) gr dy kd wo me ti td la go kp od no ax lv rh re rs ph pr o1 o2 ++ Y)) := by
  refine wo_ofS (ls := [some (.ref (a 0)), some (.int (nI w))]) (by decide) (Nat.le_of_ble_eq_true rfl) rfl ?_
  intro p e s m args below meth c A C
  refine x_aload_n C dX3_place_0 rfl rfl ?_
  refine x_iload_n C dX3_place_1 rfl rfl ?_
  refine x_iconst C (v := 0) dX3_place_2 (by decide) ?_
  refine x_aload_n C dX3_place_3 rfl rfl ?_
  refine gB0_growers C dX3_place_4 ?_
  refine x_iconst C (v := 1) dX3_place_7 (by decide) ?_
  refine x_isub C dX3_place_8 ?_
  refine x_top (wo_gr1 hg) ?_
  refine x_callSi C gs_X3_48 (c_X3_in (nI w) 0 (nI (gr - 1))) rfl rfl (Nat.le_of_ble_eq_true rfl) ⟨(Nat.le_of_ble_eq_true rfl), (Nat.le_of_ble_eq_true rfl)⟩ ⟨Nat.zero_le _, Nat.zero_le _⟩ dX3_place_9 ?_
  refine x_if_eq C (tgt := 19) dX3_place_12 (by decide) (fun h => ?_) (fun h => ?_)
  · exact absurd (wo_in0' hg2 hw) (by rw [bz_f h]; decide)
  · refine x_iconst C (v := 0) dX3_place_15 (by decide) ?_
    refine x_goto C (tgt := 20) dX3_place_16 (by decide) ?_
    refine pB0_code C _ dX3_place_20 ?_
    refine x_aload_n C dX3_place_23 rfl rfl ?_
    refine gB0_code C dX3_place_24 ?_
    refine x_if_ne C (tgt := 38) dX3_place_27 (by decide) (fun h2 => ?_) (fun h2 => ?_)
    · exact absurd rfl h2
    · refine x_aload_n C dX3_place_30 rfl rfl ?_
      refine x_iload_n C dX3_place_31 rfl rfl ?_
      refine x_callVSi C gv_X3_73 (c_X3_placeOf w (by omega) hg2) 0 rfl rfl rfl rfl (Nat.le_of_ble_eq_true rfl) ⟨(Nat.le_of_ble_eq_true rfl), (Nat.le_of_ble_eq_true rfl)⟩ ⟨Nat.zero_le _, Nat.zero_le _⟩ dX3_place_32 (fun o1 o2 => ?_)
      refine x_goto C (tgt := 39) dX3_place_35 (by decide) ?_
      exact x_iretS C dX3_place_39 rfl rfl
set_option maxRecDepth 100000 in
set_option maxHeartbeats 4000000 in
theorem c_X3_wins_1 (x : Int32) (hg : 1 ≤ gr) (hx : in_B x 0 (nI (gr - 1)) = false) : wo_E l yX3_wins cX3_wins 2 (some .boolean) 1 D ((cI, .int) :: (cZ, .boolean) :: tys) [.ref (a 0), .int x] (wB cI cZ a co gr dy kd wo me ti td la go kp od no ax lv rh re rs ph pr o1 o2 ++ Y) (some (.int (bz false))) (wB cI cZ a (1) gr dy kd wo me ti td la go kp od no ax lv rh re rs ph pr o1 o2 ++ Y) := by
  refine wo_of (ls := [some (.ref (a 0)), some (.int x)]) (by decide) (Nat.le_of_ble_eq_true rfl) rfl ?_
  intro p e s m args below meth c A C
  refine x_aload_n C dX3_wins_0 rfl rfl ?_
  refine x_iload_n C dX3_wins_1 rfl rfl ?_
  refine x_iconst C (v := 0) dX3_wins_2 (by decide) ?_
  refine x_aload_n C dX3_wins_3 rfl rfl ?_
  refine gB0_growers C dX3_wins_4 ?_
  refine x_iconst C (v := 1) dX3_wins_7 (by decide) ?_
  refine x_isub C dX3_wins_8 ?_
  refine x_top (wo_gr1 hg) ?_
  refine x_callSi C gs_X3_48 (c_X3_in x 0 (nI (gr - 1))) rfl rfl (Nat.le_of_ble_eq_true rfl) ⟨(Nat.le_of_ble_eq_true rfl), (Nat.le_of_ble_eq_true rfl)⟩ ⟨Nat.zero_le _, Nat.zero_le _⟩ dX3_wins_9 ?_
  refine x_if_eq C (tgt := 19) dX3_wins_12 (by decide) (fun h => ?_) (fun h => ?_)
  · refine x_iconst C (v := 1) dX3_wins_19 (by decide) ?_
    refine pB0_code C _ dX3_wins_20 ?_
    refine x_aload_n C dX3_wins_23 rfl rfl ?_
    refine gB0_code C dX3_wins_24 ?_
    refine x_if_ne C (tgt := 66) dX3_wins_27 (by decide) (fun h2 => ?_) (fun h2 => ?_)
    · refine x_iconst C (v := 0) dX3_wins_66 (by decide) ?_
      exact x_zret C dX3_wins_67 (b := false) rfl rfl rfl
    · exact absurd h2 (by decide)
  · exact absurd hx (by rw [bz_t h]; decide)
set_option maxRecDepth 100000 in
set_option maxHeartbeats 4000000 in
theorem c_X3_wins (w : Nat) (hg : 1 ≤ gr) (hg2 : gr ≤ 12) (hw : w < gr) : wo_S l yX3_wins cX3_wins 2 (some .boolean) 1 D ((cI, .int) :: (cZ, .boolean) :: tys) [.ref (a 0), .int (nI w)] (wB cI cZ a co gr dy kd wo me ti td la go kp od no ax lv rh re rs ph pr o1 o2 ++ Y) (some (.int (bz (ph && decide (0 < wn_B kd wo w ∧ pr ≤ wk_B kd wo w 0))))) (fun o1 o2 => (wB cI cZ a (0) gr dy kd wo me ti td la go kp od no ax lv rh re rs ph pr o1 o2 ++ Y)) := by
  refine wo_ofS (ls := [some (.ref (a 0)), some (.int (nI w))]) (by decide) (Nat.le_of_ble_eq_true rfl) rfl ?_
  intro p e s m args below meth c A C
  have hwn := wn_le kd wo w
  refine x_aload_n C dX3_wins_0 rfl rfl ?_
  refine x_iload_n C dX3_wins_1 rfl rfl ?_
  refine x_iconst C (v := 0) dX3_wins_2 (by decide) ?_
  refine x_aload_n C dX3_wins_3 rfl rfl ?_
  refine gB0_growers C dX3_wins_4 ?_
  refine x_iconst C (v := 1) dX3_wins_7 (by decide) ?_
  refine x_isub C dX3_wins_8 ?_
  refine x_top (wo_gr1 hg) ?_
  refine x_callSi C gs_X3_48 (c_X3_in (nI w) 0 (nI (gr - 1))) rfl rfl (Nat.le_of_ble_eq_true rfl) ⟨(Nat.le_of_ble_eq_true rfl), (Nat.le_of_ble_eq_true rfl)⟩ ⟨Nat.zero_le _, Nat.zero_le _⟩ dX3_wins_9 ?_
  refine x_if_eq C (tgt := 19) dX3_wins_12 (by decide) (fun h => ?_) (fun h => ?_)
  · exact absurd (wo_in0' hg2 hw) (by rw [bz_f h]; decide)
  · refine x_iconst C (v := 0) dX3_wins_15 (by decide) ?_
    refine x_goto C (tgt := 20) dX3_wins_16 (by decide) ?_
    refine pB0_code C _ dX3_wins_20 ?_
    refine x_aload_n C dX3_wins_23 rfl rfl ?_
    refine gB0_code C dX3_wins_24 ?_
    refine x_if_ne C (tgt := 66) dX3_wins_27 (by decide) (fun h2 => ?_) (fun h2 => ?_)
    · exact absurd rfl h2
    · refine x_aload_n C dX3_wins_30 rfl rfl ?_
      refine gB0_hasPrize C dX3_wins_31 ?_
      refine x_if_eq C (tgt := 66) dX3_wins_34 (by decide) (fun h3 => ?_) (fun h3 => ?_)
      · refine x_iconst C (v := 0) dX3_wins_66 (by decide) ?_
        exact x_zretS C dX3_wins_67 (b := false) rfl (by rw [bz_f h3]; rfl) rfl
      · refine x_aload_n C dX3_wins_37 rfl rfl ?_
        refine x_iload_n C dX3_wins_38 rfl rfl ?_
        refine x_aload_n C dX3_wins_39 rfl rfl ?_
        refine gB0_one C dX3_wins_40 ?_
        refine x_callVi C gv_X3_69 (c_X3_weightsOf_o1 w (by omega)) 0 rfl rfl rfl rfl (Nat.le_of_ble_eq_true rfl) ⟨(Nat.le_of_ble_eq_true rfl), (Nat.le_of_ble_eq_true rfl)⟩ ⟨Nat.zero_le _, Nat.zero_le _⟩ dX3_wins_43 ?_
        refine x_if_le C (tgt := 66) dX3_wins_46 (by decide) (fun h4 => ?_) (fun h4 => ?_)
        · have h5 := wo_le (a := wn_B kd wo w) (b := 0) (by omega) (by omega) h4
          refine x_iconst C (v := 0) dX3_wins_66 (by decide) ?_
          exact x_zretS C dX3_wins_67 (b := false) rfl (by rw [bz_t h3, decide_eq_false (fun z => by omega)]; rfl) rfl
        · have h5 := wo_nle (a := wn_B kd wo w) (b := 0) (by omega) (by omega) h4
          refine x_aload_n C dX3_wins_49 rfl rfl ?_
          refine gB0_one C dX3_wins_50 ?_
          refine x_iconst C (v := 0) dX3_wins_53 (by decide) ?_
          refine lB_o1 C 0 rfl (by omega) dX3_wins_54 ?_
          refine x_aload_n C dX3_wins_55 rfl rfl ?_
          refine gB0_prize C dX3_wins_56 ?_
          refine x_ws rfl ?_
          refine x_icmp_lt C (tgt := 66) dX3_wins_59 (by decide) (fun h6 => ?_) (fun h6 => ?_)
          · rw [wk_eq _ _ _ _ h5] at h6
            refine x_iconst C (v := 0) dX3_wins_66 (by decide) ?_
            exact x_zretS C dX3_wins_67 (b := false) rfl (by rw [bz_t h3, decide_eq_false (fun z => absurd h6 (Int32.not_lt.mpr z.2))]; rfl) rfl
          · rw [wk_eq _ _ _ _ h5] at h6
            refine x_iconst C (v := 1) dX3_wins_62 (by decide) ?_
            refine x_goto C (tgt := 67) dX3_wins_63 (by decide) ?_
            exact x_zretS C dX3_wins_67 (b := true) rfl (by rw [bz_t h3, decide_eq_true ⟨h5, Int32.not_lt.mp h6⟩]; rfl) rfl
set_option maxRecDepth 100000 in
set_option maxHeartbeats 4000000 in
theorem c_X3_stand {ws : va_W} (has ho : Bool) (v w sign : Int32) : wo_E l yX3_stand cX3_stand 5 (some .boolean) 0 D ((cI, .int) :: (cZ, .boolean) :: tys) [.int (bz has), .int v, .int (bz ho), .int w, .int sign] (ws) (some (.int (bz (st_B has v ho w sign)))) (ws) := by
  refine wo_of (ls := [some (.int (bz has)), some (.int v), some (.int (bz ho)), some (.int w), some (.int sign)]) (by decide) (Nat.le_of_ble_eq_true rfl) rfl ?_
  intro p e s m args below meth c A C
  have f8 : (has && ho) = false → wo_W p l e (wo_rm 0) s m args below meth c A D 0 0 5 (MQ below (wo_Q D ((cI, .int) :: (cZ, .boolean) :: tys) (some (.int (bz (st_B has v ho w sign)))) ws A) args s 0 0 A) 8 [some (.int (bz has)), some (.int v), some (.int (bz ho)), some (.int w), some (.int sign)] [] ws := by
    intro h
    refine x_iload C dX3_stand_8 rfl ?_
    refine x_iconst C (v := 5) dX3_stand_10 (by decide) ?_
    refine x_icmp_ne C (tgt := 18) dX3_stand_11 (by decide) (fun h2 => ?_) (fun h2 => ?_)
    · refine x_iconst C (v := 0) dX3_stand_18 (by decide) ?_
      exact x_zret C dX3_stand_19 (b := false) rfl (by rw [st_B, h, decide_eq_false h2]; rfl) rfl
    · refine x_iconst C (v := 1) dX3_stand_14 (by decide) ?_
      refine x_goto C (tgt := 19) dX3_stand_15 (by decide) ?_
      exact x_zret C dX3_stand_19 (b := true) rfl (by rw [st_B, h, decide_eq_true h2]; rfl) rfl
  have f20 : (has && ho) = true → wo_W p l e (wo_rm 0) s m args below meth c A D 0 0 5 (MQ below (wo_Q D ((cI, .int) :: (cZ, .boolean) :: tys) (some (.int (bz (st_B has v ho w sign)))) ws A) args s 0 0 A) 20 [some (.int (bz has)), some (.int v), some (.int (bz ho)), some (.int w), some (.int sign)] [] ws := by
    intro h
    have hst : st_B has v ho w sign = st_F sign v w := by rw [st_B, h]; rfl
    rw [hst]
    refine x_iload C dX3_stand_20 rfl ?_
    by_cases h0 : sign = 0
    · subst h0
      refine x_tableIn C (off := 34) (tgt := 56) dX3_stand_22 (by decide) (by decide) (by decide) (by decide) ?_
      refine x_iload_n C dX3_stand_56 rfl rfl ?_
      refine x_iload_n C dX3_stand_57 rfl rfl ?_
      refine x_icmp_ge C (tgt := 65) dX3_stand_58 (by decide) (fun h9 => ?_) (fun h9 => ?_)
      · refine x_iconst C (v := 0) dX3_stand_65 (by decide) ?_
        exact x_zret C dX3_stand_66 (b := false) rfl (by rw [st_F, if_pos rfl, decide_eq_false (Int32.not_lt.mpr h9)]) rfl
      · refine x_iconst C (v := 1) dX3_stand_61 (by decide) ?_
        refine x_goto C (tgt := 66) dX3_stand_62 (by decide) ?_
        exact x_zret C dX3_stand_66 (b := true) rfl (by rw [st_F, if_pos rfl, decide_eq_true (Int32.not_le.mp h9)]) rfl
    by_cases h1 : sign = 1
    · subst h1
      refine x_tableIn C (off := 45) (tgt := 67) dX3_stand_22 (by decide) (by decide) (by decide) (by decide) ?_
      refine x_iload_n C dX3_stand_67 rfl rfl ?_
      refine x_iload_n C dX3_stand_68 rfl rfl ?_
      refine x_icmp_gt C (tgt := 76) dX3_stand_69 (by decide) (fun h9 => ?_) (fun h9 => ?_)
      · refine x_iconst C (v := 0) dX3_stand_76 (by decide) ?_
        exact x_zret C dX3_stand_77 (b := false) rfl (by rw [st_F, if_neg (by decide), if_pos rfl, decide_eq_false (Int32.not_le.mpr h9)]) rfl
      · refine x_iconst C (v := 1) dX3_stand_72 (by decide) ?_
        refine x_goto C (tgt := 77) dX3_stand_73 (by decide) ?_
        exact x_zret C dX3_stand_77 (b := true) rfl (by rw [st_F, if_neg (by decide), if_pos rfl, decide_eq_true (Int32.not_lt.mp h9)]) rfl
    by_cases h2 : sign = 2
    · subst h2
      refine x_tableIn C (off := 56) (tgt := 78) dX3_stand_22 (by decide) (by decide) (by decide) (by decide) ?_
      refine x_iload_n C dX3_stand_78 rfl rfl ?_
      refine x_iload_n C dX3_stand_79 rfl rfl ?_
      refine x_icmp_le C (tgt := 87) dX3_stand_80 (by decide) (fun h9 => ?_) (fun h9 => ?_)
      · refine x_iconst C (v := 0) dX3_stand_87 (by decide) ?_
        exact x_zret C dX3_stand_88 (b := false) rfl (by rw [st_F, if_neg (by decide), if_neg (by decide), if_pos rfl, decide_eq_false (Int32.not_lt.mpr h9)]) rfl
      · refine x_iconst C (v := 1) dX3_stand_83 (by decide) ?_
        refine x_goto C (tgt := 88) dX3_stand_84 (by decide) ?_
        exact x_zret C dX3_stand_88 (b := true) rfl (by rw [st_F, if_neg (by decide), if_neg (by decide), if_pos rfl, decide_eq_true (Int32.not_le.mp h9)]) rfl
    by_cases h3 : sign = 3
    · subst h3
      refine x_tableIn C (off := 67) (tgt := 89) dX3_stand_22 (by decide) (by decide) (by decide) (by decide) ?_
      refine x_iload_n C dX3_stand_89 rfl rfl ?_
      refine x_iload_n C dX3_stand_90 rfl rfl ?_
      refine x_icmp_lt C (tgt := 98) dX3_stand_91 (by decide) (fun h9 => ?_) (fun h9 => ?_)
      · refine x_iconst C (v := 0) dX3_stand_98 (by decide) ?_
        exact x_zret C dX3_stand_99 (b := false) rfl (by rw [st_F, if_neg (by decide), if_neg (by decide), if_neg (by decide), if_pos rfl, decide_eq_false (Int32.not_le.mpr h9)]) rfl
      · refine x_iconst C (v := 1) dX3_stand_94 (by decide) ?_
        refine x_goto C (tgt := 99) dX3_stand_95 (by decide) ?_
        exact x_zret C dX3_stand_99 (b := true) rfl (by rw [st_F, if_neg (by decide), if_neg (by decide), if_neg (by decide), if_pos rfl, decide_eq_true (Int32.not_lt.mp h9)]) rfl
    by_cases h4 : sign = 4
    · subst h4
      refine x_tableIn C (off := 78) (tgt := 100) dX3_stand_22 (by decide) (by decide) (by decide) (by decide) ?_
      refine x_iload_n C dX3_stand_100 rfl rfl ?_
      refine x_iload_n C dX3_stand_101 rfl rfl ?_
      refine x_icmp_ne C (tgt := 109) dX3_stand_102 (by decide) (fun h9 => ?_) (fun h9 => ?_)
      · refine x_iconst C (v := 0) dX3_stand_109 (by decide) ?_
        exact x_zret C dX3_stand_110 (b := false) rfl (by rw [st_F, if_neg (by decide), if_neg (by decide), if_neg (by decide), if_neg (by decide), if_pos rfl, decide_eq_false h9]) rfl
      · refine x_iconst C (v := 1) dX3_stand_105 (by decide) ?_
        refine x_goto C (tgt := 110) dX3_stand_106 (by decide) ?_
        exact x_zret C dX3_stand_110 (b := true) rfl (by rw [st_F, if_neg (by decide), if_neg (by decide), if_neg (by decide), if_neg (by decide), if_pos rfl, decide_eq_true h9]) rfl
    refine x_tableOut C (tgt := 111) dX3_stand_22 (wo_out5 h0 h1 h2 h3 h4) (by decide) ?_
    refine x_iload_n C dX3_stand_111 rfl rfl ?_
    refine x_iload_n C dX3_stand_112 rfl rfl ?_
    refine x_icmp_eq C (tgt := 120) dX3_stand_113 (by decide) (fun h9 => ?_) (fun h9 => ?_)
    · refine x_iconst C (v := 0) dX3_stand_120 (by decide) ?_
      exact x_zret C dX3_stand_121 (b := false) rfl (by rw [st_F, if_neg h0, if_neg h1, if_neg h2, if_neg h3, if_neg h4, decide_eq_false (fun z => z h9)]) rfl
    · refine x_iconst C (v := 1) dX3_stand_116 (by decide) ?_
      refine x_goto C (tgt := 121) dX3_stand_117 (by decide) ?_
      exact x_zret C dX3_stand_121 (b := true) rfl (by rw [st_F, if_neg h0, if_neg h1, if_neg h2, if_neg h3, if_neg h4, decide_eq_true h9]) rfl
  refine x_iload_n C dX3_stand_0 rfl rfl ?_
  refine x_if_eq C (tgt := 8) dX3_stand_1 (by decide) (fun h => ?_) (fun h => ?_)
  · exact f8 (by rw [bz_f h]; rfl)
  · refine x_iload_n C dX3_stand_4 rfl rfl ?_
    refine x_if_ne C (tgt := 20) dX3_stand_5 (by decide) (fun h2 => ?_) (fun h2 => ?_)
    · exact f20 (by rw [bz_t h, bz_t h2]; rfl)
    · exact f8 (by rw [bz_f h2, Bool.and_false])
set_option maxRecDepth 100000 in
set_option maxHeartbeats 4000000 in
theorem c_X3_entryStands (i : Nat) (hi : i < 84) (what sign num : Int32) : wo_E l yX3_entryStands cX3_entryStands 6 (some .boolean) 1 D ((cI, .int) :: (cZ, .boolean) :: tys) [.ref (a 0), .int (nI i), .int what, .int sign, .int num] (wB cI cZ a co gr dy kd wo me ti td la go kp od no ax lv rh re rs ph pr o1 o2 ++ Y) (some (.int (bz (es_B kd wo ti td i what sign num)))) (wB cI cZ a co gr dy kd wo me ti td la go kp od no ax lv rh re rs ph pr o1 o2 ++ Y) := by
  refine wo_of (ls := [some (.ref (a 0)), some (.int (nI i)), some (.int what), some (.int sign), some (.int num), none]) (by decide) (Nat.le_of_ble_eq_true rfl) rfl ?_
  intro p e s m args below meth c A C
  have fin : ∀ (has : Bool) (v : Int32), has = (if what = 0 then decide (kd i = 1) else td i) → v = (if what = 0 then wo i else ti i) → wo_W p l e (wo_rm 1) s m args below meth c A D 0 0 6 (MQ below (wo_Q D ((cI, .int) :: (cZ, .boolean) :: tys) (some (.int (bz (es_B kd wo ti td i what sign num)))) (wB cI cZ a co gr dy kd wo me ti td la go kp od no ax lv rh re rs ph pr o1 o2 ++ Y) A) args s 0 0 A) 51 [some (.ref (a 0)), some (.int (nI i)), some (.int what), some (.int sign), some (.int num), some (.int (bz has))] [.int v, .int (bz has)] (wB cI cZ a co gr dy kd wo me ti td la go kp od no ax lv rh re rs ph pr o1 o2 ++ Y) := by
    intro has v hh hv
    have f63 : ∀ ho : Bool, ho = decide (¬ num = -1000000) → wo_W p l e (wo_rm 1) s m args below meth c A D 0 0 6 (MQ below (wo_Q D ((cI, .int) :: (cZ, .boolean) :: tys) (some (.int (bz (es_B kd wo ti td i what sign num)))) (wB cI cZ a co gr dy kd wo me ti td la go kp od no ax lv rh re rs ph pr o1 o2 ++ Y) A) args s 0 0 A) 63 [some (.ref (a 0)), some (.int (nI i)), some (.int what), some (.int sign), some (.int num), some (.int (bz has))] [.int (bz ho), .int v, .int (bz has)] (wB cI cZ a co gr dy kd wo me ti td la go kp od no ax lv rh re rs ph pr o1 o2 ++ Y) := by
      intro ho hho
      refine x_iload C dX3_entryStands_63 rfl ?_
      refine x_iload_n C dX3_entryStands_65 rfl rfl ?_
      refine x_callSi C gs_X3_125 (c_X3_stand has ho v num sign) rfl rfl (Nat.le_of_ble_eq_true rfl) ⟨(Nat.le_of_ble_eq_true rfl), (Nat.le_of_ble_eq_true rfl)⟩ ⟨Nat.zero_le _, Nat.zero_le _⟩ dX3_entryStands_66 ?_
      exact x_zret C dX3_entryStands_69 (b := st_B has v ho num sign) rfl (by rw [es_B, hh, hv, hho]) rfl
    refine x_iload C dX3_entryStands_51 rfl ?_
    refine x_ldc C kk_X3_124 dX3_entryStands_53 ?_
    refine x_icmp_eq C (tgt := 62) dX3_entryStands_55 (by decide) (fun h => ?_) (fun h => ?_)
    · refine x_iconst C (v := 0) dX3_entryStands_62 (by decide) ?_
      exact f63 false (by rw [decide_eq_false (fun z => z h)])
    · refine x_iconst C (v := 1) dX3_entryStands_58 (by decide) ?_
      refine x_goto C (tgt := 63) dX3_entryStands_59 (by decide) ?_
      exact f63 true (by rw [decide_eq_true h])
  have f28 : ∀ (has : Bool), has = (if what = 0 then decide (kd i = 1) else td i) → wo_W p l e (wo_rm 1) s m args below meth c A D 0 0 6 (MQ below (wo_Q D ((cI, .int) :: (cZ, .boolean) :: tys) (some (.int (bz (es_B kd wo ti td i what sign num)))) (wB cI cZ a co gr dy kd wo me ti td la go kp od no ax lv rh re rs ph pr o1 o2 ++ Y) A) args s 0 0 A) 28 [some (.ref (a 0)), some (.int (nI i)), some (.int what), some (.int sign), some (.int num), none] [.int (bz has)] (wB cI cZ a co gr dy kd wo me ti td la go kp od no ax lv rh re rs ph pr o1 o2 ++ Y) := by
    intro has hh
    refine x_istore C dX3_entryStands_28 (by decide) ?_
    refine x_iload C dX3_entryStands_30 rfl ?_
    refine x_iload_n C dX3_entryStands_32 rfl rfl ?_
    refine x_if_ne C (tgt := 45) dX3_entryStands_33 (by decide) (fun h => ?_) (fun h => ?_)
    · refine x_aload_n C dX3_entryStands_45 rfl rfl ?_
      refine gB0_tilt C dX3_entryStands_46 ?_
      refine x_iload_n C dX3_entryStands_49 rfl rfl ?_
      refine lB_ti C _ rfl (by omega) dX3_entryStands_50 ?_
      exact fin has _ hh (by rw [if_neg h])
    · refine x_aload_n C dX3_entryStands_36 rfl rfl ?_
      refine gB0_worth C dX3_entryStands_37 ?_
      refine x_iload_n C dX3_entryStands_40 rfl rfl ?_
      refine lB_wo C _ rfl (by omega) dX3_entryStands_41 ?_
      refine x_goto C (tgt := 51) dX3_entryStands_42 (by decide) ?_
      exact fin has _ hh (by rw [if_pos h])
  refine x_iload_n C dX3_entryStands_0 rfl rfl ?_
  refine x_if_ne C (tgt := 22) dX3_entryStands_1 (by decide) (fun h => ?_) (fun h => ?_)
  · refine x_aload_n C dX3_entryStands_22 rfl rfl ?_
    refine gB0_tilted C dX3_entryStands_23 ?_
    refine x_iload_n C dX3_entryStands_26 rfl rfl ?_
    refine lB_td C _ rfl (by omega) dX3_entryStands_27 ?_
    exact f28 _ (by rw [if_neg h])
  · refine x_aload_n C dX3_entryStands_4 rfl rfl ?_
    refine gB0_kind C dX3_entryStands_5 ?_
    refine x_iload_n C dX3_entryStands_8 rfl rfl ?_
    refine lB_kd C _ rfl (by omega) dX3_entryStands_9 ?_
    refine x_iconst C (v := 1) dX3_entryStands_10 (by decide) ?_
    refine x_icmp_ne C (tgt := 18) dX3_entryStands_11 (by decide) (fun h2 => ?_) (fun h2 => ?_)
    · refine x_iconst C (v := 0) dX3_entryStands_18 (by decide) ?_
      refine x_goto C (tgt := 28) dX3_entryStands_19 (by decide) ?_
      exact f28 false (by rw [if_pos h, decide_eq_false h2])
    · refine x_iconst C (v := 1) dX3_entryStands_14 (by decide) ?_
      refine x_goto C (tgt := 28) dX3_entryStands_15 (by decide) ?_
      exact f28 true (by rw [if_pos h, decide_eq_true h2])
set_option maxRecDepth 100000 in
set_option maxHeartbeats 4000000 in
theorem c_X3_isAsked (x y : Int32) : wo_E l yX3_isAsked cX3_isAsked 3 (some .boolean) 1 D ((cI, .int) :: (cZ, .boolean) :: tys) [.ref (a 0), .int x, .int y] (wB cI cZ a co gr dy kd wo me ti td la go kp od no ax lv rh re rs ph pr o1 o2 ++ Y) (some (.int (bz (in_B x 0 1 && in_B y 0 5)))) (wB cI cZ a (if in_B x 0 1 && in_B y 0 5 then 0 else 1) gr dy kd wo me ti td la go kp od no ax lv rh re rs ph pr o1 o2 ++ Y) := by
  refine wo_of (ls := [some (.ref (a 0)), some (.int x), some (.int y)]) (by decide) (Nat.le_of_ble_eq_true rfl) rfl ?_
  intro p e s m args below meth c A C
  have f23 : (in_B x 0 1 && in_B y 0 5) = false → wo_W p l e (wo_rm 1) s m args below meth c A D 0 0 3 (MQ below (wo_Q D ((cI, .int) :: (cZ, .boolean) :: tys) (some (.int (bz (in_B x 0 1 && in_B y 0 5)))) (wB cI cZ a (if in_B x 0 1 && in_B y 0 5 then 0 else 1) gr dy kd wo me ti td la go kp od no ax lv rh re rs ph pr o1 o2 ++ Y) A) args s 0 0 A) 23 [some (.ref (a 0)), some (.int x), some (.int y)] [.ref (a 0)] (wB cI cZ a co gr dy kd wo me ti td la go kp od no ax lv rh re rs ph pr o1 o2 ++ Y) := by
    intro h
    rw [h]
    refine x_iconst C (v := 1) dX3_isAsked_23 (by decide) ?_
    refine pB0_code C _ dX3_isAsked_24 ?_
    refine x_aload_n C dX3_isAsked_27 rfl rfl ?_
    refine gB0_code C dX3_isAsked_28 ?_
    refine x_if_ne C (tgt := 38) dX3_isAsked_31 (by decide) (fun h2 => ?_) (fun h2 => ?_)
    · refine x_iconst C (v := 0) dX3_isAsked_38 (by decide) ?_
      exact x_zret C dX3_isAsked_39 (b := false) rfl rfl rfl
    · exact absurd h2 (by decide)
  refine x_aload_n C dX3_isAsked_0 rfl rfl ?_
  refine x_iload_n C dX3_isAsked_1 rfl rfl ?_
  refine x_iconst C (v := 0) dX3_isAsked_2 (by decide) ?_
  refine x_iconst C (v := 1) dX3_isAsked_3 (by decide) ?_
  refine x_callSi C gs_X3_48 (c_X3_in x 0 1) rfl rfl (Nat.le_of_ble_eq_true rfl) ⟨(Nat.le_of_ble_eq_true rfl), (Nat.le_of_ble_eq_true rfl)⟩ ⟨Nat.zero_le _, Nat.zero_le _⟩ dX3_isAsked_4 ?_
  refine x_if_eq C (tgt := 23) dX3_isAsked_7 (by decide) (fun h => ?_) (fun h => ?_)
  · exact f23 (by rw [bz_f h]; rfl)
  · refine x_iload_n C dX3_isAsked_10 rfl rfl ?_
    refine x_iconst C (v := 0) dX3_isAsked_11 (by decide) ?_
    refine x_iconst C (v := 5) dX3_isAsked_12 (by decide) ?_
    refine x_callSi C gs_X3_48 (c_X3_in y 0 5) rfl rfl (Nat.le_of_ble_eq_true rfl) ⟨(Nat.le_of_ble_eq_true rfl), (Nat.le_of_ble_eq_true rfl)⟩ ⟨Nat.zero_le _, Nat.zero_le _⟩ dX3_isAsked_13 ?_
    refine x_if_eq C (tgt := 23) dX3_isAsked_16 (by decide) (fun h2 => ?_) (fun h2 => ?_)
    · exact f23 (by rw [bz_f h2, Bool.and_false])
    · refine x_iconst C (v := 0) dX3_isAsked_19 (by decide) ?_
      refine x_goto C (tgt := 24) dX3_isAsked_20 (by decide) ?_
      refine pB0_code C _ dX3_isAsked_24 ?_
      refine x_aload_n C dX3_isAsked_27 rfl rfl ?_
      refine gB0_code C dX3_isAsked_28 ?_
      refine x_if_ne C (tgt := 38) dX3_isAsked_31 (by decide) (fun h3 => ?_) (fun h3 => ?_)
      · exact absurd rfl h3
      · refine x_iconst C (v := 1) dX3_isAsked_34 (by decide) ?_
        refine x_goto C (tgt := 39) dX3_isAsked_35 (by decide) ?_
        exact x_zret C dX3_isAsked_39 (b := true) rfl (by rw [bz_t h, bz_t h2]; rfl) (by rw [bz_t h, bz_t h2]; rfl)
end MDF
