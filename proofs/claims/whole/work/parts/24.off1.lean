/-! ===== the class: its small methods ===== -/
def rec_A (w t rp : Int32) : Bool := decide (¬ t = -1000000 ∧ t ≤ 20 ∧ (rp = -1000000 ∨ rp < w))
theorem inB_of {v lo hi : Int32} (h1 : ¬ v < lo) (h2 : v ≤ hi) : in_B v lo hi = true := decide_eq_true ⟨Int32.not_lt.mp h1, h2⟩
theorem inB_lo {v lo hi : Int32} (h : v < lo) : in_B v lo hi = false := decide_eq_false fun z => Int32.not_lt.mpr z.1 h
theorem inB_hi {v lo hi : Int32} (h : ¬ v ≤ hi) : in_B v lo hi = false := decide_eq_false fun z => h z.2
theorem inB_lt {x : Int32} {g : Nat} (hg : 1 ≤ g) (hg2 : g ≤ 12) (h0 : ¬ x < 0) (h : x < nI g) : in_B x 0 (nI (g - 1)) = true := by
  obtain ⟨j, hj, rfl⟩ := nI_of h0
  have h2 := wo_lt (by omega) (by omega) h
  exact decide_eq_true ⟨nI_pos' hj, nI_le (by omega) (by omega)⟩
theorem inB_nlt {x : Int32} {g : Nat} (hg : 1 ≤ g) (hg2 : g ≤ 12) (h : ¬ x < nI g) : in_B x 0 (nI (g - 1)) = false := by
  refine decide_eq_false fun z => ?_
  obtain ⟨j, hj, rfl⟩ := nI_of (Int32.not_lt.mpr z.1)
  have h2 := wo_nlt (by omega) (by omega) h
  have h3 := wo_le (by omega) (by omega) z.2
  omega
theorem inB_01 {x : Int32} : in_B x 0 1 = true ↔ x = 0 ∨ x = 1 := by
  refine ⟨fun h => ?_, fun h => by rcases h with rfl | rfl <;> decide⟩
  obtain ⟨h1, h2⟩ := inB_t h
  obtain ⟨j, hj, rfl⟩ := nI_of (Int32.not_lt.mpr h1)
  have h3 := wo_le (a := j) (b := 1) (by omega) (by omega) h2
  have h4 : j = 0 ∨ j = 1 := by omega
  rcases h4 with rfl | rfl
  · exact Or.inl rfl
  · exact Or.inr rfl
theorem inB_5 {x : Int32} (h0 : ¬ x < 0) (h : x < 6) : in_B x 0 5 = true := by
  obtain ⟨j, hj, rfl⟩ := nI_of h0
  have h2 := wo_lt (a := j) (b := 6) (by omega) (by omega) h
  exact decide_eq_true ⟨nI_pos' hj, nI_le (b := 5) (by omega) (by omega)⟩
theorem inB_n5 {x : Int32} (h : ¬ x < 6) : in_B x 0 5 = false := by
  refine decide_eq_false fun z => ?_
  obtain ⟨j, hj, rfl⟩ := nI_of (Int32.not_lt.mpr z.1)
  have h2 := wo_nlt (a := j) (b := 6) (by omega) (by omega) h
  have h3 := wo_le (a := j) (b := 5) (by omega) (by omega) z.2
  omega
section OFA
variable {l : Launch} {D : va_G} {tys : List (ClassId × FieldType)} {cI cZ : ClassId} {a : Nat → Nat} {Y : va_W} {gr : Nat} {en : Nat} {mk : Nat → Int32} {tl : Nat → Int32} {me : Nat → Int32} {rk : Nat → Int32} {dy : Nat} {ln : Nat → Nat} {ll : Nat} {ps : Nat} {lf : Nat → Bool} {lc : Nat} {tc : Nat → Bool} {tp : Nat → Nat} {lv : Bool} {rp : Int32} {rc : Int32} {pp : Int32}
set_option maxRecDepth 100000 in
set_option maxHeartbeats 4000000 in
theorem c_X2_requireTurn (hp : ps < ll) (hl : ll ≤ 12) (hln : ∀ k, k < ll → ln k < 12) : wo_E l yX2_requireTurn cX2_requireTurn 2 (some .int) 1 D ((cI, .int) :: (cZ, .boolean) :: tys) [.ref (a 0)] (wA cI cZ a gr en mk tl me rk dy ln ll ps lf lc tc tp lv rp rc pp ++ Y) (some (.int (nI (ln ps)))) (wA cI cZ a gr en mk tl me rk dy ln ll ps lf lc tc tp lv rp rc pp ++ Y) := by
  refine wo_of (ls := [some (.ref (a 0)), none]) (by decide) (Nat.le_of_ble_eq_true rfl) rfl ?_
  intro p e s m args below meth c A C
  have h5 := hln ps hp
  refine x_aload_n C dX2_requireTurn_0 rfl rfl ?_
  refine gA0_course C dX2_requireTurn_1 ?_
  refine x_callVi C gv_X2_119 (c_X0_whoseTurn (by omega) hl) 6 rfl rfl rfl rfl (Nat.le_of_ble_eq_true rfl) ⟨(Nat.le_of_ble_eq_true rfl), (Nat.le_of_ble_eq_true rfl)⟩ ⟨Nat.zero_le _, Nat.zero_le _⟩ dX2_requireTurn_4 ?_
  refine x_top (y := nI (ln ps)) (if_pos hp) ?_
  refine x_istore_n C dX2_requireTurn_7 rfl (by decide) ?_
  refine x_iload_n C dX2_requireTurn_8 rfl rfl ?_
  refine x_ldc C kk_X2_29 dX2_requireTurn_9 ?_
  refine x_icmp_ne C (tgt := 24) dX2_requireTurn_11 (by decide) (fun h => ?_) (fun h => ?_)
  · refine x_iload_n C dX2_requireTurn_24 rfl rfl ?_
    exact x_iret C dX2_requireTurn_25 rfl rfl
  · have h6 := congrArg Int32.toInt h
    rw [nI_toInt (by omega), show (-1000000 : Int32).toInt = -1000000 by decide] at h6
    omega
set_option maxRecDepth 100000 in
set_option maxHeartbeats 4000000 in
theorem t_X2_requireTurn (hl : l.stackTraces = false) (hp : ps ≤ 12) (hll : ll ≤ 12) (hn : ¬ ps < ll) : wo_X l yX2_requireTurn cX2_requireTurn 2 (some .int) 6 D ((cI, .int) :: (cZ, .boolean) :: tys) [.ref (a 0)] (wA cI cZ a gr en mk tl me rk dy ln ll ps lf lc tc tp lv rp rc pp ++ Y) wo_ISE := by
  refine wo_ofX (ls := [some (.ref (a 0)), none]) (by decide) (Nat.le_of_ble_eq_true rfl) rfl ?_
  intro p e s m args below meth c A C ht hX
  refine x_aload_n C dX2_requireTurn_0 rfl rfl ?_
  refine gA0_course C dX2_requireTurn_1 ?_
  refine x_callVi C gv_X2_119 (c_X0_whoseTurn hp hll) 6 rfl rfl rfl rfl (Nat.le_of_ble_eq_true rfl) ⟨(Nat.le_of_ble_eq_true rfl), (Nat.le_of_ble_eq_true rfl)⟩ ⟨Nat.zero_le _, Nat.zero_le _⟩ dX2_requireTurn_4 ?_
  refine x_top (y := -1000000) (if_neg hn) ?_
  refine x_istore_n C dX2_requireTurn_7 rfl (by decide) ?_
  refine x_iload_n C dX2_requireTurn_8 rfl rfl ?_
  refine x_ldc C kk_X2_29 dX2_requireTurn_9 ?_
  refine x_icmp_ne C (tgt := 24) dX2_requireTurn_11 (by decide) (fun h => ?_) (fun h => ?_)
  · exact absurd rfl h
  · exact x_throw C ht hl hX wo_x2 (List.mem_of_getElem? (i := 3) rfl) ⟨(Nat.le_of_ble_eq_true rfl), (Nat.le_of_ble_eq_true rfl), (Nat.le_of_ble_eq_true rfl), (Nat.le_of_ble_eq_true rfl)⟩ dX2_requireTurn_14 dX2_requireTurn_17 dX2_requireTurn_18 dX2_requireTurn_20 dX2_requireTurn_23
set_option maxRecDepth 100000 in
set_option maxHeartbeats 4000000 in
theorem c_X2_requireGrower (x : Int32) (hg : 1 ≤ gr) (hg2 : gr ≤ 12) (hx : in_B x 0 (nI (gr - 1)) = true) : wo_E l yX2_requireGrower cX2_requireGrower 2 (none) 1 D ((cI, .int) :: (cZ, .boolean) :: tys) [.ref (a 0), .int x] (wA cI cZ a gr en mk tl me rk dy ln ll ps lf lc tc tp lv rp rc pp ++ Y) none (wA cI cZ a gr en mk tl me rk dy ln ll ps lf lc tc tp lv rp rc pp ++ Y) := by
  refine wo_of (ls := [some (.ref (a 0)), some (.int x)]) (by decide) (Nat.le_of_ble_eq_true rfl) rfl ?_
  intro p e s m args below meth c A C
  refine x_iload_n C dX2_requireGrower_0 rfl rfl ?_
  refine x_if_lt C (tgt := 15) dX2_requireGrower_1 (by decide) (fun h => ?_) (fun h => ?_)
  · exact absurd hx (by rw [inB_lo h]; decide)
  · refine x_iload_n C dX2_requireGrower_4 rfl rfl ?_
    refine x_aload_n C dX2_requireGrower_5 rfl rfl ?_
    refine gA0_sheet C dX2_requireGrower_6 ?_
    refine x_callVi C gv_X2_137 (c_X1_howManyGrowers) 1 rfl rfl rfl rfl (Nat.le_of_ble_eq_true rfl) ⟨(Nat.le_of_ble_eq_true rfl), (Nat.le_of_ble_eq_true rfl)⟩ ⟨Nat.zero_le _, Nat.zero_le _⟩ dX2_requireGrower_9 ?_
    refine x_icmp_lt C (tgt := 25) dX2_requireGrower_12 (by decide) (fun h2 => ?_) (fun h2 => ?_)
    · exact x_vret C dX2_requireGrower_25 rfl rfl
    · exact absurd hx (by rw [inB_nlt hg hg2 h2]; decide)
set_option maxRecDepth 100000 in
set_option maxHeartbeats 4000000 in
theorem t_X2_requireGrower (hl : l.stackTraces = false) (x : Int32) (hg : 1 ≤ gr) (hg2 : gr ≤ 12) (hx : in_B x 0 (nI (gr - 1)) = false) : wo_X l yX2_requireGrower cX2_requireGrower 2 (none) 6 D ((cI, .int) :: (cZ, .boolean) :: tys) [.ref (a 0), .int x] (wA cI cZ a gr en mk tl me rk dy ln ll ps lf lc tc tp lv rp rc pp ++ Y) wo_IAE := by
  refine wo_ofX (ls := [some (.ref (a 0)), some (.int x)]) (by decide) (Nat.le_of_ble_eq_true rfl) rfl ?_
  intro p e s m args below meth c A C ht hX
  refine x_iload_n C dX2_requireGrower_0 rfl rfl ?_
  refine x_if_lt C (tgt := 15) dX2_requireGrower_1 (by decide) (fun h => ?_) (fun h => ?_)
  · exact x_throw C ht hl hX wo_x1 (List.mem_of_getElem? (i := 4) rfl) ⟨(Nat.le_of_ble_eq_true rfl), (Nat.le_of_ble_eq_true rfl), (Nat.le_of_ble_eq_true rfl), (Nat.le_of_ble_eq_true rfl)⟩ dX2_requireGrower_15 dX2_requireGrower_18 dX2_requireGrower_19 dX2_requireGrower_21 dX2_requireGrower_24
  · refine x_iload_n C dX2_requireGrower_4 rfl rfl ?_
    refine x_aload_n C dX2_requireGrower_5 rfl rfl ?_
    refine gA0_sheet C dX2_requireGrower_6 ?_
    refine x_callVi C gv_X2_137 (c_X1_howManyGrowers) 1 rfl rfl rfl rfl (Nat.le_of_ble_eq_true rfl) ⟨(Nat.le_of_ble_eq_true rfl), (Nat.le_of_ble_eq_true rfl)⟩ ⟨Nat.zero_le _, Nat.zero_le _⟩ dX2_requireGrower_9 ?_
    refine x_icmp_lt C (tgt := 25) dX2_requireGrower_12 (by decide) (fun h2 => ?_) (fun h2 => ?_)
    · exact absurd hx (by rw [inB_lt hg hg2 h h2]; decide)
    · exact x_throw C ht hl hX wo_x1 (List.mem_of_getElem? (i := 4) rfl) ⟨(Nat.le_of_ble_eq_true rfl), (Nat.le_of_ble_eq_true rfl), (Nat.le_of_ble_eq_true rfl), (Nat.le_of_ble_eq_true rfl)⟩ dX2_requireGrower_15 dX2_requireGrower_18 dX2_requireGrower_19 dX2_requireGrower_21 dX2_requireGrower_24
set_option maxRecDepth 100000 in
set_option maxHeartbeats 4000000 in
theorem c_X2_requireDay {ws : va_W} (x : Int32) (hx : in_B x 1 6 = true) : wo_E l yX2_requireDay cX2_requireDay 1 (none) 0 D ((cI, .int) :: (cZ, .boolean) :: tys) [.int x] (ws) none (ws) := by
  refine wo_of (ls := [some (.int x)]) (by decide) (Nat.le_of_ble_eq_true rfl) rfl ?_
  intro p e s m args below meth c A C
  refine x_iload_n C dX2_requireDay_0 rfl rfl ?_
  refine x_iconst C (v := 1) dX2_requireDay_1 (by decide) ?_
  refine x_icmp_lt C (tgt := 11) dX2_requireDay_2 (by decide) (fun h => ?_) (fun h => ?_)
  · exact absurd hx (by rw [inB_lo h]; decide)
  · refine x_iload_n C dX2_requireDay_5 rfl rfl ?_
    refine x_bipush C (v := 6) dX2_requireDay_6 (by decide) ?_
    refine x_icmp_le C (tgt := 21) dX2_requireDay_8 (by decide) (fun h2 => ?_) (fun h2 => ?_)
    · exact x_vret C dX2_requireDay_21 rfl rfl
    · exact absurd hx (by rw [inB_hi h2]; decide)
set_option maxRecDepth 100000 in
set_option maxHeartbeats 4000000 in
theorem t_X2_requireDay (hl : l.stackTraces = false) {ws : va_W} (x : Int32) (hx : in_B x 1 6 = false) : wo_X l yX2_requireDay cX2_requireDay 1 (none) 6 D ((cI, .int) :: (cZ, .boolean) :: tys) [.int x] (ws) wo_IAE := by
  refine wo_ofX (ls := [some (.int x)]) (by decide) (Nat.le_of_ble_eq_true rfl) rfl ?_
  intro p e s m args below meth c A C ht hX
  refine x_iload_n C dX2_requireDay_0 rfl rfl ?_
  refine x_iconst C (v := 1) dX2_requireDay_1 (by decide) ?_
  refine x_icmp_lt C (tgt := 11) dX2_requireDay_2 (by decide) (fun h => ?_) (fun h => ?_)
  · exact x_throw C ht hl hX wo_x1 (List.mem_of_getElem? (i := 6) rfl) ⟨(Nat.le_of_ble_eq_true rfl), (Nat.le_of_ble_eq_true rfl), (Nat.le_of_ble_eq_true rfl), (Nat.le_of_ble_eq_true rfl)⟩ dX2_requireDay_11 dX2_requireDay_14 dX2_requireDay_15 dX2_requireDay_17 dX2_requireDay_20
  · refine x_iload_n C dX2_requireDay_5 rfl rfl ?_
    refine x_bipush C (v := 6) dX2_requireDay_6 (by decide) ?_
    refine x_icmp_le C (tgt := 21) dX2_requireDay_8 (by decide) (fun h2 => ?_) (fun h2 => ?_)
    · exact absurd hx (by rw [inB_of h h2]; decide)
    · exact x_throw C ht hl hX wo_x1 (List.mem_of_getElem? (i := 6) rfl) ⟨(Nat.le_of_ble_eq_true rfl), (Nat.le_of_ble_eq_true rfl), (Nat.le_of_ble_eq_true rfl), (Nat.le_of_ble_eq_true rfl)⟩ dX2_requireDay_11 dX2_requireDay_14 dX2_requireDay_15 dX2_requireDay_17 dX2_requireDay_20
set_option maxRecDepth 100000 in
set_option maxHeartbeats 4000000 in
theorem c_X2_requireTenthPounds {ws : va_W} (x : Int32) (hx : in_B x 100 9999 = true) : wo_E l yX2_requireTenthPounds cX2_requireTenthPounds 1 (none) 0 D ((cI, .int) :: (cZ, .boolean) :: tys) [.int x] (ws) none (ws) := by
  refine wo_of (ls := [some (.int x)]) (by decide) (Nat.le_of_ble_eq_true rfl) rfl ?_
  intro p e s m args below meth c A C
  refine x_iload_n C dX2_requireTenthPounds_0 rfl rfl ?_
  refine x_bipush C (v := 100) dX2_requireTenthPounds_1 (by decide) ?_
  refine x_icmp_lt C (tgt := 13) dX2_requireTenthPounds_3 (by decide) (fun h => ?_) (fun h => ?_)
  · exact absurd hx (by rw [inB_lo h]; decide)
  · refine x_iload_n C dX2_requireTenthPounds_6 rfl rfl ?_
    refine x_sipush C (v := 9999) dX2_requireTenthPounds_7 (by decide) ?_
    refine x_icmp_le C (tgt := 23) dX2_requireTenthPounds_10 (by decide) (fun h2 => ?_) (fun h2 => ?_)
    · exact x_vret C dX2_requireTenthPounds_23 rfl rfl
    · exact absurd hx (by rw [inB_hi h2]; decide)
set_option maxRecDepth 100000 in
set_option maxHeartbeats 4000000 in
theorem t_X2_requireTenthPounds (hl : l.stackTraces = false) {ws : va_W} (x : Int32) (hx : in_B x 100 9999 = false) : wo_X l yX2_requireTenthPounds cX2_requireTenthPounds 1 (none) 6 D ((cI, .int) :: (cZ, .boolean) :: tys) [.int x] (ws) wo_IAE := by
  refine wo_ofX (ls := [some (.int x)]) (by decide) (Nat.le_of_ble_eq_true rfl) rfl ?_
  intro p e s m args below meth c A C ht hX
  refine x_iload_n C dX2_requireTenthPounds_0 rfl rfl ?_
  refine x_bipush C (v := 100) dX2_requireTenthPounds_1 (by decide) ?_
  refine x_icmp_lt C (tgt := 13) dX2_requireTenthPounds_3 (by decide) (fun h => ?_) (fun h => ?_)
  · exact x_throw C ht hl hX wo_x1 (List.mem_of_getElem? (i := 1) rfl) ⟨(Nat.le_of_ble_eq_true rfl), (Nat.le_of_ble_eq_true rfl), (Nat.le_of_ble_eq_true rfl), (Nat.le_of_ble_eq_true rfl)⟩ dX2_requireTenthPounds_13 dX2_requireTenthPounds_16 dX2_requireTenthPounds_17 dX2_requireTenthPounds_19 dX2_requireTenthPounds_22
  · refine x_iload_n C dX2_requireTenthPounds_6 rfl rfl ?_
    refine x_sipush C (v := 9999) dX2_requireTenthPounds_7 (by decide) ?_
    refine x_icmp_le C (tgt := 23) dX2_requireTenthPounds_10 (by decide) (fun h2 => ?_) (fun h2 => ?_)
    · exact absurd hx (by rw [inB_of h h2]; decide)
    · exact x_throw C ht hl hX wo_x1 (List.mem_of_getElem? (i := 1) rfl) ⟨(Nat.le_of_ble_eq_true rfl), (Nat.le_of_ble_eq_true rfl), (Nat.le_of_ble_eq_true rfl), (Nat.le_of_ble_eq_true rfl)⟩ dX2_requireTenthPounds_13 dX2_requireTenthPounds_16 dX2_requireTenthPounds_17 dX2_requireTenthPounds_19 dX2_requireTenthPounds_22
set_option maxRecDepth 100000 in
set_option maxHeartbeats 4000000 in
theorem c_X2_requireTenths {ws : va_W} (x : Int32) (hx : in_B x (-99) 99 = true) : wo_E l yX2_requireTenths cX2_requireTenths 1 (none) 0 D ((cI, .int) :: (cZ, .boolean) :: tys) [.int x] (ws) none (ws) := by
  refine wo_of (ls := [some (.int x)]) (by decide) (Nat.le_of_ble_eq_true rfl) rfl ?_
  intro p e s m args below meth c A C
  refine x_iload_n C dX2_requireTenths_0 rfl rfl ?_
  refine x_bipush C (v := -99) dX2_requireTenths_1 (by decide) ?_
  refine x_icmp_lt C (tgt := 12) dX2_requireTenths_3 (by decide) (fun h => ?_) (fun h => ?_)
  · exact absurd hx (by rw [inB_lo h]; decide)
  · refine x_iload_n C dX2_requireTenths_6 rfl rfl ?_
    refine x_bipush C (v := 99) dX2_requireTenths_7 (by decide) ?_
    refine x_icmp_le C (tgt := 22) dX2_requireTenths_9 (by decide) (fun h2 => ?_) (fun h2 => ?_)
    · exact x_vret C dX2_requireTenths_22 rfl rfl
    · exact absurd hx (by rw [inB_hi h2]; decide)
set_option maxRecDepth 100000 in
set_option maxHeartbeats 4000000 in
theorem t_X2_requireTenths (hl : l.stackTraces = false) {ws : va_W} (x : Int32) (hx : in_B x (-99) 99 = false) : wo_X l yX2_requireTenths cX2_requireTenths 1 (none) 6 D ((cI, .int) :: (cZ, .boolean) :: tys) [.int x] (ws) wo_IAE := by
  refine wo_ofX (ls := [some (.int x)]) (by decide) (Nat.le_of_ble_eq_true rfl) rfl ?_
  intro p e s m args below meth c A C ht hX
  refine x_iload_n C dX2_requireTenths_0 rfl rfl ?_
  refine x_bipush C (v := -99) dX2_requireTenths_1 (by decide) ?_
  refine x_icmp_lt C (tgt := 12) dX2_requireTenths_3 (by decide) (fun h => ?_) (fun h => ?_)
  · exact x_throw C ht hl hX wo_x1 (List.mem_of_getElem? (i := 2) rfl) ⟨(Nat.le_of_ble_eq_true rfl), (Nat.le_of_ble_eq_true rfl), (Nat.le_of_ble_eq_true rfl), (Nat.le_of_ble_eq_true rfl)⟩ dX2_requireTenths_12 dX2_requireTenths_15 dX2_requireTenths_16 dX2_requireTenths_18 dX2_requireTenths_21
  · refine x_iload_n C dX2_requireTenths_6 rfl rfl ?_
    refine x_bipush C (v := 99) dX2_requireTenths_7 (by decide) ?_
    refine x_icmp_le C (tgt := 22) dX2_requireTenths_9 (by decide) (fun h2 => ?_) (fun h2 => ?_)
    · exact absurd hx (by rw [inB_of h h2]; decide)
    · exact x_throw C ht hl hX wo_x1 (List.mem_of_getElem? (i := 2) rfl) ⟨(Nat.le_of_ble_eq_true rfl), (Nat.le_of_ble_eq_true rfl), (Nat.le_of_ble_eq_true rfl), (Nat.le_of_ble_eq_true rfl)⟩ dX2_requireTenths_12 dX2_requireTenths_15 dX2_requireTenths_16 dX2_requireTenths_18 dX2_requireTenths_21
set_option maxRecDepth 100000 in
set_option maxHeartbeats 4000000 in
theorem c_X2_requirePounds {ws : va_W} (x : Int32) (hx : in_B x 0 999 = true) : wo_E l yX2_requirePounds cX2_requirePounds 1 (none) 0 D ((cI, .int) :: (cZ, .boolean) :: tys) [.int x] (ws) none (ws) := by
  refine wo_of (ls := [some (.int x)]) (by decide) (Nat.le_of_ble_eq_true rfl) rfl ?_
  intro p e s m args below meth c A C
  refine x_iload_n C dX2_requirePounds_0 rfl rfl ?_
  refine x_if_lt C (tgt := 11) dX2_requirePounds_1 (by decide) (fun h => ?_) (fun h => ?_)
  · exact absurd hx (by rw [inB_lo h]; decide)
  · refine x_iload_n C dX2_requirePounds_4 rfl rfl ?_
    refine x_sipush C (v := 999) dX2_requirePounds_5 (by decide) ?_
    refine x_icmp_le C (tgt := 21) dX2_requirePounds_8 (by decide) (fun h2 => ?_) (fun h2 => ?_)
    · exact x_vret C dX2_requirePounds_21 rfl rfl
    · exact absurd hx (by rw [inB_hi h2]; decide)
set_option maxRecDepth 100000 in
set_option maxHeartbeats 4000000 in
theorem t_X2_requirePounds (hl : l.stackTraces = false) {ws : va_W} (x : Int32) (hx : in_B x 0 999 = false) : wo_X l yX2_requirePounds cX2_requirePounds 1 (none) 6 D ((cI, .int) :: (cZ, .boolean) :: tys) [.int x] (ws) wo_IAE := by
  refine wo_ofX (ls := [some (.int x)]) (by decide) (Nat.le_of_ble_eq_true rfl) rfl ?_
  intro p e s m args below meth c A C ht hX
  refine x_iload_n C dX2_requirePounds_0 rfl rfl ?_
  refine x_if_lt C (tgt := 11) dX2_requirePounds_1 (by decide) (fun h => ?_) (fun h => ?_)
  · exact x_throw C ht hl hX wo_x1 (List.mem_of_getElem? (i := 8) rfl) ⟨(Nat.le_of_ble_eq_true rfl), (Nat.le_of_ble_eq_true rfl), (Nat.le_of_ble_eq_true rfl), (Nat.le_of_ble_eq_true rfl)⟩ dX2_requirePounds_11 dX2_requirePounds_14 dX2_requirePounds_15 dX2_requirePounds_17 dX2_requirePounds_20
  · refine x_iload_n C dX2_requirePounds_4 rfl rfl ?_
    refine x_sipush C (v := 999) dX2_requirePounds_5 (by decide) ?_
    refine x_icmp_le C (tgt := 21) dX2_requirePounds_8 (by decide) (fun h2 => ?_) (fun h2 => ?_)
    · exact absurd hx (by rw [inB_of h h2]; decide)
    · exact x_throw C ht hl hX wo_x1 (List.mem_of_getElem? (i := 8) rfl) ⟨(Nat.le_of_ble_eq_true rfl), (Nat.le_of_ble_eq_true rfl), (Nat.le_of_ble_eq_true rfl), (Nat.le_of_ble_eq_true rfl)⟩ dX2_requirePounds_11 dX2_requirePounds_14 dX2_requirePounds_15 dX2_requirePounds_17 dX2_requirePounds_20
set_option maxRecDepth 100000 in
set_option maxHeartbeats 4000000 in
theorem c_X2_requireWhat {ws : va_W} (x : Int32) (hx : in_B x 0 1 = true) : wo_E l yX2_requireWhat cX2_requireWhat 1 (none) 0 D ((cI, .int) :: (cZ, .boolean) :: tys) [.int x] (ws) none (ws) := by
  refine wo_of (ls := [some (.int x)]) (by decide) (Nat.le_of_ble_eq_true rfl) rfl ?_
  intro p e s m args below meth c A C
  refine x_iload_n C dX2_requireWhat_0 rfl rfl ?_
  refine x_if_eq C (tgt := 19) dX2_requireWhat_1 (by decide) (fun h => ?_) (fun h => ?_)
  · exact x_vret C dX2_requireWhat_19 rfl rfl
  · refine x_iload_n C dX2_requireWhat_4 rfl rfl ?_
    refine x_iconst C (v := 1) dX2_requireWhat_5 (by decide) ?_
    refine x_icmp_eq C (tgt := 19) dX2_requireWhat_6 (by decide) (fun h2 => ?_) (fun h2 => ?_)
    · exact x_vret C dX2_requireWhat_19 rfl rfl
    · exact absurd (inB_01.mp hx) (fun z => z.elim h h2)
set_option maxRecDepth 100000 in
set_option maxHeartbeats 4000000 in
theorem t_X2_requireWhat (hl : l.stackTraces = false) {ws : va_W} (x : Int32) (hx : in_B x 0 1 = false) : wo_X l yX2_requireWhat cX2_requireWhat 1 (none) 6 D ((cI, .int) :: (cZ, .boolean) :: tys) [.int x] (ws) wo_IAE := by
  refine wo_ofX (ls := [some (.int x)]) (by decide) (Nat.le_of_ble_eq_true rfl) rfl ?_
  intro p e s m args below meth c A C ht hX
  refine x_iload_n C dX2_requireWhat_0 rfl rfl ?_
  refine x_if_eq C (tgt := 19) dX2_requireWhat_1 (by decide) (fun h => ?_) (fun h => ?_)
  · exact absurd hx (by rw [inB_01.mpr (Or.inl h)]; decide)
  · refine x_iload_n C dX2_requireWhat_4 rfl rfl ?_
    refine x_iconst C (v := 1) dX2_requireWhat_5 (by decide) ?_
    refine x_icmp_eq C (tgt := 19) dX2_requireWhat_6 (by decide) (fun h2 => ?_) (fun h2 => ?_)
    · exact absurd hx (by rw [inB_01.mpr (Or.inr h2)]; decide)
    · exact x_throw C ht hl hX wo_x1 (List.mem_of_getElem? (i := 9) rfl) ⟨(Nat.le_of_ble_eq_true rfl), (Nat.le_of_ble_eq_true rfl), (Nat.le_of_ble_eq_true rfl), (Nat.le_of_ble_eq_true rfl)⟩ dX2_requireWhat_9 dX2_requireWhat_12 dX2_requireWhat_13 dX2_requireWhat_15 dX2_requireWhat_18
set_option maxRecDepth 100000 in
set_option maxHeartbeats 4000000 in
theorem c_X2_requireSign {ws : va_W} (x : Int32) (hx : in_B x 0 5 = true) : wo_E l yX2_requireSign cX2_requireSign 1 (none) 0 D ((cI, .int) :: (cZ, .boolean) :: tys) [.int x] (ws) none (ws) := by
  refine wo_of (ls := [some (.int x)]) (by decide) (Nat.le_of_ble_eq_true rfl) rfl ?_
  intro p e s m args below meth c A C
  refine x_iload_n C dX2_requireSign_0 rfl rfl ?_
  refine x_if_lt C (tgt := 10) dX2_requireSign_1 (by decide) (fun h => ?_) (fun h => ?_)
  · exact absurd hx (by rw [inB_lo h]; decide)
  · refine x_iload_n C dX2_requireSign_4 rfl rfl ?_
    refine x_bipush C (v := 6) dX2_requireSign_5 (by decide) ?_
    refine x_icmp_lt C (tgt := 20) dX2_requireSign_7 (by decide) (fun h2 => ?_) (fun h2 => ?_)
    · exact x_vret C dX2_requireSign_20 rfl rfl
    · exact absurd hx (by rw [inB_n5 h2]; decide)
set_option maxRecDepth 100000 in
set_option maxHeartbeats 4000000 in
theorem t_X2_requireSign (hl : l.stackTraces = false) {ws : va_W} (x : Int32) (hx : in_B x 0 5 = false) : wo_X l yX2_requireSign cX2_requireSign 1 (none) 6 D ((cI, .int) :: (cZ, .boolean) :: tys) [.int x] (ws) wo_IAE := by
  refine wo_ofX (ls := [some (.int x)]) (by decide) (Nat.le_of_ble_eq_true rfl) rfl ?_
  intro p e s m args below meth c A C ht hX
  refine x_iload_n C dX2_requireSign_0 rfl rfl ?_
  refine x_if_lt C (tgt := 10) dX2_requireSign_1 (by decide) (fun h => ?_) (fun h => ?_)
  · exact x_throw C ht hl hX wo_x1 (List.mem_of_getElem? (i := 10) rfl) ⟨(Nat.le_of_ble_eq_true rfl), (Nat.le_of_ble_eq_true rfl), (Nat.le_of_ble_eq_true rfl), (Nat.le_of_ble_eq_true rfl)⟩ dX2_requireSign_10 dX2_requireSign_13 dX2_requireSign_14 dX2_requireSign_16 dX2_requireSign_19
  · refine x_iload_n C dX2_requireSign_4 rfl rfl ?_
    refine x_bipush C (v := 6) dX2_requireSign_5 (by decide) ?_
    refine x_icmp_lt C (tgt := 20) dX2_requireSign_7 (by decide) (fun h2 => ?_) (fun h2 => ?_)
    · exact absurd hx (by rw [inB_5 h h2]; decide)
    · exact x_throw C ht hl hX wo_x1 (List.mem_of_getElem? (i := 10) rfl) ⟨(Nat.le_of_ble_eq_true rfl), (Nat.le_of_ble_eq_true rfl), (Nat.le_of_ble_eq_true rfl), (Nat.le_of_ble_eq_true rfl)⟩ dX2_requireSign_10 dX2_requireSign_13 dX2_requireSign_14 dX2_requireSign_16 dX2_requireSign_19
set_option maxRecDepth 100000 in
set_option maxHeartbeats 4000000 in
theorem c_X2_mayTakePart {ws : va_W} (x : Int32) : wo_E l yX2_mayTakePart cX2_mayTakePart 1 (some .boolean) 0 D ((cI, .int) :: (cZ, .boolean) :: tys) [.int x] (ws) (some (.int (bz (in_B x 3 12)))) (ws) := by
  refine wo_of (ls := [some (.int x)]) (by decide) (Nat.le_of_ble_eq_true rfl) rfl ?_
  intro p e s m args below meth c A C
  refine x_iload_n C dX2_mayTakePart_0 rfl rfl ?_
  refine x_iconst C (v := 3) dX2_mayTakePart_1 (by decide) ?_
  refine x_icmp_lt C (tgt := 15) dX2_mayTakePart_2 (by decide) (fun h => ?_) (fun h => ?_)
  · refine x_iconst C (v := 0) dX2_mayTakePart_15 (by decide) ?_
    exact x_zret C dX2_mayTakePart_16 (b := false) rfl (by rw [inB_lo h]) rfl
  · refine x_iload_n C dX2_mayTakePart_5 rfl rfl ?_
    refine x_bipush C (v := 12) dX2_mayTakePart_6 (by decide) ?_
    refine x_icmp_gt C (tgt := 15) dX2_mayTakePart_8 (by decide) (fun h2 => ?_) (fun h2 => ?_)
    · refine x_iconst C (v := 0) dX2_mayTakePart_15 (by decide) ?_
      exact x_zret C dX2_mayTakePart_16 (b := false) rfl (by rw [inB_hi (Int32.not_le.mpr h2)]) rfl
    · refine x_iconst C (v := 1) dX2_mayTakePart_11 (by decide) ?_
      refine x_goto C (tgt := 16) dX2_mayTakePart_12 (by decide) ?_
      exact x_zret C dX2_mayTakePart_16 (b := true) rfl (by rw [inB_of h (Int32.not_lt.mp h2)]) rfl
set_option maxRecDepth 100000 in
set_option maxHeartbeats 4000000 in
theorem c_X2_poundsOrNone {ws : va_W} (x : Int32) : wo_E l yX2_poundsOrNone cX2_poundsOrNone 1 (some .int) 0 D ((cI, .int) :: (cZ, .boolean) :: tys) [.int x] (ws) (some (.int (if x = 0 then -1000000 else x))) (ws) := by
  refine wo_of (ls := [some (.int x)]) (by decide) (Nat.le_of_ble_eq_true rfl) rfl ?_
  intro p e s m args below meth c A C
  refine x_iload_n C dX2_poundsOrNone_0 rfl rfl ?_
  refine x_if_ne C (tgt := 9) dX2_poundsOrNone_1 (by decide) (fun h => ?_) (fun h => ?_)
  · refine x_iload_n C dX2_poundsOrNone_9 rfl rfl ?_
    exact x_iret C dX2_poundsOrNone_10 (by rw [if_neg h]) rfl
  · refine x_ldc C kk_X2_29 dX2_poundsOrNone_4 ?_
    refine x_goto C (tgt := 10) dX2_poundsOrNone_6 (by decide) ?_
    exact x_iret C dX2_poundsOrNone_10 (by rw [if_pos h]) rfl
set_option maxRecDepth 100000 in
set_option maxHeartbeats 4000000 in
theorem c_X2_tiltIfLevel (x : Int32) : wo_E l yX2_tiltIfLevel cX2_tiltIfLevel 2 (some .int) 0 D ((cI, .int) :: (cZ, .boolean) :: tys) [.ref (a 0), .int x] (wA cI cZ a gr en mk tl me rk dy ln ll ps lf lc tc tp lv rp rc pp ++ Y) (some (.int (if lv then x else -1000000))) (wA cI cZ a gr en mk tl me rk dy ln ll ps lf lc tc tp lv rp rc pp ++ Y) := by
  refine wo_of (ls := [some (.ref (a 0)), some (.int x)]) (by decide) (Nat.le_of_ble_eq_true rfl) rfl ?_
  intro p e s m args below meth c A C
  refine x_aload_n C dX2_tiltIfLevel_0 rfl rfl ?_
  refine gA0_levelOn C dX2_tiltIfLevel_1 ?_
  refine x_if_eq C (tgt := 11) dX2_tiltIfLevel_4 (by decide) (fun h => ?_) (fun h => ?_)
  · refine x_ldc C kk_X2_29 dX2_tiltIfLevel_11 ?_
    exact x_iret C dX2_tiltIfLevel_13 (by rw [bz_f h]; rfl) rfl
  · refine x_iload_n C dX2_tiltIfLevel_7 rfl rfl ?_
    refine x_goto C (tgt := 13) dX2_tiltIfLevel_8 (by decide) ?_
    exact x_iret C dX2_tiltIfLevel_13 (by rw [bz_t h]; rfl) rfl
set_option maxRecDepth 100000 in
set_option maxHeartbeats 4000000 in
theorem c_X2_noteRecord (w t : Int32) : wo_E l yX2_noteRecord cX2_noteRecord 3 (none) 0 D ((cI, .int) :: (cZ, .boolean) :: tys) [.ref (a 0), .int w, .int t] (wA cI cZ a gr en mk tl me rk dy ln ll ps lf lc tc tp lv rp rc pp ++ Y) none (wA cI cZ a gr en mk tl me rk dy ln ll ps lf lc tc tp lv (if rec_A w t rp then w else rp) (if rec_A w t rp then rc + 1 else rc) pp ++ Y) := by
  refine wo_of (ls := [some (.ref (a 0)), some (.int w), some (.int t)]) (by decide) (Nat.le_of_ble_eq_true rfl) rfl ?_
  intro p e s m args below meth c A C
  have f30 : rec_A w t rp = true → wo_W p l e (wo_rm 0) s m args below meth c A D 0 0 3 (MQ below (wo_Q D ((cI, .int) :: (cZ, .boolean) :: tys) none (wA cI cZ a gr en mk tl me rk dy ln ll ps lf lc tc tp lv (if rec_A w t rp then w else rp) (if rec_A w t rp then rc + 1 else rc) pp ++ Y) A) args s 0 0 A) 30 [some (.ref (a 0)), some (.int w), some (.int t)] [] (wA cI cZ a gr en mk tl me rk dy ln ll ps lf lc tc tp lv rp rc pp ++ Y) := by
    intro h
    refine x_aload_n C dX2_noteRecord_30 rfl rfl ?_
    refine x_iload_n C dX2_noteRecord_31 rfl rfl ?_
    refine pA0_recordPounds C _ dX2_noteRecord_32 ?_
    refine x_aload_n C dX2_noteRecord_35 rfl rfl ?_
    refine x_dup C dX2_noteRecord_36 rfl ?_
    refine gA0_recordCount C dX2_noteRecord_37 ?_
    refine x_iconst C (v := 1) dX2_noteRecord_40 (by decide) ?_
    refine x_iadd C dX2_noteRecord_41 ?_
    refine pA0_recordCount C _ dX2_noteRecord_42 ?_
    exact x_vret C dX2_noteRecord_45 rfl (by rw [h]; rfl)
  refine x_iload_n C dX2_noteRecord_0 rfl rfl ?_
  refine x_ldc C kk_X2_29 dX2_noteRecord_1 ?_
  refine x_icmp_eq C (tgt := 12) dX2_noteRecord_3 (by decide) (fun h => ?_) (fun h => ?_)
  · exact x_vret C dX2_noteRecord_12 rfl (by rw [show rec_A w t rp = false from decide_eq_false fun z => z.1 h]; rfl)
  · refine x_iload_n C dX2_noteRecord_6 rfl rfl ?_
    refine x_bipush C (v := 20) dX2_noteRecord_7 (by decide) ?_
    refine x_icmp_le C (tgt := 13) dX2_noteRecord_9 (by decide) (fun h2 => ?_) (fun h2 => ?_)
    · refine x_aload_n C dX2_noteRecord_13 rfl rfl ?_
      refine gA0_recordPounds C dX2_noteRecord_14 ?_
      refine x_ldc C kk_X2_29 dX2_noteRecord_17 ?_
      refine x_icmp_eq C (tgt := 30) dX2_noteRecord_19 (by decide) (fun h3 => ?_) (fun h3 => ?_)
      · exact f30 (decide_eq_true ⟨h, h2, Or.inl h3⟩)
      · refine x_iload_n C dX2_noteRecord_22 rfl rfl ?_
        refine x_aload_n C dX2_noteRecord_23 rfl rfl ?_
        refine gA0_recordPounds C dX2_noteRecord_24 ?_
        refine x_icmp_le C (tgt := 45) dX2_noteRecord_27 (by decide) (fun h4 => ?_) (fun h4 => ?_)
        · exact x_vret C dX2_noteRecord_45 rfl (by rw [show rec_A w t rp = false from decide_eq_false fun z => z.2.2.elim h3 (fun q => Int32.not_lt.mpr h4 q)]; rfl)
        · exact f30 (decide_eq_true ⟨h, h2, Or.inr (Int32.not_le.mp h4)⟩)
    · exact x_vret C dX2_noteRecord_12 rfl (by rw [show rec_A w t rp = false from decide_eq_false fun z => h2 z.2.1]; rfl)
set_option maxRecDepth 100000 in
set_option maxHeartbeats 4000000 in
theorem c_X2_bestOrLatestTilt (what : Int32) (w : Nat) (hw : w < 12) : wo_E l yX2_bestOrLatestTilt cX2_bestOrLatestTilt 3 (some .int) 4 D ((cI, .int) :: (cZ, .boolean) :: tys) [.ref (a 0), .int what, .int (nI w)] (wA cI cZ a gr en mk tl me rk dy ln ll ps lf lc tc tp lv rp rc pp ++ Y) (some (.int (if what = 0 then rk (w * 6) else if lt_A mk w 6 = 0 then -1000000 else tl (w * 6 + lt_A mk w 6 - 1)))) (wA cI cZ a gr en mk tl me rk dy ln ll ps lf lc tc tp lv rp rc pp ++ Y) := by
  refine wo_of (ls := [some (.ref (a 0)), some (.int what), some (.int (nI w))]) (by decide) (Nat.le_of_ble_eq_true rfl) rfl ?_
  intro p e s m args below meth c A C
  refine x_iload_n C dX2_bestOrLatestTilt_0 rfl rfl ?_
  refine x_if_ne C (tgt := 15) dX2_bestOrLatestTilt_1 (by decide) (fun h => ?_) (fun h => ?_)
  · refine x_aload_n C dX2_bestOrLatestTilt_15 rfl rfl ?_
    refine gA0_sheet C dX2_bestOrLatestTilt_16 ?_
    refine x_iload_n C dX2_bestOrLatestTilt_19 rfl rfl ?_
    refine x_callVi C gv_X2_171 (c_X1_latestTiltOf w hw) 1 rfl rfl rfl rfl (Nat.le_of_ble_eq_true rfl) ⟨(Nat.le_of_ble_eq_true rfl), (Nat.le_of_ble_eq_true rfl)⟩ ⟨Nat.zero_le _, Nat.zero_le _⟩ dX2_bestOrLatestTilt_20 ?_
    exact x_iret C dX2_bestOrLatestTilt_23 (by rw [if_neg h]) rfl
  · refine x_aload_n C dX2_bestOrLatestTilt_4 rfl rfl ?_
    refine gA0_sheet C dX2_bestOrLatestTilt_5 ?_
    refine x_iload_n C dX2_bestOrLatestTilt_8 rfl rfl ?_
    refine x_callVi C gv_X2_125 (c_X1_bestOf w hw) 1 rfl rfl rfl rfl (Nat.le_of_ble_eq_true rfl) ⟨(Nat.le_of_ble_eq_true rfl), (Nat.le_of_ble_eq_true rfl)⟩ ⟨Nat.zero_le _, Nat.zero_le _⟩ dX2_bestOrLatestTilt_9 ?_
    refine x_goto C (tgt := 23) dX2_bestOrLatestTilt_12 (by decide) ?_
    exact x_iret C dX2_bestOrLatestTilt_23 (by rw [if_pos h]) rfl
end OFA
