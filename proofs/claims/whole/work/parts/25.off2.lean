/-! ===== the class: calls that write ===== -/
section OFB
variable {l : Launch} {D : va_G} {tys : List (ClassId × FieldType)} {cI cZ : ClassId} {a : Nat → Nat} {Y : va_W} {gr : Nat} {en : Nat} {mk : Nat → Int32} {tl : Nat → Int32} {me : Nat → Int32} {rk : Nat → Int32} {dy : Nat} {ln : Nat → Nat} {ll : Nat} {ps : Nat} {lf : Nat → Bool} {lc : Nat} {tc : Nat → Bool} {tp : Nat → Nat} {lv : Bool} {rp : Int32} {rc : Int32} {pp : Int32}
set_option maxRecDepth 100000 in
set_option maxHeartbeats 4000000 in
theorem c_X2_begin (W2 : va_W) (g : Nat) (h : wo_E l yX0_restart cX0_restart 2 (none) 3 D ((cI, .int) :: (cZ, .boolean) :: tys) [.ref (a 6)] (wA cI cZ a (g) (0) (wo_fill mk (-1000000) 72) (wo_fill tl (-1000000) 72) (wo_fill me 0 72) (wo_fill rk (-1000000) 72) dy ln ll ps lf lc tc tp lv rp rc pp ++ Y) none W2) : wo_E l yX2_begin cX2_begin 2 (none) 4 D ((cI, .int) :: (cZ, .boolean) :: tys) [.ref (a 0), .int (nI g)] (wA cI cZ a gr en mk tl me rk dy ln ll ps lf lc tc tp lv rp rc pp ++ Y) none W2 := by
  refine wo_of (ls := [some (.ref (a 0)), some (.int (nI g))]) (by decide) (Nat.le_of_ble_eq_true rfl) rfl ?_
  intro p e s m args below meth c A C
  
  refine x_aload_n C dX2_begin_0 rfl rfl ?_
  refine gA0_sheet C dX2_begin_1 ?_
  refine x_iload_n C dX2_begin_4 rfl rfl ?_
  refine x_callVv C gv_X2_165 (c_X1_clearFor g) 1 rfl rfl rfl rfl (Nat.le_of_ble_eq_true rfl) ⟨(Nat.le_of_ble_eq_true rfl), (Nat.le_of_ble_eq_true rfl)⟩ ⟨Nat.zero_le _, Nat.zero_le _⟩ dX2_begin_5 ?_
  refine x_aload_n C dX2_begin_8 rfl rfl ?_
  refine gA0_course C dX2_begin_9 ?_
  refine x_callVv C gv_X2_168 (h) 6 rfl rfl rfl rfl (Nat.le_of_ble_eq_true rfl) ⟨(Nat.le_of_ble_eq_true rfl), (Nat.le_of_ble_eq_true rfl)⟩ ⟨Nat.zero_le _, Nat.zero_le _⟩ dX2_begin_12 ?_
  exact x_vret C dX2_begin_15 rfl rfl
set_option maxRecDepth 100000 in
set_option maxHeartbeats 4000000 in
theorem t_X2_open (hl : l.stackTraces = false) (x : Int32) (hx : in_B x 3 12 = false) : wo_X l yX2_open cX2_open 2 (none) 7 D ((cI, .int) :: (cZ, .boolean) :: tys) [.ref (a 0), .int x] (wA cI cZ a gr en mk tl me rk dy ln ll ps lf lc tc tp lv rp rc pp ++ Y) wo_IAE := by
  refine wo_ofX (ls := [some (.ref (a 0)), some (.int x)]) (by decide) (Nat.le_of_ble_eq_true rfl) rfl ?_
  intro p e s m args below meth c A C ht hX
  refine x_iload_n C dX2_open_0 rfl rfl ?_
  refine x_callSi C gs_X2_40 (c_X2_mayTakePart x) rfl rfl (Nat.le_of_ble_eq_true rfl) ⟨(Nat.le_of_ble_eq_true rfl), (Nat.le_of_ble_eq_true rfl)⟩ ⟨Nat.zero_le _, Nat.zero_le _⟩ dX2_open_1 ?_
  refine x_if_ne C (tgt := 17) dX2_open_4 (by decide) (fun h => ?_) (fun h => ?_)
  · exact absurd hx (by rw [bz_t h]; decide)
  · exact x_throw C ht hl hX wo_x1 (List.mem_of_getElem? (i := 0) rfl) ⟨(Nat.le_of_ble_eq_true rfl), (Nat.le_of_ble_eq_true rfl), (Nat.le_of_ble_eq_true rfl), (Nat.le_of_ble_eq_true rfl)⟩ dX2_open_7 dX2_open_10 dX2_open_11 dX2_open_13 dX2_open_16
set_option maxRecDepth 100000 in
set_option maxHeartbeats 4000000 in
theorem c_X2_open (W2 : va_W) (g : Nat) (hx : in_B (nI g) 3 12 = true) (h : wo_E l yX2_begin cX2_begin 2 (none) 4 D ((cI, .int) :: (cZ, .boolean) :: tys) [.ref (a 0), .int (nI g)] (wA cI cZ a gr en mk tl me rk dy ln ll ps lf lc tc tp lv rp rc pp ++ Y) none W2) : wo_E l yX2_open cX2_open 2 (none) 7 D ((cI, .int) :: (cZ, .boolean) :: tys) [.ref (a 0), .int (nI g)] (wA cI cZ a gr en mk tl me rk dy ln ll ps lf lc tc tp lv rp rc pp ++ Y) none W2 := by
  refine wo_of (ls := [some (.ref (a 0)), some (.int (nI g))]) (by decide) (Nat.le_of_ble_eq_true rfl) rfl ?_
  intro p e s m args below meth c A C
  
  refine x_iload_n C dX2_open_0 rfl rfl ?_
  refine x_callSi C gs_X2_40 (c_X2_mayTakePart (nI g)) rfl rfl (Nat.le_of_ble_eq_true rfl) ⟨(Nat.le_of_ble_eq_true rfl), (Nat.le_of_ble_eq_true rfl)⟩ ⟨Nat.zero_le _, Nat.zero_le _⟩ dX2_open_1 ?_
  refine x_if_ne C (tgt := 17) dX2_open_4 (by decide) (fun h2 => ?_) (fun h2 => ?_)
  · refine x_aload_n C dX2_open_17 rfl rfl ?_
    refine x_iload_n C dX2_open_18 rfl rfl ?_
    refine x_callVv C gv_X2_44 (h) 0 rfl rfl rfl rfl (Nat.le_of_ble_eq_true rfl) ⟨(Nat.le_of_ble_eq_true rfl), (Nat.le_of_ble_eq_true rfl)⟩ ⟨Nat.zero_le _, Nat.zero_le _⟩ dX2_open_19 ?_
    exact x_vret C dX2_open_22 rfl rfl
  · exact absurd hx (by rw [bz_f h2]; decide)
set_option maxRecDepth 100000 in
set_option maxHeartbeats 4000000 in
theorem t_X2_weigh_1 (hl : l.stackTraces = false) (x y : Int32) (hx : ¬ (in_B x 100 9999 = true ∧ in_B y (-99) 99 = true)) : wo_X l yX2_weigh cX2_weigh 6 (some .int) 7 D ((cI, .int) :: (cZ, .boolean) :: tys) [.ref (a 0), .int x, .int y] (wA cI cZ a gr en mk tl me rk dy ln ll ps lf lc tc tp lv rp rc pp ++ Y) wo_IAE := by
  refine wo_ofX (ls := [some (.ref (a 0)), some (.int x), some (.int y), none, none, none]) (by decide) (Nat.le_of_ble_eq_true rfl) rfl ?_
  intro p e s m args below meth c A C ht hX
  refine x_iload_n C dX2_weigh_0 rfl rfl ?_
  cases h1 : in_B x 100 9999 with
  | false =>
    exact x_callSX C hX gs_X2_55 (t_X2_requireTenthPounds hl x h1) rfl rfl (Nat.le_of_ble_eq_true rfl) ⟨(Nat.le_of_ble_eq_true rfl), (Nat.le_of_ble_eq_true rfl)⟩ ⟨(Nat.le_of_ble_eq_true rfl), (Nat.le_of_ble_eq_true rfl)⟩ dX2_weigh_1 (x_prop C ht)
  | true =>
    refine x_callSv C gs_X2_55 (c_X2_requireTenthPounds x h1) rfl rfl (Nat.le_of_ble_eq_true rfl) ⟨(Nat.le_of_ble_eq_true rfl), (Nat.le_of_ble_eq_true rfl)⟩ ⟨Nat.zero_le _, Nat.zero_le _⟩ dX2_weigh_1 ?_
    refine x_iload_n C dX2_weigh_4 rfl rfl ?_
    exact x_callSX C hX gs_X2_58 (t_X2_requireTenths hl y (by cases h2 : in_B y (-99) 99; rfl; exact absurd ⟨h1, h2⟩ hx)) rfl rfl (Nat.le_of_ble_eq_true rfl) ⟨(Nat.le_of_ble_eq_true rfl), (Nat.le_of_ble_eq_true rfl)⟩ ⟨(Nat.le_of_ble_eq_true rfl), (Nat.le_of_ble_eq_true rfl)⟩ dX2_weigh_5 (x_prop C ht)
set_option maxRecDepth 100000 in
set_option maxHeartbeats 4000000 in
theorem t_X2_weigh_2 (hl : l.stackTraces = false) (x y : Int32) (hx : in_B x 100 9999 = true) (hy : in_B y (-99) 99 = true) (hp : ps ≤ 12) (hll : ll ≤ 12) (hn : ¬ ps < ll) : wo_X l yX2_weigh cX2_weigh 6 (some .int) 7 D ((cI, .int) :: (cZ, .boolean) :: tys) [.ref (a 0), .int x, .int y] (wA cI cZ a gr en mk tl me rk dy ln ll ps lf lc tc tp lv rp rc pp ++ Y) wo_ISE := by
  refine wo_ofX (ls := [some (.ref (a 0)), some (.int x), some (.int y), none, none, none]) (by decide) (Nat.le_of_ble_eq_true rfl) rfl ?_
  intro p e s m args below meth c A C ht hX
  refine x_iload_n C dX2_weigh_0 rfl rfl ?_
  refine x_callSv C gs_X2_55 (c_X2_requireTenthPounds x hx) rfl rfl (Nat.le_of_ble_eq_true rfl) ⟨(Nat.le_of_ble_eq_true rfl), (Nat.le_of_ble_eq_true rfl)⟩ ⟨Nat.zero_le _, Nat.zero_le _⟩ dX2_weigh_1 ?_
  refine x_iload_n C dX2_weigh_4 rfl rfl ?_
  refine x_callSv C gs_X2_58 (c_X2_requireTenths y hy) rfl rfl (Nat.le_of_ble_eq_true rfl) ⟨(Nat.le_of_ble_eq_true rfl), (Nat.le_of_ble_eq_true rfl)⟩ ⟨Nat.zero_le _, Nat.zero_le _⟩ dX2_weigh_5 ?_
  refine x_aload_n C dX2_weigh_8 rfl rfl ?_
  exact x_callVX C hX gv_X2_61 (t_X2_requireTurn hl hp hll hn) 0 rfl rfl rfl rfl (Nat.le_of_ble_eq_true rfl) ⟨(Nat.le_of_ble_eq_true rfl), (Nat.le_of_ble_eq_true rfl)⟩ ⟨(Nat.le_of_ble_eq_true rfl), (Nat.le_of_ble_eq_true rfl)⟩ dX2_weigh_9 (x_prop C ht)
set_option maxRecDepth 100000 in
set_option maxHeartbeats 4000000 in
theorem c_X2_weigh (W2 : va_W) (x y : Int32) (w i : Nat) (hx : in_B x 100 9999 = true) (hy : in_B y (-99) 99 = true) (hp : ps < ll) (hll : ll ≤ 12) (hln : ∀ k, k < ll → ln k < 12) (hw : w = ln ps) (h1 : 1 ≤ dy) (h6 : dy ≤ 6) (hi : i = w * 6 + dy - 1)
    (h : wo_E l yX0_goOn cX0_goOn 1 (none) 5 D ((cI, .int) :: (cZ, .boolean) :: tys) [.ref (a 6)] (wA cI cZ a gr (en + 1) (va_up mk i (x / 10)) (va_up tl i (if lv then y else -1000000)) (va_up me i 0) (if 0 < x / 10 then rk_ins 5 rk (w * 6) (x / 10) else rk) dy ln ll ps lf lc tc tp lv (if rec_A (x / 10) (if lv then y else -1000000) rp then x / 10 else rp) (if rec_A (x / 10) (if lv then y else -1000000) rp then rc + 1 else rc) pp ++ Y) none W2) : wo_E l yX2_weigh cX2_weigh 6 (some .int) 7 D ((cI, .int) :: (cZ, .boolean) :: tys) [.ref (a 0), .int x, .int y] (wA cI cZ a gr en mk tl me rk dy ln ll ps lf lc tc tp lv rp rc pp ++ Y) (some (.int (x / 10))) W2 := by
  refine wo_of (ls := [some (.ref (a 0)), some (.int x), some (.int y), none, none, none]) (by decide) (Nat.le_of_ble_eq_true rfl) rfl ?_
  intro p e s m args below meth c A C
  subst hw; subst hi
  have hw := hln ps hp
  
  refine x_iload_n C dX2_weigh_0 rfl rfl ?_
  refine x_callSv C gs_X2_55 (c_X2_requireTenthPounds x hx) rfl rfl (Nat.le_of_ble_eq_true rfl) ⟨(Nat.le_of_ble_eq_true rfl), (Nat.le_of_ble_eq_true rfl)⟩ ⟨Nat.zero_le _, Nat.zero_le _⟩ dX2_weigh_1 ?_
  refine x_iload_n C dX2_weigh_4 rfl rfl ?_
  refine x_callSv C gs_X2_58 (c_X2_requireTenths y hy) rfl rfl (Nat.le_of_ble_eq_true rfl) ⟨(Nat.le_of_ble_eq_true rfl), (Nat.le_of_ble_eq_true rfl)⟩ ⟨Nat.zero_le _, Nat.zero_le _⟩ dX2_weigh_5 ?_
  refine x_aload_n C dX2_weigh_8 rfl rfl ?_
  refine x_callVi C gv_X2_61 (c_X2_requireTurn hp hll hln) 0 rfl rfl rfl rfl (Nat.le_of_ble_eq_true rfl) ⟨(Nat.le_of_ble_eq_true rfl), (Nat.le_of_ble_eq_true rfl)⟩ ⟨Nat.zero_le _, Nat.zero_le _⟩ dX2_weigh_9 ?_
  refine x_istore_n C dX2_weigh_12 rfl (by decide) ?_
  refine x_iload_n C dX2_weigh_13 rfl rfl ?_
  refine x_bipush C (v := 10) dX2_weigh_14 (by decide) ?_
  refine x_idiv C dX2_weigh_16 (by decide) ?_
  refine x_istore C dX2_weigh_17 (by decide) ?_
  refine x_aload_n C dX2_weigh_19 rfl rfl ?_
  refine x_iload_n C dX2_weigh_20 rfl rfl ?_
  refine x_callVi C gv_X2_65 (c_X2_tiltIfLevel y) 0 rfl rfl rfl rfl (Nat.le_of_ble_eq_true rfl) ⟨(Nat.le_of_ble_eq_true rfl), (Nat.le_of_ble_eq_true rfl)⟩ ⟨Nat.zero_le _, Nat.zero_le _⟩ dX2_weigh_21 ?_
  refine x_istore C dX2_weigh_24 (by decide) ?_
  refine x_aload_n C dX2_weigh_26 rfl rfl ?_
  refine gA0_sheet C dX2_weigh_27 ?_
  refine x_iload_n C dX2_weigh_30 rfl rfl ?_
  refine x_aload_n C dX2_weigh_31 rfl rfl ?_
  refine gA0_course C dX2_weigh_32 ?_
  refine x_callVi C gv_X2_69 (c_X0_today) 6 rfl rfl rfl rfl (Nat.le_of_ble_eq_true rfl) ⟨(Nat.le_of_ble_eq_true rfl), (Nat.le_of_ble_eq_true rfl)⟩ ⟨Nat.zero_le _, Nat.zero_le _⟩ dX2_weigh_35 ?_
  refine x_iload C dX2_weigh_38 rfl ?_
  refine x_iload C dX2_weigh_40 rfl ?_
  refine x_iconst C (v := 0) dX2_weigh_42 (by decide) ?_
  refine x_callVv C gv_X2_72 (c_X1_enter (ln ps) dy (x / 10) _ 0 hw h1 h6) 1 rfl rfl rfl rfl (Nat.le_of_ble_eq_true rfl) ⟨(Nat.le_of_ble_eq_true rfl), (Nat.le_of_ble_eq_true rfl)⟩ ⟨Nat.zero_le _, Nat.zero_le _⟩ dX2_weigh_43 ?_
  refine x_aload_n C dX2_weigh_46 rfl rfl ?_
  refine x_iload C dX2_weigh_47 rfl ?_
  refine x_iload C dX2_weigh_49 rfl ?_
  refine x_callVv C gv_X2_76 (c_X2_noteRecord (x / 10) _) 0 rfl rfl rfl rfl (Nat.le_of_ble_eq_true rfl) ⟨(Nat.le_of_ble_eq_true rfl), (Nat.le_of_ble_eq_true rfl)⟩ ⟨Nat.zero_le _, Nat.zero_le _⟩ dX2_weigh_51 ?_
  refine x_aload_n C dX2_weigh_54 rfl rfl ?_
  refine gA0_course C dX2_weigh_55 ?_
  refine x_callVv C gv_X2_80 (h) 6 rfl rfl rfl rfl (Nat.le_of_ble_eq_true rfl) ⟨(Nat.le_of_ble_eq_true rfl), (Nat.le_of_ble_eq_true rfl)⟩ ⟨Nat.zero_le _, Nat.zero_le _⟩ dX2_weigh_58 ?_
  refine x_iload C dX2_weigh_61 rfl ?_
  exact x_iret C dX2_weigh_63 rfl rfl
set_option maxRecDepth 100000 in
set_option maxHeartbeats 4000000 in
theorem t_X2_crack_1 (hl : l.stackTraces = false) (x y : Int32) (hx : ¬ ((x = 0 ∨ in_B x 100 9999 = true) ∧ in_B y (-99) 99 = true)) : wo_X l yX2_crack cX2_crack 4 (none) 7 D ((cI, .int) :: (cZ, .boolean) :: tys) [.ref (a 0), .int x, .int y] (wA cI cZ a gr en mk tl me rk dy ln ll ps lf lc tc tp lv rp rc pp ++ Y) wo_IAE := by
  refine wo_ofX (ls := [some (.ref (a 0)), some (.int x), some (.int y), none]) (by decide) (Nat.le_of_ble_eq_true rfl) rfl ?_
  intro p e s m args below meth c A C ht hX
  have f8 : (x = 0 ∨ in_B x 100 9999 = true) → wo_W p l e (wo_rmx 7) s m args below meth c A D 0 0 4 (vx_MQ below (fun _ _ _ _ => False) (wo_XC wo_IAE D ((cI, .int) :: (cZ, .boolean) :: tys) (wA cI cZ a gr en mk tl me rk dy ln ll ps lf lc tc tp lv rp rc pp ++ Y) A) args s 1 6 A) 8 [some (.ref (a 0)), some (.int x), some (.int y), none] [] (wA cI cZ a gr en mk tl me rk dy ln ll ps lf lc tc tp lv rp rc pp ++ Y) := by
    intro h1
    refine x_iload_n C dX2_crack_8 rfl rfl ?_
    exact x_callSX C hX gs_X2_58 (t_X2_requireTenths hl y (by cases h2 : in_B y (-99) 99; rfl; exact absurd ⟨h1, h2⟩ hx)) rfl rfl (Nat.le_of_ble_eq_true rfl) ⟨(Nat.le_of_ble_eq_true rfl), (Nat.le_of_ble_eq_true rfl)⟩ ⟨(Nat.le_of_ble_eq_true rfl), (Nat.le_of_ble_eq_true rfl)⟩ dX2_crack_9 (x_prop C ht)
  refine x_iload_n C dX2_crack_0 rfl rfl ?_
  refine x_if_eq C (tgt := 8) dX2_crack_1 (by decide) (fun h => ?_) (fun h => ?_)
  · exact f8 (Or.inl h)
  · refine x_iload_n C dX2_crack_4 rfl rfl ?_
    cases h1 : in_B x 100 9999 with
    | false =>
      exact x_callSX C hX gs_X2_55 (t_X2_requireTenthPounds hl x h1) rfl rfl (Nat.le_of_ble_eq_true rfl) ⟨(Nat.le_of_ble_eq_true rfl), (Nat.le_of_ble_eq_true rfl)⟩ ⟨(Nat.le_of_ble_eq_true rfl), (Nat.le_of_ble_eq_true rfl)⟩ dX2_crack_5 (x_prop C ht)
    | true =>
      refine x_callSv C gs_X2_55 (c_X2_requireTenthPounds x h1) rfl rfl (Nat.le_of_ble_eq_true rfl) ⟨(Nat.le_of_ble_eq_true rfl), (Nat.le_of_ble_eq_true rfl)⟩ ⟨Nat.zero_le _, Nat.zero_le _⟩ dX2_crack_5 ?_
      exact f8 (Or.inr h1)
set_option maxRecDepth 100000 in
set_option maxHeartbeats 4000000 in
theorem t_X2_crack_2 (hl : l.stackTraces = false) (x y : Int32) (hx : x = 0 ∨ in_B x 100 9999 = true) (hy : in_B y (-99) 99 = true) (hp : ps ≤ 12) (hll : ll ≤ 12) (hn : ¬ ps < ll) : wo_X l yX2_crack cX2_crack 4 (none) 7 D ((cI, .int) :: (cZ, .boolean) :: tys) [.ref (a 0), .int x, .int y] (wA cI cZ a gr en mk tl me rk dy ln ll ps lf lc tc tp lv rp rc pp ++ Y) wo_ISE := by
  refine wo_ofX (ls := [some (.ref (a 0)), some (.int x), some (.int y), none]) (by decide) (Nat.le_of_ble_eq_true rfl) rfl ?_
  intro p e s m args below meth c A C ht hX
  have f8 : wo_W p l e (wo_rmx 7) s m args below meth c A D 0 0 4 (vx_MQ below (fun _ _ _ _ => False) (wo_XC wo_ISE D ((cI, .int) :: (cZ, .boolean) :: tys) (wA cI cZ a gr en mk tl me rk dy ln ll ps lf lc tc tp lv rp rc pp ++ Y) A) args s 1 6 A) 8 [some (.ref (a 0)), some (.int x), some (.int y), none] [] (wA cI cZ a gr en mk tl me rk dy ln ll ps lf lc tc tp lv rp rc pp ++ Y) := by
    refine x_iload_n C dX2_crack_8 rfl rfl ?_
    refine x_callSv C gs_X2_58 (c_X2_requireTenths y hy) rfl rfl (Nat.le_of_ble_eq_true rfl) ⟨(Nat.le_of_ble_eq_true rfl), (Nat.le_of_ble_eq_true rfl)⟩ ⟨Nat.zero_le _, Nat.zero_le _⟩ dX2_crack_9 ?_
    refine x_aload_n C dX2_crack_12 rfl rfl ?_
    exact x_callVX C hX gv_X2_61 (t_X2_requireTurn hl hp hll hn) 0 rfl rfl rfl rfl (Nat.le_of_ble_eq_true rfl) ⟨(Nat.le_of_ble_eq_true rfl), (Nat.le_of_ble_eq_true rfl)⟩ ⟨(Nat.le_of_ble_eq_true rfl), (Nat.le_of_ble_eq_true rfl)⟩ dX2_crack_13 (x_prop C ht)
  refine x_iload_n C dX2_crack_0 rfl rfl ?_
  refine x_if_eq C (tgt := 8) dX2_crack_1 (by decide) (fun h => ?_) (fun h => ?_)
  · exact f8
  · refine x_iload_n C dX2_crack_4 rfl rfl ?_
    refine x_callSv C gs_X2_55 (c_X2_requireTenthPounds x (hx.resolve_left h)) rfl rfl (Nat.le_of_ble_eq_true rfl) ⟨(Nat.le_of_ble_eq_true rfl), (Nat.le_of_ble_eq_true rfl)⟩ ⟨Nat.zero_le _, Nat.zero_le _⟩ dX2_crack_5 ?_
    exact f8
set_option maxRecDepth 100000 in
set_option maxHeartbeats 4000000 in
theorem c_X2_crack (W2 : va_W) (x y : Int32) (w i : Nat) (hx : x = 0 ∨ in_B x 100 9999 = true) (hy : in_B y (-99) 99 = true) (hp : ps < ll) (hll : ll ≤ 12) (hln : ∀ k, k < ll → ln k < 12) (hw : w = ln ps) (h1 : 1 ≤ dy) (h6 : dy ≤ 6) (hi : i = w * 6 + dy - 1)
    (h : wo_E l yX0_goOn cX0_goOn 1 (none) 5 D ((cI, .int) :: (cZ, .boolean) :: tys) [.ref (a 6)] (wA cI cZ a gr (en + 1) (va_up mk i (-1)) (va_up tl i (if lv then y else -1000000)) (va_up me i (x / 10)) rk dy ln ll ps lf lc tc tp lv rp rc pp ++ Y) none W2) : wo_E l yX2_crack cX2_crack 4 (none) 7 D ((cI, .int) :: (cZ, .boolean) :: tys) [.ref (a 0), .int x, .int y] (wA cI cZ a gr en mk tl me rk dy ln ll ps lf lc tc tp lv rp rc pp ++ Y) none W2 := by
  refine wo_of (ls := [some (.ref (a 0)), some (.int x), some (.int y), none]) (by decide) (Nat.le_of_ble_eq_true rfl) rfl ?_
  intro p e s m args below meth c A C
  subst hw; subst hi
  have hw := hln ps hp
  
  have f8 : wo_W p l e (wo_rm 7) s m args below meth c A D 0 0 4 (MQ below (wo_Q D ((cI, .int) :: (cZ, .boolean) :: tys) none W2 A) args s 0 0 A) 8 [some (.ref (a 0)), some (.int x), some (.int y), none] [] (wA cI cZ a gr en mk tl me rk dy ln ll ps lf lc tc tp lv rp rc pp ++ Y) := by
    refine x_iload_n C dX2_crack_8 rfl rfl ?_
    refine x_callSv C gs_X2_58 (c_X2_requireTenths y hy) rfl rfl (Nat.le_of_ble_eq_true rfl) ⟨(Nat.le_of_ble_eq_true rfl), (Nat.le_of_ble_eq_true rfl)⟩ ⟨Nat.zero_le _, Nat.zero_le _⟩ dX2_crack_9 ?_
    refine x_aload_n C dX2_crack_12 rfl rfl ?_
    refine x_callVi C gv_X2_61 (c_X2_requireTurn hp hll hln) 0 rfl rfl rfl rfl (Nat.le_of_ble_eq_true rfl) ⟨(Nat.le_of_ble_eq_true rfl), (Nat.le_of_ble_eq_true rfl)⟩ ⟨Nat.zero_le _, Nat.zero_le _⟩ dX2_crack_13 ?_
    refine x_istore_n C dX2_crack_16 rfl (by decide) ?_
    refine x_aload_n C dX2_crack_17 rfl rfl ?_
    refine gA0_sheet C dX2_crack_18 ?_
    refine x_iload_n C dX2_crack_21 rfl rfl ?_
    refine x_aload_n C dX2_crack_22 rfl rfl ?_
    refine gA0_course C dX2_crack_23 ?_
    refine x_callVi C gv_X2_69 (c_X0_today) 6 rfl rfl rfl rfl (Nat.le_of_ble_eq_true rfl) ⟨(Nat.le_of_ble_eq_true rfl), (Nat.le_of_ble_eq_true rfl)⟩ ⟨Nat.zero_le _, Nat.zero_le _⟩ dX2_crack_26 ?_
    refine x_iconst C (v := -1) dX2_crack_29 (by decide) ?_
    refine x_aload_n C dX2_crack_30 rfl rfl ?_
    refine x_iload_n C dX2_crack_31 rfl rfl ?_
    refine x_callVi C gv_X2_65 (c_X2_tiltIfLevel y) 0 rfl rfl rfl rfl (Nat.le_of_ble_eq_true rfl) ⟨(Nat.le_of_ble_eq_true rfl), (Nat.le_of_ble_eq_true rfl)⟩ ⟨Nat.zero_le _, Nat.zero_le _⟩ dX2_crack_32 ?_
    refine x_iload_n C dX2_crack_35 rfl rfl ?_
    refine x_bipush C (v := 10) dX2_crack_36 (by decide) ?_
    refine x_idiv C dX2_crack_38 (by decide) ?_
    refine x_callVv C gv_X2_72 (c_X1_enter (ln ps) dy (-1) _ (x / 10) hw h1 h6) 1 rfl rfl rfl rfl (Nat.le_of_ble_eq_true rfl) ⟨(Nat.le_of_ble_eq_true rfl), (Nat.le_of_ble_eq_true rfl)⟩ ⟨Nat.zero_le _, Nat.zero_le _⟩ dX2_crack_39 ?_
    rw [if_neg (show ¬ (0 : Int32) < -1 by decide)]
    refine x_aload_n C dX2_crack_42 rfl rfl ?_
    refine gA0_course C dX2_crack_43 ?_
    refine x_callVv C gv_X2_80 (h) 6 rfl rfl rfl rfl (Nat.le_of_ble_eq_true rfl) ⟨(Nat.le_of_ble_eq_true rfl), (Nat.le_of_ble_eq_true rfl)⟩ ⟨Nat.zero_le _, Nat.zero_le _⟩ dX2_crack_46 ?_
    exact x_vret C dX2_crack_49 rfl rfl
  refine x_iload_n C dX2_crack_0 rfl rfl ?_
  refine x_if_eq C (tgt := 8) dX2_crack_1 (by decide) (fun h2 => ?_) (fun h2 => ?_)
  · exact f8
  · refine x_iload_n C dX2_crack_4 rfl rfl ?_
    refine x_callSv C gs_X2_55 (c_X2_requireTenthPounds x (hx.resolve_left h2)) rfl rfl (Nat.le_of_ble_eq_true rfl) ⟨(Nat.le_of_ble_eq_true rfl), (Nat.le_of_ble_eq_true rfl)⟩ ⟨Nat.zero_le _, Nat.zero_le _⟩ dX2_crack_5 ?_
    exact f8
set_option maxRecDepth 100000 in
set_option maxHeartbeats 4000000 in
theorem t_X2_pass (hl : l.stackTraces = false) (hp : ps ≤ 12) (hll : ll ≤ 12) (hn : ¬ ps < ll) : wo_X l yX2_pass cX2_pass 2 (none) 7 D ((cI, .int) :: (cZ, .boolean) :: tys) [.ref (a 0)] (wA cI cZ a gr en mk tl me rk dy ln ll ps lf lc tc tp lv rp rc pp ++ Y) wo_ISE := by
  refine wo_ofX (ls := [some (.ref (a 0)), none]) (by decide) (Nat.le_of_ble_eq_true rfl) rfl ?_
  intro p e s m args below meth c A C ht hX
  refine x_aload_n C dX2_pass_0 rfl rfl ?_
  exact x_callVX C hX gv_X2_61 (t_X2_requireTurn hl hp hll hn) 0 rfl rfl rfl rfl (Nat.le_of_ble_eq_true rfl) ⟨(Nat.le_of_ble_eq_true rfl), (Nat.le_of_ble_eq_true rfl)⟩ ⟨(Nat.le_of_ble_eq_true rfl), (Nat.le_of_ble_eq_true rfl)⟩ dX2_pass_1 (x_prop C ht)
set_option maxRecDepth 100000 in
set_option maxHeartbeats 4000000 in
theorem c_X2_pass (W2 : va_W) (w i : Nat) (hp : ps < ll) (hll : ll ≤ 12) (hln : ∀ k, k < ll → ln k < 12) (hw : w = ln ps) (h1 : 1 ≤ dy) (h6 : dy ≤ 6) (hi : i = w * 6 + dy - 1)
    (h : wo_E l yX0_goOn cX0_goOn 1 (none) 5 D ((cI, .int) :: (cZ, .boolean) :: tys) [.ref (a 6)] (wA cI cZ a gr (en + 1) (va_up mk i (-2)) (va_up tl i (-1000000)) (va_up me i 0) rk dy ln ll ps lf lc tc tp lv rp rc pp ++ Y) none W2) : wo_E l yX2_pass cX2_pass 2 (none) 7 D ((cI, .int) :: (cZ, .boolean) :: tys) [.ref (a 0)] (wA cI cZ a gr en mk tl me rk dy ln ll ps lf lc tc tp lv rp rc pp ++ Y) none W2 := by
  refine wo_of (ls := [some (.ref (a 0)), none]) (by decide) (Nat.le_of_ble_eq_true rfl) rfl ?_
  intro p e s m args below meth c A C
  subst hw; subst hi
  have hw := hln ps hp
  
  refine x_aload_n C dX2_pass_0 rfl rfl ?_
  refine x_callVi C gv_X2_61 (c_X2_requireTurn hp hll hln) 0 rfl rfl rfl rfl (Nat.le_of_ble_eq_true rfl) ⟨(Nat.le_of_ble_eq_true rfl), (Nat.le_of_ble_eq_true rfl)⟩ ⟨Nat.zero_le _, Nat.zero_le _⟩ dX2_pass_1 ?_
  refine x_istore_n C dX2_pass_4 rfl (by decide) ?_
  refine x_aload_n C dX2_pass_5 rfl rfl ?_
  refine gA0_sheet C dX2_pass_6 ?_
  refine x_iload_n C dX2_pass_9 rfl rfl ?_
  refine x_aload_n C dX2_pass_10 rfl rfl ?_
  refine gA0_course C dX2_pass_11 ?_
  refine x_callVi C gv_X2_69 (c_X0_today) 6 rfl rfl rfl rfl (Nat.le_of_ble_eq_true rfl) ⟨(Nat.le_of_ble_eq_true rfl), (Nat.le_of_ble_eq_true rfl)⟩ ⟨Nat.zero_le _, Nat.zero_le _⟩ dX2_pass_14 ?_
  refine x_bipush C (v := -2) dX2_pass_17 (by decide) ?_
  refine x_ldc C kk_X2_29 dX2_pass_19 ?_
  refine x_iconst C (v := 0) dX2_pass_21 (by decide) ?_
  refine x_callVv C gv_X2_72 (c_X1_enter (ln ps) dy (-2) _ 0 hw h1 h6) 1 rfl rfl rfl rfl (Nat.le_of_ble_eq_true rfl) ⟨(Nat.le_of_ble_eq_true rfl), (Nat.le_of_ble_eq_true rfl)⟩ ⟨Nat.zero_le _, Nat.zero_le _⟩ dX2_pass_22 ?_
  rw [if_neg (show ¬ (0 : Int32) < -2 by decide)]
  refine x_aload_n C dX2_pass_25 rfl rfl ?_
  refine gA0_course C dX2_pass_26 ?_
  refine x_callVv C gv_X2_80 (h) 6 rfl rfl rfl rfl (Nat.le_of_ble_eq_true rfl) ⟨(Nat.le_of_ble_eq_true rfl), (Nat.le_of_ble_eq_true rfl)⟩ ⟨Nat.zero_le _, Nat.zero_le _⟩ dX2_pass_29 ?_
  exact x_vret C dX2_pass_32 rfl rfl
set_option maxRecDepth 100000 in
set_option maxHeartbeats 4000000 in
theorem t_X2_leave_1 (hl : l.stackTraces = false) (x : Int32) (hg : 1 ≤ gr) (hg2 : gr ≤ 12) (hx : in_B x 0 (nI (gr - 1)) = false) : wo_X l yX2_leave cX2_leave 2 (none) 7 D ((cI, .int) :: (cZ, .boolean) :: tys) [.ref (a 0), .int x] (wA cI cZ a gr en mk tl me rk dy ln ll ps lf lc tc tp lv rp rc pp ++ Y) wo_IAE := by
  refine wo_ofX (ls := [some (.ref (a 0)), some (.int x)]) (by decide) (Nat.le_of_ble_eq_true rfl) rfl ?_
  intro p e s m args below meth c A C ht hX
  refine x_aload_n C dX2_leave_0 rfl rfl ?_
  refine x_iload_n C dX2_leave_1 rfl rfl ?_
  exact x_callVX C hX gv_X2_83 (t_X2_requireGrower hl x hg hg2 hx) 0 rfl rfl rfl rfl (Nat.le_of_ble_eq_true rfl) ⟨(Nat.le_of_ble_eq_true rfl), (Nat.le_of_ble_eq_true rfl)⟩ ⟨(Nat.le_of_ble_eq_true rfl), (Nat.le_of_ble_eq_true rfl)⟩ dX2_leave_2 (x_prop C ht)
set_option maxRecDepth 100000 in
set_option maxHeartbeats 4000000 in
theorem t_X2_leave_2 (hl : l.stackTraces = false) (w : Nat) (hg2 : gr ≤ 12) (hw : w < gr) (hlf : lf w = true) : wo_X l yX2_leave cX2_leave 2 (none) 7 D ((cI, .int) :: (cZ, .boolean) :: tys) [.ref (a 0), .int (nI w)] (wA cI cZ a gr en mk tl me rk dy ln ll ps lf lc tc tp lv rp rc pp ++ Y) wo_ISE := by
  refine wo_ofX (ls := [some (.ref (a 0)), some (.int (nI w))]) (by decide) (Nat.le_of_ble_eq_true rfl) rfl ?_
  intro p e s m args below meth c A C ht hX
  refine x_aload_n C dX2_leave_0 rfl rfl ?_
  refine x_iload_n C dX2_leave_1 rfl rfl ?_
  refine x_callVv C gv_X2_83 (c_X2_requireGrower (nI w) (by omega) hg2 (wo_in0' hg2 hw)) 0 rfl rfl rfl rfl (Nat.le_of_ble_eq_true rfl) ⟨(Nat.le_of_ble_eq_true rfl), (Nat.le_of_ble_eq_true rfl)⟩ ⟨Nat.zero_le _, Nat.zero_le _⟩ dX2_leave_2 ?_
  refine x_aload_n C dX2_leave_5 rfl rfl ?_
  refine gA0_course C dX2_leave_6 ?_
  refine x_iload_n C dX2_leave_9 rfl rfl ?_
  refine x_callVi C gv_X2_86 (c_X0_hasLeft w (by omega)) 6 rfl rfl rfl rfl (Nat.le_of_ble_eq_true rfl) ⟨(Nat.le_of_ble_eq_true rfl), (Nat.le_of_ble_eq_true rfl)⟩ ⟨Nat.zero_le _, Nat.zero_le _⟩ dX2_leave_10 ?_
  refine x_if_eq C (tgt := 26) dX2_leave_13 (by decide) (fun h => ?_) (fun h => ?_)
  · exact absurd hlf (by rw [bz_f h]; decide)
  · exact x_throw C ht hl hX wo_x2 (List.mem_of_getElem? (i := 5) rfl) ⟨(Nat.le_of_ble_eq_true rfl), (Nat.le_of_ble_eq_true rfl), (Nat.le_of_ble_eq_true rfl), (Nat.le_of_ble_eq_true rfl)⟩ dX2_leave_16 dX2_leave_19 dX2_leave_20 dX2_leave_22 dX2_leave_25
set_option maxRecDepth 100000 in
set_option maxHeartbeats 4000000 in
theorem c_X2_leave (W2 : va_W) (w : Nat) (hg2 : gr ≤ 12) (hw : w < gr) (hlf : lf w = false) (h : wo_E l yX0_dismiss cX0_dismiss 2 (none) 6 D ((cI, .int) :: (cZ, .boolean) :: tys) [.ref (a 6), .int (nI w)] (wA cI cZ a gr en mk tl me rk dy ln ll ps lf lc tc tp lv rp rc pp ++ Y) none W2) : wo_E l yX2_leave cX2_leave 2 (none) 7 D ((cI, .int) :: (cZ, .boolean) :: tys) [.ref (a 0), .int (nI w)] (wA cI cZ a gr en mk tl me rk dy ln ll ps lf lc tc tp lv rp rc pp ++ Y) none W2 := by
  refine wo_of (ls := [some (.ref (a 0)), some (.int (nI w))]) (by decide) (Nat.le_of_ble_eq_true rfl) rfl ?_
  intro p e s m args below meth c A C
  
  refine x_aload_n C dX2_leave_0 rfl rfl ?_
  refine x_iload_n C dX2_leave_1 rfl rfl ?_
  refine x_callVv C gv_X2_83 (c_X2_requireGrower (nI w) (by omega) hg2 (wo_in0' hg2 hw)) 0 rfl rfl rfl rfl (Nat.le_of_ble_eq_true rfl) ⟨(Nat.le_of_ble_eq_true rfl), (Nat.le_of_ble_eq_true rfl)⟩ ⟨Nat.zero_le _, Nat.zero_le _⟩ dX2_leave_2 ?_
  refine x_aload_n C dX2_leave_5 rfl rfl ?_
  refine gA0_course C dX2_leave_6 ?_
  refine x_iload_n C dX2_leave_9 rfl rfl ?_
  refine x_callVi C gv_X2_86 (c_X0_hasLeft w (by omega)) 6 rfl rfl rfl rfl (Nat.le_of_ble_eq_true rfl) ⟨(Nat.le_of_ble_eq_true rfl), (Nat.le_of_ble_eq_true rfl)⟩ ⟨Nat.zero_le _, Nat.zero_le _⟩ dX2_leave_10 ?_
  refine x_if_eq C (tgt := 26) dX2_leave_13 (by decide) (fun h2 => ?_) (fun h2 => ?_)
  · refine x_aload_n C dX2_leave_26 rfl rfl ?_
    refine gA0_course C dX2_leave_27 ?_
    refine x_iload_n C dX2_leave_30 rfl rfl ?_
    refine x_callVv C gv_X2_94 (h) 6 rfl rfl rfl rfl (Nat.le_of_ble_eq_true rfl) ⟨(Nat.le_of_ble_eq_true rfl), (Nat.le_of_ble_eq_true rfl)⟩ ⟨Nat.zero_le _, Nat.zero_le _⟩ dX2_leave_31 ?_
    exact x_vret C dX2_leave_34 rfl rfl
  · exact absurd hlf (by rw [bz_t h2]; decide)
set_option maxRecDepth 100000 in
set_option maxHeartbeats 4000000 in
theorem t_X2_appeal_1 (hl : l.stackTraces = false) (x y : Int32) (hg : 1 ≤ gr) (hg2 : gr ≤ 12) (hx : (in_B x 0 (nI (gr - 1)) && in_B y 1 6) = false) : wo_X l yX2_appeal cX2_appeal 4 (some .int) 7 D ((cI, .int) :: (cZ, .boolean) :: tys) [.ref (a 0), .int x, .int y] (wA cI cZ a gr en mk tl me rk dy ln ll ps lf lc tc tp lv rp rc pp ++ Y) wo_IAE := by
  refine wo_ofX (ls := [some (.ref (a 0)), some (.int x), some (.int y), none]) (by decide) (Nat.le_of_ble_eq_true rfl) rfl ?_
  intro p e s m args below meth c A C ht hX
  refine x_aload_n C dX2_appeal_0 rfl rfl ?_
  refine x_iload_n C dX2_appeal_1 rfl rfl ?_
  cases h1 : in_B x 0 (nI (gr - 1)) with
  | false =>
    exact x_callVX C hX gv_X2_83 (t_X2_requireGrower hl x hg hg2 h1) 0 rfl rfl rfl rfl (Nat.le_of_ble_eq_true rfl) ⟨(Nat.le_of_ble_eq_true rfl), (Nat.le_of_ble_eq_true rfl)⟩ ⟨(Nat.le_of_ble_eq_true rfl), (Nat.le_of_ble_eq_true rfl)⟩ dX2_appeal_2 (x_prop C ht)
  | true =>
    refine x_callVv C gv_X2_83 (c_X2_requireGrower x hg hg2 h1) 0 rfl rfl rfl rfl (Nat.le_of_ble_eq_true rfl) ⟨(Nat.le_of_ble_eq_true rfl), (Nat.le_of_ble_eq_true rfl)⟩ ⟨Nat.zero_le _, Nat.zero_le _⟩ dX2_appeal_2 ?_
    refine x_iload_n C dX2_appeal_5 rfl rfl ?_
    exact x_callSX C hX gs_X2_97 (t_X2_requireDay hl y (by rw [h1] at hx; exact hx)) rfl rfl (Nat.le_of_ble_eq_true rfl) ⟨(Nat.le_of_ble_eq_true rfl), (Nat.le_of_ble_eq_true rfl)⟩ ⟨(Nat.le_of_ble_eq_true rfl), (Nat.le_of_ble_eq_true rfl)⟩ dX2_appeal_6 (x_prop C ht)
set_option maxRecDepth 100000 in
set_option maxHeartbeats 4000000 in
theorem t_X2_appeal_2 (hl : l.stackTraces = false) (w d : Nat) (hg2 : gr ≤ 12) (hw : w < gr) (h1 : 1 ≤ d) (h6 : d ≤ 6) (hc : ¬ (mk (w * 6 + d - 1) = -1 ∧ ¬ me (w * 6 + d - 1) = 0)) : wo_X l yX2_appeal cX2_appeal 4 (some .int) 7 D ((cI, .int) :: (cZ, .boolean) :: tys) [.ref (a 0), .int (nI w), .int (nI d)] (wA cI cZ a gr en mk tl me rk dy ln ll ps lf lc tc tp lv rp rc pp ++ Y) wo_ISE := by
  refine wo_ofX (ls := [some (.ref (a 0)), some (.int (nI w)), some (.int (nI d)), none]) (by decide) (Nat.le_of_ble_eq_true rfl) rfl ?_
  intro p e s m args below meth c A C ht hX
  refine x_aload_n C dX2_appeal_0 rfl rfl ?_
  refine x_iload_n C dX2_appeal_1 rfl rfl ?_
  refine x_callVv C gv_X2_83 (c_X2_requireGrower (nI w) (by omega) hg2 (wo_in0' hg2 hw)) 0 rfl rfl rfl rfl (Nat.le_of_ble_eq_true rfl) ⟨(Nat.le_of_ble_eq_true rfl), (Nat.le_of_ble_eq_true rfl)⟩ ⟨Nat.zero_le _, Nat.zero_le _⟩ dX2_appeal_2 ?_
  refine x_iload_n C dX2_appeal_5 rfl rfl ?_
  refine x_callSv C gs_X2_97 (c_X2_requireDay (nI d) (decide_eq_true ⟨nI_le (a := 1) h1 (by omega), nI_le (b := 6) h6 (by omega)⟩)) rfl rfl (Nat.le_of_ble_eq_true rfl) ⟨(Nat.le_of_ble_eq_true rfl), (Nat.le_of_ble_eq_true rfl)⟩ ⟨Nat.zero_le _, Nat.zero_le _⟩ dX2_appeal_6 ?_
  refine x_aload_n C dX2_appeal_9 rfl rfl ?_
  refine gA0_sheet C dX2_appeal_10 ?_
  refine x_iload_n C dX2_appeal_13 rfl rfl ?_
  refine x_iload_n C dX2_appeal_14 rfl rfl ?_
  refine x_callVi C gv_X2_100 (c_X1_isMeasuredCrack w d (by omega) h1 h6) 1 rfl rfl rfl rfl (Nat.le_of_ble_eq_true rfl) ⟨(Nat.le_of_ble_eq_true rfl), (Nat.le_of_ble_eq_true rfl)⟩ ⟨Nat.zero_le _, Nat.zero_le _⟩ dX2_appeal_15 ?_
  refine x_if_ne C (tgt := 31) dX2_appeal_18 (by decide) (fun h => ?_) (fun h => ?_)
  · exact absurd (of_decide_eq_true (bz_t h)) hc
  · exact x_throw C ht hl hX wo_x2 (List.mem_of_getElem? (i := 7) rfl) ⟨(Nat.le_of_ble_eq_true rfl), (Nat.le_of_ble_eq_true rfl), (Nat.le_of_ble_eq_true rfl), (Nat.le_of_ble_eq_true rfl)⟩ dX2_appeal_21 dX2_appeal_24 dX2_appeal_25 dX2_appeal_27 dX2_appeal_30
set_option maxRecDepth 100000 in
set_option maxHeartbeats 4000000 in
theorem c_X2_appeal (w d : Nat) (hg2 : gr ≤ 12) (hw : w < gr) (h1 : 1 ≤ d) (h6 : d ≤ 6) (hc : mk (w * 6 + d - 1) = -1 ∧ ¬ me (w * 6 + d - 1) = 0) : wo_E l yX2_appeal cX2_appeal 4 (some .int) 7 D ((cI, .int) :: (cZ, .boolean) :: tys) [.ref (a 0), .int (nI w), .int (nI d)] (wA cI cZ a gr en mk tl me rk dy ln ll ps lf lc tc tp lv rp rc pp ++ Y) (some (.int (me (w * 6 + d - 1)))) (wA cI cZ a gr en (va_up mk (w * 6 + d - 1) (me (w * 6 + d - 1))) tl me (rk_ins 5 rk (w * 6) (me (w * 6 + d - 1))) dy ln ll ps lf lc tc tp lv (if rec_A (me (w * 6 + d - 1)) (tl (w * 6 + d - 1)) rp then me (w * 6 + d - 1) else rp) (if rec_A (me (w * 6 + d - 1)) (tl (w * 6 + d - 1)) rp then rc + 1 else rc) pp ++ Y) := by
  refine wo_of (ls := [some (.ref (a 0)), some (.int (nI w)), some (.int (nI d)), none]) (by decide) (Nat.le_of_ble_eq_true rfl) rfl ?_
  intro p e s m args below meth c A C
  refine x_aload_n C dX2_appeal_0 rfl rfl ?_
  refine x_iload_n C dX2_appeal_1 rfl rfl ?_
  refine x_callVv C gv_X2_83 (c_X2_requireGrower (nI w) (by omega) hg2 (wo_in0' hg2 hw)) 0 rfl rfl rfl rfl (Nat.le_of_ble_eq_true rfl) ⟨(Nat.le_of_ble_eq_true rfl), (Nat.le_of_ble_eq_true rfl)⟩ ⟨Nat.zero_le _, Nat.zero_le _⟩ dX2_appeal_2 ?_
  refine x_iload_n C dX2_appeal_5 rfl rfl ?_
  refine x_callSv C gs_X2_97 (c_X2_requireDay (nI d) (decide_eq_true ⟨nI_le (a := 1) h1 (by omega), nI_le (b := 6) h6 (by omega)⟩)) rfl rfl (Nat.le_of_ble_eq_true rfl) ⟨(Nat.le_of_ble_eq_true rfl), (Nat.le_of_ble_eq_true rfl)⟩ ⟨Nat.zero_le _, Nat.zero_le _⟩ dX2_appeal_6 ?_
  refine x_aload_n C dX2_appeal_9 rfl rfl ?_
  refine gA0_sheet C dX2_appeal_10 ?_
  refine x_iload_n C dX2_appeal_13 rfl rfl ?_
  refine x_iload_n C dX2_appeal_14 rfl rfl ?_
  refine x_callVi C gv_X2_100 (c_X1_isMeasuredCrack w d (by omega) h1 h6) 1 rfl rfl rfl rfl (Nat.le_of_ble_eq_true rfl) ⟨(Nat.le_of_ble_eq_true rfl), (Nat.le_of_ble_eq_true rfl)⟩ ⟨Nat.zero_le _, Nat.zero_le _⟩ dX2_appeal_15 ?_
  refine x_if_ne C (tgt := 31) dX2_appeal_18 (by decide) (fun h => ?_) (fun h => ?_)
  · refine x_aload_n C dX2_appeal_31 rfl rfl ?_
    refine gA0_sheet C dX2_appeal_32 ?_
    refine x_iload_n C dX2_appeal_35 rfl rfl ?_
    refine x_iload_n C dX2_appeal_36 rfl rfl ?_
    refine x_callVi C gv_X2_106 (c_X1_makeSound w d (by omega) h1 h6) 1 rfl rfl rfl rfl (Nat.le_of_ble_eq_true rfl) ⟨(Nat.le_of_ble_eq_true rfl), (Nat.le_of_ble_eq_true rfl)⟩ ⟨Nat.zero_le _, Nat.zero_le _⟩ dX2_appeal_37 ?_
    refine x_istore_n C dX2_appeal_40 rfl (by decide) ?_
    refine x_aload_n C dX2_appeal_41 rfl rfl ?_
    refine x_iload_n C dX2_appeal_42 rfl rfl ?_
    refine x_aload_n C dX2_appeal_43 rfl rfl ?_
    refine gA0_sheet C dX2_appeal_44 ?_
    refine x_iload_n C dX2_appeal_47 rfl rfl ?_
    refine x_iload_n C dX2_appeal_48 rfl rfl ?_
    refine x_callVi C gv_X2_110 (c_X1_tiltOn w d (by omega) h1 h6) 1 rfl rfl rfl rfl (Nat.le_of_ble_eq_true rfl) ⟨(Nat.le_of_ble_eq_true rfl), (Nat.le_of_ble_eq_true rfl)⟩ ⟨Nat.zero_le _, Nat.zero_le _⟩ dX2_appeal_49 ?_
    refine x_callVv C gv_X2_76 (c_X2_noteRecord _ _) 0 rfl rfl rfl rfl (Nat.le_of_ble_eq_true rfl) ⟨(Nat.le_of_ble_eq_true rfl), (Nat.le_of_ble_eq_true rfl)⟩ ⟨Nat.zero_le _, Nat.zero_le _⟩ dX2_appeal_52 ?_
    refine x_iload_n C dX2_appeal_55 rfl rfl ?_
    exact x_iret C dX2_appeal_56 rfl rfl
  · exact absurd hc (of_decide_eq_false (bz_f h))
set_option maxRecDepth 100000 in
set_option maxHeartbeats 4000000 in
theorem c_X2_level (on : Bool) : wo_E l yX2_level cX2_level 3 (some .boolean) 0 D ((cI, .int) :: (cZ, .boolean) :: tys) [.ref (a 0), .int (bz on)] (wA cI cZ a gr en mk tl me rk dy ln ll ps lf lc tc tp lv rp rc pp ++ Y) (some (.int (bz (decide (¬ on = lv))))) (wA cI cZ a gr en mk tl me rk dy ln ll ps lf lc tc tp (on) rp rc pp ++ Y) := by
  refine wo_of (ls := [some (.ref (a 0)), some (.int (bz on)), none]) (by decide) (Nat.le_of_ble_eq_true rfl) rfl ?_
  intro p e s m args below meth c A C
  refine x_iload_n C dX2_level_0 rfl rfl ?_
  refine x_aload_n C dX2_level_1 rfl rfl ?_
  refine gA0_levelOn C dX2_level_2 ?_
  refine x_icmp_eq C (tgt := 12) dX2_level_5 (by decide) (fun h => ?_) (fun h => ?_)
  · have h2 : on = lv := by cases on <;> cases lv <;> first | rfl | exact absurd h (by decide)
    refine x_iconst C (v := 0) dX2_level_12 (by decide) ?_
    refine x_istore_n C dX2_level_13 rfl (by decide) ?_
    refine x_aload_n C dX2_level_14 rfl rfl ?_
    refine x_iload_n C dX2_level_15 rfl rfl ?_
    refine pA0_levelOn C _ rfl dX2_level_16 ?_
    refine x_iload_n C dX2_level_19 rfl rfl ?_
    exact x_zret C dX2_level_20 (b := false) rfl (by rw [decide_eq_false (fun z => z h2)]) rfl
  · have h2 : ¬ on = lv := fun z => h (by rw [z])
    refine x_iconst C (v := 1) dX2_level_8 (by decide) ?_
    refine x_goto C (tgt := 13) dX2_level_9 (by decide) ?_
    refine x_istore_n C dX2_level_13 rfl (by decide) ?_
    refine x_aload_n C dX2_level_14 rfl rfl ?_
    refine x_iload_n C dX2_level_15 rfl rfl ?_
    refine pA0_levelOn C _ rfl dX2_level_16 ?_
    refine x_iload_n C dX2_level_19 rfl rfl ?_
    exact x_zret C dX2_level_20 (b := true) rfl (by rw [decide_eq_true h2]) rfl
set_option maxRecDepth 100000 in
set_option maxHeartbeats 4000000 in
theorem t_X2_record (hl : l.stackTraces = false) (x : Int32) (hx : in_B x 0 999 = false) : wo_X l yX2_record cX2_record 2 (none) 7 D ((cI, .int) :: (cZ, .boolean) :: tys) [.ref (a 0), .int x] (wA cI cZ a gr en mk tl me rk dy ln ll ps lf lc tc tp lv rp rc pp ++ Y) wo_IAE := by
  refine wo_ofX (ls := [some (.ref (a 0)), some (.int x)]) (by decide) (Nat.le_of_ble_eq_true rfl) rfl ?_
  intro p e s m args below meth c A C ht hX
  refine x_iload_n C dX2_record_0 rfl rfl ?_
  exact x_callSX C hX gs_X2_113 (t_X2_requirePounds hl x hx) rfl rfl (Nat.le_of_ble_eq_true rfl) ⟨(Nat.le_of_ble_eq_true rfl), (Nat.le_of_ble_eq_true rfl)⟩ ⟨(Nat.le_of_ble_eq_true rfl), (Nat.le_of_ble_eq_true rfl)⟩ dX2_record_1 (x_prop C ht)
set_option maxRecDepth 100000 in
set_option maxHeartbeats 4000000 in
theorem c_X2_record (x : Int32) (hx : in_B x 0 999 = true) : wo_E l yX2_record cX2_record 2 (none) 7 D ((cI, .int) :: (cZ, .boolean) :: tys) [.ref (a 0), .int x] (wA cI cZ a gr en mk tl me rk dy ln ll ps lf lc tc tp lv rp rc pp ++ Y) none (wA cI cZ a gr en mk tl me rk dy ln ll ps lf lc tc tp lv (if x = 0 then -1000000 else x) rc pp ++ Y) := by
  refine wo_of (ls := [some (.ref (a 0)), some (.int x)]) (by decide) (Nat.le_of_ble_eq_true rfl) rfl ?_
  intro p e s m args below meth c A C
  refine x_iload_n C dX2_record_0 rfl rfl ?_
  refine x_callSv C gs_X2_113 (c_X2_requirePounds x hx) rfl rfl (Nat.le_of_ble_eq_true rfl) ⟨(Nat.le_of_ble_eq_true rfl), (Nat.le_of_ble_eq_true rfl)⟩ ⟨Nat.zero_le _, Nat.zero_le _⟩ dX2_record_1 ?_
  refine x_aload_n C dX2_record_4 rfl rfl ?_
  refine x_iload_n C dX2_record_5 rfl rfl ?_
  refine x_callSi C gs_X2_116 (c_X2_poundsOrNone x) rfl rfl (Nat.le_of_ble_eq_true rfl) ⟨(Nat.le_of_ble_eq_true rfl), (Nat.le_of_ble_eq_true rfl)⟩ ⟨Nat.zero_le _, Nat.zero_le _⟩ dX2_record_6 ?_
  refine pA0_recordPounds C _ dX2_record_9 ?_
  exact x_vret C dX2_record_12 rfl rfl
set_option maxRecDepth 100000 in
set_option maxHeartbeats 4000000 in
theorem t_X2_prize (hl : l.stackTraces = false) (x : Int32) (hx : in_B x 0 999 = false) : wo_X l yX2_prize cX2_prize 2 (none) 7 D ((cI, .int) :: (cZ, .boolean) :: tys) [.ref (a 0), .int x] (wA cI cZ a gr en mk tl me rk dy ln ll ps lf lc tc tp lv rp rc pp ++ Y) wo_IAE := by
  refine wo_ofX (ls := [some (.ref (a 0)), some (.int x)]) (by decide) (Nat.le_of_ble_eq_true rfl) rfl ?_
  intro p e s m args below meth c A C ht hX
  refine x_iload_n C dX2_prize_0 rfl rfl ?_
  exact x_callSX C hX gs_X2_113 (t_X2_requirePounds hl x hx) rfl rfl (Nat.le_of_ble_eq_true rfl) ⟨(Nat.le_of_ble_eq_true rfl), (Nat.le_of_ble_eq_true rfl)⟩ ⟨(Nat.le_of_ble_eq_true rfl), (Nat.le_of_ble_eq_true rfl)⟩ dX2_prize_1 (x_prop C ht)
set_option maxRecDepth 100000 in
set_option maxHeartbeats 4000000 in
theorem c_X2_prize (x : Int32) (hx : in_B x 0 999 = true) : wo_E l yX2_prize cX2_prize 2 (none) 7 D ((cI, .int) :: (cZ, .boolean) :: tys) [.ref (a 0), .int x] (wA cI cZ a gr en mk tl me rk dy ln ll ps lf lc tc tp lv rp rc pp ++ Y) none (wA cI cZ a gr en mk tl me rk dy ln ll ps lf lc tc tp lv rp rc (if x = 0 then -1000000 else x) ++ Y) := by
  refine wo_of (ls := [some (.ref (a 0)), some (.int x)]) (by decide) (Nat.le_of_ble_eq_true rfl) rfl ?_
  intro p e s m args below meth c A C
  refine x_iload_n C dX2_prize_0 rfl rfl ?_
  refine x_callSv C gs_X2_113 (c_X2_requirePounds x hx) rfl rfl (Nat.le_of_ble_eq_true rfl) ⟨(Nat.le_of_ble_eq_true rfl), (Nat.le_of_ble_eq_true rfl)⟩ ⟨Nat.zero_le _, Nat.zero_le _⟩ dX2_prize_1 ?_
  refine x_aload_n C dX2_prize_4 rfl rfl ?_
  refine x_iload_n C dX2_prize_5 rfl rfl ?_
  refine x_callSi C gs_X2_116 (c_X2_poundsOrNone x) rfl rfl (Nat.le_of_ble_eq_true rfl) ⟨(Nat.le_of_ble_eq_true rfl), (Nat.le_of_ble_eq_true rfl)⟩ ⟨Nat.zero_le _, Nat.zero_le _⟩ dX2_prize_6 ?_
  refine pA0_prizePounds C _ dX2_prize_9 ?_
  exact x_vret C dX2_prize_12 rfl rfl
end OFB
