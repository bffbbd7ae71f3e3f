/-! ===== the reference: further calls that write ===== -/
section MDE
variable {l : Launch} {D : va_G} {tys : List (ClassId × FieldType)} {cI cZ : ClassId} {a : Nat → Nat} {Y : va_W} {co : Int32} {gr : Nat} {dy : Nat} {kd : Nat → Int32} {wo : Nat → Int32} {me : Nat → Bool} {ti : Nat → Int32} {td : Nat → Bool} {la : Nat → Nat} {go : Nat → Bool} {kp : Nat → Bool} {od : Nat → Nat} {no : Nat} {ax : Int32} {lv : Bool} {rh : Bool} {re : Int32} {rs : Int32} {ph : Bool} {pr : Int32} {o1 : Nat → Int32} {o2 : Nat → Int32}
set_option maxRecDepth 100000 in
set_option maxHeartbeats 4000000 in
theorem c_X3_crack_1 (x y : Int32) (hx : ¬ ((x = 0 ∨ in_B x 100 9999 = true) ∧ in_B y (-99) 99 = true)) : wo_E l yX3_crack cX3_crack 4 (none) 6 D ((cI, .int) :: (cZ, .boolean) :: tys) [.ref (a 0), .int x, .int y] (wB cI cZ a co gr dy kd wo me ti td la go kp od no ax lv rh re rs ph pr o1 o2 ++ Y) none (wB cI cZ a (1) gr dy kd wo me ti td la go kp od no ax lv rh re rs ph pr o1 o2 ++ Y) := by
  refine wo_of (ls := [some (.ref (a 0)), some (.int x), some (.int y), none]) (by decide) (Nat.le_of_ble_eq_true rfl) rfl ?_
  intro p e s m args below meth c A C
  have fin : wo_W p l e (wo_rm 6) s m args below meth c A D 0 0 4 (MQ below (wo_Q D ((cI, .int) :: (cZ, .boolean) :: tys) none (wB cI cZ a (1) gr dy kd wo me ti td la go kp od no ax lv rh re rs ph pr o1 o2 ++ Y) A) args s 0 0 A) 28 [some (.ref (a 0)), some (.int x), some (.int y), none] [.ref (a 0)] (wB cI cZ a co gr dy kd wo me ti td la go kp od no ax lv rh re rs ph pr o1 o2 ++ Y) := by
    refine x_iconst C (v := 1) dX3_crack_28 (by decide) ?_
    refine x_goto C (tgt := 46) dX3_crack_29 (by decide) ?_
    refine pB0_code C _ dX3_crack_46 ?_
    refine x_aload_n C dX3_crack_49 rfl rfl ?_
    refine gB0_code C dX3_crack_50 ?_
    refine x_if_le C (tgt := 57) dX3_crack_53 (by decide) (fun h => ?_) (fun h => ?_)
    · exact absurd h (by decide)
    · exact x_vret C dX3_crack_56 rfl rfl
  have f17 : (x = 0 ∨ in_B x 100 9999 = true) → wo_W p l e (wo_rm 6) s m args below meth c A D 0 0 4 (MQ below (wo_Q D ((cI, .int) :: (cZ, .boolean) :: tys) none (wB cI cZ a (1) gr dy kd wo me ti td la go kp od no ax lv rh re rs ph pr o1 o2 ++ Y) A) args s 0 0 A) 17 [some (.ref (a 0)), some (.int x), some (.int y), none] [.ref (a 0)] (wB cI cZ a co gr dy kd wo me ti td la go kp od no ax lv rh re rs ph pr o1 o2 ++ Y) := by
    intro h1
    refine x_iload_n C dX3_crack_17 rfl rfl ?_
    refine x_bipush C (v := -99) dX3_crack_18 (by decide) ?_
    refine x_bipush C (v := 99) dX3_crack_20 (by decide) ?_
    refine x_callSi C gs_X3_48 (c_X3_in y (-99) 99) rfl rfl (Nat.le_of_ble_eq_true rfl) ⟨(Nat.le_of_ble_eq_true rfl), (Nat.le_of_ble_eq_true rfl)⟩ ⟨Nat.zero_le _, Nat.zero_le _⟩ dX3_crack_22 ?_
    refine x_if_ne C (tgt := 32) dX3_crack_25 (by decide) (fun h2 => ?_) (fun h2 => ?_)
    · exact absurd ⟨h1, bz_t h2⟩ hx
    · exact fin
  refine x_aload_n C dX3_crack_0 rfl rfl ?_
  refine x_iload_n C dX3_crack_1 rfl rfl ?_
  refine x_if_eq C (tgt := 17) dX3_crack_2 (by decide) (fun h => ?_) (fun h => ?_)
  · exact f17 (Or.inl h)
  · refine x_iload_n C dX3_crack_5 rfl rfl ?_
    refine x_bipush C (v := 100) dX3_crack_6 (by decide) ?_
    refine x_sipush C (v := 9999) dX3_crack_8 (by decide) ?_
    refine x_callSi C gs_X3_48 (c_X3_in x 100 9999) rfl rfl (Nat.le_of_ble_eq_true rfl) ⟨(Nat.le_of_ble_eq_true rfl), (Nat.le_of_ble_eq_true rfl)⟩ ⟨Nat.zero_le _, Nat.zero_le _⟩ dX3_crack_11 ?_
    refine x_if_eq C (tgt := 28) dX3_crack_14 (by decide) (fun h2 => ?_) (fun h2 => ?_)
    · exact fin
    · exact f17 (Or.inr (bz_t h2))
set_option maxRecDepth 100000 in
set_option maxHeartbeats 4000000 in
theorem c_X3_crack_2 (x y : Int32) (hx : x = 0 ∨ in_B x 100 9999 = true) (hy : in_B y (-99) 99 = true) (hd : dy = 7) : wo_E l yX3_crack cX3_crack 4 (none) 6 D ((cI, .int) :: (cZ, .boolean) :: tys) [.ref (a 0), .int x, .int y] (wB cI cZ a co gr dy kd wo me ti td la go kp od no ax lv rh re rs ph pr o1 o2 ++ Y) none (wB cI cZ a (2) gr dy kd wo me ti td la go kp od no ax lv rh re rs ph pr o1 o2 ++ Y) := by
  refine wo_of (ls := [some (.ref (a 0)), some (.int x), some (.int y), none]) (by decide) (Nat.le_of_ble_eq_true rfl) rfl ?_
  intro p e s m args below meth c A C
  have f17 : wo_W p l e (wo_rm 6) s m args below meth c A D 0 0 4 (MQ below (wo_Q D ((cI, .int) :: (cZ, .boolean) :: tys) none (wB cI cZ a (2) gr dy kd wo me ti td la go kp od no ax lv rh re rs ph pr o1 o2 ++ Y) A) args s 0 0 A) 17 [some (.ref (a 0)), some (.int x), some (.int y), none] [.ref (a 0)] (wB cI cZ a co gr dy kd wo me ti td la go kp od no ax lv rh re rs ph pr o1 o2 ++ Y) := by
    refine x_iload_n C dX3_crack_17 rfl rfl ?_
    refine x_bipush C (v := -99) dX3_crack_18 (by decide) ?_
    refine x_bipush C (v := 99) dX3_crack_20 (by decide) ?_
    refine x_callSi C gs_X3_48 (c_X3_in y (-99) 99) rfl rfl (Nat.le_of_ble_eq_true rfl) ⟨(Nat.le_of_ble_eq_true rfl), (Nat.le_of_ble_eq_true rfl)⟩ ⟨Nat.zero_le _, Nat.zero_le _⟩ dX3_crack_22 ?_
    refine x_if_ne C (tgt := 32) dX3_crack_25 (by decide) (fun h2 => ?_) (fun h2 => ?_)
    · refine x_aload_n C dX3_crack_32 rfl rfl ?_
      refine gB0_day C dX3_crack_33 ?_
      refine x_bipush C (v := 7) dX3_crack_36 (by decide) ?_
      refine x_icmp_ne C (tgt := 45) dX3_crack_38 (by decide) (fun h3 => ?_) (fun h3 => ?_)
      · exact absurd (by rw [hd]; rfl) h3
      · refine x_iconst C (v := 2) dX3_crack_41 (by decide) ?_
        refine x_goto C (tgt := 46) dX3_crack_42 (by decide) ?_
        refine pB0_code C _ dX3_crack_46 ?_
        refine x_aload_n C dX3_crack_49 rfl rfl ?_
        refine gB0_code C dX3_crack_50 ?_
        refine x_if_le C (tgt := 57) dX3_crack_53 (by decide) (fun h4 => ?_) (fun h4 => ?_)
        · exact absurd h4 (by decide)
        · exact x_vret C dX3_crack_56 rfl rfl
    · exact absurd hy (by rw [bz_f h2]; decide)
  refine x_aload_n C dX3_crack_0 rfl rfl ?_
  refine x_iload_n C dX3_crack_1 rfl rfl ?_
  refine x_if_eq C (tgt := 17) dX3_crack_2 (by decide) (fun h => ?_) (fun h => ?_)
  · exact f17
  · refine x_iload_n C dX3_crack_5 rfl rfl ?_
    refine x_bipush C (v := 100) dX3_crack_6 (by decide) ?_
    refine x_sipush C (v := 9999) dX3_crack_8 (by decide) ?_
    refine x_callSi C gs_X3_48 (c_X3_in x 100 9999) rfl rfl (Nat.le_of_ble_eq_true rfl) ⟨(Nat.le_of_ble_eq_true rfl), (Nat.le_of_ble_eq_true rfl)⟩ ⟨Nat.zero_le _, Nat.zero_le _⟩ dX3_crack_11 ?_
    refine x_if_eq C (tgt := 28) dX3_crack_14 (by decide) (fun h2 => ?_) (fun h2 => ?_)
    · exact absurd hx (by rw [bz_f h2]; rintro (z | z); exact h z; exact absurd z (by decide))
    · exact f17
set_option maxRecDepth 100000 in
set_option maxHeartbeats 4000000 in
theorem c_X3_crack (W2 : wo_sw) (x y : Int32) (t i : Nat) (hx : x = 0 ∨ in_B x 100 9999 = true) (hy : in_B y (-99) 99 = true) (hd : dy ≤ 6) (hax : ax = nI t) (ht : t < 12) (hod : od t < 12) (hi : i = 7 * od t + dy)
    (hp : wo_S l yX3_passOn cX3_passOn 1 (none) 5 D ((cI, .int) :: (cZ, .boolean) :: tys) [.ref (a 0)] (wB cI cZ a (0) gr dy (va_up kd i 2) (va_up wo i (x / 10)) (va_up me i (decide (¬ x = 0))) (va_up ti i y) (va_up td i lv) (va_up la (od t) dy) go kp od no ax lv rh re rs ph pr o1 o2 ++ Y) none W2) : wo_S l yX3_crack cX3_crack 4 (none) 6 D ((cI, .int) :: (cZ, .boolean) :: tys) [.ref (a 0), .int x, .int y] (wB cI cZ a co gr dy kd wo me ti td la go kp od no ax lv rh re rs ph pr o1 o2 ++ Y) none W2 := by
  refine wo_ofS (ls := [some (.ref (a 0)), some (.int x), some (.int y), none]) (by decide) (Nat.le_of_ble_eq_true rfl) rfl ?_
  intro p e s m args below meth c A C
  subst hi
  have hup : ∀ (f : Nat → Bool) (i : Nat) (u v : Bool), va_up (va_up f i u) i v = va_up f i v := fun f i u v => bx_uu f i u v
  
  have f87 : ∀ v : Int32, v = bz (decide (¬ x = 0)) → wo_W p l e (wo_rm 6) s m args below meth c A D 0 0 4 (MQ below (wo_QS D ((cI, .int) :: (cZ, .boolean) :: tys) none W2 A) args s 0 0 A) 87 [some (.ref (a 0)), some (.int x), some (.int y), some (.int (nI (7 * od t + dy)))] [.int v, .int (nI (7 * od t + dy)), .ref (a 3)] (wB cI cZ a (0) gr dy (va_up kd (7 * od t + dy) 2) (va_up wo (7 * od t + dy) (x / 10)) (va_up me (7 * od t + dy) false) ti (va_up td (7 * od t + dy) false) (va_up la (od t) dy) go kp od no ax lv rh re rs ph pr o1 o2 ++ Y) := by
    intro v hv
    refine sB_me C (decide (¬ x = 0)) hv _ rfl (by omega) dX3_crack_87 ?_
    refine x_aload_n C dX3_crack_88 rfl rfl ?_
    refine gB0_tilted C dX3_crack_89 ?_
    refine x_iload_n C dX3_crack_92 rfl rfl ?_
    refine x_aload_n C dX3_crack_93 rfl rfl ?_
    refine gB0_level C dX3_crack_94 ?_
    refine sB_td C lv rfl _ rfl (by omega) dX3_crack_97 ?_
    refine x_aload_n C dX3_crack_98 rfl rfl ?_
    refine gB0_tilt C dX3_crack_99 ?_
    refine x_iload_n C dX3_crack_102 rfl rfl ?_
    refine x_iload_n C dX3_crack_103 rfl rfl ?_
    refine sB_ti C _ _ rfl (by omega) dX3_crack_104 ?_
    refine x_aload_n C dX3_crack_105 rfl rfl ?_
    rw [hup, hup]
    refine x_callVSv C gv_X3_99 (hp) 0 rfl rfl rfl rfl (Nat.le_of_ble_eq_true rfl) ⟨(Nat.le_of_ble_eq_true rfl), (Nat.le_of_ble_eq_true rfl)⟩ ⟨Nat.zero_le _, Nat.zero_le _⟩ dX3_crack_106 (fun o1 o2 => ?_)
    exact x_vretS C dX3_crack_109 rfl rfl
  have f17 : wo_W p l e (wo_rm 6) s m args below meth c A D 0 0 4 (MQ below (wo_QS D ((cI, .int) :: (cZ, .boolean) :: tys) none W2 A) args s 0 0 A) 17 [some (.ref (a 0)), some (.int x), some (.int y), none] [.ref (a 0)] (wB cI cZ a co gr dy kd wo me ti td la go kp od no ax lv rh re rs ph pr o1 o2 ++ Y) := by
    refine x_iload_n C dX3_crack_17 rfl rfl ?_
    refine x_bipush C (v := -99) dX3_crack_18 (by decide) ?_
    refine x_bipush C (v := 99) dX3_crack_20 (by decide) ?_
    refine x_callSi C gs_X3_48 (c_X3_in y (-99) 99) rfl rfl (Nat.le_of_ble_eq_true rfl) ⟨(Nat.le_of_ble_eq_true rfl), (Nat.le_of_ble_eq_true rfl)⟩ ⟨Nat.zero_le _, Nat.zero_le _⟩ dX3_crack_22 ?_
    refine x_if_ne C (tgt := 32) dX3_crack_25 (by decide) (fun h2 => ?_) (fun h2 => ?_)
    · refine x_aload_n C dX3_crack_32 rfl rfl ?_
      refine gB0_day C dX3_crack_33 ?_
      refine x_bipush C (v := 7) dX3_crack_36 (by decide) ?_
      refine x_icmp_ne C (tgt := 45) dX3_crack_38 (by decide) (fun h3 => ?_) (fun h3 => ?_)
      · refine x_iconst C (v := 0) dX3_crack_45 (by decide) ?_
        refine pB0_code C _ dX3_crack_46 ?_
        refine x_aload_n C dX3_crack_49 rfl rfl ?_
        refine gB0_code C dX3_crack_50 ?_
        refine x_if_le C (tgt := 57) dX3_crack_53 (by decide) (fun h4 => ?_) (fun h4 => ?_)
        · refine x_aload_n C dX3_crack_57 rfl rfl ?_
          refine x_iconst C (v := 2) dX3_crack_58 (by decide) ?_
          refine x_callVi C gv_X3_93 (c_X3_entry 2 t hax ht hod hd) 0 rfl rfl rfl rfl (Nat.le_of_ble_eq_true rfl) ⟨(Nat.le_of_ble_eq_true rfl), (Nat.le_of_ble_eq_true rfl)⟩ ⟨Nat.zero_le _, Nat.zero_le _⟩ dX3_crack_59 ?_
          refine x_istore_n C dX3_crack_62 rfl (by decide) ?_
          refine x_aload_n C dX3_crack_63 rfl rfl ?_
          refine gB0_worth C dX3_crack_64 ?_
          refine x_iload_n C dX3_crack_67 rfl rfl ?_
          refine x_iload_n C dX3_crack_68 rfl rfl ?_
          refine x_bipush C (v := 10) dX3_crack_69 (by decide) ?_
          refine x_idiv C dX3_crack_71 (by decide) ?_
          refine sB_wo C _ _ rfl (by omega) dX3_crack_72 ?_
          refine x_aload_n C dX3_crack_73 rfl rfl ?_
          refine gB0_measured C dX3_crack_74 ?_
          refine x_iload_n C dX3_crack_77 rfl rfl ?_
          refine x_iload_n C dX3_crack_78 rfl rfl ?_
          refine x_if_eq C (tgt := 86) dX3_crack_79 (by decide) (fun h5 => ?_) (fun h5 => ?_)
          · refine x_iconst C (v := 0) dX3_crack_86 (by decide) ?_
            exact f87 0 (by rw [decide_eq_false (fun z => z h5)]; rfl)
          · refine x_iconst C (v := 1) dX3_crack_82 (by decide) ?_
            refine x_goto C (tgt := 87) dX3_crack_83 (by decide) ?_
            exact f87 1 (by rw [decide_eq_true h5]; rfl)
        · exact absurd (by decide) h4
      · exact absurd (wo_ieq (a := dy) (b := 7) (by omega) (by omega) h3) (by omega)
    · exact absurd hy (by rw [bz_f h2]; decide)
  refine x_aload_n C dX3_crack_0 rfl rfl ?_
  refine x_iload_n C dX3_crack_1 rfl rfl ?_
  refine x_if_eq C (tgt := 17) dX3_crack_2 (by decide) (fun h => ?_) (fun h => ?_)
  · exact f17
  · refine x_iload_n C dX3_crack_5 rfl rfl ?_
    refine x_bipush C (v := 100) dX3_crack_6 (by decide) ?_
    refine x_sipush C (v := 9999) dX3_crack_8 (by decide) ?_
    refine x_callSi C gs_X3_48 (c_X3_in x 100 9999) rfl rfl (Nat.le_of_ble_eq_true rfl) ⟨(Nat.le_of_ble_eq_true rfl), (Nat.le_of_ble_eq_true rfl)⟩ ⟨Nat.zero_le _, Nat.zero_le _⟩ dX3_crack_11 ?_
    refine x_if_eq C (tgt := 28) dX3_crack_14 (by decide) (fun h2 => ?_) (fun h2 => ?_)
    · exact absurd hx (by rw [bz_f h2]; rintro (z | z); exact h z; exact absurd z (by decide))
    · exact f17
set_option maxRecDepth 100000 in
set_option maxHeartbeats 4000000 in
theorem c_X3_pass_1 (hd : dy = 7) : wo_E l yX3_pass cX3_pass 2 (none) 6 D ((cI, .int) :: (cZ, .boolean) :: tys) [.ref (a 0)] (wB cI cZ a co gr dy kd wo me ti td la go kp od no ax lv rh re rs ph pr o1 o2 ++ Y) none (wB cI cZ a (1) gr dy kd wo me ti td la go kp od no ax lv rh re rs ph pr o1 o2 ++ Y) := by
  refine wo_of (ls := [some (.ref (a 0)), none]) (by decide) (Nat.le_of_ble_eq_true rfl) rfl ?_
  intro p e s m args below meth c A C
  refine x_aload_n C dX3_pass_0 rfl rfl ?_
  refine x_aload_n C dX3_pass_1 rfl rfl ?_
  refine gB0_day C dX3_pass_2 ?_
  refine x_bipush C (v := 7) dX3_pass_5 (by decide) ?_
  refine x_icmp_ne C (tgt := 14) dX3_pass_7 (by decide) (fun h => ?_) (fun h => ?_)
  · exact absurd (by rw [hd]; rfl) h
  · refine x_iconst C (v := 1) dX3_pass_10 (by decide) ?_
    refine x_goto C (tgt := 15) dX3_pass_11 (by decide) ?_
    refine pB0_code C _ dX3_pass_15 ?_
    refine x_aload_n C dX3_pass_18 rfl rfl ?_
    refine gB0_code C dX3_pass_19 ?_
    refine x_if_ne C (tgt := 35) dX3_pass_22 (by decide) (fun h2 => ?_) (fun h2 => ?_)
    · exact x_vret C dX3_pass_35 rfl rfl
    · exact absurd h2 (by decide)
set_option maxRecDepth 100000 in
set_option maxHeartbeats 4000000 in
theorem c_X3_pass (W2 : wo_sw) (t i : Nat) (hd : dy ≤ 6) (hax : ax = nI t) (ht : t < 12) (hod : od t < 12) (hi : i = 7 * od t + dy)
    (hp : wo_S l yX3_passOn cX3_passOn 1 (none) 5 D ((cI, .int) :: (cZ, .boolean) :: tys) [.ref (a 0)] (wB cI cZ a (0) gr dy (va_up kd i 3) wo (va_up me i false) ti (va_up td i false) (va_up la (od t) dy) go kp od no ax lv rh re rs ph pr o1 o2 ++ Y) none W2) : wo_S l yX3_pass cX3_pass 2 (none) 6 D ((cI, .int) :: (cZ, .boolean) :: tys) [.ref (a 0)] (wB cI cZ a co gr dy kd wo me ti td la go kp od no ax lv rh re rs ph pr o1 o2 ++ Y) none W2 := by
  refine wo_ofS (ls := [some (.ref (a 0)), none]) (by decide) (Nat.le_of_ble_eq_true rfl) rfl ?_
  intro p e s m args below meth c A C
  subst hi
  
  refine x_aload_n C dX3_pass_0 rfl rfl ?_
  refine x_aload_n C dX3_pass_1 rfl rfl ?_
  refine gB0_day C dX3_pass_2 ?_
  refine x_bipush C (v := 7) dX3_pass_5 (by decide) ?_
  refine x_icmp_ne C (tgt := 14) dX3_pass_7 (by decide) (fun h => ?_) (fun h => ?_)
  · refine x_iconst C (v := 0) dX3_pass_14 (by decide) ?_
    refine pB0_code C _ dX3_pass_15 ?_
    refine x_aload_n C dX3_pass_18 rfl rfl ?_
    refine gB0_code C dX3_pass_19 ?_
    refine x_if_ne C (tgt := 35) dX3_pass_22 (by decide) (fun h2 => ?_) (fun h2 => ?_)
    · exact absurd rfl h2
    · refine x_aload_n C dX3_pass_25 rfl rfl ?_
      refine x_iconst C (v := 3) dX3_pass_26 (by decide) ?_
      refine x_callVi C gv_X3_93 (c_X3_entry 3 t hax ht hod hd) 0 rfl rfl rfl rfl (Nat.le_of_ble_eq_true rfl) ⟨(Nat.le_of_ble_eq_true rfl), (Nat.le_of_ble_eq_true rfl)⟩ ⟨Nat.zero_le _, Nat.zero_le _⟩ dX3_pass_27 ?_
      refine x_istore_n C dX3_pass_30 rfl (by decide) ?_
      refine x_aload_n C dX3_pass_31 rfl rfl ?_
      refine x_callVSv C gv_X3_99 (hp) 0 rfl rfl rfl rfl (Nat.le_of_ble_eq_true rfl) ⟨(Nat.le_of_ble_eq_true rfl), (Nat.le_of_ble_eq_true rfl)⟩ ⟨Nat.zero_le _, Nat.zero_le _⟩ dX3_pass_32 (fun o1 o2 => ?_)
      exact x_vretS C dX3_pass_35 rfl rfl
  · exact absurd (wo_ieq (a := dy) (b := 7) (by omega) (by omega) h) (by omega)
set_option maxRecDepth 100000 in
set_option maxHeartbeats 4000000 in
theorem c_X3_leave_1 (x : Int32) (hg : 1 ≤ gr) (hx : in_B x 0 (nI (gr - 1)) = false) : wo_E l yX3_leave cX3_leave 2 (none) 6 D ((cI, .int) :: (cZ, .boolean) :: tys) [.ref (a 0), .int x] (wB cI cZ a co gr dy kd wo me ti td la go kp od no ax lv rh re rs ph pr o1 o2 ++ Y) none (wB cI cZ a (1) gr dy kd wo me ti td la go kp od no ax lv rh re rs ph pr o1 o2 ++ Y) := by
  refine wo_of (ls := [some (.ref (a 0)), some (.int x)]) (by decide) (Nat.le_of_ble_eq_true rfl) rfl ?_
  intro p e s m args below meth c A C
  refine x_aload_n C dX3_leave_0 rfl rfl ?_
  refine x_iload_n C dX3_leave_1 rfl rfl ?_
  refine x_iconst C (v := 0) dX3_leave_2 (by decide) ?_
  refine x_aload_n C dX3_leave_3 rfl rfl ?_
  refine gB0_growers C dX3_leave_4 ?_
  refine x_iconst C (v := 1) dX3_leave_7 (by decide) ?_
  refine x_isub C dX3_leave_8 ?_
  refine x_top (wo_gr1 hg) ?_
  refine x_callSi C gs_X3_48 (c_X3_in x 0 (nI (gr - 1))) rfl rfl (Nat.le_of_ble_eq_true rfl) ⟨(Nat.le_of_ble_eq_true rfl), (Nat.le_of_ble_eq_true rfl)⟩ ⟨Nat.zero_le _, Nat.zero_le _⟩ dX3_leave_9 ?_
  refine x_if_ne C (tgt := 19) dX3_leave_12 (by decide) (fun h => ?_) (fun h => ?_)
  · exact absurd hx (by rw [bz_t h]; decide)
  · refine x_iconst C (v := 1) dX3_leave_15 (by decide) ?_
    refine x_goto C (tgt := 33) dX3_leave_16 (by decide) ?_
    refine pB0_code C _ dX3_leave_33 ?_
    refine x_aload_n C dX3_leave_36 rfl rfl ?_
    refine gB0_code C dX3_leave_37 ?_
    refine x_if_le C (tgt := 44) dX3_leave_40 (by decide) (fun h2 => ?_) (fun h2 => ?_)
    · exact absurd h2 (by decide)
    · exact x_vret C dX3_leave_43 rfl rfl
set_option maxRecDepth 100000 in
set_option maxHeartbeats 4000000 in
theorem c_X3_leave_2 (w : Nat) (hw : w < gr) (hg : gr ≤ 12) (hgo : go w = true) : wo_E l yX3_leave cX3_leave 2 (none) 6 D ((cI, .int) :: (cZ, .boolean) :: tys) [.ref (a 0), .int (nI w)] (wB cI cZ a co gr dy kd wo me ti td la go kp od no ax lv rh re rs ph pr o1 o2 ++ Y) none (wB cI cZ a (2) gr dy kd wo me ti td la go kp od no ax lv rh re rs ph pr o1 o2 ++ Y) := by
  refine wo_of (ls := [some (.ref (a 0)), some (.int (nI w))]) (by decide) (Nat.le_of_ble_eq_true rfl) rfl ?_
  intro p e s m args below meth c A C
  refine x_aload_n C dX3_leave_0 rfl rfl ?_
  refine x_iload_n C dX3_leave_1 rfl rfl ?_
  refine x_iconst C (v := 0) dX3_leave_2 (by decide) ?_
  refine x_aload_n C dX3_leave_3 rfl rfl ?_
  refine gB0_growers C dX3_leave_4 ?_
  refine x_iconst C (v := 1) dX3_leave_7 (by decide) ?_
  refine x_isub C dX3_leave_8 ?_
  refine x_top (wo_gr1 (by omega)) ?_
  refine x_callSi C gs_X3_48 (c_X3_in (nI w) 0 (nI (gr - 1))) rfl rfl (Nat.le_of_ble_eq_true rfl) ⟨(Nat.le_of_ble_eq_true rfl), (Nat.le_of_ble_eq_true rfl)⟩ ⟨Nat.zero_le _, Nat.zero_le _⟩ dX3_leave_9 ?_
  refine x_if_ne C (tgt := 19) dX3_leave_12 (by decide) (fun h => ?_) (fun h => ?_)
  · refine x_aload_n C dX3_leave_19 rfl rfl ?_
    refine gB0_gone C dX3_leave_20 ?_
    refine x_iload_n C dX3_leave_23 rfl rfl ?_
    refine lB_go C _ rfl (by omega) dX3_leave_24 ?_
    refine x_if_eq C (tgt := 32) dX3_leave_25 (by decide) (fun h2 => ?_) (fun h2 => ?_)
    · exact absurd hgo (by rw [bz_f h2]; decide)
    · refine x_iconst C (v := 2) dX3_leave_28 (by decide) ?_
      refine x_goto C (tgt := 33) dX3_leave_29 (by decide) ?_
      refine pB0_code C _ dX3_leave_33 ?_
      refine x_aload_n C dX3_leave_36 rfl rfl ?_
      refine gB0_code C dX3_leave_37 ?_
      refine x_if_le C (tgt := 44) dX3_leave_40 (by decide) (fun h3 => ?_) (fun h3 => ?_)
      · exact absurd h3 (by decide)
      · exact x_vret C dX3_leave_43 rfl rfl
  · exact absurd (wo_in0' hg hw) (by rw [bz_f h]; decide)
set_option maxRecDepth 100000 in
set_option maxHeartbeats 4000000 in
theorem c_X3_leave (W2 : wo_sw) (w t : Nat) (hw : w < gr) (hg : gr ≤ 12) (hgo : go w = false) (hd : dy ≤ 7) (hax : ¬ dy = 7 → ax = nI t ∧ t < 12 ∧ od t < 12)
    (h1 : ¬ (¬ dy = 7 ∧ od t = w) → (wB cI cZ a (0) gr dy kd wo me ti td la (va_up go w true) kp od no ax lv rh re rs ph pr o1 o2 ++ Y) = W2 o1 o2)
    (h2 : ¬ dy = 7 ∧ od t = w → wo_S l yX3_passOn cX3_passOn 1 (none) 5 D ((cI, .int) :: (cZ, .boolean) :: tys) [.ref (a 0)] (wB cI cZ a (0) gr dy kd wo me ti td la (va_up go w true) kp od no ax lv rh re rs ph pr o1 o2 ++ Y) none W2) : wo_S l yX3_leave cX3_leave 2 (none) 6 D ((cI, .int) :: (cZ, .boolean) :: tys) [.ref (a 0), .int (nI w)] (wB cI cZ a co gr dy kd wo me ti td la go kp od no ax lv rh re rs ph pr o1 o2 ++ Y) none W2 := by
  refine wo_ofS (ls := [some (.ref (a 0)), some (.int (nI w))]) (by decide) (Nat.le_of_ble_eq_true rfl) rfl ?_
  intro p e s m args below meth c A C
  
  refine x_aload_n C dX3_leave_0 rfl rfl ?_
  refine x_iload_n C dX3_leave_1 rfl rfl ?_
  refine x_iconst C (v := 0) dX3_leave_2 (by decide) ?_
  refine x_aload_n C dX3_leave_3 rfl rfl ?_
  refine gB0_growers C dX3_leave_4 ?_
  refine x_iconst C (v := 1) dX3_leave_7 (by decide) ?_
  refine x_isub C dX3_leave_8 ?_
  refine x_top (wo_gr1 (by omega)) ?_
  refine x_callSi C gs_X3_48 (c_X3_in (nI w) 0 (nI (gr - 1))) rfl rfl (Nat.le_of_ble_eq_true rfl) ⟨(Nat.le_of_ble_eq_true rfl), (Nat.le_of_ble_eq_true rfl)⟩ ⟨Nat.zero_le _, Nat.zero_le _⟩ dX3_leave_9 ?_
  refine x_if_ne C (tgt := 19) dX3_leave_12 (by decide) (fun h => ?_) (fun h => ?_)
  · refine x_aload_n C dX3_leave_19 rfl rfl ?_
    refine gB0_gone C dX3_leave_20 ?_
    refine x_iload_n C dX3_leave_23 rfl rfl ?_
    refine lB_go C _ rfl (by omega) dX3_leave_24 ?_
    refine x_if_eq C (tgt := 32) dX3_leave_25 (by decide) (fun h3 => ?_) (fun h3 => ?_)
    · refine x_iconst C (v := 0) dX3_leave_32 (by decide) ?_
      refine pB0_code C _ dX3_leave_33 ?_
      refine x_aload_n C dX3_leave_36 rfl rfl ?_
      refine gB0_code C dX3_leave_37 ?_
      refine x_if_le C (tgt := 44) dX3_leave_40 (by decide) (fun h4 => ?_) (fun h4 => ?_)
      · refine x_aload_n C dX3_leave_44 rfl rfl ?_
        refine gB0_gone C dX3_leave_45 ?_
        refine x_iload_n C dX3_leave_48 rfl rfl ?_
        refine x_iconst C (v := 1) dX3_leave_49 (by decide) ?_
        refine sB_go C true rfl w rfl (by omega) dX3_leave_50 ?_
        refine x_aload_n C dX3_leave_51 rfl rfl ?_
        refine gB0_day C dX3_leave_52 ?_
        refine x_bipush C (v := 7) dX3_leave_55 (by decide) ?_
        refine x_icmp_eq C (tgt := 77) dX3_leave_57 (by decide) (fun h5 => ?_) (fun h5 => ?_)
        · have h6 : dy = 7 := wo_ieq (a := dy) (b := 7) (by omega) (by omega) h5
          exact x_vretS C dX3_leave_77 rfl (h1 (fun z => z.1 h6))
        · have h6 : ¬ dy = 7 := fun z => h5 (by rw [z]; rfl)
          obtain ⟨g1, g2, g3⟩ := hax h6
          refine x_aload_n C dX3_leave_60 rfl rfl ?_
          refine gB0_order C dX3_leave_61 ?_
          refine x_aload_n C dX3_leave_64 rfl rfl ?_
          refine gB0_at C dX3_leave_65 ?_
          refine lB_od C t g1 g2 dX3_leave_68 ?_
          refine x_iload_n C dX3_leave_69 rfl rfl ?_
          refine x_icmp_ne C (tgt := 77) dX3_leave_70 (by decide) (fun h7 => ?_) (fun h7 => ?_)
          · exact x_vretS C dX3_leave_77 rfl (h1 (fun z => h7 (by rw [z.2])))
          · refine x_aload_n C dX3_leave_73 rfl rfl ?_
            refine x_callVSv C gv_X3_99 (h2 ⟨h6, wo_ieq (by omega) (by omega) h7⟩) 0 rfl rfl rfl rfl (Nat.le_of_ble_eq_true rfl) ⟨(Nat.le_of_ble_eq_true rfl), (Nat.le_of_ble_eq_true rfl)⟩ ⟨Nat.zero_le _, Nat.zero_le _⟩ dX3_leave_74 (fun o1 o2 => ?_)
            exact x_vretS C dX3_leave_77 rfl rfl
      · exact absurd (by decide) h4
    · exact absurd hgo (by rw [bz_t h3]; decide)
  · exact absurd (wo_in0' hg hw) (by rw [bz_f h]; decide)
set_option maxRecDepth 100000 in
set_option maxHeartbeats 4000000 in
theorem c_X3_isEntry (x y : Int32) (hg : 1 ≤ gr) : wo_E l yX3_isEntry cX3_isEntry 3 (some .boolean) 1 D ((cI, .int) :: (cZ, .boolean) :: tys) [.ref (a 0), .int x, .int y] (wB cI cZ a co gr dy kd wo me ti td la go kp od no ax lv rh re rs ph pr o1 o2 ++ Y) (some (.int (bz (in_B x 0 (nI (gr - 1)) && in_B y 1 6)))) (wB cI cZ a co gr dy kd wo me ti td la go kp od no ax lv rh re rs ph pr o1 o2 ++ Y) := by
  refine wo_of (ls := [some (.ref (a 0)), some (.int x), some (.int y)]) (by decide) (Nat.le_of_ble_eq_true rfl) rfl ?_
  intro p e s m args below meth c A C
  refine x_iload_n C dX3_isEntry_0 rfl rfl ?_
  refine x_iconst C (v := 0) dX3_isEntry_1 (by decide) ?_
  refine x_aload_n C dX3_isEntry_2 rfl rfl ?_
  refine gB0_growers C dX3_isEntry_3 ?_
  refine x_iconst C (v := 1) dX3_isEntry_6 (by decide) ?_
  refine x_isub C dX3_isEntry_7 ?_
  refine x_top (wo_gr1 hg) ?_
  refine x_callSi C gs_X3_48 (c_X3_in x 0 (nI (gr - 1))) rfl rfl (Nat.le_of_ble_eq_true rfl) ⟨(Nat.le_of_ble_eq_true rfl), (Nat.le_of_ble_eq_true rfl)⟩ ⟨Nat.zero_le _, Nat.zero_le _⟩ dX3_isEntry_8 ?_
  refine x_if_eq C (tgt := 28) dX3_isEntry_11 (by decide) (fun h => ?_) (fun h => ?_)
  · refine x_iconst C (v := 0) dX3_isEntry_28 (by decide) ?_
    exact x_zret C dX3_isEntry_29 (b := false) rfl (by rw [bz_f h]; rfl) rfl
  · refine x_iload_n C dX3_isEntry_14 rfl rfl ?_
    refine x_iconst C (v := 1) dX3_isEntry_15 (by decide) ?_
    refine x_bipush C (v := 6) dX3_isEntry_16 (by decide) ?_
    refine x_callSi C gs_X3_48 (c_X3_in y 1 6) rfl rfl (Nat.le_of_ble_eq_true rfl) ⟨(Nat.le_of_ble_eq_true rfl), (Nat.le_of_ble_eq_true rfl)⟩ ⟨Nat.zero_le _, Nat.zero_le _⟩ dX3_isEntry_18 ?_
    refine x_if_eq C (tgt := 28) dX3_isEntry_21 (by decide) (fun h2 => ?_) (fun h2 => ?_)
    · refine x_iconst C (v := 0) dX3_isEntry_28 (by decide) ?_
      exact x_zret C dX3_isEntry_29 (b := false) rfl (by rw [bz_f h2, Bool.and_false]) rfl
    · refine x_iconst C (v := 1) dX3_isEntry_24 (by decide) ?_
      refine x_goto C (tgt := 29) dX3_isEntry_25 (by decide) ?_
      exact x_zret C dX3_isEntry_29 (b := true) rfl (by rw [bz_t h, bz_t h2]; rfl) rfl
set_option maxRecDepth 100000 in
set_option maxHeartbeats 4000000 in
theorem c_X3_appeal_1 (x y : Int32) (hg : 1 ≤ gr) (hx : (in_B x 0 (nI (gr - 1)) && in_B y 1 6) = false) : wo_E l yX3_appeal cX3_appeal 4 (some .int) 2 D ((cI, .int) :: (cZ, .boolean) :: tys) [.ref (a 0), .int x, .int y] (wB cI cZ a co gr dy kd wo me ti td la go kp od no ax lv rh re rs ph pr o1 o2 ++ Y) (some (.int 0)) (wB cI cZ a (1) gr dy kd wo me ti td la go kp od no ax lv rh re rs ph pr o1 o2 ++ Y) := by
  refine wo_of (ls := [some (.ref (a 0)), some (.int x), some (.int y), none]) (by decide) (Nat.le_of_ble_eq_true rfl) rfl ?_
  intro p e s m args below meth c A C
  refine x_aload_n C dX3_appeal_0 rfl rfl ?_
  refine x_aload_n C dX3_appeal_1 rfl rfl ?_
  refine x_iload_n C dX3_appeal_2 rfl rfl ?_
  refine x_iload_n C dX3_appeal_3 rfl rfl ?_
  refine x_callVi C gv_X3_111 (c_X3_isEntry x y hg) 0 rfl rfl rfl rfl (Nat.le_of_ble_eq_true rfl) ⟨(Nat.le_of_ble_eq_true rfl), (Nat.le_of_ble_eq_true rfl)⟩ ⟨Nat.zero_le _, Nat.zero_le _⟩ dX3_appeal_4 ?_
  refine x_if_ne C (tgt := 14) dX3_appeal_7 (by decide) (fun h => ?_) (fun h => ?_)
  · exact absurd hx (by rw [bz_t h]; decide)
  · refine x_iconst C (v := 1) dX3_appeal_10 (by decide) ?_
    refine x_goto C (tgt := 15) dX3_appeal_11 (by decide) ?_
    refine pB0_code C _ dX3_appeal_15 ?_
    refine x_aload_n C dX3_appeal_18 rfl rfl ?_
    refine gB0_code C dX3_appeal_19 ?_
    refine x_if_le C (tgt := 27) dX3_appeal_22 (by decide) (fun h2 => ?_) (fun h2 => ?_)
    · exact absurd h2 (by decide)
    · refine x_iconst C (v := 0) dX3_appeal_25 (by decide) ?_
      exact x_iret C dX3_appeal_26 rfl rfl
set_option maxRecDepth 100000 in
set_option maxHeartbeats 4000000 in
theorem c_X3_appeal_2 (w d : Nat) (hg : 1 ≤ gr) (hg2 : gr ≤ 12) (hw : w < gr) (h1 : 1 ≤ d) (h6 : d ≤ 6) (hc : ¬ (kd (7 * w + d) = 2 ∧ me (7 * w + d) = true)) : wo_E l yX3_appeal cX3_appeal 4 (some .int) 2 D ((cI, .int) :: (cZ, .boolean) :: tys) [.ref (a 0), .int (nI w), .int (nI d)] (wB cI cZ a co gr dy kd wo me ti td la go kp od no ax lv rh re rs ph pr o1 o2 ++ Y) (some (.int 0)) (wB cI cZ a (2) gr dy kd wo me ti td la go kp od no ax lv rh re rs ph pr o1 o2 ++ Y) := by
  refine wo_of (ls := [some (.ref (a 0)), some (.int (nI w)), some (.int (nI d)), none]) (by decide) (Nat.le_of_ble_eq_true rfl) rfl ?_
  intro p e s m args below meth c A C
  have hin : (in_B (nI w) 0 (nI (gr - 1)) && in_B (nI d) 1 6) = true := by rw [wo_in0' hg2 hw, show in_B (nI d) 1 6 = true from decide_eq_true ⟨nI_le (a := 1) h1 (by omega), nI_le (b := 6) h6 (by omega)⟩]; rfl
  have fin : wo_W p l e (wo_rm 2) s m args below meth c A D 0 0 4 (MQ below (wo_Q D ((cI, .int) :: (cZ, .boolean) :: tys) (some (.int 0)) (wB cI cZ a (2) gr dy kd wo me ti td la go kp od no ax lv rh re rs ph pr o1 o2 ++ Y) A) args s 0 0 A) 54 [some (.ref (a 0)), some (.int (nI w)), some (.int (nI d)), some (.int (nI (7 * w + d)))] [.ref (a 0)] (wB cI cZ a (0) gr dy kd wo me ti td la go kp od no ax lv rh re rs ph pr o1 o2 ++ Y) := by
    refine x_iconst C (v := 2) dX3_appeal_54 (by decide) ?_
    refine x_goto C (tgt := 59) dX3_appeal_55 (by decide) ?_
    refine pB0_code C _ dX3_appeal_59 ?_
    refine x_aload_n C dX3_appeal_62 rfl rfl ?_
    refine gB0_code C dX3_appeal_63 ?_
    refine x_if_le C (tgt := 71) dX3_appeal_66 (by decide) (fun h2 => ?_) (fun h2 => ?_)
    · exact absurd h2 (by decide)
    · refine x_iconst C (v := 0) dX3_appeal_69 (by decide) ?_
      exact x_iret C dX3_appeal_70 rfl rfl
  refine x_aload_n C dX3_appeal_0 rfl rfl ?_
  refine x_aload_n C dX3_appeal_1 rfl rfl ?_
  refine x_iload_n C dX3_appeal_2 rfl rfl ?_
  refine x_iload_n C dX3_appeal_3 rfl rfl ?_
  refine x_callVi C gv_X3_111 (c_X3_isEntry _ _ hg) 0 rfl rfl rfl rfl (Nat.le_of_ble_eq_true rfl) ⟨(Nat.le_of_ble_eq_true rfl), (Nat.le_of_ble_eq_true rfl)⟩ ⟨Nat.zero_le _, Nat.zero_le _⟩ dX3_appeal_4 ?_
  refine x_if_ne C (tgt := 14) dX3_appeal_7 (by decide) (fun h => ?_) (fun h => ?_)
  · refine x_iconst C (v := 0) dX3_appeal_14 (by decide) ?_
    refine pB0_code C _ dX3_appeal_15 ?_
    refine x_aload_n C dX3_appeal_18 rfl rfl ?_
    refine gB0_code C dX3_appeal_19 ?_
    refine x_if_le C (tgt := 27) dX3_appeal_22 (by decide) (fun h2 => ?_) (fun h2 => ?_)
    · refine x_bipush C (v := 7) dX3_appeal_27 (by decide) ?_
      refine x_iload_n C dX3_appeal_29 rfl rfl ?_
      refine x_imul C dX3_appeal_30 ?_
      refine x_iload_n C dX3_appeal_31 rfl rfl ?_
      refine x_iadd C dX3_appeal_32 ?_
      refine x_top (wo_7 w d) ?_
      refine x_istore_n C dX3_appeal_33 rfl (by decide) ?_
      refine x_aload_n C dX3_appeal_34 rfl rfl ?_
      refine x_aload_n C dX3_appeal_35 rfl rfl ?_
      refine gB0_kind C dX3_appeal_36 ?_
      refine x_iload_n C dX3_appeal_39 rfl rfl ?_
      refine lB_kd C _ rfl (by omega) dX3_appeal_40 ?_
      refine x_iconst C (v := 2) dX3_appeal_41 (by decide) ?_
      refine x_icmp_ne C (tgt := 54) dX3_appeal_42 (by decide) (fun h3 => ?_) (fun h3 => ?_)
      · exact fin
      · refine x_aload_n C dX3_appeal_45 rfl rfl ?_
        refine gB0_measured C dX3_appeal_46 ?_
        refine x_iload_n C dX3_appeal_49 rfl rfl ?_
        refine lB_me C _ rfl (by omega) dX3_appeal_50 ?_
        refine x_if_ne C (tgt := 58) dX3_appeal_51 (by decide) (fun h4 => ?_) (fun h4 => ?_)
        · exact absurd ⟨h3, bz_t h4⟩ hc
        · exact fin
    · exact absurd (by decide) h2
  · exact absurd hin (by rw [bz_f h]; decide)
set_option maxRecDepth 100000 in
set_option maxHeartbeats 4000000 in
theorem c_X3_appeal (w d : Nat) (hg : 1 ≤ gr) (hg2 : gr ≤ 12) (hw : w < gr) (h1 : 1 ≤ d) (h6 : d ≤ 6) (hk : kd (7 * w + d) = 2) (hm : me (7 * w + d) = true) : wo_E l yX3_appeal cX3_appeal 4 (some .int) 2 D ((cI, .int) :: (cZ, .boolean) :: tys) [.ref (a 0), .int (nI w), .int (nI d)] (wB cI cZ a co gr dy kd wo me ti td la go kp od no ax lv rh re rs ph pr o1 o2 ++ Y) (some (.int (wo (7 * w + d)))) (wB cI cZ a (0) gr dy (va_up kd (7 * w + d) 1) wo (va_up me (7 * w + d) false) ti td la go kp od no ax lv (if rec_B td ti rh wo re (7 * w + d) then true else rh) (if rec_B td ti rh wo re (7 * w + d) then wo (7 * w + d) else re) (if rec_B td ti rh wo re (7 * w + d) then rs + 1 else rs) ph pr o1 o2 ++ Y) := by
  refine wo_of (ls := [some (.ref (a 0)), some (.int (nI w)), some (.int (nI d)), none]) (by decide) (Nat.le_of_ble_eq_true rfl) rfl ?_
  intro p e s m args below meth c A C
  have hin : (in_B (nI w) 0 (nI (gr - 1)) && in_B (nI d) 1 6) = true := by rw [wo_in0' hg2 hw, show in_B (nI d) 1 6 = true from decide_eq_true ⟨nI_le (a := 1) h1 (by omega), nI_le (b := 6) h6 (by omega)⟩]; rfl
  refine x_aload_n C dX3_appeal_0 rfl rfl ?_
  refine x_aload_n C dX3_appeal_1 rfl rfl ?_
  refine x_iload_n C dX3_appeal_2 rfl rfl ?_
  refine x_iload_n C dX3_appeal_3 rfl rfl ?_
  refine x_callVi C gv_X3_111 (c_X3_isEntry _ _ hg) 0 rfl rfl rfl rfl (Nat.le_of_ble_eq_true rfl) ⟨(Nat.le_of_ble_eq_true rfl), (Nat.le_of_ble_eq_true rfl)⟩ ⟨Nat.zero_le _, Nat.zero_le _⟩ dX3_appeal_4 ?_
  refine x_if_ne C (tgt := 14) dX3_appeal_7 (by decide) (fun h => ?_) (fun h => ?_)
  · refine x_iconst C (v := 0) dX3_appeal_14 (by decide) ?_
    refine pB0_code C _ dX3_appeal_15 ?_
    refine x_aload_n C dX3_appeal_18 rfl rfl ?_
    refine gB0_code C dX3_appeal_19 ?_
    refine x_if_le C (tgt := 27) dX3_appeal_22 (by decide) (fun h2 => ?_) (fun h2 => ?_)
    · refine x_bipush C (v := 7) dX3_appeal_27 (by decide) ?_
      refine x_iload_n C dX3_appeal_29 rfl rfl ?_
      refine x_imul C dX3_appeal_30 ?_
      refine x_iload_n C dX3_appeal_31 rfl rfl ?_
      refine x_iadd C dX3_appeal_32 ?_
      refine x_top (wo_7 w d) ?_
      refine x_istore_n C dX3_appeal_33 rfl (by decide) ?_
      refine x_aload_n C dX3_appeal_34 rfl rfl ?_
      refine x_aload_n C dX3_appeal_35 rfl rfl ?_
      refine gB0_kind C dX3_appeal_36 ?_
      refine x_iload_n C dX3_appeal_39 rfl rfl ?_
      refine lB_kd C _ rfl (by omega) dX3_appeal_40 ?_
      refine x_iconst C (v := 2) dX3_appeal_41 (by decide) ?_
      refine x_icmp_ne C (tgt := 54) dX3_appeal_42 (by decide) (fun h3 => ?_) (fun h3 => ?_)
      · exact absurd hk h3
      · refine x_aload_n C dX3_appeal_45 rfl rfl ?_
        refine gB0_measured C dX3_appeal_46 ?_
        refine x_iload_n C dX3_appeal_49 rfl rfl ?_
        refine lB_me C _ rfl (by omega) dX3_appeal_50 ?_
        refine x_if_ne C (tgt := 58) dX3_appeal_51 (by decide) (fun h4 => ?_) (fun h4 => ?_)
        · refine x_iconst C (v := 0) dX3_appeal_58 (by decide) ?_
          refine pB0_code C _ dX3_appeal_59 ?_
          refine x_aload_n C dX3_appeal_62 rfl rfl ?_
          refine gB0_code C dX3_appeal_63 ?_
          refine x_if_le C (tgt := 71) dX3_appeal_66 (by decide) (fun h5 => ?_) (fun h5 => ?_)
          · refine x_aload_n C dX3_appeal_71 rfl rfl ?_
            refine gB0_kind C dX3_appeal_72 ?_
            refine x_iload_n C dX3_appeal_75 rfl rfl ?_
            refine x_iconst C (v := 1) dX3_appeal_76 (by decide) ?_
            refine sB_kd C _ _ rfl (by omega) dX3_appeal_77 ?_
            refine x_aload_n C dX3_appeal_78 rfl rfl ?_
            refine gB0_measured C dX3_appeal_79 ?_
            refine x_iload_n C dX3_appeal_82 rfl rfl ?_
            refine x_iconst C (v := 0) dX3_appeal_83 (by decide) ?_
            refine sB_me C false rfl _ rfl (by omega) dX3_appeal_84 ?_
            refine x_aload_n C dX3_appeal_85 rfl rfl ?_
            refine x_iload_n C dX3_appeal_86 rfl rfl ?_
            refine x_callVv C gv_X3_96 (c_X3_asRecord (7 * w + d) (by omega)) 0 rfl rfl rfl rfl (Nat.le_of_ble_eq_true rfl) ⟨(Nat.le_of_ble_eq_true rfl), (Nat.le_of_ble_eq_true rfl)⟩ ⟨Nat.zero_le _, Nat.zero_le _⟩ dX3_appeal_87 ?_
            refine x_aload_n C dX3_appeal_90 rfl rfl ?_
            refine gB0_worth C dX3_appeal_91 ?_
            refine x_iload_n C dX3_appeal_94 rfl rfl ?_
            refine lB_wo C _ rfl (by omega) dX3_appeal_95 ?_
            exact x_iret C dX3_appeal_96 rfl rfl
          · exact absurd (by decide) h5
        · exact absurd hm (by rw [bz_f h4]; decide)
    · exact absurd (by decide) h2
  · exact absurd hin (by rw [bz_f h]; decide)
end MDE
