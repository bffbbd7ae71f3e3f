/-! ===== the reference: calls that write ===== -/
theorem inB_t {v lo hi : Int32} (h : in_B v lo hi = true) : lo ≤ v ∧ v ≤ hi := of_decide_eq_true h
theorem inB_f {v lo hi : Int32} (h : in_B v lo hi = false) : ¬ (lo ≤ v ∧ v ≤ hi) := of_decide_eq_false h
theorem wo_gr1 {g : Nat} (h : 1 ≤ g) : nI g - 1 = nI (g - 1) := wo_m1 (by omega)
theorem wo_in0 {x : Int32} {g : Nat} (hg : 1 ≤ g) (hg2 : g ≤ 12) (h : in_B x 0 (nI (g - 1)) = true) : ∃ w, w < g ∧ x = nI w := by
  obtain ⟨h1, h2⟩ := inB_t h
  obtain ⟨j, hj, rfl⟩ := nI_of (Int32.not_lt.mpr h1)
  exact ⟨j, by have := wo_le (by omega) (by omega) h2; omega, rfl⟩
theorem wo_in0' {w g : Nat} (hg2 : g ≤ 12) (h : w < g) : in_B (nI w) 0 (nI (g - 1)) = true := decide_eq_true ⟨nI_pos' (by omega), nI_le (by omega) (by omega)⟩
section MDD
variable {l : Launch} {D : va_G} {tys : List (ClassId × FieldType)} {cI cZ : ClassId} {a : Nat → Nat} {Y : va_W} {co : Int32} {gr : Nat} {dy : Nat} {kd : Nat → Int32} {wo : Nat → Int32} {me : Nat → Bool} {ti : Nat → Int32} {td : Nat → Bool} {la : Nat → Nat} {go : Nat → Bool} {kp : Nat → Bool} {od : Nat → Nat} {no : Nat} {ax : Int32} {lv : Bool} {rh : Bool} {re : Int32} {rs : Int32} {ph : Bool} {pr : Int32} {o1 : Nat → Int32} {o2 : Nat → Int32}
set_option maxRecDepth 100000 in
set_option maxHeartbeats 4000000 in
theorem c_X3_passOn (W2 : wo_sw) (t : Nat) (hax : ax + 1 = nI t) (ht : t ≤ no) (hno : no ≤ 12) (hod : ∀ k, k < no → od k < 12)
    (h1 : nx_B od kp go no t < no → (wB cI cZ a co gr dy kd wo me ti td la go kp od no (nI (nx_B od kp go no t)) lv rh re rs ph pr o1 o2 ++ Y) = W2 o1 o2)
    (h2 : ¬ nx_B od kp go no t < no → wo_S l yX3_nextDay cX3_nextDay 2 (none) 4 D ((cI, .int) :: (cZ, .boolean) :: tys) [.ref (a 0)] (wB cI cZ a co gr dy kd wo me ti td la go kp od no (nI (nx_B od kp go no t)) lv rh re rs ph pr o1 o2 ++ Y) none W2) : wo_S l yX3_passOn cX3_passOn 1 (none) 5 D ((cI, .int) :: (cZ, .boolean) :: tys) [.ref (a 0)] (wB cI cZ a co gr dy kd wo me ti td la go kp od no ax lv rh re rs ph pr o1 o2 ++ Y) none W2 := by
  refine wo_ofS (ls := [some (.ref (a 0))]) (by decide) (Nat.le_of_ble_eq_true rfl) rfl ?_
  intro p e s m args below meth c A C
  have hle := nxB_le od kp go no hno (no - t) t (by omega)
  
  refine x_aload_n C dX3_passOn_0 rfl rfl ?_
  refine x_callVv C gv_X3_86 (c_X3_forward t hax ht hno hod) 0 rfl rfl rfl rfl (Nat.le_of_ble_eq_true rfl) ⟨(Nat.le_of_ble_eq_true rfl), (Nat.le_of_ble_eq_true rfl)⟩ ⟨Nat.zero_le _, Nat.zero_le _⟩ dX3_passOn_1 ?_
  refine x_aload_n C dX3_passOn_4 rfl rfl ?_
  refine gB0_at C dX3_passOn_5 ?_
  refine x_aload_n C dX3_passOn_8 rfl rfl ?_
  refine gB0_ordered C dX3_passOn_9 ?_
  refine x_icmp_ne C (tgt := 19) dX3_passOn_12 (by decide) (fun h => ?_) (fun h => ?_)
  · have h3 : nx_B od kp go no t < no := by
      have : ¬ nx_B od kp go no t = no := fun z => h (by rw [z])
      omega
    exact x_vretS C dX3_passOn_19 rfl (h1 h3)
  · have h3 : nx_B od kp go no t = no := wo_ieq (by omega) (by omega) h
    refine x_aload_n C dX3_passOn_15 rfl rfl ?_
    refine x_callVSv C gv_X3_66 (h2 (by omega)) 0 rfl rfl rfl rfl (Nat.le_of_ble_eq_true rfl) ⟨(Nat.le_of_ble_eq_true rfl), (Nat.le_of_ble_eq_true rfl)⟩ ⟨Nat.zero_le _, Nat.zero_le _⟩ dX3_passOn_16 (fun o1 o2 => ?_)
    exact x_vretS C dX3_passOn_19 rfl rfl
set_option maxRecDepth 100000 in
set_option maxHeartbeats 4000000 in
theorem c_X3_begin (W2 : wo_sw) (g : Nat)
    (h2 : wo_S l yX3_nextDay cX3_nextDay 2 (none) 4 D ((cI, .int) :: (cZ, .boolean) :: tys) [.ref (a 0)] (wB cI cZ a co (g) (0) (wo_fill kd 0 84) wo (wo_ff me (fun _ => false) 84) ti (wo_ff td (fun _ => false) 84) (wo_ff la (fun _ => 0) 12) (wo_ff go (fun _ => false) 12) (wo_ff kp (fun _ => true) 12) od no ax lv rh re rs ph pr o1 o2 ++ Y) none W2) : wo_S l yX3_begin cX3_begin 3 (none) 5 D ((cI, .int) :: (cZ, .boolean) :: tys) [.ref (a 0), .int (nI g)] (wB cI cZ a co gr dy kd wo me ti td la go kp od no ax lv rh re rs ph pr o1 o2 ++ Y) none W2 := by
  refine wo_ofS (ls := [some (.ref (a 0)), some (.int (nI g)), none]) (by decide) (Nat.le_of_ble_eq_true rfl) rfl ?_
  intro p e s m args below meth c A C
  
  refine x_aload_n C dX3_begin_0 rfl rfl ?_
  refine x_iload_n C dX3_begin_1 rfl rfl ?_
  refine pB0_growers C _ rfl dX3_begin_2 ?_
  refine x_iconst C (v := 0) dX3_begin_5 (by decide) ?_
  refine x_istore_n C dX3_begin_6 rfl (by decide) ?_
  have lp2 : ∀ (n k : Nat), n + k = 12 → wo_W p l e (wo_rm 5) s m args below meth c A D 0 0 3 (MQ below (wo_QS D ((cI, .int) :: (cZ, .boolean) :: tys) none W2 A) args s 0 0 A) 42 [some (.ref (a 0)), some (.int (nI g)), some (.int (nI k))] [] (wB cI cZ a co (g) dy (wo_fill kd 0 84) wo (wo_ff me (fun _ => false) 84) ti (wo_ff td (fun _ => false) 84) (wo_ff la (fun _ => 0) k) (wo_ff go (fun _ => false) k) (wo_ff kp (fun _ => true) k) od no ax lv rh re rs ph pr o1 o2 ++ Y) := by
    intro n
    induction n with
    | zero =>
      intro k hk
      refine x_iload_n C dX3_begin_42 rfl rfl ?_
      refine x_bipush C (v := 12) dX3_begin_43 (by decide) ?_
      refine x_icmp_ge C (tgt := 75) dX3_begin_45 (by decide) (fun h => ?_) (fun h => ?_)
      · have hk2 : k = 12 := by omega
        subst hk2
        refine x_aload_n C dX3_begin_75 rfl rfl ?_
        refine x_iconst C (v := 0) dX3_begin_76 (by decide) ?_
        refine pB0_day C 0 rfl dX3_begin_77 ?_
        refine x_aload_n C dX3_begin_80 rfl rfl ?_
        refine x_callVSv C gv_X3_66 (h2) 0 rfl rfl rfl rfl (Nat.le_of_ble_eq_true rfl) ⟨(Nat.le_of_ble_eq_true rfl), (Nat.le_of_ble_eq_true rfl)⟩ ⟨Nat.zero_le _, Nat.zero_le _⟩ dX3_begin_81 (fun o1 o2 => ?_)
        exact x_vretS C dX3_begin_84 rfl rfl
      · exact absurd (show nI 12 ≤ nI k from nI_le (by omega) (by omega)) h
    | succ n ih =>
      intro k hk
      refine x_iload_n C dX3_begin_42 rfl rfl ?_
      refine x_bipush C (v := 12) dX3_begin_43 (by decide) ?_
      refine x_icmp_ge C (tgt := 75) dX3_begin_45 (by decide) (fun h => ?_) (fun h => ?_)
      · exact absurd (wo_le (a := 12) (b := k) (by omega) (by omega) h) (by omega)
      · refine x_aload_n C dX3_begin_48 rfl rfl ?_
        refine gB0_latest C dX3_begin_49 ?_
        refine x_iload_n C dX3_begin_52 rfl rfl ?_
        refine x_iconst C (v := 0) dX3_begin_53 (by decide) ?_
        refine sB_la C 0 rfl k rfl (by omega) dX3_begin_54 ?_
        refine x_aload_n C dX3_begin_55 rfl rfl ?_
        refine gB0_gone C dX3_begin_56 ?_
        refine x_iload_n C dX3_begin_59 rfl rfl ?_
        refine x_iconst C (v := 0) dX3_begin_60 (by decide) ?_
        refine sB_go C false rfl k rfl (by omega) dX3_begin_61 ?_
        refine x_aload_n C dX3_begin_62 rfl rfl ?_
        refine gB0_kept C dX3_begin_63 ?_
        refine x_iload_n C dX3_begin_66 rfl rfl ?_
        refine x_iconst C (v := 1) dX3_begin_67 (by decide) ?_
        refine sB_kp C true rfl k rfl (by omega) dX3_begin_68 ?_
        refine x_iinc C dX3_begin_69 rfl (nI_1 k) (by decide) ?_
        refine x_goto C (tgt := 42) dX3_begin_72 (by decide) ?_
        exact x_ws (by rw [wo_ff_up la (fun _ => 0), wo_ff_up go (fun _ => false), wo_ff_up kp (fun _ => true)]) (ih (k + 1) (by omega))
  have lp1 : ∀ (n k : Nat), n + k = 84 → wo_W p l e (wo_rm 5) s m args below meth c A D 0 0 3 (MQ below (wo_QS D ((cI, .int) :: (cZ, .boolean) :: tys) none W2 A) args s 0 0 A) 7 [some (.ref (a 0)), some (.int (nI g)), some (.int (nI k))] [] (wB cI cZ a co (g) dy (wo_fill kd 0 k) wo (wo_ff me (fun _ => false) k) ti (wo_ff td (fun _ => false) k) la go kp od no ax lv rh re rs ph pr o1 o2 ++ Y) := by
    intro n
    induction n with
    | zero =>
      intro k hk
      refine x_iload_n C dX3_begin_7 rfl rfl ?_
      refine x_bipush C (v := 84) dX3_begin_8 (by decide) ?_
      refine x_icmp_ge C (tgt := 40) dX3_begin_10 (by decide) (fun h => ?_) (fun h => ?_)
      · have hk2 : k = 84 := by omega
        subst hk2
        refine x_iconst C (v := 0) dX3_begin_40 (by decide) ?_
        refine x_istore_n C dX3_begin_41 rfl (by decide) ?_
        exact x_ws (by rw [wo_ff_0, wo_ff_0, wo_ff_0]) (lp2 12 0 rfl)
      · exact absurd (show nI 84 ≤ nI k from nI_le (by omega) (by omega)) h
    | succ n ih =>
      intro k hk
      refine x_iload_n C dX3_begin_7 rfl rfl ?_
      refine x_bipush C (v := 84) dX3_begin_8 (by decide) ?_
      refine x_icmp_ge C (tgt := 40) dX3_begin_10 (by decide) (fun h => ?_) (fun h => ?_)
      · exact absurd (wo_le (a := 84) (b := k) (by omega) (by omega) h) (by omega)
      · refine x_aload_n C dX3_begin_13 rfl rfl ?_
        refine gB0_kind C dX3_begin_14 ?_
        refine x_iload_n C dX3_begin_17 rfl rfl ?_
        refine x_iconst C (v := 0) dX3_begin_18 (by decide) ?_
        refine sB_kd C _ _ rfl (by omega) dX3_begin_19 ?_
        refine x_aload_n C dX3_begin_20 rfl rfl ?_
        refine gB0_measured C dX3_begin_21 ?_
        refine x_iload_n C dX3_begin_24 rfl rfl ?_
        refine x_iconst C (v := 0) dX3_begin_25 (by decide) ?_
        refine sB_me C false rfl k rfl (by omega) dX3_begin_26 ?_
        refine x_aload_n C dX3_begin_27 rfl rfl ?_
        refine gB0_tilted C dX3_begin_28 ?_
        refine x_iload_n C dX3_begin_31 rfl rfl ?_
        refine x_iconst C (v := 0) dX3_begin_32 (by decide) ?_
        refine sB_td C false rfl k rfl (by omega) dX3_begin_33 ?_
        refine x_iinc C dX3_begin_34 rfl (nI_1 k) (by decide) ?_
        refine x_goto C (tgt := 7) dX3_begin_37 (by decide) ?_
        exact x_ws (by rw [wo_fill_up, wo_ff_up me (fun _ => false), wo_ff_up td (fun _ => false)]) (ih (k + 1) (by omega))
  exact x_ws (by rw [wo_fill_0, wo_ff_0, wo_ff_0]) (lp1 84 0 rfl)
set_option maxRecDepth 100000 in
set_option maxHeartbeats 4000000 in
theorem c_X3_entry (k : Int32) (t : Nat) (hax : ax = nI t) (ht : t < 12) (hod : od t < 12) (hd : dy ≤ 6) : wo_E l yX3_entry cX3_entry 4 (some .int) 0 D ((cI, .int) :: (cZ, .boolean) :: tys) [.ref (a 0), .int k] (wB cI cZ a co gr dy kd wo me ti td la go kp od no ax lv rh re rs ph pr o1 o2 ++ Y) (some (.int (nI (7 * od t + dy)))) (wB cI cZ a co gr dy (va_up kd (7 * od t + dy) k) wo (va_up me (7 * od t + dy) false) ti (va_up td (7 * od t + dy) false) (va_up la (od t) dy) go kp od no ax lv rh re rs ph pr o1 o2 ++ Y) := by
  refine wo_of (ls := [some (.ref (a 0)), some (.int k), none, none]) (by decide) (Nat.le_of_ble_eq_true rfl) rfl ?_
  intro p e s m args below meth c A C
  refine x_aload_n C dX3_entry_0 rfl rfl ?_
  refine gB0_order C dX3_entry_1 ?_
  refine x_aload_n C dX3_entry_4 rfl rfl ?_
  refine gB0_at C dX3_entry_5 ?_
  refine lB_od C t hax ht dX3_entry_8 ?_
  refine x_istore_n C dX3_entry_9 rfl (by decide) ?_
  refine x_bipush C (v := 7) dX3_entry_10 (by decide) ?_
  refine x_iload_n C dX3_entry_12 rfl rfl ?_
  refine x_imul C dX3_entry_13 ?_
  refine x_aload_n C dX3_entry_14 rfl rfl ?_
  refine gB0_day C dX3_entry_15 ?_
  refine x_iadd C dX3_entry_18 ?_
  refine x_top (wo_7 (od t) dy) ?_
  refine x_istore_n C dX3_entry_19 rfl (by decide) ?_
  refine x_aload_n C dX3_entry_20 rfl rfl ?_
  refine gB0_kind C dX3_entry_21 ?_
  refine x_iload_n C dX3_entry_24 rfl rfl ?_
  refine x_iload_n C dX3_entry_25 rfl rfl ?_
  refine sB_kd C _ _ rfl (by omega) dX3_entry_26 ?_
  refine x_aload_n C dX3_entry_27 rfl rfl ?_
  refine gB0_measured C dX3_entry_28 ?_
  refine x_iload_n C dX3_entry_31 rfl rfl ?_
  refine x_iconst C (v := 0) dX3_entry_32 (by decide) ?_
  refine sB_me C false rfl _ rfl (by omega) dX3_entry_33 ?_
  refine x_aload_n C dX3_entry_34 rfl rfl ?_
  refine gB0_tilted C dX3_entry_35 ?_
  refine x_iload_n C dX3_entry_38 rfl rfl ?_
  refine x_iconst C (v := 0) dX3_entry_39 (by decide) ?_
  refine sB_td C false rfl _ rfl (by omega) dX3_entry_40 ?_
  refine x_aload_n C dX3_entry_41 rfl rfl ?_
  refine gB0_latest C dX3_entry_42 ?_
  refine x_iload_n C dX3_entry_45 rfl rfl ?_
  refine x_aload_n C dX3_entry_46 rfl rfl ?_
  refine gB0_day C dX3_entry_47 ?_
  refine sB_la C _ rfl _ rfl (by omega) dX3_entry_50 ?_
  refine x_iload_n C dX3_entry_51 rfl rfl ?_
  exact x_iret C dX3_entry_52 rfl rfl
set_option maxRecDepth 100000 in
set_option maxHeartbeats 4000000 in
theorem c_X3_asRecord (i : Nat) (hi : i < 84) : wo_E l yX3_asRecord cX3_asRecord 2 (none) 0 D ((cI, .int) :: (cZ, .boolean) :: tys) [.ref (a 0), .int (nI i)] (wB cI cZ a co gr dy kd wo me ti td la go kp od no ax lv rh re rs ph pr o1 o2 ++ Y) none (wB cI cZ a co gr dy kd wo me ti td la go kp od no ax lv (if rec_B td ti rh wo re i then true else rh) (if rec_B td ti rh wo re i then wo i else re) (if rec_B td ti rh wo re i then rs + 1 else rs) ph pr o1 o2 ++ Y) := by
  refine wo_of (ls := [some (.ref (a 0)), some (.int (nI i))]) (by decide) (Nat.le_of_ble_eq_true rfl) rfl ?_
  intro p e s m args below meth c A C
  have fno : rec_B td ti rh wo re i = false → wo_W p l e (wo_rm 0) s m args below meth c A D 0 0 2 (MQ below (wo_Q D ((cI, .int) :: (cZ, .boolean) :: tys) none (wB cI cZ a co gr dy kd wo me ti td la go kp od no ax lv (if rec_B td ti rh wo re i then true else rh) (if rec_B td ti rh wo re i then wo i else re) (if rec_B td ti rh wo re i then rs + 1 else rs) ph pr o1 o2 ++ Y) A) args s 0 0 A) 65 [some (.ref (a 0)), some (.int (nI i))] [] (wB cI cZ a co gr dy kd wo me ti td la go kp od no ax lv rh re rs ph pr o1 o2 ++ Y) := by
    intro h
    exact x_vret C dX3_asRecord_65 rfl (by rw [h]; rfl)
  have fyes : rec_B td ti rh wo re i = true → wo_W p l e (wo_rm 0) s m args below meth c A D 0 0 2 (MQ below (wo_Q D ((cI, .int) :: (cZ, .boolean) :: tys) none (wB cI cZ a co gr dy kd wo me ti td la go kp od no ax lv (if rec_B td ti rh wo re i then true else rh) (if rec_B td ti rh wo re i then wo i else re) (if rec_B td ti rh wo re i then rs + 1 else rs) ph pr o1 o2 ++ Y) A) args s 0 0 A) 40 [some (.ref (a 0)), some (.int (nI i))] [] (wB cI cZ a co gr dy kd wo me ti td la go kp od no ax lv rh re rs ph pr o1 o2 ++ Y) := by
    intro h
    refine x_aload_n C dX3_asRecord_40 rfl rfl ?_
    refine x_iconst C (v := 1) dX3_asRecord_41 (by decide) ?_
    refine pB0_hasRecord C true rfl dX3_asRecord_42 ?_
    refine x_aload_n C dX3_asRecord_45 rfl rfl ?_
    refine x_aload_n C dX3_asRecord_46 rfl rfl ?_
    refine gB0_worth C dX3_asRecord_47 ?_
    refine x_iload_n C dX3_asRecord_50 rfl rfl ?_
    refine lB_wo C _ rfl (by omega) dX3_asRecord_51 ?_
    refine pB0_record C _ dX3_asRecord_52 ?_
    refine x_aload_n C dX3_asRecord_55 rfl rfl ?_
    refine x_dup C dX3_asRecord_56 rfl ?_
    refine gB0_records C dX3_asRecord_57 ?_
    refine x_iconst C (v := 1) dX3_asRecord_60 (by decide) ?_
    refine x_iadd C dX3_asRecord_61 ?_
    refine pB0_records C _ dX3_asRecord_62 ?_
    exact x_vret C dX3_asRecord_65 rfl (by rw [h]; rfl)
  refine x_aload_n C dX3_asRecord_0 rfl rfl ?_
  refine gB0_tilted C dX3_asRecord_1 ?_
  refine x_iload_n C dX3_asRecord_4 rfl rfl ?_
  refine lB_td C _ rfl (by omega) dX3_asRecord_5 ?_
  refine x_if_eq C (tgt := 65) dX3_asRecord_6 (by decide) (fun h => ?_) (fun h => ?_)
  · exact fno (by unfold rec_B; rw [bz_f h]; rfl)
  · refine x_aload_n C dX3_asRecord_9 rfl rfl ?_
    refine gB0_tilt C dX3_asRecord_10 ?_
    refine x_iload_n C dX3_asRecord_13 rfl rfl ?_
    refine lB_ti C _ rfl (by omega) dX3_asRecord_14 ?_
    refine x_bipush C (v := 20) dX3_asRecord_15 (by decide) ?_
    refine x_icmp_gt C (tgt := 65) dX3_asRecord_17 (by decide) (fun h2 => ?_) (fun h2 => ?_)
    · exact fno (by unfold rec_B; rw [bz_t h, decide_eq_false (Int32.not_le.mpr h2)]; rfl)
    · refine x_aload_n C dX3_asRecord_20 rfl rfl ?_
      refine gB0_hasRecord C dX3_asRecord_21 ?_
      refine x_if_eq C (tgt := 40) dX3_asRecord_24 (by decide) (fun h3 => ?_) (fun h3 => ?_)
      · exact fyes (by unfold rec_B; rw [bz_t h, decide_eq_true (Int32.not_lt.mp h2), bz_f h3]; rfl)
      · refine x_aload_n C dX3_asRecord_27 rfl rfl ?_
        refine gB0_worth C dX3_asRecord_28 ?_
        refine x_iload_n C dX3_asRecord_31 rfl rfl ?_
        refine lB_wo C _ rfl (by omega) dX3_asRecord_32 ?_
        refine x_aload_n C dX3_asRecord_33 rfl rfl ?_
        refine gB0_record C dX3_asRecord_34 ?_
        refine x_icmp_le C (tgt := 65) dX3_asRecord_37 (by decide) (fun h4 => ?_) (fun h4 => ?_)
        · exact fno (by unfold rec_B; rw [bz_t h, decide_eq_true (Int32.not_lt.mp h2), bz_t h3, decide_eq_false (Int32.not_lt.mpr h4)]; rfl)
        · exact fyes (by unfold rec_B; rw [bz_t h, decide_eq_true (Int32.not_lt.mp h2), bz_t h3, decide_eq_true (Int32.not_le.mp h4)]; rfl)
set_option maxRecDepth 100000 in
set_option maxHeartbeats 4000000 in
theorem c_X3_open_no (x : Int32) (hx : in_B x 3 12 = false) : wo_E l yX3_open cX3_open 2 (none) 6 D ((cI, .int) :: (cZ, .boolean) :: tys) [.ref (a 0), .int x] (wB cI cZ a co gr dy kd wo me ti td la go kp od no ax lv rh re rs ph pr o1 o2 ++ Y) none (wB cI cZ a (1) gr dy kd wo me ti td la go kp od no ax lv rh re rs ph pr o1 o2 ++ Y) := by
  refine wo_of (ls := [some (.ref (a 0)), some (.int x)]) (by decide) (Nat.le_of_ble_eq_true rfl) rfl ?_
  intro p e s m args below meth c A C
  refine x_aload_n C dX3_open_0 rfl rfl ?_
  refine x_iload_n C dX3_open_1 rfl rfl ?_
  refine x_iconst C (v := 3) dX3_open_2 (by decide) ?_
  refine x_bipush C (v := 12) dX3_open_3 (by decide) ?_
  refine x_callSi C gs_X3_48 (c_X3_in x 3 12) rfl rfl (Nat.le_of_ble_eq_true rfl) ⟨(Nat.le_of_ble_eq_true rfl), (Nat.le_of_ble_eq_true rfl)⟩ ⟨Nat.zero_le _, Nat.zero_le _⟩ dX3_open_5 ?_
  refine x_if_eq C (tgt := 15) dX3_open_8 (by decide) (fun h => ?_) (fun h => ?_)
  · refine x_iconst C (v := 1) dX3_open_15 (by decide) ?_
    refine pB0_code C _ dX3_open_16 ?_
    refine x_aload_n C dX3_open_19 rfl rfl ?_
    refine gB0_code C dX3_open_20 ?_
    refine x_if_ne C (tgt := 31) dX3_open_23 (by decide) (fun h2 => ?_) (fun h2 => ?_)
    · exact x_vret C dX3_open_31 rfl rfl
    · exact absurd h2 (by decide)
  · exact absurd hx (by rw [bz_t h]; decide)
set_option maxRecDepth 100000 in
set_option maxHeartbeats 4000000 in
theorem c_X3_open (W2 : wo_sw) (g : Nat) (hx : in_B (nI g) 3 12 = true) (hb : wo_S l yX3_begin cX3_begin 3 (none) 5 D ((cI, .int) :: (cZ, .boolean) :: tys) [.ref (a 0), .int (nI g)] (wB cI cZ a (0) gr dy kd wo me ti td la go kp od no ax lv rh re rs ph pr o1 o2 ++ Y) none W2) : wo_S l yX3_open cX3_open 2 (none) 6 D ((cI, .int) :: (cZ, .boolean) :: tys) [.ref (a 0), .int (nI g)] (wB cI cZ a co gr dy kd wo me ti td la go kp od no ax lv rh re rs ph pr o1 o2 ++ Y) none W2 := by
  refine wo_ofS (ls := [some (.ref (a 0)), some (.int (nI g))]) (by decide) (Nat.le_of_ble_eq_true rfl) rfl ?_
  intro p e s m args below meth c A C
  
  refine x_aload_n C dX3_open_0 rfl rfl ?_
  refine x_iload_n C dX3_open_1 rfl rfl ?_
  refine x_iconst C (v := 3) dX3_open_2 (by decide) ?_
  refine x_bipush C (v := 12) dX3_open_3 (by decide) ?_
  refine x_callSi C gs_X3_48 (c_X3_in (nI g) 3 12) rfl rfl (Nat.le_of_ble_eq_true rfl) ⟨(Nat.le_of_ble_eq_true rfl), (Nat.le_of_ble_eq_true rfl)⟩ ⟨Nat.zero_le _, Nat.zero_le _⟩ dX3_open_5 ?_
  refine x_if_eq C (tgt := 15) dX3_open_8 (by decide) (fun h => ?_) (fun h => ?_)
  · exact absurd hx (by rw [bz_f h]; decide)
  · refine x_iconst C (v := 0) dX3_open_11 (by decide) ?_
    refine x_goto C (tgt := 16) dX3_open_12 (by decide) ?_
    refine pB0_code C _ dX3_open_16 ?_
    refine x_aload_n C dX3_open_19 rfl rfl ?_
    refine gB0_code C dX3_open_20 ?_
    refine x_if_ne C (tgt := 31) dX3_open_23 (by decide) (fun h2 => ?_) (fun h2 => ?_)
    · exact absurd rfl h2
    · refine x_aload_n C dX3_open_26 rfl rfl ?_
      refine x_iload_n C dX3_open_27 rfl rfl ?_
      refine x_callVSv C gv_X3_52 (hb) 0 rfl rfl rfl rfl (Nat.le_of_ble_eq_true rfl) ⟨(Nat.le_of_ble_eq_true rfl), (Nat.le_of_ble_eq_true rfl)⟩ ⟨Nat.zero_le _, Nat.zero_le _⟩ dX3_open_28 (fun o1 o2 => ?_)
      exact x_vretS C dX3_open_31 rfl rfl
set_option maxRecDepth 100000 in
set_option maxHeartbeats 4000000 in
theorem c_X3_weigh_1 (x y : Int32) (hx : ¬ (in_B x 100 9999 = true ∧ in_B y (-99) 99 = true)) : wo_E l yX3_weigh cX3_weigh 5 (some .int) 6 D ((cI, .int) :: (cZ, .boolean) :: tys) [.ref (a 0), .int x, .int y] (wB cI cZ a co gr dy kd wo me ti td la go kp od no ax lv rh re rs ph pr o1 o2 ++ Y) (some (.int 0)) (wB cI cZ a (1) gr dy kd wo me ti td la go kp od no ax lv rh re rs ph pr o1 o2 ++ Y) := by
  refine wo_of (ls := [some (.ref (a 0)), some (.int x), some (.int y), none, none]) (by decide) (Nat.le_of_ble_eq_true rfl) rfl ?_
  intro p e s m args below meth c A C
  have fin : wo_W p l e (wo_rm 6) s m args below meth c A D 0 0 5 (MQ below (wo_Q D ((cI, .int) :: (cZ, .boolean) :: tys) (some (.int 0)) (wB cI cZ a (1) gr dy kd wo me ti td la go kp od no ax lv rh re rs ph pr o1 o2 ++ Y) A) args s 0 0 A) 24 [some (.ref (a 0)), some (.int x), some (.int y), none, none] [.ref (a 0)] (wB cI cZ a co gr dy kd wo me ti td la go kp od no ax lv rh re rs ph pr o1 o2 ++ Y) := by
    refine x_iconst C (v := 1) dX3_weigh_24 (by decide) ?_
    refine x_goto C (tgt := 42) dX3_weigh_25 (by decide) ?_
    refine pB0_code C _ dX3_weigh_42 ?_
    refine x_aload_n C dX3_weigh_45 rfl rfl ?_
    refine gB0_code C dX3_weigh_46 ?_
    refine x_if_le C (tgt := 54) dX3_weigh_49 (by decide) (fun h => ?_) (fun h => ?_)
    · exact absurd h (by decide)
    · refine x_iconst C (v := 0) dX3_weigh_52 (by decide) ?_
      exact x_iret C dX3_weigh_53 rfl rfl
  refine x_aload_n C dX3_weigh_0 rfl rfl ?_
  refine x_iload_n C dX3_weigh_1 rfl rfl ?_
  refine x_bipush C (v := 100) dX3_weigh_2 (by decide) ?_
  refine x_sipush C (v := 9999) dX3_weigh_4 (by decide) ?_
  refine x_callSi C gs_X3_48 (c_X3_in x 100 9999) rfl rfl (Nat.le_of_ble_eq_true rfl) ⟨(Nat.le_of_ble_eq_true rfl), (Nat.le_of_ble_eq_true rfl)⟩ ⟨Nat.zero_le _, Nat.zero_le _⟩ dX3_weigh_7 ?_
  refine x_if_eq C (tgt := 24) dX3_weigh_10 (by decide) (fun h => ?_) (fun h => ?_)
  · exact fin
  · refine x_iload_n C dX3_weigh_13 rfl rfl ?_
    refine x_bipush C (v := -99) dX3_weigh_14 (by decide) ?_
    refine x_bipush C (v := 99) dX3_weigh_16 (by decide) ?_
    refine x_callSi C gs_X3_48 (c_X3_in y (-99) 99) rfl rfl (Nat.le_of_ble_eq_true rfl) ⟨(Nat.le_of_ble_eq_true rfl), (Nat.le_of_ble_eq_true rfl)⟩ ⟨Nat.zero_le _, Nat.zero_le _⟩ dX3_weigh_18 ?_
    refine x_if_ne C (tgt := 28) dX3_weigh_21 (by decide) (fun h2 => ?_) (fun h2 => ?_)
    · exact absurd ⟨bz_t h, bz_t h2⟩ hx
    · exact fin
set_option maxRecDepth 100000 in
set_option maxHeartbeats 4000000 in
theorem c_X3_weigh_2 (x y : Int32) (hx : in_B x 100 9999 = true) (hy : in_B y (-99) 99 = true) (hd : dy = 7) : wo_E l yX3_weigh cX3_weigh 5 (some .int) 6 D ((cI, .int) :: (cZ, .boolean) :: tys) [.ref (a 0), .int x, .int y] (wB cI cZ a co gr dy kd wo me ti td la go kp od no ax lv rh re rs ph pr o1 o2 ++ Y) (some (.int 0)) (wB cI cZ a (2) gr dy kd wo me ti td la go kp od no ax lv rh re rs ph pr o1 o2 ++ Y) := by
  refine wo_of (ls := [some (.ref (a 0)), some (.int x), some (.int y), none, none]) (by decide) (Nat.le_of_ble_eq_true rfl) rfl ?_
  intro p e s m args below meth c A C
  refine x_aload_n C dX3_weigh_0 rfl rfl ?_
  refine x_iload_n C dX3_weigh_1 rfl rfl ?_
  refine x_bipush C (v := 100) dX3_weigh_2 (by decide) ?_
  refine x_sipush C (v := 9999) dX3_weigh_4 (by decide) ?_
  refine x_callSi C gs_X3_48 (c_X3_in x 100 9999) rfl rfl (Nat.le_of_ble_eq_true rfl) ⟨(Nat.le_of_ble_eq_true rfl), (Nat.le_of_ble_eq_true rfl)⟩ ⟨Nat.zero_le _, Nat.zero_le _⟩ dX3_weigh_7 ?_
  refine x_if_eq C (tgt := 24) dX3_weigh_10 (by decide) (fun h => ?_) (fun h => ?_)
  · exact absurd hx (by rw [bz_f h]; decide)
  · refine x_iload_n C dX3_weigh_13 rfl rfl ?_
    refine x_bipush C (v := -99) dX3_weigh_14 (by decide) ?_
    refine x_bipush C (v := 99) dX3_weigh_16 (by decide) ?_
    refine x_callSi C gs_X3_48 (c_X3_in y (-99) 99) rfl rfl (Nat.le_of_ble_eq_true rfl) ⟨(Nat.le_of_ble_eq_true rfl), (Nat.le_of_ble_eq_true rfl)⟩ ⟨Nat.zero_le _, Nat.zero_le _⟩ dX3_weigh_18 ?_
    refine x_if_ne C (tgt := 28) dX3_weigh_21 (by decide) (fun h2 => ?_) (fun h2 => ?_)
    · refine x_aload_n C dX3_weigh_28 rfl rfl ?_
      refine gB0_day C dX3_weigh_29 ?_
      refine x_bipush C (v := 7) dX3_weigh_32 (by decide) ?_
      refine x_icmp_ne C (tgt := 41) dX3_weigh_34 (by decide) (fun h3 => ?_) (fun h3 => ?_)
      · exact absurd (by rw [hd]; rfl) h3
      · refine x_iconst C (v := 2) dX3_weigh_37 (by decide) ?_
        refine x_goto C (tgt := 42) dX3_weigh_38 (by decide) ?_
        refine pB0_code C _ dX3_weigh_42 ?_
        refine x_aload_n C dX3_weigh_45 rfl rfl ?_
        refine gB0_code C dX3_weigh_46 ?_
        refine x_if_le C (tgt := 54) dX3_weigh_49 (by decide) (fun h4 => ?_) (fun h4 => ?_)
        · exact absurd h4 (by decide)
        · refine x_iconst C (v := 0) dX3_weigh_52 (by decide) ?_
          exact x_iret C dX3_weigh_53 rfl rfl
    · exact absurd hy (by rw [bz_f h2]; decide)
set_option maxRecDepth 100000 in
set_option maxHeartbeats 4000000 in
theorem c_X3_weigh (W2 : wo_sw) (x y : Int32) (t i : Nat) (hx : in_B x 100 9999 = true) (hy : in_B y (-99) 99 = true) (hd : dy ≤ 6) (hax : ax = nI t) (ht : t < 12) (hod : od t < 12) (hi : i = 7 * od t + dy)
    (hp : ∀ (rh2 : Bool) (re2 rs2 : Int32), rh2 = (if rec_B (va_up td i lv) (va_up ti i y) rh (va_up wo i (x / 10)) re i then true else rh) → re2 = (if rec_B (va_up td i lv) (va_up ti i y) rh (va_up wo i (x / 10)) re i then x / 10 else re) → rs2 = (if rec_B (va_up td i lv) (va_up ti i y) rh (va_up wo i (x / 10)) re i then rs + 1 else rs) → wo_S l yX3_passOn cX3_passOn 1 (none) 5 D ((cI, .int) :: (cZ, .boolean) :: tys) [.ref (a 0)] (wB cI cZ a (0) gr dy (va_up kd i 1) (va_up wo i (x / 10)) (va_up me i false) (va_up ti i y) (va_up td i lv) (va_up la (od t) dy) go kp od no ax lv (rh2) (re2) (rs2) ph pr o1 o2 ++ Y) none W2) : wo_S l yX3_weigh cX3_weigh 5 (some .int) 6 D ((cI, .int) :: (cZ, .boolean) :: tys) [.ref (a 0), .int x, .int y] (wB cI cZ a co gr dy kd wo me ti td la go kp od no ax lv rh re rs ph pr o1 o2 ++ Y) (some (.int (x / 10))) W2 := by
  refine wo_ofS (ls := [some (.ref (a 0)), some (.int x), some (.int y), none, none]) (by decide) (Nat.le_of_ble_eq_true rfl) rfl ?_
  intro p e s m args below meth c A C
  subst hi
  have hup : ∀ (f : Nat → Bool) (i : Nat) (u v : Bool), va_up (va_up f i u) i v = va_up f i v := fun f i u v => bx_uu f i u v
  
  refine x_aload_n C dX3_weigh_0 rfl rfl ?_
  refine x_iload_n C dX3_weigh_1 rfl rfl ?_
  refine x_bipush C (v := 100) dX3_weigh_2 (by decide) ?_
  refine x_sipush C (v := 9999) dX3_weigh_4 (by decide) ?_
  refine x_callSi C gs_X3_48 (c_X3_in x 100 9999) rfl rfl (Nat.le_of_ble_eq_true rfl) ⟨(Nat.le_of_ble_eq_true rfl), (Nat.le_of_ble_eq_true rfl)⟩ ⟨Nat.zero_le _, Nat.zero_le _⟩ dX3_weigh_7 ?_
  refine x_if_eq C (tgt := 24) dX3_weigh_10 (by decide) (fun h => ?_) (fun h => ?_)
  · exact absurd hx (by rw [bz_f h]; decide)
  · refine x_iload_n C dX3_weigh_13 rfl rfl ?_
    refine x_bipush C (v := -99) dX3_weigh_14 (by decide) ?_
    refine x_bipush C (v := 99) dX3_weigh_16 (by decide) ?_
    refine x_callSi C gs_X3_48 (c_X3_in y (-99) 99) rfl rfl (Nat.le_of_ble_eq_true rfl) ⟨(Nat.le_of_ble_eq_true rfl), (Nat.le_of_ble_eq_true rfl)⟩ ⟨Nat.zero_le _, Nat.zero_le _⟩ dX3_weigh_18 ?_
    refine x_if_ne C (tgt := 28) dX3_weigh_21 (by decide) (fun h2 => ?_) (fun h2 => ?_)
    · refine x_aload_n C dX3_weigh_28 rfl rfl ?_
      refine gB0_day C dX3_weigh_29 ?_
      refine x_bipush C (v := 7) dX3_weigh_32 (by decide) ?_
      refine x_icmp_ne C (tgt := 41) dX3_weigh_34 (by decide) (fun h3 => ?_) (fun h3 => ?_)
      · refine x_iconst C (v := 0) dX3_weigh_41 (by decide) ?_
        refine pB0_code C _ dX3_weigh_42 ?_
        refine x_aload_n C dX3_weigh_45 rfl rfl ?_
        refine gB0_code C dX3_weigh_46 ?_
        refine x_if_le C (tgt := 54) dX3_weigh_49 (by decide) (fun h4 => ?_) (fun h4 => ?_)
        · refine x_aload_n C dX3_weigh_54 rfl rfl ?_
          refine x_iconst C (v := 1) dX3_weigh_55 (by decide) ?_
          refine x_callVi C gv_X3_93 (c_X3_entry 1 t hax ht hod hd) 0 rfl rfl rfl rfl (Nat.le_of_ble_eq_true rfl) ⟨(Nat.le_of_ble_eq_true rfl), (Nat.le_of_ble_eq_true rfl)⟩ ⟨Nat.zero_le _, Nat.zero_le _⟩ dX3_weigh_56 ?_
          refine x_istore_n C dX3_weigh_59 rfl (by decide) ?_
          refine x_aload_n C dX3_weigh_60 rfl rfl ?_
          refine gB0_worth C dX3_weigh_61 ?_
          refine x_iload_n C dX3_weigh_64 rfl rfl ?_
          refine x_iload_n C dX3_weigh_65 rfl rfl ?_
          refine x_bipush C (v := 10) dX3_weigh_66 (by decide) ?_
          refine x_idiv C dX3_weigh_68 (by decide) ?_
          refine sB_wo C _ _ rfl (by omega) dX3_weigh_69 ?_
          refine x_aload_n C dX3_weigh_70 rfl rfl ?_
          refine gB0_tilted C dX3_weigh_71 ?_
          refine x_iload_n C dX3_weigh_74 rfl rfl ?_
          refine x_aload_n C dX3_weigh_75 rfl rfl ?_
          refine gB0_level C dX3_weigh_76 ?_
          refine sB_td C lv rfl _ rfl (by omega) dX3_weigh_79 ?_
          refine x_aload_n C dX3_weigh_80 rfl rfl ?_
          refine gB0_tilt C dX3_weigh_81 ?_
          refine x_iload_n C dX3_weigh_84 rfl rfl ?_
          refine x_iload_n C dX3_weigh_85 rfl rfl ?_
          refine sB_ti C _ _ rfl (by omega) dX3_weigh_86 ?_
          refine x_aload_n C dX3_weigh_87 rfl rfl ?_
          refine x_iload_n C dX3_weigh_88 rfl rfl ?_
          rw [hup]
          refine x_callVv C gv_X3_96 (c_X3_asRecord (7 * od t + dy) (by omega)) 0 rfl rfl rfl rfl (Nat.le_of_ble_eq_true rfl) ⟨(Nat.le_of_ble_eq_true rfl), (Nat.le_of_ble_eq_true rfl)⟩ ⟨Nat.zero_le _, Nat.zero_le _⟩ dX3_weigh_89 ?_
          refine x_aload_n C dX3_weigh_92 rfl rfl ?_
          refine gB0_worth C dX3_weigh_93 ?_
          refine x_iload_n C dX3_weigh_96 rfl rfl ?_
          refine lB_wo C _ rfl (by omega) dX3_weigh_97 ?_
          refine x_top (y := x / 10) up_eq ?_
          refine x_istore C dX3_weigh_98 (by decide) ?_
          refine x_aload_n C dX3_weigh_100 rfl rfl ?_
          refine x_callVSv C gv_X3_99 (hp _ _ _ rfl (by rw [up_eq]) rfl) 0 rfl rfl rfl rfl (Nat.le_of_ble_eq_true rfl) ⟨(Nat.le_of_ble_eq_true rfl), (Nat.le_of_ble_eq_true rfl)⟩ ⟨Nat.zero_le _, Nat.zero_le _⟩ dX3_weigh_101 (fun o1 o2 => ?_)
          refine x_iload C dX3_weigh_104 rfl ?_
          exact x_iretS C dX3_weigh_106 rfl rfl
        · exact absurd (by decide) h4
      · exact absurd (wo_ieq (a := dy) (b := 7) (by omega) (by omega) h3) (by omega)
    · exact absurd hy (by rw [bz_f h2]; decide)
end MDD
