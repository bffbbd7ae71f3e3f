/-! ===== the reference: the board ===== -/
def fs_F (q : Nat → Bool) : Nat → Nat → Int32
  | 0, _ => -1000000
  | n + 1, k => if q k then nI k else fs_F q n (k + 1)
def lm_F (q : Nat → Bool) : Nat → Int32
  | 0 => 0
  | n + 1 => if q n then lm_F q n ||| (1 <<< (nI n &&& 31)) else lm_F q n
def le_F (has : Nat → Bool) (val : Nat → Int32) (least : Bool) : Nat → Int32
  | 0 => -1000000
  | n + 1 => if has n && (decide (le_F has val least n = -1000000) || (if least then decide (val n < le_F has val least n) else decide (le_F has val least n < val n))) then val n else le_F has val least n
theorem lm_f {q : Nat → Bool} {n : Nat} (h : q n = false) : lm_F q (n + 1) = lm_F q n := by rw [lm_F, if_neg (by rw [h]; decide)]
theorem lm_t {q : Nat → Bool} {n : Nat} (h : q n = true) : lm_F q (n + 1) = lm_F q n ||| (1 <<< (nI n &&& 31)) := by rw [lm_F, if_pos h]
theorem le_f {has : Nat → Bool} {val : Nat → Int32} {least : Bool} {n : Nat} (h : (has n && (decide (le_F has val least n = -1000000) || (if least then decide (val n < le_F has val least n) else decide (le_F has val least n < val n)))) = false) : le_F has val least (n + 1) = le_F has val least n := by rw [le_F, if_neg (by rw [h]; decide)]
theorem le_t {has : Nat → Bool} {val : Nat → Int32} {least : Bool} {n : Nat} (h : (has n && (decide (le_F has val least n = -1000000) || (if least then decide (val n < le_F has val least n) else decide (le_F has val least n < val n)))) = true) : le_F has val least (n + 1) = val n := by rw [le_F, if_pos h]
def hs_B (kd wo : Nat → Int32) (td : Nat → Bool) (la : Nat → Nat) (what : Int32) (w : Nat) : Bool := if what = 0 then decide (0 < wn_B kd wo w) else (decide (0 < la w) && td (7 * w + la w))
def tv_B (kd wo ti : Nat → Int32) (la : Nat → Nat) (what : Int32) (w : Nat) : Int32 := if what = 0 then (if 0 < wn_B kd wo w then wk_B kd wo w 0 else 0) else ti (7 * w + la w)
theorem wo_7' (w d : Nat) : (7 : Int32) * nI w + nI d = nI (7 * w + d) := wo_7 w d
section MDG
variable {l : Launch} {D : va_G} {tys : List (ClassId × FieldType)} {cI cZ : ClassId} {a : Nat → Nat} {Y : va_W} {co : Int32} {gr : Nat} {dy : Nat} {kd : Nat → Int32} {wo : Nat → Int32} {me : Nat → Bool} {ti : Nat → Int32} {td : Nat → Bool} {la : Nat → Nat} {go : Nat → Bool} {kp : Nat → Bool} {od : Nat → Nat} {no : Nat} {ax : Int32} {lv : Bool} {rh : Bool} {re : Int32} {rs : Int32} {ph : Bool} {pr : Int32} {o1 : Nat → Int32} {o2 : Nat → Int32}
set_option maxRecDepth 100000 in
set_option maxHeartbeats 4000000 in
theorem c_X3_count_1 (what sign num : Int32) (hq : (in_B what 0 1 && in_B sign 0 5) = false) : wo_E l yX3_count cX3_count 6 (some .int) 2 D ((cI, .int) :: (cZ, .boolean) :: tys) [.ref (a 0), .int what, .int sign, .int num] (wB cI cZ a co gr dy kd wo me ti td la go kp od no ax lv rh re rs ph pr o1 o2 ++ Y) (some (.int 0)) (wB cI cZ a (1) gr dy kd wo me ti td la go kp od no ax lv rh re rs ph pr o1 o2 ++ Y) := by
  refine wo_of (ls := [some (.ref (a 0)), some (.int what), some (.int sign), some (.int num), none, none]) (by decide) (Nat.le_of_ble_eq_true rfl) rfl ?_
  intro p e s m args below meth c A C
  refine x_iconst C (v := 0) dX3_count_0 (by decide) ?_
  refine x_istore C dX3_count_1 (by decide) ?_
  refine x_aload_n C dX3_count_3 rfl rfl ?_
  refine x_iload_n C dX3_count_4 rfl rfl ?_
  refine x_iload_n C dX3_count_5 rfl rfl ?_
  refine x_callVi C gv_X3_129 (c_X3_isAsked what sign) 0 rfl rfl rfl rfl (Nat.le_of_ble_eq_true rfl) ⟨(Nat.le_of_ble_eq_true rfl), (Nat.le_of_ble_eq_true rfl)⟩ ⟨Nat.zero_le _, Nat.zero_le _⟩ dX3_count_6 ?_
  rw [if_neg (by rw [hq]; decide)]
  refine x_if_eq C (tgt := 61) dX3_count_9 (by decide) (fun h => ?_) (fun h => ?_)
  · refine x_iload C dX3_count_61 rfl ?_
    exact x_iret C dX3_count_63 rfl rfl
  · exact absurd hq (by rw [bz_t h]; decide)
set_option maxRecDepth 100000 in
set_option maxHeartbeats 4000000 in
theorem c_X3_count (what sign num : Int32) (hq : (in_B what 0 1 && in_B sign 0 5) = true) : wo_E l yX3_count cX3_count 6 (some .int) 2 D ((cI, .int) :: (cZ, .boolean) :: tys) [.ref (a 0), .int what, .int sign, .int num] (wB cI cZ a co gr dy kd wo me ti td la go kp od no ax lv rh re rs ph pr o1 o2 ++ Y) (some (.int (nI (wo_cnt (fun k => decide (¬ kd k = 0) && es_B kd wo ti td k what sign num) 84)))) (wB cI cZ a (0) gr dy kd wo me ti td la go kp od no ax lv rh re rs ph pr o1 o2 ++ Y) := by
  refine wo_of (ls := [some (.ref (a 0)), some (.int what), some (.int sign), some (.int num), none, none]) (by decide) (Nat.le_of_ble_eq_true rfl) rfl ?_
  intro p e s m args below meth c A C
  refine x_iconst C (v := 0) dX3_count_0 (by decide) ?_
  refine x_istore C dX3_count_1 (by decide) ?_
  refine x_aload_n C dX3_count_3 rfl rfl ?_
  refine x_iload_n C dX3_count_4 rfl rfl ?_
  refine x_iload_n C dX3_count_5 rfl rfl ?_
  refine x_callVi C gv_X3_129 (c_X3_isAsked what sign) 0 rfl rfl rfl rfl (Nat.le_of_ble_eq_true rfl) ⟨(Nat.le_of_ble_eq_true rfl), (Nat.le_of_ble_eq_true rfl)⟩ ⟨Nat.zero_le _, Nat.zero_le _⟩ dX3_count_6 ?_
  rw [if_pos hq]
  refine x_if_eq C (tgt := 61) dX3_count_9 (by decide) (fun h => ?_) (fun h => ?_)
  · exact absurd hq (by rw [bz_f h]; decide)
  · refine x_iconst C (v := 0) dX3_count_12 (by decide) ?_
    refine x_istore C dX3_count_13 (by decide) ?_
    have loop : ∀ (n k : Nat), n + k = 84 → wo_W p l e (wo_rm 2) s m args below meth c A D 0 0 6 (MQ below (wo_Q D ((cI, .int) :: (cZ, .boolean) :: tys) (some (.int (nI (wo_cnt (fun k => decide (¬ kd k = 0) && es_B kd wo ti td k what sign num) 84)))) (wB cI cZ a (0) gr dy kd wo me ti td la go kp od no ax lv rh re rs ph pr o1 o2 ++ Y) A) args s 0 0 A) 15 [some (.ref (a 0)), some (.int what), some (.int sign), some (.int num), some (.int (nI (wo_cnt (fun k => decide (¬ kd k = 0) && es_B kd wo ti td k what sign num) k))), some (.int (nI k))] [] (wB cI cZ a (0) gr dy kd wo me ti td la go kp od no ax lv rh re rs ph pr o1 o2 ++ Y) := by
      intro n
      induction n with
      | zero =>
        intro k hk
        refine x_iload C dX3_count_15 rfl ?_
        refine x_bipush C (v := 84) dX3_count_17 (by decide) ?_
        refine x_icmp_ge C (tgt := 61) dX3_count_19 (by decide) (fun h3 => ?_) (fun h3 => ?_)
        · have hk2 : k = 84 := by omega
          subst hk2
          refine x_iload C dX3_count_61 rfl ?_
          exact x_iret C dX3_count_63 rfl rfl
        · exact absurd (show nI 84 ≤ nI k from nI_le (by omega) (by omega)) h3
      | succ n ih =>
        intro k hk
        refine x_iload C dX3_count_15 rfl ?_
        refine x_bipush C (v := 84) dX3_count_17 (by decide) ?_
        refine x_icmp_ge C (tgt := 61) dX3_count_19 (by decide) (fun h3 => ?_) (fun h3 => ?_)
        · exact absurd (wo_le (a := 84) (b := k) (by omega) (by omega) h3) (by omega)
        · refine x_aload_n C dX3_count_22 rfl rfl ?_
          refine gB0_kind C dX3_count_23 ?_
          refine x_iload C dX3_count_26 rfl ?_
          refine lB_kd C _ rfl (by omega) dX3_count_28 ?_
          refine x_if_eq C (tgt := 51) dX3_count_29 (by decide) (fun h4 => ?_) (fun h4 => ?_)
          · refine x_iload C dX3_count_51 rfl ?_
            refine x_istore C dX3_count_53 (by decide) ?_
            refine x_iinc C dX3_count_55 rfl (nI_1 k) (by decide) ?_
            refine x_goto C (tgt := 15) dX3_count_58 (by decide) ?_
            have h9 := ih (k + 1) (by omega)
            rw [wo_cnt_f (n := k) (q := fun k => decide (¬ kd k = 0) && es_B kd wo ti td k what sign num) (by rw [decide_eq_false (fun z => z h4)]; rfl)] at h9
            exact h9
          · refine x_aload_n C dX3_count_32 rfl rfl ?_
            refine x_iload C dX3_count_33 rfl ?_
            refine x_iload_n C dX3_count_35 rfl rfl ?_
            refine x_iload_n C dX3_count_36 rfl rfl ?_
            refine x_iload_n C dX3_count_37 rfl rfl ?_
            refine x_callVi C gv_X3_132 (c_X3_entryStands k (by omega) what sign num) 0 rfl rfl rfl rfl (Nat.le_of_ble_eq_true rfl) ⟨(Nat.le_of_ble_eq_true rfl), (Nat.le_of_ble_eq_true rfl)⟩ ⟨Nat.zero_le _, Nat.zero_le _⟩ dX3_count_38 ?_
            refine x_if_eq C (tgt := 51) dX3_count_41 (by decide) (fun h5 => ?_) (fun h5 => ?_)
            · refine x_iload C dX3_count_51 rfl ?_
              refine x_istore C dX3_count_53 (by decide) ?_
              refine x_iinc C dX3_count_55 rfl (nI_1 k) (by decide) ?_
              refine x_goto C (tgt := 15) dX3_count_58 (by decide) ?_
              have h9 := ih (k + 1) (by omega)
              rw [wo_cnt_f (n := k) (q := fun k => decide (¬ kd k = 0) && es_B kd wo ti td k what sign num) (by rw [bz_f h5, Bool.and_false])] at h9
              exact h9
            · refine x_iload C dX3_count_44 rfl ?_
              refine x_iconst C (v := 1) dX3_count_46 (by decide) ?_
              refine x_iadd C dX3_count_47 ?_
              refine x_goto C (tgt := 53) dX3_count_48 (by decide) ?_
              refine x_top (nI_1 _) ?_
              refine x_istore C dX3_count_53 (by decide) ?_
              refine x_iinc C dX3_count_55 rfl (nI_1 k) (by decide) ?_
              refine x_goto C (tgt := 15) dX3_count_58 (by decide) ?_
              have h9 := ih (k + 1) (by omega)
              rw [wo_cnt_t (n := k) (q := fun k => decide (¬ kd k = 0) && es_B kd wo ti td k what sign num) (by rw [bz_t h5, decide_eq_true h4]; rfl)] at h9
              exact h9
    exact loop 84 0 rfl
set_option maxRecDepth 100000 in
set_option maxHeartbeats 4000000 in
theorem c_X3_first_1 (what sign num : Int32) (hq : (in_B what 0 1 && in_B sign 0 5) = false) : wo_E l yX3_first cX3_first 5 (some .int) 2 D ((cI, .int) :: (cZ, .boolean) :: tys) [.ref (a 0), .int what, .int sign, .int num] (wB cI cZ a co gr dy kd wo me ti td la go kp od no ax lv rh re rs ph pr o1 o2 ++ Y) (some (.int 0)) (wB cI cZ a (1) gr dy kd wo me ti td la go kp od no ax lv rh re rs ph pr o1 o2 ++ Y) := by
  refine wo_of (ls := [some (.ref (a 0)), some (.int what), some (.int sign), some (.int num), none]) (by decide) (Nat.le_of_ble_eq_true rfl) rfl ?_
  intro p e s m args below meth c A C
  refine x_aload_n C dX3_first_0 rfl rfl ?_
  refine x_iload_n C dX3_first_1 rfl rfl ?_
  refine x_iload_n C dX3_first_2 rfl rfl ?_
  refine x_callVi C gv_X3_129 (c_X3_isAsked what sign) 0 rfl rfl rfl rfl (Nat.le_of_ble_eq_true rfl) ⟨(Nat.le_of_ble_eq_true rfl), (Nat.le_of_ble_eq_true rfl)⟩ ⟨Nat.zero_le _, Nat.zero_le _⟩ dX3_first_3 ?_
  rw [if_neg (by rw [hq]; decide)]
  refine x_if_ne C (tgt := 11) dX3_first_6 (by decide) (fun h => ?_) (fun h => ?_)
  · exact absurd hq (by rw [bz_t h]; decide)
  · refine x_iconst C (v := 0) dX3_first_9 (by decide) ?_
    exact x_iret C dX3_first_10 rfl rfl
set_option maxRecDepth 100000 in
set_option maxHeartbeats 4000000 in
theorem c_X3_first (what sign num : Int32) (hq : (in_B what 0 1 && in_B sign 0 5) = true) (hg : gr ≤ 12) (hla : ∀ k, k < 12 → la k ≤ 6) : wo_E l yX3_first cX3_first 5 (some .int) 2 D ((cI, .int) :: (cZ, .boolean) :: tys) [.ref (a 0), .int what, .int sign, .int num] (wB cI cZ a co gr dy kd wo me ti td la go kp od no ax lv rh re rs ph pr o1 o2 ++ Y) (some (.int (fs_F (fun k => decide (0 < la k) && es_B kd wo ti td (7 * k + la k) what sign num) gr 0))) (wB cI cZ a (0) gr dy kd wo me ti td la go kp od no ax lv rh re rs ph pr o1 o2 ++ Y) := by
  refine wo_of (ls := [some (.ref (a 0)), some (.int what), some (.int sign), some (.int num), none]) (by decide) (Nat.le_of_ble_eq_true rfl) rfl ?_
  intro p e s m args below meth c A C
  refine x_aload_n C dX3_first_0 rfl rfl ?_
  refine x_iload_n C dX3_first_1 rfl rfl ?_
  refine x_iload_n C dX3_first_2 rfl rfl ?_
  refine x_callVi C gv_X3_129 (c_X3_isAsked what sign) 0 rfl rfl rfl rfl (Nat.le_of_ble_eq_true rfl) ⟨(Nat.le_of_ble_eq_true rfl), (Nat.le_of_ble_eq_true rfl)⟩ ⟨Nat.zero_le _, Nat.zero_le _⟩ dX3_first_3 ?_
  rw [if_pos hq]
  refine x_if_ne C (tgt := 11) dX3_first_6 (by decide) (fun h => ?_) (fun h => ?_)
  · refine x_iconst C (v := 0) dX3_first_11 (by decide) ?_
    refine x_istore C dX3_first_12 (by decide) ?_
    have loop : ∀ (n k : Nat), n + k = gr → fs_F (fun k => decide (0 < la k) && es_B kd wo ti td (7 * k + la k) what sign num) n k = fs_F (fun k => decide (0 < la k) && es_B kd wo ti td (7 * k + la k) what sign num) gr 0 → wo_W p l e (wo_rm 2) s m args below meth c A D 0 0 5 (MQ below (wo_Q D ((cI, .int) :: (cZ, .boolean) :: tys) (some (.int (fs_F (fun k => decide (0 < la k) && es_B kd wo ti td (7 * k + la k) what sign num) gr 0))) (wB cI cZ a (0) gr dy kd wo me ti td la go kp od no ax lv rh re rs ph pr o1 o2 ++ Y) A) args s 0 0 A) 14 [some (.ref (a 0)), some (.int what), some (.int sign), some (.int num), some (.int (nI k))] [] (wB cI cZ a (0) gr dy kd wo me ti td la go kp od no ax lv rh re rs ph pr o1 o2 ++ Y) := by
      intro n
      induction n with
      | zero =>
        intro k hk he
        refine x_iload C dX3_first_14 rfl ?_
        refine x_aload_n C dX3_first_16 rfl rfl ?_
        refine gB0_growers C dX3_first_17 ?_
        refine x_icmp_ge C (tgt := 65) dX3_first_20 (by decide) (fun h3 => ?_) (fun h3 => ?_)
        · refine x_ldc C kk_X3_124 dX3_first_65 ?_
          exact x_iret C dX3_first_67 (by rw [← he]; rfl) rfl
        · exact absurd (show nI gr ≤ nI k from nI_le (by omega) (by omega)) h3
      | succ n ih =>
        intro k hk he
        have hl := hla k (by omega)
        refine x_iload C dX3_first_14 rfl ?_
        refine x_aload_n C dX3_first_16 rfl rfl ?_
        refine gB0_growers C dX3_first_17 ?_
        refine x_icmp_ge C (tgt := 65) dX3_first_20 (by decide) (fun h3 => ?_) (fun h3 => ?_)
        · exact absurd (wo_le (by omega) (by omega) h3) (by omega)
        · refine x_aload_n C dX3_first_23 rfl rfl ?_
          refine gB0_latest C dX3_first_24 ?_
          refine x_iload C dX3_first_27 rfl ?_
          refine lB_la C _ rfl (by omega) dX3_first_29 ?_
          refine x_if_le C (tgt := 59) dX3_first_30 (by decide) (fun h4 => ?_) (fun h4 => ?_)
          · have h5 := wo_le (a := la k) (b := 0) (by omega) (by omega) h4
            refine x_iinc C dX3_first_59 rfl (nI_1 k) (by decide) ?_
            refine x_goto C (tgt := 14) dX3_first_62 (by decide) ?_
            exact ih (k + 1) (by omega) (by rw [← he]; show _ = fs_F _ (n + 1) k; rw [fs_F, if_neg (by rw [decide_eq_false (by omega)]; exact Bool.false_ne_true)])
          · have h5 := wo_nle (a := la k) (b := 0) (by omega) (by omega) h4
            refine x_aload_n C dX3_first_33 rfl rfl ?_
            refine x_bipush C (v := 7) dX3_first_34 (by decide) ?_
            refine x_iload C dX3_first_36 rfl ?_
            refine x_imul C dX3_first_38 ?_
            refine x_aload_n C dX3_first_39 rfl rfl ?_
            refine gB0_latest C dX3_first_40 ?_
            refine x_iload C dX3_first_43 rfl ?_
            refine lB_la C _ rfl (by omega) dX3_first_45 ?_
            refine x_iadd C dX3_first_46 ?_
            refine x_top (wo_7 k (la k)) ?_
            refine x_iload_n C dX3_first_47 rfl rfl ?_
            refine x_iload_n C dX3_first_48 rfl rfl ?_
            refine x_iload_n C dX3_first_49 rfl rfl ?_
            refine x_callVi C gv_X3_132 (c_X3_entryStands (7 * k + la k) (by omega) what sign num) 0 rfl rfl rfl rfl (Nat.le_of_ble_eq_true rfl) ⟨(Nat.le_of_ble_eq_true rfl), (Nat.le_of_ble_eq_true rfl)⟩ ⟨Nat.zero_le _, Nat.zero_le _⟩ dX3_first_50 ?_
            refine x_if_eq C (tgt := 59) dX3_first_53 (by decide) (fun h6 => ?_) (fun h6 => ?_)
            · refine x_iinc C dX3_first_59 rfl (nI_1 k) (by decide) ?_
              refine x_goto C (tgt := 14) dX3_first_62 (by decide) ?_
              exact ih (k + 1) (by omega) (by rw [← he]; show _ = fs_F _ (n + 1) k; rw [fs_F, if_neg (by rw [bz_f h6, Bool.and_false]; decide)])
            · refine x_iload C dX3_first_56 rfl ?_
              exact x_iret C dX3_first_58 (by rw [← he]; show some (Value.int (fs_F _ (n + 1) k)) = _; rw [fs_F, if_pos (by rw [bz_t h6, decide_eq_true h5]; rfl)]) rfl
    exact loop gr 0 (by omega) rfl
  · exact absurd hq (by rw [bz_f h]; decide)
set_option maxRecDepth 100000 in
set_option maxHeartbeats 4000000 in
theorem c_X3_has (what : Int32) (w : Nat) (hw : w < 12) (hl : la w ≤ 6) : wo_S l yX3_has cX3_has 3 (some .boolean) 1 D ((cI, .int) :: (cZ, .boolean) :: tys) [.ref (a 0), .int what, .int (nI w)] (wB cI cZ a co gr dy kd wo me ti td la go kp od no ax lv rh re rs ph pr o1 o2 ++ Y) (some (.int (bz (hs_B kd wo td la what w)))) (fun o1 o2 => (wB cI cZ a co gr dy kd wo me ti td la go kp od no ax lv rh re rs ph pr o1 o2 ++ Y)) := by
  refine wo_ofS (ls := [some (.ref (a 0)), some (.int what), some (.int (nI w))]) (by decide) (Nat.le_of_ble_eq_true rfl) rfl ?_
  intro p e s m args below meth c A C
  have hwn := wn_le kd wo w
  refine x_iload_n C dX3_has_0 rfl rfl ?_
  refine x_if_ne C (tgt := 24) dX3_has_1 (by decide) (fun h => ?_) (fun h => ?_)
  · refine x_aload_n C dX3_has_24 rfl rfl ?_
    refine gB0_latest C dX3_has_25 ?_
    refine x_iload_n C dX3_has_28 rfl rfl ?_
    refine lB_la C _ rfl (by omega) dX3_has_29 ?_
    refine x_if_le C (tgt := 56) dX3_has_30 (by decide) (fun h2 => ?_) (fun h2 => ?_)
    · have h3 := wo_le (a := la w) (b := 0) (by omega) (by omega) h2
      refine x_iconst C (v := 0) dX3_has_56 (by decide) ?_
      exact x_zretS C dX3_has_57 (b := false) rfl (by rw [hs_B, if_neg h, decide_eq_false (by omega)]; rfl) rfl
    · have h3 := wo_nle (a := la w) (b := 0) (by omega) (by omega) h2
      refine x_aload_n C dX3_has_33 rfl rfl ?_
      refine gB0_tilted C dX3_has_34 ?_
      refine x_bipush C (v := 7) dX3_has_37 (by decide) ?_
      refine x_iload_n C dX3_has_39 rfl rfl ?_
      refine x_imul C dX3_has_40 ?_
      refine x_aload_n C dX3_has_41 rfl rfl ?_
      refine gB0_latest C dX3_has_42 ?_
      refine x_iload_n C dX3_has_45 rfl rfl ?_
      refine lB_la C _ rfl (by omega) dX3_has_46 ?_
      refine x_iadd C dX3_has_47 ?_
      refine lB_td C (7 * w + la w) (wo_7 w (la w)) (by omega) dX3_has_48 ?_
      refine x_if_eq C (tgt := 56) dX3_has_49 (by decide) (fun h4 => ?_) (fun h4 => ?_)
      · refine x_iconst C (v := 0) dX3_has_56 (by decide) ?_
        exact x_zretS C dX3_has_57 (b := false) rfl (by rw [hs_B, if_neg h, bz_f h4, Bool.and_false]) rfl
      · refine x_iconst C (v := 1) dX3_has_52 (by decide) ?_
        refine x_goto C (tgt := 57) dX3_has_53 (by decide) ?_
        exact x_zretS C dX3_has_57 (b := true) rfl (by rw [hs_B, if_neg h, bz_t h4, decide_eq_true h3]; rfl) rfl
  · refine x_aload_n C dX3_has_4 rfl rfl ?_
    refine x_iload_n C dX3_has_5 rfl rfl ?_
    refine x_aload_n C dX3_has_6 rfl rfl ?_
    refine gB0_one C dX3_has_7 ?_
    refine x_callVi C gv_X3_69 (c_X3_weightsOf_o1 w hw) 0 rfl rfl rfl rfl (Nat.le_of_ble_eq_true rfl) ⟨(Nat.le_of_ble_eq_true rfl), (Nat.le_of_ble_eq_true rfl)⟩ ⟨Nat.zero_le _, Nat.zero_le _⟩ dX3_has_10 ?_
    refine x_if_le C (tgt := 20) dX3_has_13 (by decide) (fun h2 => ?_) (fun h2 => ?_)
    · have h3 := wo_le (a := wn_B kd wo w) (b := 0) (by omega) (by omega) h2
      refine x_iconst C (v := 0) dX3_has_20 (by decide) ?_
      refine x_goto C (tgt := 57) dX3_has_21 (by decide) ?_
      exact x_zretS C dX3_has_57 (b := false) rfl (by rw [hs_B, if_pos h, decide_eq_false (by omega)]) rfl
    · have h3 := wo_nle (a := wn_B kd wo w) (b := 0) (by omega) (by omega) h2
      refine x_iconst C (v := 1) dX3_has_16 (by decide) ?_
      refine x_goto C (tgt := 57) dX3_has_17 (by decide) ?_
      exact x_zretS C dX3_has_57 (b := true) rfl (by rw [hs_B, if_pos h, decide_eq_true h3]) rfl
set_option maxRecDepth 100000 in
set_option maxHeartbeats 4000000 in
theorem c_X3_told (what : Int32) (w : Nat) (hw : w < 12) (hl : la w ≤ 6) : wo_S l yX3_told cX3_told 4 (some .int) 1 D ((cI, .int) :: (cZ, .boolean) :: tys) [.ref (a 0), .int what, .int (nI w)] (wB cI cZ a co gr dy kd wo me ti td la go kp od no ax lv rh re rs ph pr o1 o2 ++ Y) (some (.int (tv_B kd wo ti la what w))) (fun o1 o2 => (wB cI cZ a co gr dy kd wo me ti td la go kp od no ax lv rh re rs ph pr o1 o2 ++ Y)) := by
  refine wo_ofS (ls := [some (.ref (a 0)), some (.int what), some (.int (nI w)), none]) (by decide) (Nat.le_of_ble_eq_true rfl) rfl ?_
  intro p e s m args below meth c A C
  have hwn := wn_le kd wo w
  refine x_aload_n C dX3_told_0 rfl rfl ?_
  refine x_iload_n C dX3_told_1 rfl rfl ?_
  refine x_aload_n C dX3_told_2 rfl rfl ?_
  refine gB0_one C dX3_told_3 ?_
  refine x_callVi C gv_X3_69 (c_X3_weightsOf_o1 w hw) 0 rfl rfl rfl rfl (Nat.le_of_ble_eq_true rfl) ⟨(Nat.le_of_ble_eq_true rfl), (Nat.le_of_ble_eq_true rfl)⟩ ⟨Nat.zero_le _, Nat.zero_le _⟩ dX3_told_6 ?_
  refine x_istore_n C dX3_told_9 rfl (by decide) ?_
  refine x_iload_n C dX3_told_10 rfl rfl ?_
  refine x_if_ne C (tgt := 31) dX3_told_11 (by decide) (fun h => ?_) (fun h => ?_)
  · refine x_aload_n C dX3_told_31 rfl rfl ?_
    refine gB0_tilt C dX3_told_32 ?_
    refine x_bipush C (v := 7) dX3_told_35 (by decide) ?_
    refine x_iload_n C dX3_told_37 rfl rfl ?_
    refine x_imul C dX3_told_38 ?_
    refine x_aload_n C dX3_told_39 rfl rfl ?_
    refine gB0_latest C dX3_told_40 ?_
    refine x_iload_n C dX3_told_43 rfl rfl ?_
    refine lB_la C _ rfl (by omega) dX3_told_44 ?_
    refine x_iadd C dX3_told_45 ?_
    refine lB_ti C (7 * w + la w) (wo_7 w (la w)) (by omega) dX3_told_46 ?_
    exact x_iretS C dX3_told_47 (by rw [tv_B, if_neg h]) rfl
  · refine x_iload_n C dX3_told_14 rfl rfl ?_
    refine x_if_le C (tgt := 27) dX3_told_15 (by decide) (fun h2 => ?_) (fun h2 => ?_)
    · have h3 := wo_le (a := wn_B kd wo w) (b := 0) (by omega) (by omega) h2
      refine x_iconst C (v := 0) dX3_told_27 (by decide) ?_
      refine x_goto C (tgt := 47) dX3_told_28 (by decide) ?_
      exact x_iretS C dX3_told_47 (by rw [tv_B, if_pos h, if_neg (by omega)]) rfl
    · have h3 := wo_nle (a := wn_B kd wo w) (b := 0) (by omega) (by omega) h2
      refine x_aload_n C dX3_told_18 rfl rfl ?_
      refine gB0_one C dX3_told_19 ?_
      refine x_iconst C (v := 0) dX3_told_22 (by decide) ?_
      refine lB_o1 C 0 rfl (by omega) dX3_told_23 ?_
      refine x_goto C (tgt := 47) dX3_told_24 (by decide) ?_
      exact x_iretS C dX3_told_47 (by rw [tv_B, if_pos h, if_pos h3, wk_eq _ _ _ _ h3]) rfl
set_option maxRecDepth 100000 in
set_option maxHeartbeats 4000000 in
theorem c_X3_lamps_1 (what sign num : Int32) (hq : (in_B what 0 1 && in_B sign 0 5) = false) : wo_E l yX3_lamps cX3_lamps 6 (some .int) 2 D ((cI, .int) :: (cZ, .boolean) :: tys) [.ref (a 0), .int what, .int sign, .int num] (wB cI cZ a co gr dy kd wo me ti td la go kp od no ax lv rh re rs ph pr o1 o2 ++ Y) (some (.int 0)) (wB cI cZ a (1) gr dy kd wo me ti td la go kp od no ax lv rh re rs ph pr o1 o2 ++ Y) := by
  refine wo_of (ls := [some (.ref (a 0)), some (.int what), some (.int sign), some (.int num), none, none]) (by decide) (Nat.le_of_ble_eq_true rfl) rfl ?_
  intro p e s m args below meth c A C
  refine x_iconst C (v := 0) dX3_lamps_0 (by decide) ?_
  refine x_istore C dX3_lamps_1 (by decide) ?_
  refine x_aload_n C dX3_lamps_3 rfl rfl ?_
  refine x_iload_n C dX3_lamps_4 rfl rfl ?_
  refine x_iload_n C dX3_lamps_5 rfl rfl ?_
  refine x_callVi C gv_X3_129 (c_X3_isAsked what sign) 0 rfl rfl rfl rfl (Nat.le_of_ble_eq_true rfl) ⟨(Nat.le_of_ble_eq_true rfl), (Nat.le_of_ble_eq_true rfl)⟩ ⟨Nat.zero_le _, Nat.zero_le _⟩ dX3_lamps_6 ?_
  rw [if_neg (by rw [hq]; decide)]
  refine x_if_eq C (tgt := 77) dX3_lamps_9 (by decide) (fun h => ?_) (fun h => ?_)
  · refine x_iload C dX3_lamps_77 rfl ?_
    exact x_iret C dX3_lamps_79 rfl rfl
  · exact absurd hq (by rw [bz_t h]; decide)
set_option maxRecDepth 100000 in
set_option maxHeartbeats 4000000 in
theorem c_X3_lamps (what sign num : Int32) (hq : (in_B what 0 1 && in_B sign 0 5) = true) (hg : gr ≤ 12) (hla : ∀ k, k < 12 → la k ≤ 6) : wo_S l yX3_lamps cX3_lamps 6 (some .int) 2 D ((cI, .int) :: (cZ, .boolean) :: tys) [.ref (a 0), .int what, .int sign, .int num] (wB cI cZ a co gr dy kd wo me ti td la go kp od no ax lv rh re rs ph pr o1 o2 ++ Y) (some (.int (lm_F (fun k => st_B (hs_B kd wo td la what k) (tv_B kd wo ti la what k) (decide (¬ num = -1000000)) num sign) gr))) (fun o1 o2 => (wB cI cZ a (0) gr dy kd wo me ti td la go kp od no ax lv rh re rs ph pr o1 o2 ++ Y)) := by
  refine wo_ofS (ls := [some (.ref (a 0)), some (.int what), some (.int sign), some (.int num), none, none]) (by decide) (Nat.le_of_ble_eq_true rfl) rfl ?_
  intro p e s m args below meth c A C
  refine x_iconst C (v := 0) dX3_lamps_0 (by decide) ?_
  refine x_istore C dX3_lamps_1 (by decide) ?_
  refine x_aload_n C dX3_lamps_3 rfl rfl ?_
  refine x_iload_n C dX3_lamps_4 rfl rfl ?_
  refine x_iload_n C dX3_lamps_5 rfl rfl ?_
  refine x_callVi C gv_X3_129 (c_X3_isAsked what sign) 0 rfl rfl rfl rfl (Nat.le_of_ble_eq_true rfl) ⟨(Nat.le_of_ble_eq_true rfl), (Nat.le_of_ble_eq_true rfl)⟩ ⟨Nat.zero_le _, Nat.zero_le _⟩ dX3_lamps_6 ?_
  rw [if_pos hq]
  refine x_if_eq C (tgt := 77) dX3_lamps_9 (by decide) (fun h => ?_) (fun h => ?_)
  · exact absurd hq (by rw [bz_f h]; decide)
  · refine x_iconst C (v := 0) dX3_lamps_12 (by decide) ?_
    refine x_istore C dX3_lamps_13 (by decide) ?_
    have loop : ∀ (n k : Nat) (o1 o2 : Nat → Int32), n + k = gr → wo_W p l e (wo_rm 2) s m args below meth c A D 0 0 6 (MQ below (wo_QS D ((cI, .int) :: (cZ, .boolean) :: tys) (some (.int (lm_F (fun k => st_B (hs_B kd wo td la what k) (tv_B kd wo ti la what k) (decide (¬ num = -1000000)) num sign) gr))) (fun o1 o2 => (wB cI cZ a (0) gr dy kd wo me ti td la go kp od no ax lv rh re rs ph pr o1 o2 ++ Y)) A) args s 0 0 A) 15 [some (.ref (a 0)), some (.int what), some (.int sign), some (.int num), some (.int (lm_F (fun k => st_B (hs_B kd wo td la what k) (tv_B kd wo ti la what k) (decide (¬ num = -1000000)) num sign) k)), some (.int (nI k))] [] (wB cI cZ a (0) gr dy kd wo me ti td la go kp od no ax lv rh re rs ph pr o1 o2 ++ Y) := by
      intro n
      induction n with
      | zero =>
        intro k o1 o2 hk
        refine x_iload C dX3_lamps_15 rfl ?_
        refine x_aload_n C dX3_lamps_17 rfl rfl ?_
        refine gB0_growers C dX3_lamps_18 ?_
        refine x_icmp_ge C (tgt := 77) dX3_lamps_21 (by decide) (fun h3 => ?_) (fun h3 => ?_)
        · have hk2 : k = gr := by omega
          subst hk2
          refine x_iload C dX3_lamps_77 rfl ?_
          exact x_iretS C dX3_lamps_79 rfl rfl
        · exact absurd (show nI gr ≤ nI k from nI_le (by omega) (by omega)) h3
      | succ n ih =>
        intro k o1 o2 hk
        have hl := hla k (by omega)
        refine x_iload C dX3_lamps_15 rfl ?_
        refine x_aload_n C dX3_lamps_17 rfl rfl ?_
        refine gB0_growers C dX3_lamps_18 ?_
        refine x_icmp_ge C (tgt := 77) dX3_lamps_21 (by decide) (fun h3 => ?_) (fun h3 => ?_)
        · exact absurd (wo_le (by omega) (by omega) h3) (by omega)
        · refine x_aload_n C dX3_lamps_24 rfl rfl ?_
          refine x_iload_n C dX3_lamps_25 rfl rfl ?_
          refine x_iload C dX3_lamps_26 rfl ?_
          refine x_callVSi C gv_X3_136 (c_X3_has what k (by omega) hl) 0 rfl rfl rfl rfl (Nat.le_of_ble_eq_true rfl) ⟨(Nat.le_of_ble_eq_true rfl), (Nat.le_of_ble_eq_true rfl)⟩ ⟨Nat.zero_le _, Nat.zero_le _⟩ dX3_lamps_28 (fun o1 o2 => ?_)
          refine x_aload_n C dX3_lamps_31 rfl rfl ?_
          refine x_iload_n C dX3_lamps_32 rfl rfl ?_
          refine x_iload C dX3_lamps_33 rfl ?_
          refine x_callVSi C gv_X3_139 (c_X3_told what k (by omega) hl) 0 rfl rfl rfl rfl (Nat.le_of_ble_eq_true rfl) ⟨(Nat.le_of_ble_eq_true rfl), (Nat.le_of_ble_eq_true rfl)⟩ ⟨Nat.zero_le _, Nat.zero_le _⟩ dX3_lamps_35 (fun o1 o2 => ?_)
          have f49 : ∀ ho : Bool, ho = decide (¬ num = -1000000) → wo_W p l e (wo_rm 2) s m args below meth c A D 0 0 6 (MQ below (wo_QS D ((cI, .int) :: (cZ, .boolean) :: tys) (some (.int (lm_F (fun k => st_B (hs_B kd wo td la what k) (tv_B kd wo ti la what k) (decide (¬ num = -1000000)) num sign) gr))) (fun o1 o2 => (wB cI cZ a (0) gr dy kd wo me ti td la go kp od no ax lv rh re rs ph pr o1 o2 ++ Y)) A) args s 0 0 A) 49 [some (.ref (a 0)), some (.int what), some (.int sign), some (.int num), some (.int (lm_F (fun k => st_B (hs_B kd wo td la what k) (tv_B kd wo ti la what k) (decide (¬ num = -1000000)) num sign) k)), some (.int (nI k))] [.int (bz ho), .int (tv_B kd wo ti la what k), .int (bz (hs_B kd wo td la what k))] (wB cI cZ a (0) gr dy kd wo me ti td la go kp od no ax lv rh re rs ph pr o1 o2 ++ Y) := by
            intro ho hho
            subst hho
            refine x_iload_n C dX3_lamps_49 rfl rfl ?_
            refine x_iload_n C dX3_lamps_50 rfl rfl ?_
            refine x_callSi C gs_X3_125 (c_X3_stand (hs_B kd wo td la what k) _ (tv_B kd wo ti la what k) num sign) rfl rfl (Nat.le_of_ble_eq_true rfl) ⟨(Nat.le_of_ble_eq_true rfl), (Nat.le_of_ble_eq_true rfl)⟩ ⟨Nat.zero_le _, Nat.zero_le _⟩ dX3_lamps_51 ?_
            refine x_if_eq C (tgt := 67) dX3_lamps_54 (by decide) (fun h5 => ?_) (fun h5 => ?_)
            · refine x_iload C dX3_lamps_67 rfl ?_
              refine x_istore C dX3_lamps_69 (by decide) ?_
              refine x_iinc C dX3_lamps_71 rfl (nI_1 k) (by decide) ?_
              refine x_goto C (tgt := 15) dX3_lamps_74 (by decide) ?_
              have h9 := ih (k + 1) o1 o2 (by omega)
              rw [lm_f (n := k) (bz_f h5)] at h9
              exact h9
            · refine x_iload C dX3_lamps_57 rfl ?_
              refine x_iconst C (v := 1) dX3_lamps_59 (by decide) ?_
              refine x_iload C dX3_lamps_60 rfl ?_
              refine x_ishl C dX3_lamps_62 ?_
              refine x_ior C dX3_lamps_63 ?_
              refine x_goto C (tgt := 69) dX3_lamps_64 (by decide) ?_
              refine x_istore C dX3_lamps_69 (by decide) ?_
              refine x_iinc C dX3_lamps_71 rfl (nI_1 k) (by decide) ?_
              refine x_goto C (tgt := 15) dX3_lamps_74 (by decide) ?_
              have h9 := ih (k + 1) o1 o2 (by omega)
              rw [lm_t (n := k) (bz_t h5)] at h9
              exact h9
          refine x_iload_n C dX3_lamps_38 rfl rfl ?_
          refine x_ldc C kk_X3_124 dX3_lamps_39 ?_
          refine x_icmp_eq C (tgt := 48) dX3_lamps_41 (by decide) (fun h5 => ?_) (fun h5 => ?_)
          · refine x_iconst C (v := 0) dX3_lamps_48 (by decide) ?_
            exact f49 false (by rw [decide_eq_false (fun z => z h5)])
          · refine x_iconst C (v := 1) dX3_lamps_44 (by decide) ?_
            refine x_goto C (tgt := 49) dX3_lamps_45 (by decide) ?_
            exact f49 true (by rw [decide_eq_true h5])
    exact loop gr 0 o1 o2 (by omega)
set_option maxRecDepth 100000 in
set_option maxHeartbeats 4000000 in
theorem c_X3_stands_1 (what x y : Int32) (hg : 1 ≤ gr) (hq : (in_B what 0 1 && in_B x 0 (nI (gr - 1)) && in_B y 0 (nI (gr - 1))) = false) : wo_E l yX3_stands cX3_stands 6 (some .int) 2 D ((cI, .int) :: (cZ, .boolean) :: tys) [.ref (a 0), .int what, .int x, .int y] (wB cI cZ a co gr dy kd wo me ti td la go kp od no ax lv rh re rs ph pr o1 o2 ++ Y) (some (.int 0)) (wB cI cZ a (1) gr dy kd wo me ti td la go kp od no ax lv rh re rs ph pr o1 o2 ++ Y) := by
  refine wo_of (ls := [some (.ref (a 0)), some (.int what), some (.int x), some (.int y), none, none]) (by decide) (Nat.le_of_ble_eq_true rfl) rfl ?_
  intro p e s m args below meth c A C
  have f42 : wo_W p l e (wo_rm 2) s m args below meth c A D 0 0 6 (MQ below (wo_Q D ((cI, .int) :: (cZ, .boolean) :: tys) (some (.int 0)) (wB cI cZ a (1) gr dy kd wo me ti td la go kp od no ax lv rh re rs ph pr o1 o2 ++ Y) A) args s 0 0 A) 42 [some (.ref (a 0)), some (.int what), some (.int x), some (.int y), none, none] [.ref (a 0)] (wB cI cZ a co gr dy kd wo me ti td la go kp od no ax lv rh re rs ph pr o1 o2 ++ Y) := by
    refine x_iconst C (v := 1) dX3_stands_42 (by decide) ?_
    refine pB0_code C _ dX3_stands_43 ?_
    refine x_iconst C (v := 0) dX3_stands_46 (by decide) ?_
    refine x_istore C dX3_stands_47 (by decide) ?_
    refine x_iconst C (v := 0) dX3_stands_49 (by decide) ?_
    refine x_istore C dX3_stands_50 (by decide) ?_
    refine x_iload C dX3_stands_52 rfl ?_
    refine x_bipush C (v := 6) dX3_stands_54 (by decide) ?_
    refine x_icmp_ge C (tgt := 118) dX3_stands_56 (by decide) (fun h => ?_) (fun h => ?_)
    · exact absurd h (by decide)
    · refine x_aload_n C dX3_stands_59 rfl rfl ?_
      refine gB0_code C dX3_stands_60 ?_
      refine x_if_ne C (tgt := 118) dX3_stands_63 (by decide) (fun h2 => ?_) (fun h2 => ?_)
      · refine x_iload C dX3_stands_118 rfl ?_
        exact x_iret C dX3_stands_120 rfl rfl
      · exact absurd h2 (by decide)
  refine x_aload_n C dX3_stands_0 rfl rfl ?_
  refine x_iload_n C dX3_stands_1 rfl rfl ?_
  refine x_iconst C (v := 0) dX3_stands_2 (by decide) ?_
  refine x_iconst C (v := 1) dX3_stands_3 (by decide) ?_
  refine x_callSi C gs_X3_48 (c_X3_in what 0 1) rfl rfl (Nat.le_of_ble_eq_true rfl) ⟨(Nat.le_of_ble_eq_true rfl), (Nat.le_of_ble_eq_true rfl)⟩ ⟨Nat.zero_le _, Nat.zero_le _⟩ dX3_stands_4 ?_
  refine x_if_eq C (tgt := 42) dX3_stands_7 (by decide) (fun h => ?_) (fun h => ?_)
  · exact f42
  · refine x_iload_n C dX3_stands_10 rfl rfl ?_
    refine x_iconst C (v := 0) dX3_stands_11 (by decide) ?_
    refine x_aload_n C dX3_stands_12 rfl rfl ?_
    refine gB0_growers C dX3_stands_13 ?_
    refine x_iconst C (v := 1) dX3_stands_16 (by decide) ?_
    refine x_isub C dX3_stands_17 ?_
    refine x_top (wo_gr1 hg) ?_
    refine x_callSi C gs_X3_48 (c_X3_in x 0 (nI (gr - 1))) rfl rfl (Nat.le_of_ble_eq_true rfl) ⟨(Nat.le_of_ble_eq_true rfl), (Nat.le_of_ble_eq_true rfl)⟩ ⟨Nat.zero_le _, Nat.zero_le _⟩ dX3_stands_18 ?_
    refine x_if_eq C (tgt := 42) dX3_stands_21 (by decide) (fun h2 => ?_) (fun h2 => ?_)
    · exact f42
    · refine x_iload_n C dX3_stands_24 rfl rfl ?_
      refine x_iconst C (v := 0) dX3_stands_25 (by decide) ?_
      refine x_aload_n C dX3_stands_26 rfl rfl ?_
      refine gB0_growers C dX3_stands_27 ?_
      refine x_iconst C (v := 1) dX3_stands_30 (by decide) ?_
      refine x_isub C dX3_stands_31 ?_
      refine x_top (wo_gr1 hg) ?_
      refine x_callSi C gs_X3_48 (c_X3_in y 0 (nI (gr - 1))) rfl rfl (Nat.le_of_ble_eq_true rfl) ⟨(Nat.le_of_ble_eq_true rfl), (Nat.le_of_ble_eq_true rfl)⟩ ⟨Nat.zero_le _, Nat.zero_le _⟩ dX3_stands_32 ?_
      refine x_if_eq C (tgt := 42) dX3_stands_35 (by decide) (fun h3 => ?_) (fun h3 => ?_)
      · exact f42
      · exact absurd hq (by rw [bz_t h, bz_t h2, bz_t h3]; decide)
set_option maxRecDepth 100000 in
set_option maxHeartbeats 4000000 in
theorem c_X3_stands (what : Int32) (u w : Nat) (hu : u < gr) (hw : w < gr) (hq : in_B what 0 1 = true) (hg : gr ≤ 12) (hla : ∀ k, k < 12 → la k ≤ 6) : wo_S l yX3_stands cX3_stands 6 (some .int) 2 D ((cI, .int) :: (cZ, .boolean) :: tys) [.ref (a 0), .int what, .int (nI u), .int (nI w)] (wB cI cZ a co gr dy kd wo me ti td la go kp od no ax lv rh re rs ph pr o1 o2 ++ Y) (some (.int (lm_F (fun k => st_B (hs_B kd wo td la what u) (tv_B kd wo ti la what u) (hs_B kd wo td la what w) (tv_B kd wo ti la what w) (nI k)) 6))) (fun o1 o2 => (wB cI cZ a (0) gr dy kd wo me ti td la go kp od no ax lv rh re rs ph pr o1 o2 ++ Y)) := by
  refine wo_ofS (ls := [some (.ref (a 0)), some (.int what), some (.int (nI u)), some (.int (nI w)), none, none]) (by decide) (Nat.le_of_ble_eq_true rfl) rfl ?_
  intro p e s m args below meth c A C
  have hlu := hla u (by omega)
  have hlw := hla w (by omega)
  refine x_aload_n C dX3_stands_0 rfl rfl ?_
  refine x_iload_n C dX3_stands_1 rfl rfl ?_
  refine x_iconst C (v := 0) dX3_stands_2 (by decide) ?_
  refine x_iconst C (v := 1) dX3_stands_3 (by decide) ?_
  refine x_callSi C gs_X3_48 (c_X3_in what 0 1) rfl rfl (Nat.le_of_ble_eq_true rfl) ⟨(Nat.le_of_ble_eq_true rfl), (Nat.le_of_ble_eq_true rfl)⟩ ⟨Nat.zero_le _, Nat.zero_le _⟩ dX3_stands_4 ?_
  refine x_if_eq C (tgt := 42) dX3_stands_7 (by decide) (fun h => ?_) (fun h => ?_)
  · exact absurd hq (by rw [bz_f h]; decide)
  · refine x_iload_n C dX3_stands_10 rfl rfl ?_
    refine x_iconst C (v := 0) dX3_stands_11 (by decide) ?_
    refine x_aload_n C dX3_stands_12 rfl rfl ?_
    refine gB0_growers C dX3_stands_13 ?_
    refine x_iconst C (v := 1) dX3_stands_16 (by decide) ?_
    refine x_isub C dX3_stands_17 ?_
    refine x_top (wo_gr1 (by omega)) ?_
    refine x_callSi C gs_X3_48 (c_X3_in (nI u) 0 (nI (gr - 1))) rfl rfl (Nat.le_of_ble_eq_true rfl) ⟨(Nat.le_of_ble_eq_true rfl), (Nat.le_of_ble_eq_true rfl)⟩ ⟨Nat.zero_le _, Nat.zero_le _⟩ dX3_stands_18 ?_
    refine x_if_eq C (tgt := 42) dX3_stands_21 (by decide) (fun h2 => ?_) (fun h2 => ?_)
    · exact absurd (wo_in0' hg hu) (by rw [bz_f h2]; decide)
    · refine x_iload_n C dX3_stands_24 rfl rfl ?_
      refine x_iconst C (v := 0) dX3_stands_25 (by decide) ?_
      refine x_aload_n C dX3_stands_26 rfl rfl ?_
      refine gB0_growers C dX3_stands_27 ?_
      refine x_iconst C (v := 1) dX3_stands_30 (by decide) ?_
      refine x_isub C dX3_stands_31 ?_
      refine x_top (wo_gr1 (by omega)) ?_
      refine x_callSi C gs_X3_48 (c_X3_in (nI w) 0 (nI (gr - 1))) rfl rfl (Nat.le_of_ble_eq_true rfl) ⟨(Nat.le_of_ble_eq_true rfl), (Nat.le_of_ble_eq_true rfl)⟩ ⟨Nat.zero_le _, Nat.zero_le _⟩ dX3_stands_32 ?_
      refine x_if_eq C (tgt := 42) dX3_stands_35 (by decide) (fun h3 => ?_) (fun h3 => ?_)
      · exact absurd (wo_in0' hg hw) (by rw [bz_f h3]; decide)
      · refine x_iconst C (v := 0) dX3_stands_38 (by decide) ?_
        refine x_goto C (tgt := 43) dX3_stands_39 (by decide) ?_
        refine pB0_code C _ dX3_stands_43 ?_
        refine x_iconst C (v := 0) dX3_stands_46 (by decide) ?_
        refine x_istore C dX3_stands_47 (by decide) ?_
        refine x_iconst C (v := 0) dX3_stands_49 (by decide) ?_
        refine x_istore C dX3_stands_50 (by decide) ?_
        have loop : ∀ (n k : Nat) (o1 o2 : Nat → Int32), n + k = 6 → wo_W p l e (wo_rm 2) s m args below meth c A D 0 0 6 (MQ below (wo_QS D ((cI, .int) :: (cZ, .boolean) :: tys) (some (.int (lm_F (fun k => st_B (hs_B kd wo td la what u) (tv_B kd wo ti la what u) (hs_B kd wo td la what w) (tv_B kd wo ti la what w) (nI k)) 6))) (fun o1 o2 => (wB cI cZ a (0) gr dy kd wo me ti td la go kp od no ax lv rh re rs ph pr o1 o2 ++ Y)) A) args s 0 0 A) 52 [some (.ref (a 0)), some (.int what), some (.int (nI u)), some (.int (nI w)), some (.int (lm_F (fun k => st_B (hs_B kd wo td la what u) (tv_B kd wo ti la what u) (hs_B kd wo td la what w) (tv_B kd wo ti la what w) (nI k)) k)), some (.int (nI k))] [] (wB cI cZ a (0) gr dy kd wo me ti td la go kp od no ax lv rh re rs ph pr o1 o2 ++ Y) := by
          intro n
          induction n with
          | zero =>
            intro k o1 o2 hk
            refine x_iload C dX3_stands_52 rfl ?_
            refine x_bipush C (v := 6) dX3_stands_54 (by decide) ?_
            refine x_icmp_ge C (tgt := 118) dX3_stands_56 (by decide) (fun h4 => ?_) (fun h4 => ?_)
            · have hk2 : k = 6 := by omega
              subst hk2
              refine x_iload C dX3_stands_118 rfl ?_
              exact x_iretS C dX3_stands_120 rfl rfl
            · exact absurd (show nI 6 ≤ nI k from nI_le (by omega) (by omega)) h4
          | succ n ih =>
            intro k o1 o2 hk
            refine x_iload C dX3_stands_52 rfl ?_
            refine x_bipush C (v := 6) dX3_stands_54 (by decide) ?_
            refine x_icmp_ge C (tgt := 118) dX3_stands_56 (by decide) (fun h4 => ?_) (fun h4 => ?_)
            · exact absurd (wo_le (a := 6) (b := k) (by omega) (by omega) h4) (by omega)
            · refine x_aload_n C dX3_stands_59 rfl rfl ?_
              refine gB0_code C dX3_stands_60 ?_
              refine x_if_ne C (tgt := 118) dX3_stands_63 (by decide) (fun h5 => ?_) (fun h5 => ?_)
              · exact absurd rfl h5
              · refine x_aload_n C dX3_stands_66 rfl rfl ?_
                refine x_iload_n C dX3_stands_67 rfl rfl ?_
                refine x_iload_n C dX3_stands_68 rfl rfl ?_
                refine x_callVSi C gv_X3_136 (c_X3_has what u (by omega) hlu) 0 rfl rfl rfl rfl (Nat.le_of_ble_eq_true rfl) ⟨(Nat.le_of_ble_eq_true rfl), (Nat.le_of_ble_eq_true rfl)⟩ ⟨Nat.zero_le _, Nat.zero_le _⟩ dX3_stands_69 (fun o1 o2 => ?_)
                refine x_aload_n C dX3_stands_72 rfl rfl ?_
                refine x_iload_n C dX3_stands_73 rfl rfl ?_
                refine x_iload_n C dX3_stands_74 rfl rfl ?_
                refine x_callVSi C gv_X3_139 (c_X3_told what u (by omega) hlu) 0 rfl rfl rfl rfl (Nat.le_of_ble_eq_true rfl) ⟨(Nat.le_of_ble_eq_true rfl), (Nat.le_of_ble_eq_true rfl)⟩ ⟨Nat.zero_le _, Nat.zero_le _⟩ dX3_stands_75 (fun o1 o2 => ?_)
                refine x_aload_n C dX3_stands_78 rfl rfl ?_
                refine x_iload_n C dX3_stands_79 rfl rfl ?_
                refine x_iload_n C dX3_stands_80 rfl rfl ?_
                refine x_callVSi C gv_X3_136 (c_X3_has what w (by omega) hlw) 0 rfl rfl rfl rfl (Nat.le_of_ble_eq_true rfl) ⟨(Nat.le_of_ble_eq_true rfl), (Nat.le_of_ble_eq_true rfl)⟩ ⟨Nat.zero_le _, Nat.zero_le _⟩ dX3_stands_81 (fun o1 o2 => ?_)
                refine x_aload_n C dX3_stands_84 rfl rfl ?_
                refine x_iload_n C dX3_stands_85 rfl rfl ?_
                refine x_iload_n C dX3_stands_86 rfl rfl ?_
                refine x_callVSi C gv_X3_139 (c_X3_told what w (by omega) hlw) 0 rfl rfl rfl rfl (Nat.le_of_ble_eq_true rfl) ⟨(Nat.le_of_ble_eq_true rfl), (Nat.le_of_ble_eq_true rfl)⟩ ⟨Nat.zero_le _, Nat.zero_le _⟩ dX3_stands_87 (fun o1 o2 => ?_)
                refine x_iload C dX3_stands_90 rfl ?_
                refine x_callSi C gs_X3_125 (c_X3_stand (hs_B kd wo td la what u) (hs_B kd wo td la what w) (tv_B kd wo ti la what u) (tv_B kd wo ti la what w) (nI k)) rfl rfl (Nat.le_of_ble_eq_true rfl) ⟨(Nat.le_of_ble_eq_true rfl), (Nat.le_of_ble_eq_true rfl)⟩ ⟨Nat.zero_le _, Nat.zero_le _⟩ dX3_stands_92 ?_
                refine x_if_eq C (tgt := 108) dX3_stands_95 (by decide) (fun h6 => ?_) (fun h6 => ?_)
                · refine x_iload C dX3_stands_108 rfl ?_
                  refine x_istore C dX3_stands_110 (by decide) ?_
                  refine x_iinc C dX3_stands_112 rfl (nI_1 k) (by decide) ?_
                  refine x_goto C (tgt := 52) dX3_stands_115 (by decide) ?_
                  have h9 := ih (k + 1) o1 o2 (by omega)
                  rw [lm_f (n := k) (bz_f h6)] at h9
                  exact h9
                · refine x_iload C dX3_stands_98 rfl ?_
                  refine x_iconst C (v := 1) dX3_stands_100 (by decide) ?_
                  refine x_iload C dX3_stands_101 rfl ?_
                  refine x_ishl C dX3_stands_103 ?_
                  refine x_ior C dX3_stands_104 ?_
                  refine x_goto C (tgt := 110) dX3_stands_105 (by decide) ?_
                  refine x_istore C dX3_stands_110 (by decide) ?_
                  refine x_iinc C dX3_stands_112 rfl (nI_1 k) (by decide) ?_
                  refine x_goto C (tgt := 52) dX3_stands_115 (by decide) ?_
                  have h9 := ih (k + 1) o1 o2 (by omega)
                  rw [lm_t (n := k) (bz_t h6)] at h9
                  exact h9
        exact loop 6 0 o1 o2 rfl
set_option maxRecDepth 100000 in
set_option maxHeartbeats 4000000 in
theorem c_X3_lean_1 (x : Int32) (least : Bool) (hx : in_B x 1 6 = false) : wo_E l yX3_lean cX3_lean 6 (some .int) 1 D ((cI, .int) :: (cZ, .boolean) :: tys) [.ref (a 0), .int x, .int (bz least)] (wB cI cZ a co gr dy kd wo me ti td la go kp od no ax lv rh re rs ph pr o1 o2 ++ Y) (some (.int 0)) (wB cI cZ a (1) gr dy kd wo me ti td la go kp od no ax lv rh re rs ph pr o1 o2 ++ Y) := by
  refine wo_of (ls := [some (.ref (a 0)), some (.int x), some (.int (bz least)), none, none, none]) (by decide) (Nat.le_of_ble_eq_true rfl) rfl ?_
  intro p e s m args below meth c A C
  refine x_aload_n C dX3_lean_0 rfl rfl ?_
  refine x_iload_n C dX3_lean_1 rfl rfl ?_
  refine x_iconst C (v := 1) dX3_lean_2 (by decide) ?_
  refine x_bipush C (v := 6) dX3_lean_3 (by decide) ?_
  refine x_callSi C gs_X3_48 (c_X3_in x 1 6) rfl rfl (Nat.le_of_ble_eq_true rfl) ⟨(Nat.le_of_ble_eq_true rfl), (Nat.le_of_ble_eq_true rfl)⟩ ⟨Nat.zero_le _, Nat.zero_le _⟩ dX3_lean_5 ?_
  refine x_if_eq C (tgt := 15) dX3_lean_8 (by decide) (fun h => ?_) (fun h => ?_)
  · refine x_iconst C (v := 1) dX3_lean_15 (by decide) ?_
    refine pB0_code C _ dX3_lean_16 ?_
    refine x_aload_n C dX3_lean_19 rfl rfl ?_
    refine gB0_code C dX3_lean_20 ?_
    refine x_if_le C (tgt := 28) dX3_lean_23 (by decide) (fun h2 => ?_) (fun h2 => ?_)
    · exact absurd h2 (by decide)
    · refine x_iconst C (v := 0) dX3_lean_26 (by decide) ?_
      exact x_iret C dX3_lean_27 rfl rfl
  · exact absurd hx (by rw [bz_t h]; decide)
set_option maxRecDepth 100000 in
set_option maxHeartbeats 4000000 in
theorem c_X3_lean (d : Nat) (least : Bool) (h1 : 1 ≤ d) (h6 : d ≤ 6) (hg : gr ≤ 12) : wo_E l yX3_lean cX3_lean 6 (some .int) 1 D ((cI, .int) :: (cZ, .boolean) :: tys) [.ref (a 0), .int (nI d), .int (bz least)] (wB cI cZ a co gr dy kd wo me ti td la go kp od no ax lv rh re rs ph pr o1 o2 ++ Y) (some (.int (le_F (fun k => td (7 * k + d)) (fun k => ti (7 * k + d)) least gr))) (wB cI cZ a (0) gr dy kd wo me ti td la go kp od no ax lv rh re rs ph pr o1 o2 ++ Y) := by
  refine wo_of (ls := [some (.ref (a 0)), some (.int (nI d)), some (.int (bz least)), none, none, none]) (by decide) (Nat.le_of_ble_eq_true rfl) rfl ?_
  intro p e s m args below meth c A C
  have hin : in_B (nI d) 1 6 = true := decide_eq_true ⟨nI_le (a := 1) h1 (by omega), nI_le (b := 6) h6 (by omega)⟩
  refine x_aload_n C dX3_lean_0 rfl rfl ?_
  refine x_iload_n C dX3_lean_1 rfl rfl ?_
  refine x_iconst C (v := 1) dX3_lean_2 (by decide) ?_
  refine x_bipush C (v := 6) dX3_lean_3 (by decide) ?_
  refine x_callSi C gs_X3_48 (c_X3_in (nI d) 1 6) rfl rfl (Nat.le_of_ble_eq_true rfl) ⟨(Nat.le_of_ble_eq_true rfl), (Nat.le_of_ble_eq_true rfl)⟩ ⟨Nat.zero_le _, Nat.zero_le _⟩ dX3_lean_5 ?_
  refine x_if_eq C (tgt := 15) dX3_lean_8 (by decide) (fun h => ?_) (fun h => ?_)
  · exact absurd hin (by rw [bz_f h]; decide)
  · refine x_iconst C (v := 0) dX3_lean_11 (by decide) ?_
    refine x_goto C (tgt := 16) dX3_lean_12 (by decide) ?_
    refine pB0_code C _ dX3_lean_16 ?_
    refine x_aload_n C dX3_lean_19 rfl rfl ?_
    refine gB0_code C dX3_lean_20 ?_
    refine x_if_le C (tgt := 28) dX3_lean_23 (by decide) (fun h2 => ?_) (fun h2 => ?_)
    · refine x_ldc C kk_X3_124 dX3_lean_28 ?_
      refine x_istore_n C dX3_lean_30 rfl (by decide) ?_
      refine x_iconst C (v := 0) dX3_lean_31 (by decide) ?_
      refine x_istore C dX3_lean_32 (by decide) ?_
      have loop : ∀ (n k : Nat) (x5 : Option Value), n + k = gr → wo_W p l e (wo_rm 1) s m args below meth c A D 0 0 6 (MQ below (wo_Q D ((cI, .int) :: (cZ, .boolean) :: tys) (some (.int (le_F (fun k => td (7 * k + d)) (fun k => ti (7 * k + d)) least gr))) (wB cI cZ a (0) gr dy kd wo me ti td la go kp od no ax lv rh re rs ph pr o1 o2 ++ Y) A) args s 0 0 A) 34 [some (.ref (a 0)), some (.int (nI d)), some (.int (bz least)), some (.int (le_F (fun k => td (7 * k + d)) (fun k => ti (7 * k + d)) least k)), some (.int (nI k)), x5] [] (wB cI cZ a (0) gr dy kd wo me ti td la go kp od no ax lv rh re rs ph pr o1 o2 ++ Y) := by
        intro n
        induction n with
        | zero =>
          intro k x5 hk
          refine x_iload C dX3_lean_34 rfl ?_
          refine x_aload_n C dX3_lean_36 rfl rfl ?_
          refine gB0_growers C dX3_lean_37 ?_
          refine x_icmp_ge C (tgt := 111) dX3_lean_40 (by decide) (fun h3 => ?_) (fun h3 => ?_)
          · have hk2 : k = gr := by omega
            subst hk2
            refine x_iload_n C dX3_lean_111 rfl rfl ?_
            exact x_iret C dX3_lean_112 rfl rfl
          · exact absurd (show nI gr ≤ nI k from nI_le (by omega) (by omega)) h3
        | succ n ih =>
          intro k x5 hk
          have hno : (td (7 * k + d) && (decide (le_F (fun k => td (7 * k + d)) (fun k => ti (7 * k + d)) least k = -1000000) || (if least then decide (ti (7 * k + d) < le_F (fun k => td (7 * k + d)) (fun k => ti (7 * k + d)) least k) else decide (le_F (fun k => td (7 * k + d)) (fun k => ti (7 * k + d)) least k < ti (7 * k + d))))) = false → ∀ x5, wo_W p l e (wo_rm 1) s m args below meth c A D 0 0 6 (MQ below (wo_Q D ((cI, .int) :: (cZ, .boolean) :: tys) (some (.int (le_F (fun k => td (7 * k + d)) (fun k => ti (7 * k + d)) least gr))) (wB cI cZ a (0) gr dy kd wo me ti td la go kp od no ax lv rh re rs ph pr o1 o2 ++ Y) A) args s 0 0 A) 105 [some (.ref (a 0)), some (.int (nI d)), some (.int (bz least)), some (.int (le_F (fun k => td (7 * k + d)) (fun k => ti (7 * k + d)) least k)), some (.int (nI k)), x5] [] (wB cI cZ a (0) gr dy kd wo me ti td la go kp od no ax lv rh re rs ph pr o1 o2 ++ Y) := by
            intro hc x5
            refine x_iinc C dX3_lean_105 rfl (nI_1 k) (by decide) ?_
            refine x_goto C (tgt := 34) dX3_lean_108 (by decide) ?_
            have h9 := ih (k + 1) x5 (by omega)
            rw [le_f (n := k) hc] at h9
            exact h9
          have hyes : (td (7 * k + d) && (decide (le_F (fun k => td (7 * k + d)) (fun k => ti (7 * k + d)) least k = -1000000) || (if least then decide (ti (7 * k + d) < le_F (fun k => td (7 * k + d)) (fun k => ti (7 * k + d)) least k) else decide (le_F (fun k => td (7 * k + d)) (fun k => ti (7 * k + d)) least k < ti (7 * k + d))))) = true → wo_W p l e (wo_rm 1) s m args below meth c A D 0 0 6 (MQ below (wo_Q D ((cI, .int) :: (cZ, .boolean) :: tys) (some (.int (le_F (fun k => td (7 * k + d)) (fun k => ti (7 * k + d)) least gr))) (wB cI cZ a (0) gr dy kd wo me ti td la go kp od no ax lv rh re rs ph pr o1 o2 ++ Y) A) args s 0 0 A) 97 [some (.ref (a 0)), some (.int (nI d)), some (.int (bz least)), some (.int (le_F (fun k => td (7 * k + d)) (fun k => ti (7 * k + d)) least k)), some (.int (nI k)), some (.int (nI (7 * k + d)))] [] (wB cI cZ a (0) gr dy kd wo me ti td la go kp od no ax lv rh re rs ph pr o1 o2 ++ Y) := by
            intro hc
            refine x_aload_n C dX3_lean_97 rfl rfl ?_
            refine gB0_tilt C dX3_lean_98 ?_
            refine x_iload C dX3_lean_101 rfl ?_
            refine lB_ti C _ rfl (by omega) dX3_lean_103 ?_
            refine x_istore_n C dX3_lean_104 rfl (by decide) ?_
            refine x_iinc C dX3_lean_105 rfl (nI_1 k) (by decide) ?_
            refine x_goto C (tgt := 34) dX3_lean_108 (by decide) ?_
            have h9 := ih (k + 1) (some (.int (nI (7 * k + d)))) (by omega)
            rw [le_t (n := k) hc] at h9
            exact h9
          refine x_iload C dX3_lean_34 rfl ?_
          refine x_aload_n C dX3_lean_36 rfl rfl ?_
          refine gB0_growers C dX3_lean_37 ?_
          refine x_icmp_ge C (tgt := 111) dX3_lean_40 (by decide) (fun h3 => ?_) (fun h3 => ?_)
          · exact absurd (wo_le (by omega) (by omega) h3) (by omega)
          · refine x_bipush C (v := 7) dX3_lean_43 (by decide) ?_
            refine x_iload C dX3_lean_45 rfl ?_
            refine x_imul C dX3_lean_47 ?_
            refine x_iload_n C dX3_lean_48 rfl rfl ?_
            refine x_iadd C dX3_lean_49 ?_
            refine x_top (wo_7 k d) ?_
            refine x_istore C dX3_lean_50 (by decide) ?_
            refine x_aload_n C dX3_lean_52 rfl rfl ?_
            refine gB0_tilted C dX3_lean_53 ?_
            refine x_iload C dX3_lean_56 rfl ?_
            refine lB_td C _ rfl (by omega) dX3_lean_58 ?_
            refine x_if_eq C (tgt := 105) dX3_lean_59 (by decide) (fun h4 => ?_) (fun h4 => ?_)
            · exact hno (by rw [bz_f h4]; rfl) _
            · refine x_iload_n C dX3_lean_62 rfl rfl ?_
              refine x_ldc C kk_X3_124 dX3_lean_63 ?_
              refine x_icmp_eq C (tgt := 97) dX3_lean_65 (by decide) (fun h5 => ?_) (fun h5 => ?_)
              · exact hyes (by rw [bz_t h4, decide_eq_true h5]; rfl)
              · refine x_iload_n C dX3_lean_68 rfl rfl ?_
                refine x_if_eq C (tgt := 86) dX3_lean_69 (by decide) (fun h7 => ?_) (fun h7 => ?_)
                · refine x_aload_n C dX3_lean_86 rfl rfl ?_
                  refine gB0_tilt C dX3_lean_87 ?_
                  refine x_iload C dX3_lean_90 rfl ?_
                  refine lB_ti C _ rfl (by omega) dX3_lean_92 ?_
                  refine x_iload_n C dX3_lean_93 rfl rfl ?_
                  refine x_icmp_le C (tgt := 105) dX3_lean_94 (by decide) (fun h8 => ?_) (fun h8 => ?_)
                  · exact hno (by rw [bz_t h4, decide_eq_false h5, if_neg (by rw [bz_f h7]; decide), decide_eq_false (Int32.not_lt.mpr h8)]; rfl) _
                  · exact hyes (by rw [bz_t h4, decide_eq_false h5, if_neg (by rw [bz_f h7]; decide), decide_eq_true (Int32.not_le.mp h8)]; rfl)
                · refine x_aload_n C dX3_lean_72 rfl rfl ?_
                  refine gB0_tilt C dX3_lean_73 ?_
                  refine x_iload C dX3_lean_76 rfl ?_
                  refine lB_ti C _ rfl (by omega) dX3_lean_78 ?_
                  refine x_iload_n C dX3_lean_79 rfl rfl ?_
                  refine x_icmp_ge C (tgt := 105) dX3_lean_80 (by decide) (fun h8 => ?_) (fun h8 => ?_)
                  · exact hno (by rw [bz_t h4, decide_eq_false h5, if_pos (bz_t h7), decide_eq_false (Int32.not_lt.mpr h8)]; rfl) _
                  · refine x_goto C (tgt := 97) dX3_lean_83 (by decide) ?_
                    exact hyes (by rw [bz_t h4, decide_eq_false h5, if_pos (bz_t h7), decide_eq_true (Int32.not_le.mp h8)]; rfl)
      exact loop gr 0 none (by omega)
    · exact absurd (by decide) h2
def lo_B (kd : Nat → Int32) (go : Nat → Bool) (gr : Nat) (rh : Bool) (re rs : Int32) (ph : Bool) (pr : Int32) (what : Int32) : Int32 :=
  if what = 0 then (if rh then re else -1000000) else if what = 1 then (if ph then pr else -1000000) else if what = 2 then rs else if what = 3 then nI (wo_cnt (fun k => decide (¬ kd k = 0)) 84) else if what = 4 then nI gr else if what = 5 then nI (wo_cnt go gr) else 0
theorem wo_out6 {x : Int32} (h : in_B x 0 5 = false) : x.toInt < 0 ∨ 5 < x.toInt := by
  have h1 := inB_f h
  rw [Int32.le_iff_toInt_le, Int32.le_iff_toInt_le, show (0 : Int32).toInt = 0 from rfl, show (5 : Int32).toInt = 5 from rfl] at h1
  omega
theorem wo_in6 {x : Int32} (h : in_B x 0 5 = true) : x = 0 ∨ x = 1 ∨ x = 2 ∨ x = 3 ∨ x = 4 ∨ x = 5 := by
  have h1 := inB_t h
  obtain ⟨j, hj, rfl⟩ := nI_of (Int32.not_lt.mpr h1.1)
  have h2 := wo_le (a := j) (b := 5) (by omega) (by omega) h1.2
  have h3 : j = 0 ∨ j = 1 ∨ j = 2 ∨ j = 3 ∨ j = 4 ∨ j = 5 := by omega
  rcases h3 with rfl | rfl | rfl | rfl | rfl | rfl
  · exact Or.inl rfl
  · exact Or.inr (Or.inl rfl)
  · exact Or.inr (Or.inr (Or.inl rfl))
  · exact Or.inr (Or.inr (Or.inr (Or.inl rfl)))
  · exact Or.inr (Or.inr (Or.inr (Or.inr (Or.inl rfl))))
  · exact Or.inr (Or.inr (Or.inr (Or.inr (Or.inr rfl))))
set_option maxRecDepth 100000 in
set_option maxHeartbeats 4000000 in
theorem c_X3_look_1 (x : Int32) (hx : in_B x 0 5 = false) : wo_E l yX3_look cX3_look 4 (some .int) 1 D ((cI, .int) :: (cZ, .boolean) :: tys) [.ref (a 0), .int x] (wB cI cZ a co gr dy kd wo me ti td la go kp od no ax lv rh re rs ph pr o1 o2 ++ Y) (some (.int 0)) (wB cI cZ a (1) gr dy kd wo me ti td la go kp od no ax lv rh re rs ph pr o1 o2 ++ Y) := by
  refine wo_of (ls := [some (.ref (a 0)), some (.int x), none, none]) (by decide) (Nat.le_of_ble_eq_true rfl) rfl ?_
  intro p e s m args below meth c A C
  refine x_aload_n C dX3_look_0 rfl rfl ?_
  refine x_iload_n C dX3_look_1 rfl rfl ?_
  refine x_iconst C (v := 0) dX3_look_2 (by decide) ?_
  refine x_iconst C (v := 5) dX3_look_3 (by decide) ?_
  refine x_callSi C gs_X3_48 (c_X3_in x 0 5) rfl rfl (Nat.le_of_ble_eq_true rfl) ⟨(Nat.le_of_ble_eq_true rfl), (Nat.le_of_ble_eq_true rfl)⟩ ⟨Nat.zero_le _, Nat.zero_le _⟩ dX3_look_4 ?_
  refine x_if_eq C (tgt := 14) dX3_look_7 (by decide) (fun h => ?_) (fun h => ?_)
  · refine x_iconst C (v := 1) dX3_look_14 (by decide) ?_
    refine pB0_code C _ dX3_look_15 ?_
    refine x_iconst C (v := 0) dX3_look_18 (by decide) ?_
    refine x_istore_n C dX3_look_19 rfl (by decide) ?_
    refine x_iload_n C dX3_look_20 rfl rfl ?_
    refine x_tableOut C (tgt := 172) dX3_look_21 (wo_out6 hx) (by decide) ?_
    refine x_iconst C (v := 0) dX3_look_172 (by decide) ?_
    exact x_iret C dX3_look_173 rfl rfl
  · exact absurd hx (by rw [bz_t h]; decide)
set_option maxRecDepth 100000 in
set_option maxHeartbeats 4000000 in
theorem c_X3_look (x : Int32) (hx : in_B x 0 5 = true) (hg : gr ≤ 12) : wo_E l yX3_look cX3_look 4 (some .int) 1 D ((cI, .int) :: (cZ, .boolean) :: tys) [.ref (a 0), .int x] (wB cI cZ a co gr dy kd wo me ti td la go kp od no ax lv rh re rs ph pr o1 o2 ++ Y) (some (.int (lo_B kd go gr rh re rs ph pr x))) (wB cI cZ a (0) gr dy kd wo me ti td la go kp od no ax lv rh re rs ph pr o1 o2 ++ Y) := by
  refine wo_of (ls := [some (.ref (a 0)), some (.int x), none, none]) (by decide) (Nat.le_of_ble_eq_true rfl) rfl ?_
  intro p e s m args below meth c A C
  refine x_aload_n C dX3_look_0 rfl rfl ?_
  refine x_iload_n C dX3_look_1 rfl rfl ?_
  refine x_iconst C (v := 0) dX3_look_2 (by decide) ?_
  refine x_iconst C (v := 5) dX3_look_3 (by decide) ?_
  refine x_callSi C gs_X3_48 (c_X3_in x 0 5) rfl rfl (Nat.le_of_ble_eq_true rfl) ⟨(Nat.le_of_ble_eq_true rfl), (Nat.le_of_ble_eq_true rfl)⟩ ⟨Nat.zero_le _, Nat.zero_le _⟩ dX3_look_4 ?_
  refine x_if_eq C (tgt := 14) dX3_look_7 (by decide) (fun h => ?_) (fun h => ?_)
  · exact absurd hx (by rw [bz_f h]; decide)
  · refine x_iconst C (v := 0) dX3_look_10 (by decide) ?_
    refine x_goto C (tgt := 15) dX3_look_11 (by decide) ?_
    refine pB0_code C _ dX3_look_15 ?_
    refine x_iconst C (v := 0) dX3_look_18 (by decide) ?_
    refine x_istore_n C dX3_look_19 rfl (by decide) ?_
    refine x_iload_n C dX3_look_20 rfl rfl ?_
    rcases wo_in6 hx with rfl | rfl | rfl | rfl | rfl | rfl
    · refine x_tableIn C (off := 39) (tgt := 60) dX3_look_21 (by decide) (by decide) (by decide) (by decide) ?_
      refine x_aload_n C dX3_look_60 rfl rfl ?_
      refine gB0_hasRecord C dX3_look_61 ?_
      refine x_if_eq C (tgt := 74) dX3_look_64 (by decide) (fun h2 => ?_) (fun h2 => ?_)
      · refine x_ldc C kk_X3_124 dX3_look_74 ?_
        exact x_iret C dX3_look_76 (by rw [lo_B, if_pos rfl, bz_f h2]; rfl) rfl
      · refine x_aload_n C dX3_look_67 rfl rfl ?_
        refine gB0_record C dX3_look_68 ?_
        refine x_goto C (tgt := 76) dX3_look_71 (by decide) ?_
        exact x_iret C dX3_look_76 (by rw [lo_B, if_pos rfl, bz_t h2]; rfl) rfl
    · refine x_tableIn C (off := 56) (tgt := 77) dX3_look_21 (by decide) (by decide) (by decide) (by decide) ?_
      refine x_aload_n C dX3_look_77 rfl rfl ?_
      refine gB0_hasPrize C dX3_look_78 ?_
      refine x_if_eq C (tgt := 91) dX3_look_81 (by decide) (fun h2 => ?_) (fun h2 => ?_)
      · refine x_ldc C kk_X3_124 dX3_look_91 ?_
        exact x_iret C dX3_look_93 (by rw [lo_B, if_neg (by decide), if_pos rfl, bz_f h2]; rfl) rfl
      · refine x_aload_n C dX3_look_84 rfl rfl ?_
        refine gB0_prize C dX3_look_85 ?_
        refine x_goto C (tgt := 93) dX3_look_88 (by decide) ?_
        exact x_iret C dX3_look_93 (by rw [lo_B, if_neg (by decide), if_pos rfl, bz_t h2]; rfl) rfl
    · refine x_tableIn C (off := 73) (tgt := 94) dX3_look_21 (by decide) (by decide) (by decide) (by decide) ?_
      refine x_aload_n C dX3_look_94 rfl rfl ?_
      refine gB0_records C dX3_look_95 ?_
      exact x_iret C dX3_look_98 rfl rfl
    · refine x_tableIn C (off := 78) (tgt := 99) dX3_look_21 (by decide) (by decide) (by decide) (by decide) ?_
      refine x_iconst C (v := 0) dX3_look_99 (by decide) ?_
      refine x_istore_n C dX3_look_100 rfl (by decide) ?_
      have loop : ∀ (n k : Nat), n + k = 84 → wo_W p l e (wo_rm 1) s m args below meth c A D 0 0 4 (MQ below (wo_Q D ((cI, .int) :: (cZ, .boolean) :: tys) (some (.int (lo_B kd go gr rh re rs ph pr 3))) (wB cI cZ a (0) gr dy kd wo me ti td la go kp od no ax lv rh re rs ph pr o1 o2 ++ Y) A) args s 0 0 A) 101 [some (.ref (a 0)), some (.int 3), some (.int (nI (wo_cnt (fun k => decide (¬ kd k = 0)) k))), some (.int (nI k))] [] (wB cI cZ a (0) gr dy kd wo me ti td la go kp od no ax lv rh re rs ph pr o1 o2 ++ Y) := by
        intro n
        induction n with
        | zero =>
          intro k hk
          refine x_iload_n C dX3_look_101 rfl rfl ?_
          refine x_bipush C (v := 84) dX3_look_102 (by decide) ?_
          refine x_icmp_ge C (tgt := 130) dX3_look_104 (by decide) (fun h3 => ?_) (fun h3 => ?_)
          · have hk2 : k = 84 := by omega
            subst hk2
            refine x_iload_n C dX3_look_130 rfl rfl ?_
            exact x_iret C dX3_look_131 rfl rfl
          · exact absurd (show nI 84 ≤ nI k from nI_le (by omega) (by omega)) h3
        | succ n ih =>
          intro k hk
          refine x_iload_n C dX3_look_101 rfl rfl ?_
          refine x_bipush C (v := 84) dX3_look_102 (by decide) ?_
          refine x_icmp_ge C (tgt := 130) dX3_look_104 (by decide) (fun h3 => ?_) (fun h3 => ?_)
          · exact absurd (wo_le (a := 84) (b := k) (by omega) (by omega) h3) (by omega)
          · refine x_aload_n C dX3_look_107 rfl rfl ?_
            refine gB0_kind C dX3_look_108 ?_
            refine x_iload_n C dX3_look_111 rfl rfl ?_
            refine lB_kd C _ rfl (by omega) dX3_look_112 ?_
            refine x_if_eq C (tgt := 122) dX3_look_113 (by decide) (fun h4 => ?_) (fun h4 => ?_)
            · refine x_iload_n C dX3_look_122 rfl rfl ?_
              refine x_istore_n C dX3_look_123 rfl (by decide) ?_
              refine x_iinc C dX3_look_124 rfl (nI_1 k) (by decide) ?_
              refine x_goto C (tgt := 101) dX3_look_127 (by decide) ?_
              have h9 := ih (k + 1) (by omega)
              rw [wo_cnt_f (n := k) (q := fun k => decide (¬ kd k = 0)) (by rw [decide_eq_false (fun z => z h4)])] at h9
              exact h9
            · refine x_iload_n C dX3_look_116 rfl rfl ?_
              refine x_iconst C (v := 1) dX3_look_117 (by decide) ?_
              refine x_iadd C dX3_look_118 ?_
              refine x_goto C (tgt := 123) dX3_look_119 (by decide) ?_
              refine x_top (nI_1 _) ?_
              refine x_istore_n C dX3_look_123 rfl (by decide) ?_
              refine x_iinc C dX3_look_124 rfl (nI_1 k) (by decide) ?_
              refine x_goto C (tgt := 101) dX3_look_127 (by decide) ?_
              have h9 := ih (k + 1) (by omega)
              rw [wo_cnt_t (n := k) (q := fun k => decide (¬ kd k = 0)) (by rw [decide_eq_true h4])] at h9
              exact h9
      exact loop 84 0 rfl
    · refine x_tableIn C (off := 111) (tgt := 132) dX3_look_21 (by decide) (by decide) (by decide) (by decide) ?_
      refine x_aload_n C dX3_look_132 rfl rfl ?_
      refine gB0_growers C dX3_look_133 ?_
      exact x_iret C dX3_look_136 rfl rfl
    · refine x_tableIn C (off := 116) (tgt := 137) dX3_look_21 (by decide) (by decide) (by decide) (by decide) ?_
      refine x_iconst C (v := 0) dX3_look_137 (by decide) ?_
      refine x_istore_n C dX3_look_138 rfl (by decide) ?_
      have loop : ∀ (n k : Nat), n + k = gr → wo_W p l e (wo_rm 1) s m args below meth c A D 0 0 4 (MQ below (wo_Q D ((cI, .int) :: (cZ, .boolean) :: tys) (some (.int (lo_B kd go gr rh re rs ph pr 5))) (wB cI cZ a (0) gr dy kd wo me ti td la go kp od no ax lv rh re rs ph pr o1 o2 ++ Y) A) args s 0 0 A) 139 [some (.ref (a 0)), some (.int 5), some (.int (nI (wo_cnt go k))), some (.int (nI k))] [] (wB cI cZ a (0) gr dy kd wo me ti td la go kp od no ax lv rh re rs ph pr o1 o2 ++ Y) := by
        intro n
        induction n with
        | zero =>
          intro k hk
          refine x_iload_n C dX3_look_139 rfl rfl ?_
          refine x_aload_n C dX3_look_140 rfl rfl ?_
          refine gB0_growers C dX3_look_141 ?_
          refine x_icmp_ge C (tgt := 170) dX3_look_144 (by decide) (fun h3 => ?_) (fun h3 => ?_)
          · have hk2 : k = gr := by omega
            subst hk2
            refine x_iload_n C dX3_look_170 rfl rfl ?_
            exact x_iret C dX3_look_171 rfl rfl
          · exact absurd (show nI gr ≤ nI k from nI_le (by omega) (by omega)) h3
        | succ n ih =>
          intro k hk
          refine x_iload_n C dX3_look_139 rfl rfl ?_
          refine x_aload_n C dX3_look_140 rfl rfl ?_
          refine gB0_growers C dX3_look_141 ?_
          refine x_icmp_ge C (tgt := 170) dX3_look_144 (by decide) (fun h3 => ?_) (fun h3 => ?_)
          · exact absurd (wo_le (by omega) (by omega) h3) (by omega)
          · refine x_aload_n C dX3_look_147 rfl rfl ?_
            refine gB0_gone C dX3_look_148 ?_
            refine x_iload_n C dX3_look_151 rfl rfl ?_
            refine lB_go C _ rfl (by omega) dX3_look_152 ?_
            refine x_if_eq C (tgt := 162) dX3_look_153 (by decide) (fun h4 => ?_) (fun h4 => ?_)
            · refine x_iload_n C dX3_look_162 rfl rfl ?_
              refine x_istore_n C dX3_look_163 rfl (by decide) ?_
              refine x_iinc C dX3_look_164 rfl (nI_1 k) (by decide) ?_
              refine x_goto C (tgt := 139) dX3_look_167 (by decide) ?_
              have h9 := ih (k + 1) (by omega)
              rw [wo_cnt_f (n := k) (bz_f h4)] at h9
              exact h9
            · refine x_iload_n C dX3_look_156 rfl rfl ?_
              refine x_iconst C (v := 1) dX3_look_157 (by decide) ?_
              refine x_iadd C dX3_look_158 ?_
              refine x_goto C (tgt := 163) dX3_look_159 (by decide) ?_
              refine x_top (nI_1 _) ?_
              refine x_istore_n C dX3_look_163 rfl (by decide) ?_
              refine x_iinc C dX3_look_164 rfl (nI_1 k) (by decide) ?_
              refine x_goto C (tgt := 139) dX3_look_167 (by decide) ?_
              have h9 := ih (k + 1) (by omega)
              rw [wo_cnt_t (n := k) (bz_t h4)] at h9
              exact h9
      exact loop gr 0 (by omega)
end MDG
