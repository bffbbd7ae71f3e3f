/-! ===== the reference: days, entries, calls that write ===== -/
theorem by_w_lt {ok : Nat → Nat → Bool} {q g : Nat} : ∀ (n : Nat) (S : (Nat → Nat) × Nat), n ≤ g → (∀ k, k < S.2 → S.1 k < g) → ∀ k, k < (by_w ok q n S).2 → (by_w ok q n S).1 k < g
  | 0, S, hn, h => h
  | n + 1, S, hn, h => by
    unfold by_w
    refine by_w_lt n _ (by omega) ?_
    split
    · intro k hk
      show va_up S.1 S.2 n k < g
      by_cases hk2 : k = S.2
      · rw [hk2, up_eq]; omega
      · rw [up_ne hk2]; exact h k (by have : k < S.2 + 1 := hk; omega)
    · exact h
theorem by_p_lt {ok : Nat → Nat → Bool} {g : Nat} : ∀ (n : Nat) (S : (Nat → Nat) × Nat), (∀ k, k < S.2 → S.1 k < g) → ∀ k, k < (by_p ok g n S).2 → (by_p ok g n S).1 k < g
  | 0, S, h => h
  | n + 1, S, h => by
    unfold by_p
    exact by_p_lt n _ (by_w_lt g S (Nat.le_refl _) h)
theorem by_w_cnt {ok : Nat → Nat → Bool} {q : Nat} : ∀ (n : Nat) (S : (Nat → Nat) × Nat), (by_w ok q n S).2 = S.2 + wo_cnt (ok q) n
  | 0, S => rfl
  | n + 1, S => by
    unfold by_w
    rw [by_w_cnt n]
    cases h : ok q n with
    | true => rw [wo_cnt_t h, if_pos rfl]; show S.2 + 1 + _ = _; omega
    | false => rw [wo_cnt_f h, if_neg (by decide)]
theorem by_p_cnt (kd wo : Nat → Int32) (g : Nat) (kp : Nat → Bool) : ∀ (n : Nat) (S : (Nat → Nat) × Nat), (by_p (by_ok kd wo g kp) g n S).2 + wo_cnt (by_lt kd wo g kp 1) g = S.2 + wo_cnt (by_lt kd wo g kp (n + 1)) g
  | 0, S => rfl
  | n + 1, S => by
    unfold by_p
    rw [by_p_cnt kd wo g kp n, by_w_cnt]
    have h := by_split kd wo g kp (n + 1) g
    omega
theorem by_p_le {kd wo : Nat → Int32} {g : Nat} {kp : Nat → Bool} {od : Nat → Nat} : (by_p (by_ok kd wo g kp) g g (od, 0)).2 ≤ g := by
  have h1 := by_p_cnt kd wo g kp g (od, 0)
  have h2 := wo_cnt_le (by_lt kd wo g kp (g + 1)) g
  have h3 : (od, 0).2 = 0 := rfl
  omega
def ck_B (kd wo : Nat → Int32) (g k : Nat) : Bool := decide (0 < wn_B kd wo k ∧ pl_B kd wo g k ≤ 8)
def kp_E (kd wo : Nat → Int32) (g dy : Nat) (kp : Nat → Bool) : Nat → Bool := if dy = 3 then wo_ff kp (ck_B kd wo g) g else kp
def od_E (kd wo : Nat → Int32) (g dy : Nat) (kp : Nat → Bool) (od : Nat → Nat) (no : Nat) : (Nat → Nat) × Nat := if dy < 3 then (wo_ff od (fun k => k) g, g) else if dy = 3 ∨ dy = 5 then by_p (by_ok kd wo g (kp_E kd wo g dy kp)) g g (od, 0) else (od, no)
theorem od_E_le {kd wo : Nat → Int32} {g dy : Nat} {kp : Nat → Bool} {od : Nat → Nat} {no : Nat} (hg : g ≤ 12) (hno : no ≤ 12) : (od_E kd wo g dy kp od no).2 ≤ 12 := by
  unfold od_E
  split
  · exact hg
  · split
    · exact Nat.le_trans by_p_le hg
    · exact hno
theorem od_E_lt {kd wo : Nat → Int32} {g dy : Nat} {kp : Nat → Bool} {od : Nat → Nat} {no : Nat} (hg : g ≤ 12) (hod : ∀ k, k < no → od k < 12) : ∀ k, k < (od_E kd wo g dy kp od no).2 → (od_E kd wo g dy kp od no).1 k < 12 := by
  unfold od_E
  split
  · intro k hk
    have hk2 : k < g := hk
    show wo_ff od (fun k => k) g k < 12
    rw [wo_ff_lt hk2]; omega
  · split
    · intro k hk
      exact Nat.lt_of_lt_of_le (by_p_lt g (od, 0) (fun j hj => absurd hj (Nat.not_lt_zero j)) k hk) hg
    · exact hod
def tn_E (kd wo : Nat → Int32) (g dy : Nat) (kp go : Nat → Bool) (od : Nat → Nat) (no : Nat) : Nat := nx_B (od_E kd wo g dy kp od no).1 (kp_E kd wo g dy kp) go (od_E kd wo g dy kp od no).2 0
def dn_E (kd wo : Nat → Int32) (g dy : Nat) (kp go : Nat → Bool) (od : Nat → Nat) (no : Nat) : Nat := if tn_E kd wo g dy kp go od no = (od_E kd wo g dy kp od no).2 then 7 else if dy = 6 then 7 else dy + 1
def rec_B (td : Nat → Bool) (ti : Nat → Int32) (rh : Bool) (wo : Nat → Int32) (re : Int32) (i : Nat) : Bool := td i && decide (ti i ≤ 20) && (!rh || decide (re < wo i))
section MDC
variable {l : Launch} {D : va_G} {tys : List (ClassId × FieldType)} {cI cZ : ClassId} {a : Nat → Nat} {Y : va_W} {co : Int32} {gr : Nat} {dy : Nat} {kd : Nat → Int32} {wo : Nat → Int32} {me : Nat → Bool} {ti : Nat → Int32} {td : Nat → Bool} {la : Nat → Nat} {go : Nat → Bool} {kp : Nat → Bool} {od : Nat → Nat} {no : Nat} {ax : Int32} {lv : Bool} {rh : Bool} {re : Int32} {rs : Int32} {ph : Bool} {pr : Int32} {o1 : Nat → Int32} {o2 : Nat → Int32}
set_option maxRecDepth 100000 in
set_option maxHeartbeats 4000000 in
theorem c_X3_nextDay (hg : gr ≤ 12) (hd : dy ≤ 6) (hno : no ≤ 12) (hod : ∀ k, k < no → od k < 12) : wo_S l yX3_nextDay cX3_nextDay 2 (none) 4 D ((cI, .int) :: (cZ, .boolean) :: tys) [.ref (a 0)] (wB cI cZ a co gr dy kd wo me ti td la go kp od no ax lv rh re rs ph pr o1 o2 ++ Y) none (fun o1 o2 => (wB cI cZ a co gr (dn_E kd wo gr dy kp go od no) kd wo me ti td la go (kp_E kd wo gr dy kp) ((od_E kd wo gr dy kp od no).1) ((od_E kd wo gr dy kp od no).2) (nI (tn_E kd wo gr dy kp go od no)) lv rh re rs ph pr o1 o2 ++ Y)) := by
  refine wo_ofS (ls := [some (.ref (a 0)), none]) (by decide) (Nat.le_of_ble_eq_true rfl) rfl ?_
  intro p e s m args below meth c A C
  have hle := od_E_le (kd := kd) (wo := wo) (dy := dy) (kp := kp) (od := od) hg hno
  have hlt := od_E_lt (kd := kd) (wo := wo) (dy := dy) (kp := kp) hg hod
  have htn : tn_E kd wo gr dy kp go od no ≤ (od_E kd wo gr dy kp od no).2 := nxB_le _ _ _ _ hle _ 0 (Nat.add_zero _)
  have f119 : ∀ (o1 o2 : Nat → Int32) (x1 : Option Value), wo_W p l e (wo_rm 4) s m args below meth c A D 0 0 2 (MQ below (wo_QS D ((cI, .int) :: (cZ, .boolean) :: tys) none (fun o1 o2 => (wB cI cZ a co gr (dn_E kd wo gr dy kp go od no) kd wo me ti td la go (kp_E kd wo gr dy kp) ((od_E kd wo gr dy kp od no).1) ((od_E kd wo gr dy kp od no).2) (nI (tn_E kd wo gr dy kp go od no)) lv rh re rs ph pr o1 o2 ++ Y)) A) args s 0 0 A) 119 [some (.ref (a 0)), x1] [] (wB cI cZ a co gr dy kd wo me ti td la go (kp_E kd wo gr dy kp) ((od_E kd wo gr dy kp od no).1) ((od_E kd wo gr dy kp od no).2) ax lv rh re rs ph pr o1 o2 ++ Y) := by
    intro o1 o2 x1
    have f140 : ∀ d2 : Nat, d2 = (if dy = 6 then 7 else dy + 1) → wo_W p l e (wo_rm 4) s m args below meth c A D 0 0 2 (MQ below (wo_QS D ((cI, .int) :: (cZ, .boolean) :: tys) none (fun o1 o2 => (wB cI cZ a co gr (dn_E kd wo gr dy kp go od no) kd wo me ti td la go (kp_E kd wo gr dy kp) ((od_E kd wo gr dy kp od no).1) ((od_E kd wo gr dy kp od no).2) (nI (tn_E kd wo gr dy kp go od no)) lv rh re rs ph pr o1 o2 ++ Y)) A) args s 0 0 A) 140 [some (.ref (a 0)), x1] [.int (nI d2), .ref (a 0)] (wB cI cZ a co gr dy kd wo me ti td la go (kp_E kd wo gr dy kp) ((od_E kd wo gr dy kp od no).1) ((od_E kd wo gr dy kp od no).2) ax lv rh re rs ph pr o1 o2 ++ Y) := by
      intro d2 hd2
      refine pB0_day C d2 rfl dX3_nextDay_140 ?_
      refine x_aload_n C dX3_nextDay_143 rfl rfl ?_
      refine x_iconst C (v := -1) dX3_nextDay_144 (by decide) ?_
      refine pB0_at C _ dX3_nextDay_145 ?_
      refine x_aload_n C dX3_nextDay_148 rfl rfl ?_
      refine x_callVv C gv_X3_86 (c_X3_forward 0 rfl (Nat.zero_le _) hle hlt) 0 rfl rfl rfl rfl (Nat.le_of_ble_eq_true rfl) ⟨(Nat.le_of_ble_eq_true rfl), (Nat.le_of_ble_eq_true rfl)⟩ ⟨Nat.zero_le _, Nat.zero_le _⟩ dX3_nextDay_149 ?_
      refine x_aload_n C dX3_nextDay_152 rfl rfl ?_
      refine gB0_at C dX3_nextDay_153 ?_
      refine x_aload_n C dX3_nextDay_156 rfl rfl ?_
      refine gB0_ordered C dX3_nextDay_157 ?_
      refine x_icmp_ne C (tgt := 169) dX3_nextDay_160 (by decide) (fun h => ?_) (fun h => ?_)
      · have h2 : ¬ tn_E kd wo gr dy kp go od no = (od_E kd wo gr dy kp od no).2 := fun z => h (by show nI (tn_E kd wo gr dy kp go od no) = _; rw [z])
        exact x_vretS C dX3_nextDay_169 rfl (by rw [dn_E, if_neg h2, hd2]; rfl)
      · have h2 : tn_E kd wo gr dy kp go od no = (od_E kd wo gr dy kp od no).2 := wo_ieq (by omega) (by omega) h
        refine x_aload_n C dX3_nextDay_163 rfl rfl ?_
        refine x_bipush C (v := 7) dX3_nextDay_164 (by decide) ?_
        refine pB0_day C 7 rfl dX3_nextDay_166 ?_
        exact x_vretS C dX3_nextDay_169 rfl (by rw [dn_E, if_pos h2]; rfl)
    refine x_aload_n C dX3_nextDay_119 rfl rfl ?_
    refine x_aload_n C dX3_nextDay_120 rfl rfl ?_
    refine gB0_day C dX3_nextDay_121 ?_
    refine x_bipush C (v := 6) dX3_nextDay_124 (by decide) ?_
    refine x_icmp_ne C (tgt := 134) dX3_nextDay_126 (by decide) (fun h => ?_) (fun h => ?_)
    · have h2 : ¬ dy = 6 := fun z => h (by rw [z]; rfl)
      refine x_aload_n C dX3_nextDay_134 rfl rfl ?_
      refine gB0_day C dX3_nextDay_135 ?_
      refine x_iconst C (v := 1) dX3_nextDay_138 (by decide) ?_
      refine x_iadd C dX3_nextDay_139 ?_
      refine x_top (nI_1 dy) ?_
      exact f140 (dy + 1) (by rw [if_neg h2])
    · have h2 : dy = 6 := wo_ieq (a := dy) (b := 6) (by omega) (by omega) h
      refine x_bipush C (v := 7) dX3_nextDay_129 (by decide) ?_
      refine x_goto C (tgt := 140) dX3_nextDay_131 (by decide) ?_
      exact f140 7 (by rw [if_pos h2])
  have f57 : ∀ (o1 o2 : Nat → Int32) (x1 : Option Value), wo_W p l e (wo_rm 4) s m args below meth c A D 0 0 2 (MQ below (wo_QS D ((cI, .int) :: (cZ, .boolean) :: tys) none (fun o1 o2 => (wB cI cZ a co gr (dn_E kd wo gr dy kp go od no) kd wo me ti td la go (kp_E kd wo gr dy kp) ((od_E kd wo gr dy kp od no).1) ((od_E kd wo gr dy kp od no).2) (nI (tn_E kd wo gr dy kp go od no)) lv rh re rs ph pr o1 o2 ++ Y)) A) args s 0 0 A) 57 [some (.ref (a 0)), x1] [] (wB cI cZ a co gr dy kd wo me ti td la go (kp_E kd wo gr dy kp) od no ax lv rh re rs ph pr o1 o2 ++ Y) := by
    intro o1 o2 x1
    refine x_aload_n C dX3_nextDay_57 rfl rfl ?_
    refine gB0_day C dX3_nextDay_58 ?_
    refine x_iconst C (v := 3) dX3_nextDay_61 (by decide) ?_
    refine x_icmp_ge C (tgt := 99) dX3_nextDay_62 (by decide) (fun h => ?_) (fun h => ?_)
    · have h2 := wo_le (a := 3) (b := dy) (by omega) (by omega) h
      refine x_aload_n C dX3_nextDay_99 rfl rfl ?_
      refine gB0_day C dX3_nextDay_100 ?_
      refine x_iconst C (v := 3) dX3_nextDay_103 (by decide) ?_
      have fby : dy = 3 ∨ dy = 5 → wo_W p l e (wo_rm 4) s m args below meth c A D 0 0 2 (MQ below (wo_QS D ((cI, .int) :: (cZ, .boolean) :: tys) none (fun o1 o2 => (wB cI cZ a co gr (dn_E kd wo gr dy kp go od no) kd wo me ti td la go (kp_E kd wo gr dy kp) ((od_E kd wo gr dy kp od no).1) ((od_E kd wo gr dy kp od no).2) (nI (tn_E kd wo gr dy kp go od no)) lv rh re rs ph pr o1 o2 ++ Y)) A) args s 0 0 A) 115 [some (.ref (a 0)), x1] [] (wB cI cZ a co gr dy kd wo me ti td la go (kp_E kd wo gr dy kp) od no ax lv rh re rs ph pr o1 o2 ++ Y) := by
        intro h3
        refine x_aload_n C dX3_nextDay_115 rfl rfl ?_
        refine x_callVSv C gv_X3_80 (c_X3_byPlaces hg) 0 rfl rfl rfl rfl (Nat.le_of_ble_eq_true rfl) ⟨(Nat.le_of_ble_eq_true rfl), (Nat.le_of_ble_eq_true rfl)⟩ ⟨Nat.zero_le _, Nat.zero_le _⟩ dX3_nextDay_116 (fun o1 o2 => ?_)
        have h9 := f119 o1 o2 x1
        rw [show od_E kd wo gr dy kp od no = by_p (by_ok kd wo gr (kp_E kd wo gr dy kp)) gr gr (od, 0) from by unfold od_E; rw [if_neg (by omega), if_pos h3]] at h9 ⊢
        exact h9
      refine x_icmp_eq C (tgt := 115) dX3_nextDay_104 (by decide) (fun h3 => ?_) (fun h3 => ?_)
      · exact fby (Or.inl (wo_ieq (a := dy) (b := 3) (by omega) (by omega) h3))
      · refine x_aload_n C dX3_nextDay_107 rfl rfl ?_
        refine gB0_day C dX3_nextDay_108 ?_
        refine x_iconst C (v := 5) dX3_nextDay_111 (by decide) ?_
        refine x_icmp_ne C (tgt := 119) dX3_nextDay_112 (by decide) (fun h4 => ?_) (fun h4 => ?_)
        · have h5 : ¬ (dy = 3 ∨ dy = 5) := by
            rintro (z | z)
            · exact h3 (by rw [z]; rfl)
            · exact h4 (by rw [z]; rfl)
          have h9 := f119 o1 o2 x1
          rw [show od_E kd wo gr dy kp od no = (od, no) from by unfold od_E; rw [if_neg (by omega), if_neg h5]] at h9 ⊢
          exact h9
        · exact fby (Or.inr (wo_ieq (a := dy) (b := 5) (by omega) (by omega) h4))
    · have h2 := wo_nle (a := 3) (b := dy) (by omega) (by omega) h
      refine x_aload_n C dX3_nextDay_65 rfl rfl ?_
      refine x_aload_n C dX3_nextDay_66 rfl rfl ?_
      refine gB0_growers C dX3_nextDay_67 ?_
      refine pB0_ordered C gr rfl dX3_nextDay_70 ?_
      refine x_iconst C (v := 0) dX3_nextDay_73 (by decide) ?_
      refine x_istore_n C dX3_nextDay_74 rfl (by decide) ?_
      have loop : ∀ (n k : Nat), n + k = gr → wo_W p l e (wo_rm 4) s m args below meth c A D 0 0 2 (MQ below (wo_QS D ((cI, .int) :: (cZ, .boolean) :: tys) none (fun o1 o2 => (wB cI cZ a co gr (dn_E kd wo gr dy kp go od no) kd wo me ti td la go (kp_E kd wo gr dy kp) ((od_E kd wo gr dy kp od no).1) ((od_E kd wo gr dy kp od no).2) (nI (tn_E kd wo gr dy kp go od no)) lv rh re rs ph pr o1 o2 ++ Y)) A) args s 0 0 A) 75 [some (.ref (a 0)), some (.int (nI k))] [] (wB cI cZ a co gr dy kd wo me ti td la go (kp_E kd wo gr dy kp) (wo_ff od (fun k => k) k) (gr) ax lv rh re rs ph pr o1 o2 ++ Y) := by
        intro n
        induction n with
        | zero =>
          intro k hk
          refine x_iload_n C dX3_nextDay_75 rfl rfl ?_
          refine x_aload_n C dX3_nextDay_76 rfl rfl ?_
          refine gB0_growers C dX3_nextDay_77 ?_
          refine x_icmp_ge C (tgt := 96) dX3_nextDay_80 (by decide) (fun h3 => ?_) (fun h3 => ?_)
          · have hk2 : k = gr := by omega
            subst hk2
            refine x_goto C (tgt := 119) dX3_nextDay_96 (by decide) ?_
            have h9 := f119 o1 o2 (some (.int (nI k)))
            rw [show od_E kd wo k dy kp od no = (wo_ff od (fun k => k) k, k) from by unfold od_E; rw [if_pos h2]] at h9 ⊢
            exact h9
          · exact absurd (show nI gr ≤ nI k from nI_le (by omega) (by omega)) h3
        | succ n ih =>
          intro k hk
          refine x_iload_n C dX3_nextDay_75 rfl rfl ?_
          refine x_aload_n C dX3_nextDay_76 rfl rfl ?_
          refine gB0_growers C dX3_nextDay_77 ?_
          refine x_icmp_ge C (tgt := 96) dX3_nextDay_80 (by decide) (fun h3 => ?_) (fun h3 => ?_)
          · exact absurd (wo_le (by omega) (by omega) h3) (by omega)
          · refine x_aload_n C dX3_nextDay_83 rfl rfl ?_
            refine gB0_order C dX3_nextDay_84 ?_
            refine x_iload_n C dX3_nextDay_87 rfl rfl ?_
            refine x_iload_n C dX3_nextDay_88 rfl rfl ?_
            refine sB_od C _ rfl _ rfl (by omega) dX3_nextDay_89 ?_
            refine x_iinc C dX3_nextDay_90 rfl (nI_1 k) (by decide) ?_
            refine x_goto C (tgt := 75) dX3_nextDay_93 (by decide) ?_
            exact x_ws (by rw [wo_ff_up od (fun k => k)]) (ih (k + 1) (by omega))
      exact x_ws (by rw [wo_ff_0]) (loop gr 0 (by omega))
  refine x_aload_n C dX3_nextDay_0 rfl rfl ?_
  refine gB0_day C dX3_nextDay_1 ?_
  refine x_iconst C (v := 3) dX3_nextDay_4 (by decide) ?_
  refine x_icmp_ne C (tgt := 57) dX3_nextDay_5 (by decide) (fun h => ?_) (fun h => ?_)
  · have h2 : ¬ dy = 3 := fun z => h (by rw [z]; rfl)
    have h9 := f57 o1 o2 none
    rw [show kp_E kd wo gr dy kp = kp from by unfold kp_E; rw [if_neg h2]] at h9 ⊢
    exact h9
  · have h2 : dy = 3 := wo_ieq (a := dy) (b := 3) (by omega) (by omega) h
    have hkp : kp_E kd wo gr dy kp = wo_ff kp (ck_B kd wo gr) gr := by unfold kp_E; rw [if_pos h2]
    refine x_iconst C (v := 0) dX3_nextDay_8 (by decide) ?_
    refine x_istore_n C dX3_nextDay_9 rfl (by decide) ?_
    have loop : ∀ (n k : Nat) (o1 o2 : Nat → Int32), n + k = gr → wo_W p l e (wo_rm 4) s m args below meth c A D 0 0 2 (MQ below (wo_QS D ((cI, .int) :: (cZ, .boolean) :: tys) none (fun o1 o2 => (wB cI cZ a co gr (dn_E kd wo gr dy kp go od no) kd wo me ti td la go (kp_E kd wo gr dy kp) ((od_E kd wo gr dy kp od no).1) ((od_E kd wo gr dy kp od no).2) (nI (tn_E kd wo gr dy kp go od no)) lv rh re rs ph pr o1 o2 ++ Y)) A) args s 0 0 A) 10 [some (.ref (a 0)), some (.int (nI k))] [] (wB cI cZ a co gr dy kd wo me ti td la go (wo_ff kp (ck_B kd wo gr) k) od no ax lv rh re rs ph pr o1 o2 ++ Y) := by
      intro n
      induction n with
      | zero =>
        intro k o1 o2 hk
        refine x_iload_n C dX3_nextDay_10 rfl rfl ?_
        refine x_aload_n C dX3_nextDay_11 rfl rfl ?_
        refine gB0_growers C dX3_nextDay_12 ?_
        refine x_icmp_ge C (tgt := 57) dX3_nextDay_15 (by decide) (fun h3 => ?_) (fun h3 => ?_)
        · have hk2 : k = gr := by omega
          have h9 := f57 o1 o2 (some (.int (nI k)))
          refine x_ws ?_ h9
          rw [hkp, hk2]
        · exact absurd (show nI gr ≤ nI k from nI_le (by omega) (by omega)) h3
      | succ n ih =>
        intro k o1 o2 hk
        have hpl := pl_B_le (kd := kd) (wo := wo) (g := gr) (w := k) hg
        have hwn := wn_le kd wo k
        refine x_iload_n C dX3_nextDay_10 rfl rfl ?_
        refine x_aload_n C dX3_nextDay_11 rfl rfl ?_
        refine gB0_growers C dX3_nextDay_12 ?_
        refine x_icmp_ge C (tgt := 57) dX3_nextDay_15 (by decide) (fun h3 => ?_) (fun h3 => ?_)
        · exact absurd (wo_le (by omega) (by omega) h3) (by omega)
        · refine x_aload_n C dX3_nextDay_18 rfl rfl ?_
          refine gB0_kept C dX3_nextDay_19 ?_
          refine x_iload_n C dX3_nextDay_22 rfl rfl ?_
          refine x_aload_n C dX3_nextDay_23 rfl rfl ?_
          refine x_iload_n C dX3_nextDay_24 rfl rfl ?_
          refine x_aload_n C dX3_nextDay_25 rfl rfl ?_
          refine gB0_one C dX3_nextDay_26 ?_
          refine x_callVi C gv_X3_69 (c_X3_weightsOf_o1 k (by omega)) 0 rfl rfl rfl rfl (Nat.le_of_ble_eq_true rfl) ⟨(Nat.le_of_ble_eq_true rfl), (Nat.le_of_ble_eq_true rfl)⟩ ⟨Nat.zero_le _, Nat.zero_le _⟩ dX3_nextDay_29 ?_
          refine x_if_le C (tgt := 49) dX3_nextDay_32 (by decide) (fun h4 => ?_) (fun h4 => ?_)
          · have h5 := wo_le (a := wn_B kd wo k) (b := 0) (by omega) (by omega) h4
            have h6 : ck_B kd wo gr k = false := decide_eq_false (fun z => by omega)
            refine x_iconst C (v := 0) dX3_nextDay_49 (by decide) ?_
            refine sB_kp C (ck_B kd wo gr k) (by rw [h6]; rfl) k rfl (by omega) dX3_nextDay_50 ?_
            refine x_iinc C dX3_nextDay_51 rfl (nI_1 k) (by decide) ?_
            refine x_goto C (tgt := 10) dX3_nextDay_54 (by decide) ?_
            exact x_ws (by rw [wo_ff_up]) (ih (k + 1) _ o2 (by omega))
          · have h5 := wo_nle (a := wn_B kd wo k) (b := 0) (by omega) (by omega) h4
            refine x_aload_n C dX3_nextDay_35 rfl rfl ?_
            refine x_iload_n C dX3_nextDay_36 rfl rfl ?_
            refine x_callVSi C gv_X3_73 (c_X3_placeOf k (by omega) hg) 0 rfl rfl rfl rfl (Nat.le_of_ble_eq_true rfl) ⟨(Nat.le_of_ble_eq_true rfl), (Nat.le_of_ble_eq_true rfl)⟩ ⟨Nat.zero_le _, Nat.zero_le _⟩ dX3_nextDay_37 (fun o1 o2 => ?_)
            refine x_bipush C (v := 8) dX3_nextDay_40 (by decide) ?_
            refine x_icmp_gt C (tgt := 49) dX3_nextDay_42 (by decide) (fun h6 => ?_) (fun h6 => ?_)
            · have h7 := wo_lt (a := 8) (b := pl_B kd wo gr k) (by omega) (by omega) h6
              have h8 : ck_B kd wo gr k = false := decide_eq_false (fun z => by omega)
              refine x_iconst C (v := 0) dX3_nextDay_49 (by decide) ?_
              refine sB_kp C (ck_B kd wo gr k) (by rw [h8]; rfl) k rfl (by omega) dX3_nextDay_50 ?_
              refine x_iinc C dX3_nextDay_51 rfl (nI_1 k) (by decide) ?_
              refine x_goto C (tgt := 10) dX3_nextDay_54 (by decide) ?_
              exact x_ws (by rw [wo_ff_up]) (ih (k + 1) o1 o2 (by omega))
            · have h7 := wo_nlt (a := 8) (b := pl_B kd wo gr k) (by omega) (by omega) h6
              have h8 : ck_B kd wo gr k = true := decide_eq_true ⟨by omega, h7⟩
              refine x_iconst C (v := 1) dX3_nextDay_45 (by decide) ?_
              refine x_goto C (tgt := 50) dX3_nextDay_46 (by decide) ?_
              refine sB_kp C (ck_B kd wo gr k) (by rw [h8]; rfl) k rfl (by omega) dX3_nextDay_50 ?_
              refine x_iinc C dX3_nextDay_51 rfl (nI_1 k) (by decide) ?_
              refine x_goto C (tgt := 10) dX3_nextDay_54 (by decide) ?_
              exact x_ws (by rw [wo_ff_up]) (ih (k + 1) o1 o2 (by omega))
    exact x_ws (by rw [wo_ff_0]) (loop gr 0 o1 o2 (by omega))
end MDC
