/-! ===== the reference: places, order, days ===== -/
def fw_B (od : Nat → Nat) (kp go : Nat → Bool) (no : Nat) : Nat → Nat → Nat
  | 0, t => t
  | n + 1, t => if t < no then (if (kp (od t) && !go (od t)) = true then t else fw_B od kp go no n (t + 1)) else t
def nx_B (od : Nat → Nat) (kp go : Nat → Bool) (no t : Nat) : Nat := fw_B od kp go no (13 - t) t
theorem nxB_step {od : Nat → Nat} {kp go : Nat → Bool} {no t : Nat} (hl : no ≤ 12) (h : t < no) (h2 : (kp (od t) && !go (od t)) = false) : nx_B od kp go no t = nx_B od kp go no (t + 1) := by
  unfold nx_B
  rw [show 13 - t = (13 - (t + 1)) + 1 by omega, fw_B, if_pos h, if_neg (by rw [h2]; decide)]
theorem nxB_stop {od : Nat → Nat} {kp go : Nat → Bool} {no t : Nat} (ht : t ≤ 12) (h2 : (kp (od t) && !go (od t)) = true) : nx_B od kp go no t = t := by
  unfold nx_B
  rw [show 13 - t = (13 - (t + 1)) + 1 by omega, fw_B]
  split
  · first | rfl | rw [if_pos h2]
  · rfl
theorem nxB_end {od : Nat → Nat} {kp go : Nat → Bool} {no t : Nat} (ht : t ≤ 12) (h : no ≤ t) : nx_B od kp go no t = t := by
  unfold nx_B
  rw [show 13 - t = (13 - (t + 1)) + 1 by omega, fw_B, if_neg (by omega)]
theorem nxB_le (od : Nat → Nat) (kp go : Nat → Bool) (no : Nat) (hno : no ≤ 12) : ∀ n t, n + t = no → nx_B od kp go no t ≤ no
  | 0, t, h => by rw [nxB_end (by omega) (by omega)]; omega
  | n + 1, t, h => by
    cases h2 : (kp (od t) && !go (od t)) with
    | true => rw [nxB_stop (by omega) h2]; omega
    | false => rw [nxB_step hno (by omega) h2]; exact nxB_le od kp go no hno n (t + 1) (by omega)
def by_put (s : (Nat → Nat) × Nat) (w : Nat) : (Nat → Nat) × Nat := (va_up s.1 s.2 w, s.2 + 1)
def by_w (ok : Nat → Nat → Bool) (q : Nat) : Nat → (Nat → Nat) × Nat → (Nat → Nat) × Nat
  | 0, s => s
  | n + 1, s => by_w ok q n (if ok q n then by_put s n else s)
def by_p (ok : Nat → Nat → Bool) (g : Nat) : Nat → (Nat → Nat) × Nat → (Nat → Nat) × Nat
  | 0, s => s
  | n + 1, s => by_p ok g n (by_w ok (n + 1) g s)
def by_ok (kd wo : Nat → Int32) (g : Nat) (kp : Nat → Bool) (q k : Nat) : Bool := kp k && decide (pl_B kd wo g k = q)
def by_lt (kd wo : Nat → Int32) (g : Nat) (kp : Nat → Bool) (q k : Nat) : Bool := kp k && decide (pl_B kd wo g k < q)
theorem pl_B_le {kd wo : Nat → Int32} {g w : Nat} (hg : g ≤ 12) : pl_B kd wo g w ≤ 13 := by
  unfold pl_B
  have := wo_cnt_le (fun o => decide (¬ o = w) && bf_B kd wo o w) g
  omega
theorem cnt_add (f g h : Nat → Bool) (H : ∀ k, (h k = true ↔ f k = true ∨ g k = true) ∧ ¬ (f k = true ∧ g k = true)) : ∀ n, wo_cnt f n + wo_cnt g n = wo_cnt h n
  | 0 => rfl
  | n + 1 => by
    have h1 := cnt_add f g h H n
    have h2 := H n
    unfold wo_cnt
    cases hf : f n <;> cases hg : g n <;> cases hh : h n <;> simp [hf, hg, hh] at h2 ⊢ <;> omega
theorem by_split (kd wo : Nat → Int32) (g : Nat) (kp : Nat → Bool) (q n : Nat) : wo_cnt (by_ok kd wo g kp q) n + wo_cnt (by_lt kd wo g kp q) n = wo_cnt (by_lt kd wo g kp (q + 1)) n := by
  refine cnt_add _ _ _ (fun k => ?_) n
  unfold by_ok by_lt
  simp only [Bool.and_eq_true, decide_eq_true_eq]
  refine ⟨⟨fun z => ?_, fun z => ?_⟩, fun z => ?_⟩
  · rcases Nat.lt_or_eq_of_le (Nat.le_of_lt_succ z.2) with h | h
    · exact Or.inr ⟨z.1, h⟩
    · exact Or.inl ⟨z.1, h⟩
  · rcases z with z | z
    · exact ⟨z.1, by omega⟩
    · exact ⟨z.1, by omega⟩
  · omega
section MDB
variable {l : Launch} {D : va_G} {tys : List (ClassId × FieldType)} {cI cZ : ClassId} {a : Nat → Nat} {Y : va_W} {co : Int32} {gr : Nat} {dy : Nat} {kd : Nat → Int32} {wo : Nat → Int32} {me : Nat → Bool} {ti : Nat → Int32} {td : Nat → Bool} {la : Nat → Nat} {go : Nat → Bool} {kp : Nat → Bool} {od : Nat → Nat} {no : Nat} {ax : Int32} {lv : Bool} {rh : Bool} {re : Int32} {rs : Int32} {ph : Bool} {pr : Int32} {o1 : Nat → Int32} {o2 : Nat → Int32}
set_option maxRecDepth 100000 in
set_option maxHeartbeats 4000000 in
theorem c_X3_isBefore (u w : Nat) (hu : u < 12) (hw : w < 12) : wo_S l yX3_isBefore cX3_isBefore 6 (some .boolean) 1 D ((cI, .int) :: (cZ, .boolean) :: tys) [.ref (a 0), .int (nI u), .int (nI w)] (wB cI cZ a co gr dy kd wo me ti td la go kp od no ax lv rh re rs ph pr o1 o2 ++ Y) (some (.int (bz (bf_B kd wo u w)))) (fun o1 o2 => (wB cI cZ a co gr dy kd wo me ti td la go kp od no ax lv rh re rs ph pr o1 o2 ++ Y)) := by
  refine wo_ofS (ls := [some (.ref (a 0)), some (.int (nI u)), some (.int (nI w)), none, none, none]) (by decide) (Nat.le_of_ble_eq_true rfl) rfl ?_
  intro p e s m args below meth c A C
  have hn := wn_le kd wo u
  have hm := wn_le kd wo w
  refine x_aload_n C dX3_isBefore_0 rfl rfl ?_
  refine x_iload_n C dX3_isBefore_1 rfl rfl ?_
  refine x_aload_n C dX3_isBefore_2 rfl rfl ?_
  refine gB0_one C dX3_isBefore_3 ?_
  refine x_callVi C gv_X3_69 (c_X3_weightsOf_o1 u hu) 0 rfl rfl rfl rfl (Nat.le_of_ble_eq_true rfl) ⟨(Nat.le_of_ble_eq_true rfl), (Nat.le_of_ble_eq_true rfl)⟩ ⟨Nat.zero_le _, Nat.zero_le _⟩ dX3_isBefore_6 ?_
  refine x_istore_n C dX3_isBefore_9 rfl (by decide) ?_
  refine x_aload_n C dX3_isBefore_10 rfl rfl ?_
  refine x_iload_n C dX3_isBefore_11 rfl rfl ?_
  refine x_aload_n C dX3_isBefore_12 rfl rfl ?_
  refine gB0_two C dX3_isBefore_13 ?_
  refine x_callVi C gv_X3_69 (c_X3_weightsOf_o2 w hw) 0 rfl rfl rfl rfl (Nat.le_of_ble_eq_true rfl) ⟨(Nat.le_of_ble_eq_true rfl), (Nat.le_of_ble_eq_true rfl)⟩ ⟨Nat.zero_le _, Nat.zero_le _⟩ dX3_isBefore_16 ?_
  refine x_istore C dX3_isBefore_19 (by decide) ?_
  refine x_iconst C (v := 0) dX3_isBefore_21 (by decide) ?_
  refine x_istore C dX3_isBefore_22 (by decide) ?_
  have loop : ∀ (q k : Nat), k + q = 7 → k ≤ wn_B kd wo w → lx_B (wk_B kd wo u) (wk_B kd wo w) (wn_B kd wo u) (wn_B kd wo w) q k = bf_B kd wo u w → wo_W p l e (wo_rm 1) s m args below meth c A D 0 0 6 (MQ below (wo_QS D ((cI, .int) :: (cZ, .boolean) :: tys) (some (.int (bz (bf_B kd wo u w)))) (fun o1 o2 => (wB cI cZ a co gr dy kd wo me ti td la go kp od no ax lv rh re rs ph pr o1 o2 ++ Y)) A) args s 0 0 A) 24 [some (.ref (a 0)), some (.int (nI u)), some (.int (nI w)), some (.int (nI (wn_B kd wo u))), some (.int (nI (wn_B kd wo w))), some (.int (nI k))] [] (wB cI cZ a co gr dy kd wo me ti td la go kp od no ax lv rh re rs ph pr ((ws_B kd wo u o1 6).1) ((ws_B kd wo w o2 6).1) ++ Y) := by
    intro q
    induction q with
    | zero => intro k hk hk2; exact absurd hk (by omega)
    | succ q ih =>
      intro k hk hk2 he
      refine x_iload C dX3_isBefore_24 rfl ?_
      refine x_iload_n C dX3_isBefore_26 rfl rfl ?_
      refine x_icmp_ge C (tgt := 60) dX3_isBefore_27 (by decide) (fun h => ?_) (fun h => ?_)
      · have h1 := wo_le (by omega) (by omega) h
        refine x_iload C dX3_isBefore_60 rfl ?_
        refine x_iload_n C dX3_isBefore_62 rfl rfl ?_
        refine x_icmp_ge C (tgt := 94) dX3_isBefore_63 (by decide) (fun h2 => ?_) (fun h2 => ?_)
        · refine x_iconst C (v := 0) dX3_isBefore_94 (by decide) ?_
          exact x_zretS C dX3_isBefore_95 (b := false) rfl (by rw [← he, lx_B, if_neg (by omega)]) rfl
        · exact absurd h h2
      · have h1 := wo_nle (by omega) (by omega) h
        refine x_iload C dX3_isBefore_30 rfl ?_
        refine x_iload C dX3_isBefore_32 rfl ?_
        refine x_icmp_ge C (tgt := 60) dX3_isBefore_34 (by decide) (fun h2 => ?_) (fun h2 => ?_)
        · have h3 := wo_le (by omega) (by omega) h2
          refine x_iload C dX3_isBefore_60 rfl ?_
          refine x_iload_n C dX3_isBefore_62 rfl rfl ?_
          refine x_icmp_ge C (tgt := 94) dX3_isBefore_63 (by decide) (fun h4 => ?_) (fun h4 => ?_)
          · exact absurd h4 h
          · refine x_iload C dX3_isBefore_66 rfl ?_
            refine x_iload C dX3_isBefore_68 rfl ?_
            refine x_icmp_eq C (tgt := 90) dX3_isBefore_70 (by decide) (fun h5 => ?_) (fun h5 => ?_)
            · refine x_iconst C (v := 1) dX3_isBefore_90 (by decide) ?_
              refine x_goto C (tgt := 95) dX3_isBefore_91 (by decide) ?_
              exact x_zretS C dX3_isBefore_95 (b := true) rfl (by rw [← he, lx_B, if_pos h1, if_neg (by omega)]) rfl
            · exact absurd (show nI k = nI (wn_B kd wo w) by rw [show k = wn_B kd wo w by omega]) h5
        · have h3 := wo_nle (by omega) (by omega) h2
          have e1 := wk_eq kd wo u o1 h1
          have e2 := wk_eq kd wo w o2 h3
          refine x_aload_n C dX3_isBefore_37 rfl rfl ?_
          refine gB0_one C dX3_isBefore_38 ?_
          refine x_iload C dX3_isBefore_41 rfl ?_
          refine lB_o1 C _ rfl (by omega) dX3_isBefore_43 ?_
          refine x_aload_n C dX3_isBefore_44 rfl rfl ?_
          refine gB0_two C dX3_isBefore_45 ?_
          refine x_iload C dX3_isBefore_48 rfl ?_
          refine lB_o2 C _ rfl (by omega) dX3_isBefore_50 ?_
          refine x_icmp_ne C (tgt := 60) dX3_isBefore_51 (by decide) (fun h4 => ?_) (fun h4 => ?_)
          · rw [e1, e2] at h4
            refine x_iload C dX3_isBefore_60 rfl ?_
            refine x_iload_n C dX3_isBefore_62 rfl rfl ?_
            refine x_icmp_ge C (tgt := 94) dX3_isBefore_63 (by decide) (fun h5 => ?_) (fun h5 => ?_)
            · exact absurd h5 h
            · refine x_iload C dX3_isBefore_66 rfl ?_
              refine x_iload C dX3_isBefore_68 rfl ?_
              refine x_icmp_eq C (tgt := 90) dX3_isBefore_70 (by decide) (fun h6 => ?_) (fun h6 => ?_)
              · exact absurd (wo_ieq (by omega) (by omega) h6) (by omega)
              · refine x_aload_n C dX3_isBefore_73 rfl rfl ?_
                refine gB0_one C dX3_isBefore_74 ?_
                refine x_iload C dX3_isBefore_77 rfl ?_
                refine lB_o1 C _ rfl (by omega) dX3_isBefore_79 ?_
                refine x_aload_n C dX3_isBefore_80 rfl rfl ?_
                refine gB0_two C dX3_isBefore_81 ?_
                refine x_iload C dX3_isBefore_84 rfl ?_
                refine lB_o2 C _ rfl (by omega) dX3_isBefore_86 ?_
                refine x_icmp_le C (tgt := 94) dX3_isBefore_87 (by decide) (fun h7 => ?_) (fun h7 => ?_)
                · rw [e1, e2] at h7
                  refine x_iconst C (v := 0) dX3_isBefore_94 (by decide) ?_
                  exact x_zretS C dX3_isBefore_95 (b := false) rfl (by rw [← he, lx_B, if_pos h1, if_pos h3, if_neg h4, decide_eq_false (Int32.not_lt.mpr h7)]) rfl
                · rw [e1, e2] at h7
                  refine x_iconst C (v := 1) dX3_isBefore_90 (by decide) ?_
                  refine x_goto C (tgt := 95) dX3_isBefore_91 (by decide) ?_
                  exact x_zretS C dX3_isBefore_95 (b := true) rfl (by rw [← he, lx_B, if_pos h1, if_pos h3, if_neg h4, decide_eq_true (Int32.not_le.mp h7)]) rfl
          · rw [e1, e2] at h4
            refine x_iinc C dX3_isBefore_54 rfl (nI_1 k) (by decide) ?_
            refine x_goto C (tgt := 24) dX3_isBefore_57 (by decide) ?_
            exact ih (k + 1) (by omega) h3 (by rw [← he]; show _ = lx_B _ _ _ _ (q + 1) k; rw [lx_B, if_pos h1, if_pos h3, if_pos h4])
  exact loop 7 0 rfl (Nat.zero_le _) rfl
set_option maxRecDepth 100000 in
set_option maxHeartbeats 4000000 in
theorem c_X3_placeOf (w : Nat) (hw : w < 12) (hg : gr ≤ 12) : wo_S l yX3_placeOf cX3_placeOf 4 (some .int) 2 D ((cI, .int) :: (cZ, .boolean) :: tys) [.ref (a 0), .int (nI w)] (wB cI cZ a co gr dy kd wo me ti td la go kp od no ax lv rh re rs ph pr o1 o2 ++ Y) (some (.int (nI (pl_B kd wo gr w)))) (fun o1 o2 => (wB cI cZ a co gr dy kd wo me ti td la go kp od no ax lv rh re rs ph pr o1 o2 ++ Y)) := by
  refine wo_ofS (ls := [some (.ref (a 0)), some (.int (nI w)), none, none]) (by decide) (Nat.le_of_ble_eq_true rfl) rfl ?_
  intro p e s m args below meth c A C
  refine x_iconst C (v := 1) dX3_placeOf_0 (by decide) ?_
  refine x_istore_n C dX3_placeOf_1 rfl (by decide) ?_
  refine x_iconst C (v := 0) dX3_placeOf_2 (by decide) ?_
  refine x_istore_n C dX3_placeOf_3 rfl (by decide) ?_
  have loop : ∀ (n k : Nat) (o1 o2 : Nat → Int32), n + k = gr → wo_W p l e (wo_rm 2) s m args below meth c A D 0 0 4 (MQ below (wo_QS D ((cI, .int) :: (cZ, .boolean) :: tys) (some (.int (nI (pl_B kd wo gr w)))) (fun o1 o2 => (wB cI cZ a co gr dy kd wo me ti td la go kp od no ax lv rh re rs ph pr o1 o2 ++ Y)) A) args s 0 0 A) 4 [some (.ref (a 0)), some (.int (nI w)), some (.int (nI (1 + wo_cnt (fun o => decide (¬ o = w) && bf_B kd wo o w) k))), some (.int (nI k))] [] (wB cI cZ a co gr dy kd wo me ti td la go kp od no ax lv rh re rs ph pr o1 o2 ++ Y) := by
    intro n
    induction n with
    | zero =>
      intro k o1 o2 hk
      refine x_iload_n C dX3_placeOf_4 rfl rfl ?_
      refine x_aload_n C dX3_placeOf_5 rfl rfl ?_
      refine gB0_growers C dX3_placeOf_6 ?_
      refine x_icmp_ge C (tgt := 40) dX3_placeOf_9 (by decide) (fun h => ?_) (fun h => ?_)
      · refine x_iload_n C dX3_placeOf_40 rfl rfl ?_
        have hk2 : k = gr := by omega
        exact x_iretS C dX3_placeOf_41 (by subst hk2; rfl) rfl
      · exact absurd (show nI gr ≤ nI k from nI_le (by omega) (by omega)) h
    | succ n ih =>
      intro k o1 o2 hk
      refine x_iload_n C dX3_placeOf_4 rfl rfl ?_
      refine x_aload_n C dX3_placeOf_5 rfl rfl ?_
      refine gB0_growers C dX3_placeOf_6 ?_
      refine x_icmp_ge C (tgt := 40) dX3_placeOf_9 (by decide) (fun h => ?_) (fun h => ?_)
      · exact absurd (wo_le (by omega) (by omega) h) (by omega)
      · refine x_iload_n C dX3_placeOf_12 rfl rfl ?_
        refine x_iload_n C dX3_placeOf_13 rfl rfl ?_
        refine x_icmp_eq C (tgt := 32) dX3_placeOf_14 (by decide) (fun h2 => ?_) (fun h2 => ?_)
        · have h3 : k = w := wo_ieq (by omega) (by omega) h2
          refine x_iload_n C dX3_placeOf_32 rfl rfl ?_
          refine x_istore_n C dX3_placeOf_33 rfl (by decide) ?_
          refine x_iinc C dX3_placeOf_34 rfl (nI_1 k) (by decide) ?_
          refine x_goto C (tgt := 4) dX3_placeOf_37 (by decide) ?_
          have h9 := ih (k + 1) o1 o2 (by omega)
          rw [wo_cnt_f (q := fun o => decide (¬ o = w) && bf_B kd wo o w) (by rw [decide_eq_false (fun z => z h3)]; rfl)] at h9
          exact h9
        · have h3 : ¬ k = w := fun z => h2 (by rw [z])
          refine x_aload_n C dX3_placeOf_17 rfl rfl ?_
          refine x_iload_n C dX3_placeOf_18 rfl rfl ?_
          refine x_iload_n C dX3_placeOf_19 rfl rfl ?_
          refine x_callVSi C gv_X3_121 (c_X3_isBefore k w (by omega) hw) 0 rfl rfl rfl rfl (Nat.le_of_ble_eq_true rfl) ⟨(Nat.le_of_ble_eq_true rfl), (Nat.le_of_ble_eq_true rfl)⟩ ⟨Nat.zero_le _, Nat.zero_le _⟩ dX3_placeOf_20 (fun o1 o2 => ?_)
          refine x_if_eq C (tgt := 32) dX3_placeOf_23 (by decide) (fun h4 => ?_) (fun h4 => ?_)
          · have h5 := bz_f h4
            refine x_iload_n C dX3_placeOf_32 rfl rfl ?_
            refine x_istore_n C dX3_placeOf_33 rfl (by decide) ?_
            refine x_iinc C dX3_placeOf_34 rfl (nI_1 k) (by decide) ?_
            refine x_goto C (tgt := 4) dX3_placeOf_37 (by decide) ?_
            have h9 := ih (k + 1) o1 o2 (by omega)
            rw [wo_cnt_f (q := fun o => decide (¬ o = w) && bf_B kd wo o w) (by rw [h5, Bool.and_false])] at h9
            exact h9
          · have h5 := bz_t h4
            refine x_iload_n C dX3_placeOf_26 rfl rfl ?_
            refine x_iconst C (v := 1) dX3_placeOf_27 (by decide) ?_
            refine x_iadd C dX3_placeOf_28 ?_
            refine x_goto C (tgt := 33) dX3_placeOf_29 (by decide) ?_
            refine x_top (y := nI (1 + wo_cnt (fun o => decide (¬ o = w) && bf_B kd wo o w) k + 1)) (nI_1 _) ?_
            refine x_istore_n C dX3_placeOf_33 rfl (by decide) ?_
            refine x_iinc C dX3_placeOf_34 rfl (nI_1 k) (by decide) ?_
            refine x_goto C (tgt := 4) dX3_placeOf_37 (by decide) ?_
            have h9 := ih (k + 1) o1 o2 (by omega)
            rw [wo_cnt_t (q := fun o => decide (¬ o = w) && bf_B kd wo o w) (by rw [h5, decide_eq_true h3]; rfl), ← Nat.add_assoc] at h9
            exact h9
  exact loop gr 0 o1 o2 (by omega)
set_option maxRecDepth 100000 in
set_option maxHeartbeats 4000000 in
theorem c_X3_forward (t : Nat) (hax : ax + 1 = nI t) (ht : t ≤ no) (hno : no ≤ 12) (hod : ∀ k, k < no → od k < 12) : wo_E l yX3_forward cX3_forward 1 (none) 1 D ((cI, .int) :: (cZ, .boolean) :: tys) [.ref (a 0)] (wB cI cZ a co gr dy kd wo me ti td la go kp od no ax lv rh re rs ph pr o1 o2 ++ Y) none (wB cI cZ a co gr dy kd wo me ti td la go kp od no (nI (nx_B od kp go no t)) lv rh re rs ph pr o1 o2 ++ Y) := by
  refine wo_of (ls := [some (.ref (a 0))]) (by decide) (Nat.le_of_ble_eq_true rfl) rfl ?_
  intro p e s m args below meth c A C
  refine x_aload_n C dX3_forward_0 rfl rfl ?_
  refine x_dup C dX3_forward_1 rfl ?_
  refine gB0_at C dX3_forward_2 ?_
  refine x_iconst C (v := 1) dX3_forward_5 (by decide) ?_
  refine x_iadd C dX3_forward_6 ?_
  refine x_top hax ?_
  refine pB0_at C _ dX3_forward_7 ?_
  have loop : ∀ (n k : Nat), n + k = no → nx_B od kp go no k = nx_B od kp go no t → wo_W p l e (wo_rm 1) s m args below meth c A D 0 0 1 (MQ below (wo_Q D ((cI, .int) :: (cZ, .boolean) :: tys) none (wB cI cZ a co gr dy kd wo me ti td la go kp od no (nI (nx_B od kp go no t)) lv rh re rs ph pr o1 o2 ++ Y) A) args s 0 0 A) 10 [some (.ref (a 0))] [] (wB cI cZ a co gr dy kd wo me ti td la go kp od no (nI k) lv rh re rs ph pr o1 o2 ++ Y) := by
    intro n
    induction n with
    | zero =>
      intro k hk he
      refine x_aload_n C dX3_forward_10 rfl rfl ?_
      refine gB0_at C dX3_forward_11 ?_
      refine x_aload_n C dX3_forward_14 rfl rfl ?_
      refine gB0_ordered C dX3_forward_15 ?_
      refine x_icmp_ge C (tgt := 50) dX3_forward_18 (by decide) (fun h => ?_) (fun h => ?_)
      · exact x_vret C dX3_forward_50 rfl (by rw [← he, nxB_end (by omega) (by omega)])
      · exact absurd (show nI no ≤ nI k from nI_le (by omega) (by omega)) h
    | succ n ih =>
      intro k hk he
      refine x_aload_n C dX3_forward_10 rfl rfl ?_
      refine gB0_at C dX3_forward_11 ?_
      refine x_aload_n C dX3_forward_14 rfl rfl ?_
      refine gB0_ordered C dX3_forward_15 ?_
      refine x_icmp_ge C (tgt := 50) dX3_forward_18 (by decide) (fun h => ?_) (fun h => ?_)
      · exact absurd (wo_le (by omega) (by omega) h) (by omega)
      · have hk3 := hod k (by omega)
        refine x_aload_n C dX3_forward_21 rfl rfl ?_
        refine x_aload_n C dX3_forward_22 rfl rfl ?_
        refine gB0_order C dX3_forward_23 ?_
        refine x_aload_n C dX3_forward_26 rfl rfl ?_
        refine gB0_at C dX3_forward_27 ?_
        refine lB_od C _ rfl (by omega) dX3_forward_30 ?_
        refine x_callVi C gv_X3_89 (c_X3_isIn (od k) hk3) 0 rfl rfl rfl rfl (Nat.le_of_ble_eq_true rfl) ⟨(Nat.le_of_ble_eq_true rfl), (Nat.le_of_ble_eq_true rfl)⟩ ⟨Nat.zero_le _, Nat.zero_le _⟩ dX3_forward_31 ?_
        refine x_if_ne C (tgt := 50) dX3_forward_34 (by decide) (fun h2 => ?_) (fun h2 => ?_)
        · exact x_vret C dX3_forward_50 rfl (by rw [← he, nxB_stop (by omega) (bz_t h2)])
        · refine x_aload_n C dX3_forward_37 rfl rfl ?_
          refine x_dup C dX3_forward_38 rfl ?_
          refine gB0_at C dX3_forward_39 ?_
          refine x_iconst C (v := 1) dX3_forward_42 (by decide) ?_
          refine x_iadd C dX3_forward_43 ?_
          refine x_top (nI_1 k) ?_
          refine pB0_at C _ dX3_forward_44 ?_
          refine x_goto C (tgt := 10) dX3_forward_47 (by decide) ?_
          exact ih (k + 1) (by omega) (by rw [← he, nxB_step hno (by omega) (bz_f h2)])
  exact loop (no - t) t (by omega) rfl
set_option maxRecDepth 100000 in
set_option maxHeartbeats 4000000 in
theorem c_X3_byPlaces (hg : gr ≤ 12) : wo_S l yX3_byPlaces cX3_byPlaces 3 (none) 3 D ((cI, .int) :: (cZ, .boolean) :: tys) [.ref (a 0)] (wB cI cZ a co gr dy kd wo me ti td la go kp od no ax lv rh re rs ph pr o1 o2 ++ Y) none (fun o1 o2 => (wB cI cZ a co gr dy kd wo me ti td la go kp ((by_p (by_ok kd wo gr kp) gr gr (od, 0)).1) ((by_p (by_ok kd wo gr kp) gr gr (od, 0)).2) ax lv rh re rs ph pr o1 o2 ++ Y)) := by
  refine wo_ofS (ls := [some (.ref (a 0)), none, none]) (by decide) (Nat.le_of_ble_eq_true rfl) rfl ?_
  intro p e s m args below meth c A C
  refine x_aload_n C dX3_byPlaces_0 rfl rfl ?_
  refine x_iconst C (v := 0) dX3_byPlaces_1 (by decide) ?_
  refine pB0_ordered C 0 rfl dX3_byPlaces_2 ?_
  refine x_aload_n C dX3_byPlaces_5 rfl rfl ?_
  refine gB0_growers C dX3_byPlaces_6 ?_
  refine x_istore_n C dX3_byPlaces_9 rfl (by decide) ?_
  have outer : ∀ (q : Nat) (S : (Nat → Nat) × Nat) (o1 o2 : Nat → Int32) (x2 : Option Value), q ≤ gr → S.2 + wo_cnt (by_lt kd wo gr kp (q + 1)) gr ≤ gr → by_p (by_ok kd wo gr kp) gr q S = by_p (by_ok kd wo gr kp) gr gr (od, 0) → wo_W p l e (wo_rm 3) s m args below meth c A D 0 0 3 (MQ below (wo_QS D ((cI, .int) :: (cZ, .boolean) :: tys) none (fun o1 o2 => (wB cI cZ a co gr dy kd wo me ti td la go kp ((by_p (by_ok kd wo gr kp) gr gr (od, 0)).1) ((by_p (by_ok kd wo gr kp) gr gr (od, 0)).2) ax lv rh re rs ph pr o1 o2 ++ Y)) A) args s 0 0 A) 10 [some (.ref (a 0)), some (.int (nI q)), x2] [] (wB cI cZ a co gr dy kd wo me ti td la go kp (S.1) (S.2) ax lv rh re rs ph pr o1 o2 ++ Y) := by
    intro q
    induction q with
    | zero =>
      intro S o1 o2 x2 hq hS he
      refine x_iload_n C dX3_byPlaces_10 rfl rfl ?_
      refine x_if_le C (tgt := 75) dX3_byPlaces_11 (by decide) (fun h => ?_) (fun h => ?_)
      · exact x_vretS C dX3_byPlaces_75 rfl (by rw [← he]; rfl)
      · exact absurd (show nI 0 ≤ 0 by decide) h
    | succ q ihq =>
      intro S o1 o2 x2 hq hS he
      refine x_iload_n C dX3_byPlaces_10 rfl rfl ?_
      refine x_if_le C (tgt := 75) dX3_byPlaces_11 (by decide) (fun h => ?_) (fun h => ?_)
      · exact absurd (wo_le (a := q + 1) (b := 0) (by omega) (by omega) h) (by omega)
      · refine x_aload_n C dX3_byPlaces_14 rfl rfl ?_
        refine gB0_growers C dX3_byPlaces_15 ?_
        refine x_iconst C (v := 1) dX3_byPlaces_18 (by decide) ?_
        refine x_isub C dX3_byPlaces_19 ?_
        refine x_istore_n C dX3_byPlaces_20 rfl (by decide) ?_
        have inner : ∀ (n : Nat) (S2 : (Nat → Nat) × Nat) (o1 o2 : Nat → Int32), n ≤ gr → S2.2 + wo_cnt (by_ok kd wo gr kp (q + 1)) n + wo_cnt (by_lt kd wo gr kp (q + 1)) gr ≤ gr → by_w (by_ok kd wo gr kp) (q + 1) n S2 = by_w (by_ok kd wo gr kp) (q + 1) gr S → wo_W p l e (wo_rm 3) s m args below meth c A D 0 0 3 (MQ below (wo_QS D ((cI, .int) :: (cZ, .boolean) :: tys) none (fun o1 o2 => (wB cI cZ a co gr dy kd wo me ti td la go kp ((by_p (by_ok kd wo gr kp) gr gr (od, 0)).1) ((by_p (by_ok kd wo gr kp) gr gr (od, 0)).2) ax lv rh re rs ph pr o1 o2 ++ Y)) A) args s 0 0 A) 21 [some (.ref (a 0)), some (.int (nI (q + 1))), some (.int (nI n - 1))] [] (wB cI cZ a co gr dy kd wo me ti td la go kp (S2.1) (S2.2) ax lv rh re rs ph pr o1 o2 ++ Y) := by
          intro n
          induction n with
          | zero =>
            intro S2 o1 o2 hn hS2 he2
            refine x_iload_n C dX3_byPlaces_21 rfl rfl ?_
            refine x_if_lt C (tgt := 69) dX3_byPlaces_22 (by decide) (fun h2 => ?_) (fun h2 => ?_)
            · refine x_iinc C dX3_byPlaces_69 rfl (wo_m1' (b := q) rfl) (by decide) ?_
              refine x_goto C (tgt := 10) dX3_byPlaces_72 (by decide) ?_
              exact ihq S2 o1 o2 _ (by omega) (by simp only [wo_cnt] at hS2; omega) (by rw [← he, show S2 = by_w (by_ok kd wo gr kp) (q + 1) gr S from he2]; rfl)
            · exact absurd (show nI 0 - 1 < 0 by decide) h2
          | succ n ihn =>
            intro S2 o1 o2 hn hS2 he2
            refine x_ls (ls2 := [some (.ref (a 0)), some (.int (nI (q + 1))), some (.int (nI n))]) (by rw [nI_pred]) ?_
            refine x_iload_n C dX3_byPlaces_21 rfl rfl ?_
            refine x_if_lt C (tgt := 69) dX3_byPlaces_22 (by decide) (fun h2 => ?_) (fun h2 => ?_)
            · exact absurd h2 (nI_pos (by omega))
            · refine x_aload_n C dX3_byPlaces_25 rfl rfl ?_
              refine gB0_kept C dX3_byPlaces_26 ?_
              refine x_iload_n C dX3_byPlaces_29 rfl rfl ?_
              refine lB_kp C _ rfl (by omega) dX3_byPlaces_30 ?_
              refine x_if_eq C (tgt := 63) dX3_byPlaces_31 (by decide) (fun h3 => ?_) (fun h3 => ?_)
              · have h9 : by_ok kd wo gr kp (q + 1) n = false := by unfold by_ok; rw [bz_f h3]; rfl
                rw [wo_cnt_f h9] at hS2
                refine x_iinc C dX3_byPlaces_63 rfl (wo_dec _) (by decide) ?_
                refine x_goto C (tgt := 21) dX3_byPlaces_66 (by decide) ?_
                exact ihn S2 o1 o2 (by omega) hS2 (by rw [← he2]; show _ = by_w _ (q + 1) (n + 1) S2; rw [by_w, if_neg (by rw [h9]; decide)])
              · refine x_aload_n C dX3_byPlaces_34 rfl rfl ?_
                refine x_iload_n C dX3_byPlaces_35 rfl rfl ?_
                refine x_callVSi C gv_X3_73 (c_X3_placeOf n (by omega) hg) 0 rfl rfl rfl rfl (Nat.le_of_ble_eq_true rfl) ⟨(Nat.le_of_ble_eq_true rfl), (Nat.le_of_ble_eq_true rfl)⟩ ⟨Nat.zero_le _, Nat.zero_le _⟩ dX3_byPlaces_36 (fun o1 o2 => ?_)
                have hpl := pl_B_le (kd := kd) (wo := wo) (g := gr) (w := n) hg
                refine x_iload_n C dX3_byPlaces_39 rfl rfl ?_
                refine x_icmp_ne C (tgt := 63) dX3_byPlaces_40 (by decide) (fun h4 => ?_) (fun h4 => ?_)
                · have h5 : ¬ pl_B kd wo gr n = q + 1 := fun z => h4 (by rw [z])
                  have h9 : by_ok kd wo gr kp (q + 1) n = false := by unfold by_ok; rw [decide_eq_false h5, Bool.and_false]
                  rw [wo_cnt_f h9] at hS2
                  refine x_iinc C dX3_byPlaces_63 rfl (wo_dec _) (by decide) ?_
                  refine x_goto C (tgt := 21) dX3_byPlaces_66 (by decide) ?_
                  exact ihn S2 o1 o2 (by omega) hS2 (by rw [← he2]; show _ = by_w _ (q + 1) (n + 1) S2; rw [by_w, if_neg (by rw [h9]; decide)])
                · have h5 : pl_B kd wo gr n = q + 1 := wo_ieq (by omega) (by omega) h4
                  have h9 : by_ok kd wo gr kp (q + 1) n = true := by unfold by_ok; rw [decide_eq_true h5, bz_t h3]; rfl
                  rw [wo_cnt_t h9] at hS2
                  refine x_aload_n C dX3_byPlaces_43 rfl rfl ?_
                  refine gB0_order C dX3_byPlaces_44 ?_
                  refine x_aload_n C dX3_byPlaces_47 rfl rfl ?_
                  refine gB0_ordered C dX3_byPlaces_48 ?_
                  refine x_iload_n C dX3_byPlaces_51 rfl rfl ?_
                  refine sB_od C n rfl S2.2 rfl (by omega) dX3_byPlaces_52 ?_
                  refine x_aload_n C dX3_byPlaces_53 rfl rfl ?_
                  refine x_dup C dX3_byPlaces_54 rfl ?_
                  refine gB0_ordered C dX3_byPlaces_55 ?_
                  refine x_iconst C (v := 1) dX3_byPlaces_58 (by decide) ?_
                  refine x_iadd C dX3_byPlaces_59 ?_
                  refine pB0_ordered C (S2.2 + 1) (nI_1 S2.2) dX3_byPlaces_60 ?_
                  refine x_iinc C dX3_byPlaces_63 rfl (wo_dec _) (by decide) ?_
                  refine x_goto C (tgt := 21) dX3_byPlaces_66 (by decide) ?_
                  exact ihn (by_put S2 n) o1 o2 (by omega) (by show S2.2 + 1 + _ + _ ≤ gr; omega) (by rw [← he2]; show _ = by_w _ (q + 1) (n + 1) S2; rw [by_w, if_pos h9])
        exact inner gr S o1 o2 (Nat.le_refl _) (by rw [Nat.add_assoc, by_split]; exact hS) rfl
  exact outer gr (od, 0) o1 o2 _ (Nat.le_refl _) (by rw [Nat.zero_add]; exact wo_cnt_le _ _) rfl
end MDB
