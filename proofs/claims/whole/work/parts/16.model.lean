/-! ===== the reference: mirror functions and contracts ===== -/
def in_B (v lo hi : Int32) : Bool := decide (lo ≤ v ∧ v ≤ hi)
def ws_B (kd wo : Nat → Int32) (w : Nat) (f : Nat → Int32) : Nat → (Nat → Int32) × Nat
  | 0 => (f, 0)
  | r + 1 => if kd (7 * w + (r + 1)) = 1 then (rk_ins (ws_B kd wo w f r).2 (ws_B kd wo w f r).1 0 (wo (7 * w + (r + 1))), (ws_B kd wo w f r).2 + 1) else ws_B kd wo w f r
theorem ws_B_le (kd wo : Nat → Int32) (w : Nat) (f : Nat → Int32) : ∀ r, (ws_B kd wo w f r).2 ≤ r
  | 0 => Nat.le_refl 0
  | r + 1 => by
    have h := ws_B_le kd wo w f r
    unfold ws_B
    split
    · exact Nat.succ_le_succ h
    · omega
theorem up_ne {α : Type} {f : Nat → α} {k : Nat} {v : α} {j : Nat} (h : ¬ j = k) : va_up f k v j = f j := by unfold va_up; rw [if_neg h]
theorem up_eq {α : Type} {f : Nat → α} {k : Nat} {v : α} : va_up f k v k = v := by unfold va_up; rw [if_pos rfl]
theorem rk_ins_out : ∀ (n : Nat) (f : Nat → Int32) (fr : Nat) (v : Int32) (j : Nat), (j < fr ∨ fr + n < j) → rk_ins n f fr v j = f j
  | 0, f, fr, v, j, h => by unfold rk_ins; exact up_ne (by omega)
  | n + 1, f, fr, v, j, h => by
    unfold rk_ins
    split
    · rw [rk_ins_out n _ fr v j (by omega), up_ne (by omega)]
    · exact up_ne (by omega)
theorem rk_ins_congr : ∀ (n : Nat) (f g : Nat → Int32) (v : Int32), (∀ k, k < n → f k = g k) → ∀ k, k ≤ n → rk_ins n f 0 v k = rk_ins n g 0 v k
  | 0, f, g, v, h, k, hk => by
    have h0 : k = 0 := by omega
    subst h0
    unfold rk_ins; rw [up_eq, up_eq]
  | n + 1, f, g, v, h, k, hk => by
    unfold rk_ins
    rw [Nat.zero_add, h n (by omega)]
    split
    · by_cases hk2 : k ≤ n
      · refine rk_ins_congr n _ _ v (fun j hj => ?_) k hk2
        rw [up_ne (by omega), up_ne (by omega)]
        exact h j (by omega)
      · have h1 : k = n + 1 := by omega
        subst h1
        rw [rk_ins_out _ _ _ _ _ (by omega), rk_ins_out _ _ _ _ _ (by omega), up_eq, up_eq]
    · by_cases hk2 : k = n + 1
      · subst hk2; rw [up_eq, up_eq]
      · rw [up_ne hk2, up_ne hk2]; exact h k (by omega)
theorem ws_B_indep (kd wo : Nat → Int32) (w : Nat) (f g : Nat → Int32) : ∀ r, (ws_B kd wo w f r).2 = (ws_B kd wo w g r).2 ∧ ∀ k, k < (ws_B kd wo w f r).2 → (ws_B kd wo w f r).1 k = (ws_B kd wo w g r).1 k
  | 0 => ⟨rfl, fun k h => absurd h (Nat.not_lt_zero k)⟩
  | r + 1 => by
    obtain ⟨h1, h2⟩ := ws_B_indep kd wo w f g r
    unfold ws_B
    split
    · refine ⟨by rw [h1], fun k hk => ?_⟩
      show rk_ins (ws_B kd wo w f r).2 _ 0 _ k = rk_ins (ws_B kd wo w g r).2 _ 0 _ k
      rw [← h1]
      exact rk_ins_congr _ _ _ _ h2 k (Nat.le_of_lt_succ hk)
    · exact ⟨h1, h2⟩
/-- how many weights, and the k-th of them -/
def wn_B (kd wo : Nat → Int32) (w : Nat) : Nat := (ws_B kd wo w (fun _ => 0) 6).2
def wk_B (kd wo : Nat → Int32) (w : Nat) : Nat → Int32 := (ws_B kd wo w (fun _ => 0) 6).1
theorem wn_eq (kd wo : Nat → Int32) (w : Nat) (f : Nat → Int32) : (ws_B kd wo w f 6).2 = wn_B kd wo w := (ws_B_indep kd wo w f _ 6).1
theorem wk_eq (kd wo : Nat → Int32) (w : Nat) (f : Nat → Int32) {k : Nat} (h : k < wn_B kd wo w) : (ws_B kd wo w f 6).1 k = wk_B kd wo w k := (ws_B_indep kd wo w f _ 6).2 k (by rw [wn_eq]; exact h)
theorem wn_le (kd wo : Nat → Int32) (w : Nat) : wn_B kd wo w ≤ 6 := ws_B_le ..
def lx_B (f g : Nat → Int32) (n m : Nat) : Nat → Nat → Bool
  | 0, _ => false
  | q + 1, k => if k < n then (if k < m then (if f k = g k then lx_B f g n m q (k + 1) else decide (g k < f k)) else true) else false
def bf_B (kd wo : Nat → Int32) (u w : Nat) : Bool := lx_B (wk_B kd wo u) (wk_B kd wo w) (wn_B kd wo u) (wn_B kd wo w) 7 0
def pl_B (kd wo : Nat → Int32) (g w : Nat) : Nat := 1 + wo_cnt (fun o => decide (¬ o = w) && bf_B kd wo o w) g
theorem wo_7 (w d : Nat) : (7 : Int32) * nI w + nI d = nI (7 * w + d) := by rw [show (7 : Int32) = nI 7 from rfl, pk_mul, nI_add]
section MDL
variable {l : Launch} {D : va_G} {tys : List (ClassId × FieldType)} {cI cZ : ClassId} {a : Nat → Nat} {Y : va_W} {co : Int32} {gr : Nat} {dy : Nat} {kd : Nat → Int32} {wo : Nat → Int32} {me : Nat → Bool} {ti : Nat → Int32} {td : Nat → Bool} {la : Nat → Nat} {go : Nat → Bool} {kp : Nat → Bool} {od : Nat → Nat} {no : Nat} {ax : Int32} {lv : Bool} {rh : Bool} {re : Int32} {rs : Int32} {ph : Bool} {pr : Int32} {o1 : Nat → Int32} {o2 : Nat → Int32}
set_option maxRecDepth 100000 in
set_option maxHeartbeats 4000000 in
theorem c_X3_in {ws : va_W} (v lo hi : Int32) : wo_E l yX3_in cX3_in 3 (some .boolean) 0 D ((cI, .int) :: (cZ, .boolean) :: tys) [.int v, .int lo, .int hi] (ws) (some (.int (bz (in_B v lo hi)))) (ws) := by
  refine wo_of (ls := [some (.int v), some (.int lo), some (.int hi)]) (by decide) (Nat.le_of_ble_eq_true rfl) rfl ?_
  intro p e s m args below meth c A C
  refine x_iload_n C dX3_in_0 rfl rfl ?_
  refine x_iload_n C dX3_in_1 rfl rfl ?_
  refine x_icmp_lt C (tgt := 14) dX3_in_2 (by decide) (fun h => ?_) (fun h => ?_)
  · refine x_iconst C (v := 0) dX3_in_14 (by decide) ?_
    exact x_zret C dX3_in_15 (b := false) rfl (by rw [in_B, decide_eq_false (fun z => absurd h (Int32.not_lt.mpr z.1))]) rfl
  · refine x_iload_n C dX3_in_5 rfl rfl ?_
    refine x_iload_n C dX3_in_6 rfl rfl ?_
    refine x_icmp_gt C (tgt := 14) dX3_in_7 (by decide) (fun h2 => ?_) (fun h2 => ?_)
    · refine x_iconst C (v := 0) dX3_in_14 (by decide) ?_
      exact x_zret C dX3_in_15 (b := false) rfl (by rw [in_B, decide_eq_false (fun z => absurd h2 (Int32.not_lt.mpr z.2))]) rfl
    · refine x_iconst C (v := 1) dX3_in_10 (by decide) ?_
      refine x_goto C (tgt := 15) dX3_in_11 (by decide) ?_
      exact x_zret C dX3_in_15 (b := true) rfl (by rw [in_B, decide_eq_true ⟨Int32.not_lt.mp h, Int32.not_lt.mp h2⟩]) rfl
set_option maxRecDepth 100000 in
set_option maxHeartbeats 4000000 in
theorem c_X3_thrown  : wo_E l yX3_thrown cX3_thrown 1 (some .int) 0 D ((cI, .int) :: (cZ, .boolean) :: tys) [.ref (a 0)] (wB cI cZ a co gr dy kd wo me ti td la go kp od no ax lv rh re rs ph pr o1 o2 ++ Y) (some (.int co)) (wB cI cZ a co gr dy kd wo me ti td la go kp od no ax lv rh re rs ph pr o1 o2 ++ Y) := by
  refine wo_of (ls := [some (.ref (a 0))]) (by decide) (Nat.le_of_ble_eq_true rfl) rfl ?_
  intro p e s m args below meth c A C
  refine x_aload_n C dX3_thrown_0 rfl rfl ?_
  refine gB0_code C dX3_thrown_1 ?_
  exact x_iret C dX3_thrown_4 rfl rfl
set_option maxRecDepth 100000 in
set_option maxHeartbeats 4000000 in
theorem c_X3_isIn (w : Nat) (hw : w < 12) : wo_E l yX3_isIn cX3_isIn 2 (some .boolean) 0 D ((cI, .int) :: (cZ, .boolean) :: tys) [.ref (a 0), .int (nI w)] (wB cI cZ a co gr dy kd wo me ti td la go kp od no ax lv rh re rs ph pr o1 o2 ++ Y) (some (.int (bz (kp w && !go w)))) (wB cI cZ a co gr dy kd wo me ti td la go kp od no ax lv rh re rs ph pr o1 o2 ++ Y) := by
  refine wo_of (ls := [some (.ref (a 0)), some (.int (nI w))]) (by decide) (Nat.le_of_ble_eq_true rfl) rfl ?_
  intro p e s m args below meth c A C
  refine x_aload_n C dX3_isIn_0 rfl rfl ?_
  refine gB0_kept C dX3_isIn_1 ?_
  refine x_iload_n C dX3_isIn_4 rfl rfl ?_
  refine lB_kp C _ rfl (by omega) dX3_isIn_5 ?_
  refine x_if_eq C (tgt := 22) dX3_isIn_6 (by decide) (fun h => ?_) (fun h => ?_)
  · refine x_iconst C (v := 0) dX3_isIn_22 (by decide) ?_
    exact x_zret C dX3_isIn_23 (b := false) rfl (by rw [bz_f h]; rfl) rfl
  · refine x_aload_n C dX3_isIn_9 rfl rfl ?_
    refine gB0_gone C dX3_isIn_10 ?_
    refine x_iload_n C dX3_isIn_13 rfl rfl ?_
    refine lB_go C _ rfl (by omega) dX3_isIn_14 ?_
    refine x_if_ne C (tgt := 22) dX3_isIn_15 (by decide) (fun h2 => ?_) (fun h2 => ?_)
    · refine x_iconst C (v := 0) dX3_isIn_22 (by decide) ?_
      exact x_zret C dX3_isIn_23 (b := false) rfl (by rw [bz_t h, bz_t h2]; rfl) rfl
    · refine x_iconst C (v := 1) dX3_isIn_18 (by decide) ?_
      refine x_goto C (tgt := 23) dX3_isIn_19 (by decide) ?_
      exact x_zret C dX3_isIn_23 (b := true) rfl (by rw [bz_t h, bz_f h2]; rfl) rfl
set_option maxRecDepth 100000 in
set_option maxHeartbeats 4000000 in
theorem c_X3_weightsOf_o1 (w : Nat) (hw : w < 12) : wo_E l yX3_weightsOf cX3_weightsOf 7 (some .int) 0 D ((cI, .int) :: (cZ, .boolean) :: tys) [.ref (a 0), .int (nI w), .ref (a 10)] (wB cI cZ a co gr dy kd wo me ti td la go kp od no ax lv rh re rs ph pr o1 o2 ++ Y) (some (.int (nI (wn_B kd wo w)))) (wB cI cZ a co gr dy kd wo me ti td la go kp od no ax lv rh re rs ph pr ((ws_B kd wo w o1 6).1) o2 ++ Y) := by
  refine wo_of (ls := [some (.ref (a 0)), some (.int (nI w)), some (.ref (a 10)), none, none, none, none]) (by decide) (Nat.le_of_ble_eq_true rfl) rfl ?_
  intro p e s m args below meth c A C
  refine x_iconst C (v := 0) dX3_weightsOf_0 (by decide) ?_
  refine x_istore_n C dX3_weightsOf_1 rfl (by decide) ?_
  refine x_iconst C (v := 1) dX3_weightsOf_2 (by decide) ?_
  refine x_istore C dX3_weightsOf_3 (by decide) ?_
  have outer : ∀ (n r : Nat) (x5 x6 : Option Value), n + r = 6 → wo_W p l e (wo_rm 0) s m args below meth c A D 0 0 7 (MQ below (wo_Q D ((cI, .int) :: (cZ, .boolean) :: tys) (some (.int (nI (wn_B kd wo w)))) (wB cI cZ a co gr dy kd wo me ti td la go kp od no ax lv rh re rs ph pr ((ws_B kd wo w o1 6).1) o2 ++ Y) A) args s 0 0 A) 5 [some (.ref (a 0)), some (.int (nI w)), some (.ref (a 10)), some (.int (nI (ws_B kd wo w o1 r).2)), some (.int (nI (r + 1))), x5, x6] [] (wB cI cZ a co gr dy kd wo me ti td la go kp od no ax lv rh re rs ph pr ((ws_B kd wo w o1 r).1) o2 ++ Y) := by
    intro n
    induction n with
    | zero =>
      intro r x5 x6 hr
      refine x_iload C dX3_weightsOf_5 rfl ?_
      refine x_bipush C (v := 6) dX3_weightsOf_7 (by decide) ?_
      refine x_icmp_gt C (tgt := 92) dX3_weightsOf_9 (by decide) (fun h => ?_) (fun h => ?_)
      · have hr2 : r = 6 := by omega
        subst hr2
        refine x_iload_n C dX3_weightsOf_92 rfl rfl ?_
        exact x_iret C dX3_weightsOf_93 (by rw [wn_eq]) rfl
      · exact absurd (show nI 6 < nI (r + 1) from nI_lt (by omega) (by omega)) h
    | succ n ih =>
      intro r x5 x6 hr
      refine x_iload C dX3_weightsOf_5 rfl ?_
      refine x_bipush C (v := 6) dX3_weightsOf_7 (by decide) ?_
      refine x_icmp_gt C (tgt := 92) dX3_weightsOf_9 (by decide) (fun h => ?_) (fun h => ?_)
      · exact absurd (wo_lt (a := 6) (b := r + 1) (by omega) (by omega) h) (by omega)
      · refine x_bipush C (v := 7) dX3_weightsOf_12 (by decide) ?_
        refine x_iload_n C dX3_weightsOf_14 rfl rfl ?_
        refine x_imul C dX3_weightsOf_15 ?_
        refine x_iload C dX3_weightsOf_16 rfl ?_
        refine x_iadd C dX3_weightsOf_18 ?_
        refine x_top (wo_7 w (r + 1)) ?_
        refine x_istore C dX3_weightsOf_19 (by decide) ?_
        refine x_aload_n C dX3_weightsOf_21 rfl rfl ?_
        refine gB0_kind C dX3_weightsOf_22 ?_
        refine x_iload C dX3_weightsOf_25 rfl ?_
        refine lB_kd C _ rfl (by omega) dX3_weightsOf_27 ?_
        refine x_iconst C (v := 1) dX3_weightsOf_28 (by decide) ?_
        refine x_icmp_ne C (tgt := 86) dX3_weightsOf_29 (by decide) (fun h2 => ?_) (fun h2 => ?_)
        · refine x_iinc C dX3_weightsOf_86 rfl (nI_1 (r + 1)) (by decide) ?_
          refine x_goto C (tgt := 5) dX3_weightsOf_89 (by decide) ?_
          have h9 := fun x5 x6 => ih (r + 1) x5 x6 (by omega)
          rw [show (ws_B kd wo w o1 (r + 1)) = ws_B kd wo w o1 r from by rw [ws_B, if_neg h2]] at h9
          exact h9 _ _
        · have hle := ws_B_le kd wo w o1 r
          refine x_iload_n C dX3_weightsOf_32 rfl rfl ?_
          refine x_istore C dX3_weightsOf_33 (by decide) ?_
          have hs : ws_B kd wo w o1 (r + 1) = (rk_ins (ws_B kd wo w o1 r).2 (ws_B kd wo w o1 r).1 0 (wo (7 * w + (r + 1))), (ws_B kd wo w o1 r).2 + 1) := by rw [ws_B, if_pos h2]
          have inner : ∀ (k : Nat) (f : Nat → Int32), k ≤ 5 → rk_ins k f 0 (wo (7 * w + (r + 1))) = rk_ins (ws_B kd wo w o1 r).2 (ws_B kd wo w o1 r).1 0 (wo (7 * w + (r + 1))) → wo_W p l e (wo_rm 0) s m args below meth c A D 0 0 7 (MQ below (wo_Q D ((cI, .int) :: (cZ, .boolean) :: tys) (some (.int (nI (wn_B kd wo w)))) (wB cI cZ a co gr dy kd wo me ti td la go kp od no ax lv rh re rs ph pr ((ws_B kd wo w o1 6).1) o2 ++ Y) A) args s 0 0 A) 35 [some (.ref (a 0)), some (.int (nI w)), some (.ref (a 10)), some (.int (nI (ws_B kd wo w o1 r).2)), some (.int (nI (r + 1))), some (.int (nI (7 * w + (r + 1)))), some (.int (nI k))] [] (wB cI cZ a co gr dy kd wo me ti td la go kp od no ax lv rh re rs ph pr (f) o2 ++ Y) := by
            intro k
            induction k with
            | zero =>
              intro f hk he
              refine x_iload C dX3_weightsOf_35 rfl ?_
              refine x_if_le C (tgt := 72) dX3_weightsOf_37 (by decide) (fun h3 => ?_) (fun h3 => ?_)
              · refine x_aload_n C dX3_weightsOf_72 rfl rfl ?_
                refine x_iload C dX3_weightsOf_73 rfl ?_
                refine x_aload_n C dX3_weightsOf_75 rfl rfl ?_
                refine gB0_worth C dX3_weightsOf_76 ?_
                refine x_iload C dX3_weightsOf_79 rfl ?_
                refine lB_wo C _ rfl (by omega) dX3_weightsOf_81 ?_
                refine sB_o1 C _ 0 rfl (by omega) dX3_weightsOf_82 ?_
                refine x_iinc C dX3_weightsOf_83 rfl (nI_1 _) (by decide) ?_
                refine x_iinc C dX3_weightsOf_86 rfl (nI_1 (r + 1)) (by decide) ?_
                refine x_goto C (tgt := 5) dX3_weightsOf_89 (by decide) ?_
                have h9 := fun x5 x6 => ih (r + 1) x5 x6 (by omega)
                rw [hs, ← he, rk_ins] at h9
                exact h9 _ _
              · exact absurd (show nI 0 ≤ 0 by decide) h3
            | succ k ihk =>
              intro f hk he
              refine x_iload C dX3_weightsOf_35 rfl ?_
              refine x_if_le C (tgt := 72) dX3_weightsOf_37 (by decide) (fun h3 => ?_) (fun h3 => ?_)
              · exact absurd (wo_le (a := k + 1) (b := 0) (by omega) (by omega) h3) (by omega)
              · refine x_aload_n C dX3_weightsOf_40 rfl rfl ?_
                refine x_iload C dX3_weightsOf_41 rfl ?_
                refine x_iconst C (v := 1) dX3_weightsOf_43 (by decide) ?_
                refine x_isub C dX3_weightsOf_44 ?_
                refine lB_o1 C k (wo_m1 rfl) (by omega) dX3_weightsOf_45 ?_
                refine x_aload_n C dX3_weightsOf_46 rfl rfl ?_
                refine gB0_worth C dX3_weightsOf_47 ?_
                refine x_iload C dX3_weightsOf_50 rfl ?_
                refine lB_wo C _ rfl (by omega) dX3_weightsOf_52 ?_
                refine x_icmp_ge C (tgt := 72) dX3_weightsOf_53 (by decide) (fun h4 => ?_) (fun h4 => ?_)
                · refine x_aload_n C dX3_weightsOf_72 rfl rfl ?_
                  refine x_iload C dX3_weightsOf_73 rfl ?_
                  refine x_aload_n C dX3_weightsOf_75 rfl rfl ?_
                  refine gB0_worth C dX3_weightsOf_76 ?_
                  refine x_iload C dX3_weightsOf_79 rfl ?_
                  refine lB_wo C _ rfl (by omega) dX3_weightsOf_81 ?_
                  refine sB_o1 C _ (k + 1) rfl (by omega) dX3_weightsOf_82 ?_
                  refine x_iinc C dX3_weightsOf_83 rfl (nI_1 _) (by decide) ?_
                  refine x_iinc C dX3_weightsOf_86 rfl (nI_1 (r + 1)) (by decide) ?_
                  refine x_goto C (tgt := 5) dX3_weightsOf_89 (by decide) ?_
                  have h9 := fun x5 x6 => ih (r + 1) x5 x6 (by omega)
                  rw [hs, ← he, rk_ins, Nat.zero_add, if_neg (Int32.not_lt.mpr h4)] at h9
                  exact h9 _ _
                · have h5 : f k < wo (7 * w + (r + 1)) := Int32.not_le.mp h4
                  refine x_aload_n C dX3_weightsOf_56 rfl rfl ?_
                  refine x_iload C dX3_weightsOf_57 rfl ?_
                  refine x_aload_n C dX3_weightsOf_59 rfl rfl ?_
                  refine x_iload C dX3_weightsOf_60 rfl ?_
                  refine x_iconst C (v := 1) dX3_weightsOf_62 (by decide) ?_
                  refine x_isub C dX3_weightsOf_63 ?_
                  refine lB_o1 C k (wo_m1 rfl) (by omega) dX3_weightsOf_64 ?_
                  refine sB_o1 C _ (k + 1) rfl (by omega) dX3_weightsOf_65 ?_
                  refine x_iinc C dX3_weightsOf_66 rfl (wo_m1' (b := k) rfl) (by decide) ?_
                  refine x_goto C (tgt := 35) dX3_weightsOf_69 (by decide) ?_
                  exact ihk _ (by omega) (by rw [← he]; show _ = rk_ins (k + 1) f 0 _; rw [rk_ins, Nat.zero_add, if_pos h5])
          exact inner (ws_B kd wo w o1 r).2 (ws_B kd wo w o1 r).1 (by omega) rfl
  exact outer 6 0 _ _ rfl
set_option maxRecDepth 100000 in
set_option maxHeartbeats 4000000 in
theorem c_X3_weightsOf_o2 (w : Nat) (hw : w < 12) : wo_E l yX3_weightsOf cX3_weightsOf 7 (some .int) 0 D ((cI, .int) :: (cZ, .boolean) :: tys) [.ref (a 0), .int (nI w), .ref (a 11)] (wB cI cZ a co gr dy kd wo me ti td la go kp od no ax lv rh re rs ph pr o1 o2 ++ Y) (some (.int (nI (wn_B kd wo w)))) (wB cI cZ a co gr dy kd wo me ti td la go kp od no ax lv rh re rs ph pr o1 ((ws_B kd wo w o2 6).1) ++ Y) := by
  refine wo_of (ls := [some (.ref (a 0)), some (.int (nI w)), some (.ref (a 11)), none, none, none, none]) (by decide) (Nat.le_of_ble_eq_true rfl) rfl ?_
  intro p e s m args below meth c A C
  refine x_iconst C (v := 0) dX3_weightsOf_0 (by decide) ?_
  refine x_istore_n C dX3_weightsOf_1 rfl (by decide) ?_
  refine x_iconst C (v := 1) dX3_weightsOf_2 (by decide) ?_
  refine x_istore C dX3_weightsOf_3 (by decide) ?_
  have outer : ∀ (n r : Nat) (x5 x6 : Option Value), n + r = 6 → wo_W p l e (wo_rm 0) s m args below meth c A D 0 0 7 (MQ below (wo_Q D ((cI, .int) :: (cZ, .boolean) :: tys) (some (.int (nI (wn_B kd wo w)))) (wB cI cZ a co gr dy kd wo me ti td la go kp od no ax lv rh re rs ph pr o1 ((ws_B kd wo w o2 6).1) ++ Y) A) args s 0 0 A) 5 [some (.ref (a 0)), some (.int (nI w)), some (.ref (a 11)), some (.int (nI (ws_B kd wo w o2 r).2)), some (.int (nI (r + 1))), x5, x6] [] (wB cI cZ a co gr dy kd wo me ti td la go kp od no ax lv rh re rs ph pr o1 ((ws_B kd wo w o2 r).1) ++ Y) := by
    intro n
    induction n with
    | zero =>
      intro r x5 x6 hr
      refine x_iload C dX3_weightsOf_5 rfl ?_
      refine x_bipush C (v := 6) dX3_weightsOf_7 (by decide) ?_
      refine x_icmp_gt C (tgt := 92) dX3_weightsOf_9 (by decide) (fun h => ?_) (fun h => ?_)
      · have hr2 : r = 6 := by omega
        subst hr2
        refine x_iload_n C dX3_weightsOf_92 rfl rfl ?_
        exact x_iret C dX3_weightsOf_93 (by rw [wn_eq]) rfl
      · exact absurd (show nI 6 < nI (r + 1) from nI_lt (by omega) (by omega)) h
    | succ n ih =>
      intro r x5 x6 hr
      refine x_iload C dX3_weightsOf_5 rfl ?_
      refine x_bipush C (v := 6) dX3_weightsOf_7 (by decide) ?_
      refine x_icmp_gt C (tgt := 92) dX3_weightsOf_9 (by decide) (fun h => ?_) (fun h => ?_)
      · exact absurd (wo_lt (a := 6) (b := r + 1) (by omega) (by omega) h) (by omega)
      · refine x_bipush C (v := 7) dX3_weightsOf_12 (by decide) ?_
        refine x_iload_n C dX3_weightsOf_14 rfl rfl ?_
        refine x_imul C dX3_weightsOf_15 ?_
        refine x_iload C dX3_weightsOf_16 rfl ?_
        refine x_iadd C dX3_weightsOf_18 ?_
        refine x_top (wo_7 w (r + 1)) ?_
        refine x_istore C dX3_weightsOf_19 (by decide) ?_
        refine x_aload_n C dX3_weightsOf_21 rfl rfl ?_
        refine gB0_kind C dX3_weightsOf_22 ?_
        refine x_iload C dX3_weightsOf_25 rfl ?_
        refine lB_kd C _ rfl (by omega) dX3_weightsOf_27 ?_
        refine x_iconst C (v := 1) dX3_weightsOf_28 (by decide) ?_
        refine x_icmp_ne C (tgt := 86) dX3_weightsOf_29 (by decide) (fun h2 => ?_) (fun h2 => ?_)
        · refine x_iinc C dX3_weightsOf_86 rfl (nI_1 (r + 1)) (by decide) ?_
          refine x_goto C (tgt := 5) dX3_weightsOf_89 (by decide) ?_
          have h9 := fun x5 x6 => ih (r + 1) x5 x6 (by omega)
          rw [show (ws_B kd wo w o2 (r + 1)) = ws_B kd wo w o2 r from by rw [ws_B, if_neg h2]] at h9
          exact h9 _ _
        · have hle := ws_B_le kd wo w o2 r
          refine x_iload_n C dX3_weightsOf_32 rfl rfl ?_
          refine x_istore C dX3_weightsOf_33 (by decide) ?_
          have hs : ws_B kd wo w o2 (r + 1) = (rk_ins (ws_B kd wo w o2 r).2 (ws_B kd wo w o2 r).1 0 (wo (7 * w + (r + 1))), (ws_B kd wo w o2 r).2 + 1) := by rw [ws_B, if_pos h2]
          have inner : ∀ (k : Nat) (f : Nat → Int32), k ≤ 5 → rk_ins k f 0 (wo (7 * w + (r + 1))) = rk_ins (ws_B kd wo w o2 r).2 (ws_B kd wo w o2 r).1 0 (wo (7 * w + (r + 1))) → wo_W p l e (wo_rm 0) s m args below meth c A D 0 0 7 (MQ below (wo_Q D ((cI, .int) :: (cZ, .boolean) :: tys) (some (.int (nI (wn_B kd wo w)))) (wB cI cZ a co gr dy kd wo me ti td la go kp od no ax lv rh re rs ph pr o1 ((ws_B kd wo w o2 6).1) ++ Y) A) args s 0 0 A) 35 [some (.ref (a 0)), some (.int (nI w)), some (.ref (a 11)), some (.int (nI (ws_B kd wo w o2 r).2)), some (.int (nI (r + 1))), some (.int (nI (7 * w + (r + 1)))), some (.int (nI k))] [] (wB cI cZ a co gr dy kd wo me ti td la go kp od no ax lv rh re rs ph pr o1 (f) ++ Y) := by
            intro k
            induction k with
            | zero =>
              intro f hk he
              refine x_iload C dX3_weightsOf_35 rfl ?_
              refine x_if_le C (tgt := 72) dX3_weightsOf_37 (by decide) (fun h3 => ?_) (fun h3 => ?_)
              · refine x_aload_n C dX3_weightsOf_72 rfl rfl ?_
                refine x_iload C dX3_weightsOf_73 rfl ?_
                refine x_aload_n C dX3_weightsOf_75 rfl rfl ?_
                refine gB0_worth C dX3_weightsOf_76 ?_
                refine x_iload C dX3_weightsOf_79 rfl ?_
                refine lB_wo C _ rfl (by omega) dX3_weightsOf_81 ?_
                refine sB_o2 C _ 0 rfl (by omega) dX3_weightsOf_82 ?_
                refine x_iinc C dX3_weightsOf_83 rfl (nI_1 _) (by decide) ?_
                refine x_iinc C dX3_weightsOf_86 rfl (nI_1 (r + 1)) (by decide) ?_
                refine x_goto C (tgt := 5) dX3_weightsOf_89 (by decide) ?_
                have h9 := fun x5 x6 => ih (r + 1) x5 x6 (by omega)
                rw [hs, ← he, rk_ins] at h9
                exact h9 _ _
              · exact absurd (show nI 0 ≤ 0 by decide) h3
            | succ k ihk =>
              intro f hk he
              refine x_iload C dX3_weightsOf_35 rfl ?_
              refine x_if_le C (tgt := 72) dX3_weightsOf_37 (by decide) (fun h3 => ?_) (fun h3 => ?_)
              · exact absurd (wo_le (a := k + 1) (b := 0) (by omega) (by omega) h3) (by omega)
              · refine x_aload_n C dX3_weightsOf_40 rfl rfl ?_
                refine x_iload C dX3_weightsOf_41 rfl ?_
                refine x_iconst C (v := 1) dX3_weightsOf_43 (by decide) ?_
                refine x_isub C dX3_weightsOf_44 ?_
                refine lB_o2 C k (wo_m1 rfl) (by omega) dX3_weightsOf_45 ?_
                refine x_aload_n C dX3_weightsOf_46 rfl rfl ?_
                refine gB0_worth C dX3_weightsOf_47 ?_
                refine x_iload C dX3_weightsOf_50 rfl ?_
                refine lB_wo C _ rfl (by omega) dX3_weightsOf_52 ?_
                refine x_icmp_ge C (tgt := 72) dX3_weightsOf_53 (by decide) (fun h4 => ?_) (fun h4 => ?_)
                · refine x_aload_n C dX3_weightsOf_72 rfl rfl ?_
                  refine x_iload C dX3_weightsOf_73 rfl ?_
                  refine x_aload_n C dX3_weightsOf_75 rfl rfl ?_
                  refine gB0_worth C dX3_weightsOf_76 ?_
                  refine x_iload C dX3_weightsOf_79 rfl ?_
                  refine lB_wo C _ rfl (by omega) dX3_weightsOf_81 ?_
                  refine sB_o2 C _ (k + 1) rfl (by omega) dX3_weightsOf_82 ?_
                  refine x_iinc C dX3_weightsOf_83 rfl (nI_1 _) (by decide) ?_
                  refine x_iinc C dX3_weightsOf_86 rfl (nI_1 (r + 1)) (by decide) ?_
                  refine x_goto C (tgt := 5) dX3_weightsOf_89 (by decide) ?_
                  have h9 := fun x5 x6 => ih (r + 1) x5 x6 (by omega)
                  rw [hs, ← he, rk_ins, Nat.zero_add, if_neg (Int32.not_lt.mpr h4)] at h9
                  exact h9 _ _
                · have h5 : f k < wo (7 * w + (r + 1)) := Int32.not_le.mp h4
                  refine x_aload_n C dX3_weightsOf_56 rfl rfl ?_
                  refine x_iload C dX3_weightsOf_57 rfl ?_
                  refine x_aload_n C dX3_weightsOf_59 rfl rfl ?_
                  refine x_iload C dX3_weightsOf_60 rfl ?_
                  refine x_iconst C (v := 1) dX3_weightsOf_62 (by decide) ?_
                  refine x_isub C dX3_weightsOf_63 ?_
                  refine lB_o2 C k (wo_m1 rfl) (by omega) dX3_weightsOf_64 ?_
                  refine sB_o2 C _ (k + 1) rfl (by omega) dX3_weightsOf_65 ?_
                  refine x_iinc C dX3_weightsOf_66 rfl (wo_m1' (b := k) rfl) (by decide) ?_
                  refine x_goto C (tgt := 35) dX3_weightsOf_69 (by decide) ?_
                  exact ihk _ (by omega) (by rw [← he]; show _ = rk_ins (k + 1) f 0 _; rw [rk_ins, Nat.zero_add, if_pos h5])
          exact inner (ws_B kd wo w o2 r).2 (ws_B kd wo w o2 r).1 (by omega) rfl
  exact outer 6 0 _ _ rfl
end MDL
