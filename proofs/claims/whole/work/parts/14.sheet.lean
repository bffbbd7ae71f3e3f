/-! ===== the sheet: mirror functions and contracts ===== -/
theorem bz_f {b : Bool} (h : bz b = 0) : b = false := by cases b; rfl; exact absurd h (by decide)
theorem bz_t {b : Bool} (h : ¬ bz b = 0) : b = true := by cases b; exact absurd rfl h; rfl
theorem wo_lt {a b : Nat} (hb : b < 2147483648) (ha : a < 2147483648) (h : nI a < nI b) : a < b := (nI_ltI (by omega) (by omega)).mp h
theorem wo_le {a b : Nat} (hb : b < 2147483648) (ha : a < 2147483648) (h : nI a ≤ nI b) : a ≤ b := (nI_leI (by omega) (by omega)).mp h
theorem wo_nlt {a b : Nat} (hb : b < 2147483648) (ha : a < 2147483648) (h : ¬ nI a < nI b) : b ≤ a := Nat.le_of_not_lt fun q => h ((nI_ltI (by omega) (by omega)).mpr q)
theorem wo_nle {a b : Nat} (hb : b < 2147483648) (ha : a < 2147483648) (h : ¬ nI a ≤ nI b) : b < a := Nat.lt_of_not_le fun q => h ((nI_leI (by omega) (by omega)).mpr q)
theorem wo_ieq {a b : Nat} (hb : b < 2147483648) (ha : a < 2147483648) (h : nI a = nI b) : a = b := (nI_eq (by omega) (by omega)).mp h
theorem wo_m1 {a b : Nat} (h : a = b + 1) : nI a - 1 = nI b := by subst h; exact nI_pred b
theorem wo_m1' {a b : Nat} (h : a = b + 1) : nI a + Int32.ofInt (-1) = nI b := by subst h; exact pk_m1 b
def wo_none : Int32 := -1000000
/-- the shifts of rank: from place fr + k down -/
def rk_ins : Nat → (Nat → Int32) → Nat → Int32 → (Nat → Int32)
  | 0, f, fr, v => va_up f fr v
  | k + 1, f, fr, v => if f (fr + k) < v then rk_ins k (va_up f (fr + k + 1) (f (fr + k))) fr v else va_up f (fr + k + 1) v
def lx_A (f : Nat → Int32) (x y : Nat) : Nat → Nat → Bool
  | 0, _ => false
  | n + 1, k => if f (x + k) = f (y + k) then lx_A f x y n (k + 1) else decide (f (y + k) < f (x + k))
def wo_cnt (p : Nat → Bool) : Nat → Nat
  | 0 => 0
  | n + 1 => wo_cnt p n + (if p n then 1 else 0)
def pl_A (rk : Nat → Int32) (g w : Nat) : Nat := 1 + wo_cnt (fun o => lx_A rk (o * 6) (w * 6) 6 0) g
def lt_A (mk : Nat → Int32) (w : Nat) : Nat → Nat
  | 0 => 0
  | d + 1 => if mk (w * 6 + d) = -1000000 then lt_A mk w d else d + 1
def wo_dN (d : Nat) : Int32 := if d = 0 then -1000000 else nI d
def vl_A (mk tl : Nat → Int32) (what : Int32) (i : Nat) : Int32 := if what = 1 then tl i else if 0 < mk i then mk i else -1000000
section SHT
variable {l : Launch} {D : va_G} {tys : List (ClassId × FieldType)} {cI cZ : ClassId} {a : Nat → Nat} {Y : va_W} {gr : Nat} {en : Nat} {mk : Nat → Int32} {tl : Nat → Int32} {me : Nat → Int32} {rk : Nat → Int32} {dy : Nat} {ln : Nat → Nat} {ll : Nat} {ps : Nat} {lf : Nat → Bool} {lc : Nat} {tc : Nat → Bool} {tp : Nat → Nat} {lv : Bool} {rp : Int32} {rc : Int32} {pp : Int32}
set_option maxRecDepth 100000 in
set_option maxHeartbeats 4000000 in
theorem c_X1_slot {ws : va_W} (w d k : Nat) (hk : k + 1 = w * 6 + d) : wo_E l yX1_slot cX1_slot 2 (some .int) 0 D ((cI, .int) :: (cZ, .boolean) :: tys) [.int (nI w), .int (nI d)] (ws) (some (.int (nI k))) (ws) := by
  refine wo_of (ls := [some (.int (nI w)), some (.int (nI d))]) (by decide) (Nat.le_of_ble_eq_true rfl) rfl ?_
  intro p e s m args below meth c A C
  refine x_iload_n C dX1_slot_0 rfl rfl ?_
  refine x_bipush C (v := 6) dX1_slot_1 (by decide) ?_
  refine x_imul C dX1_slot_3 ?_
  refine x_iload_n C dX1_slot_4 rfl rfl ?_
  refine x_iadd C dX1_slot_5 ?_
  refine x_iconst C (v := 1) dX1_slot_6 (by decide) ?_
  refine x_isub C dX1_slot_7 ?_
  exact x_iret C dX1_slot_8 (by rw [show (6 : Int32) = nI 6 from rfl, pk_mul, nI_add, ← hk, nI_pred]) rfl
set_option maxRecDepth 100000 in
set_option maxHeartbeats 4000000 in
theorem c_X1_isWeight {ws : va_W} (v : Int32) : wo_E l yX1_isWeight cX1_isWeight 1 (some .boolean) 0 D ((cI, .int) :: (cZ, .boolean) :: tys) [.int v] (ws) (some (.int (bz (decide (0 < v))))) (ws) := by
  refine wo_of (ls := [some (.int v)]) (by decide) (Nat.le_of_ble_eq_true rfl) rfl ?_
  intro p e s m args below meth c A C
  refine x_iload_n C dX1_isWeight_0 rfl rfl ?_
  refine x_if_le C (tgt := 8) dX1_isWeight_1 (by decide) (fun h => ?_) (fun h => ?_)
  · refine x_iconst C (v := 0) dX1_isWeight_8 (by decide) ?_
    exact x_zret C dX1_isWeight_9 (b := false) rfl (by rw [decide_eq_false (Int32.not_lt.mpr h)]) rfl
  · refine x_iconst C (v := 1) dX1_isWeight_4 (by decide) ?_
    refine x_goto C (tgt := 9) dX1_isWeight_5 (by decide) ?_
    exact x_zret C dX1_isWeight_9 (b := true) rfl (by rw [decide_eq_true (Int32.not_le.mp h)]) rfl
set_option maxRecDepth 100000 in
set_option maxHeartbeats 4000000 in
theorem c_X1_rank (w : Nat) (v : Int32) (hw : w < 12) : wo_E l yX1_rank cX1_rank 5 (none) 1 D ((cI, .int) :: (cZ, .boolean) :: tys) [.ref (a 1), .int (nI w), .int v] (wA cI cZ a gr en mk tl me rk dy ln ll ps lf lc tc tp lv rp rc pp ++ Y) none (wA cI cZ a gr en mk tl me (rk_ins 5 rk (w * 6) v) dy ln ll ps lf lc tc tp lv rp rc pp ++ Y) := by
  refine wo_of (ls := [some (.ref (a 1)), some (.int (nI w)), some (.int v), none, none]) (by decide) (Nat.le_of_ble_eq_true rfl) rfl ?_
  intro p e s m args below meth c A C
  refine x_iload_n C dX1_rank_0 rfl rfl ?_
  refine x_iconst C (v := 1) dX1_rank_1 (by decide) ?_
  refine x_callSi C gs_X1_32 (c_X1_slot w 1 (w * 6) (by omega)) rfl rfl (Nat.le_of_ble_eq_true rfl) ⟨(Nat.le_of_ble_eq_true rfl), (Nat.le_of_ble_eq_true rfl)⟩ ⟨Nat.zero_le _, Nat.zero_le _⟩ dX1_rank_2 ?_
  refine x_istore_n C dX1_rank_5 rfl (by decide) ?_
  refine x_iload_n C dX1_rank_6 rfl rfl ?_
  refine x_bipush C (v := 6) dX1_rank_7 (by decide) ?_
  refine x_callSi C gs_X1_32 (c_X1_slot w 6 (w * 6 + 5) (by omega)) rfl rfl (Nat.le_of_ble_eq_true rfl) ⟨(Nat.le_of_ble_eq_true rfl), (Nat.le_of_ble_eq_true rfl)⟩ ⟨Nat.zero_le _, Nat.zero_le _⟩ dX1_rank_9 ?_
  refine x_istore C dX1_rank_12 (by decide) ?_
  have loop : ∀ (k : Nat) (f : Nat → Int32), k ≤ 5 → rk_ins k f (w * 6) v = rk_ins 5 rk (w * 6) v → wo_W p l e (wo_rm 1) s m args below meth c A D 0 0 5 (MQ below (wo_Q D ((cI, .int) :: (cZ, .boolean) :: tys) none (wA cI cZ a gr en mk tl me (rk_ins 5 rk (w * 6) v) dy ln ll ps lf lc tc tp lv rp rc pp ++ Y) A) args s 0 0 A) 14 [some (.ref (a 1)), some (.int (nI w)), some (.int v), some (.int (nI (w * 6))), some (.int (nI (w * 6 + k)))] [] (wA cI cZ a gr en mk tl me (f) dy ln ll ps lf lc tc tp lv rp rc pp ++ Y) := by
    intro k
    induction k with
    | zero =>
      intro f hk he
      refine x_iload C dX1_rank_14 rfl ?_
      refine x_iload_n C dX1_rank_16 rfl rfl ?_
      refine x_icmp_le C (tgt := 55) dX1_rank_17 (by decide) (fun h => ?_) (fun h => ?_)
      · refine x_aload_n C dX1_rank_55 rfl rfl ?_
        refine gA1_ranked C dX1_rank_56 ?_
        refine x_iload C dX1_rank_59 rfl ?_
        refine x_iload_n C dX1_rank_61 rfl rfl ?_
        refine sA_rk C _ (w * 6) rfl (by omega) dX1_rank_62 ?_
        exact x_vret C dX1_rank_63 rfl (by rw [← he]; rfl)
      · exact absurd (Int32.le_refl _) h
    | succ k ih =>
      intro f hk he
      refine x_iload C dX1_rank_14 rfl ?_
      refine x_iload_n C dX1_rank_16 rfl rfl ?_
      refine x_icmp_le C (tgt := 55) dX1_rank_17 (by decide) (fun h => ?_) (fun h => ?_)
      · exact absurd (wo_le (by omega) (by omega) h) (by omega)
      · refine x_aload_n C dX1_rank_20 rfl rfl ?_
        refine gA1_ranked C dX1_rank_21 ?_
        refine x_iload C dX1_rank_24 rfl ?_
        refine x_iconst C (v := 1) dX1_rank_26 (by decide) ?_
        refine x_isub C dX1_rank_27 ?_
        refine lA_rk C (w * 6 + k) (wo_m1 rfl) (by omega) dX1_rank_28 ?_
        refine x_iload_n C dX1_rank_29 rfl rfl ?_
        refine x_icmp_ge C (tgt := 55) dX1_rank_30 (by decide) (fun h2 => ?_) (fun h2 => ?_)
        · refine x_aload_n C dX1_rank_55 rfl rfl ?_
          refine gA1_ranked C dX1_rank_56 ?_
          refine x_iload C dX1_rank_59 rfl ?_
          refine x_iload_n C dX1_rank_61 rfl rfl ?_
          refine sA_rk C _ (w * 6 + (k + 1)) rfl (by omega) dX1_rank_62 ?_
          exact x_vret C dX1_rank_63 rfl (by rw [← he]; unfold rk_ins; rw [if_neg (Int32.not_lt.mpr h2)]; rfl)
        · have h3 : f (w * 6 + k) < v := Int32.not_le.mp h2
          refine x_aload_n C dX1_rank_33 rfl rfl ?_
          refine gA1_ranked C dX1_rank_34 ?_
          refine x_iload C dX1_rank_37 rfl ?_
          refine x_aload_n C dX1_rank_39 rfl rfl ?_
          refine gA1_ranked C dX1_rank_40 ?_
          refine x_iload C dX1_rank_43 rfl ?_
          refine x_iconst C (v := 1) dX1_rank_45 (by decide) ?_
          refine x_isub C dX1_rank_46 ?_
          refine lA_rk C (w * 6 + k) (wo_m1 rfl) (by omega) dX1_rank_47 ?_
          refine sA_rk C _ (w * 6 + (k + 1)) rfl (by omega) dX1_rank_48 ?_
          refine x_iinc C dX1_rank_49 rfl (wo_m1' (b := w * 6 + k) rfl) (by decide) ?_
          refine x_goto C (tgt := 14) dX1_rank_52 (by decide) ?_
          exact ih _ (by omega) (by rw [← he]; show _ = rk_ins (k + 1) f (w * 6) v; rw [rk_ins, if_pos h3]; rfl)
  exact loop 5 rk (Nat.le_refl 5) rfl
set_option maxRecDepth 100000 in
set_option maxHeartbeats 4000000 in
theorem c_X1_enter (w d : Nat) (v t q : Int32) (hw : w < 12) (h1 : 1 ≤ d) (h6 : d ≤ 6) : wo_E l yX1_enter cX1_enter 7 (none) 2 D ((cI, .int) :: (cZ, .boolean) :: tys) [.ref (a 1), .int (nI w), .int (nI d), .int v, .int t, .int q] (wA cI cZ a gr en mk tl me rk dy ln ll ps lf lc tc tp lv rp rc pp ++ Y) none (wA cI cZ a gr (en + 1) (va_up mk (w * 6 + d - 1) v) (va_up tl (w * 6 + d - 1) t) (va_up me (w * 6 + d - 1) q) (if 0 < v then rk_ins 5 rk (w * 6) v else rk) dy ln ll ps lf lc tc tp lv rp rc pp ++ Y) := by
  refine wo_of (ls := [some (.ref (a 1)), some (.int (nI w)), some (.int (nI d)), some (.int v), some (.int t), some (.int q), none]) (by decide) (Nat.le_of_ble_eq_true rfl) rfl ?_
  intro p e s m args below meth c A C
  refine x_iload_n C dX1_enter_0 rfl rfl ?_
  refine x_iload_n C dX1_enter_1 rfl rfl ?_
  refine x_callSi C gs_X1_32 (c_X1_slot w d (w * 6 + d - 1) (by omega)) rfl rfl (Nat.le_of_ble_eq_true rfl) ⟨(Nat.le_of_ble_eq_true rfl), (Nat.le_of_ble_eq_true rfl)⟩ ⟨Nat.zero_le _, Nat.zero_le _⟩ dX1_enter_2 ?_
  refine x_istore C dX1_enter_5 (by decide) ?_
  refine x_aload_n C dX1_enter_7 rfl rfl ?_
  refine gA1_marks C dX1_enter_8 ?_
  refine x_iload C dX1_enter_11 rfl ?_
  refine x_iload_n C dX1_enter_13 rfl rfl ?_
  refine sA_mk C _ _ rfl (by omega) dX1_enter_14 ?_
  refine x_aload_n C dX1_enter_15 rfl rfl ?_
  refine gA1_tilts C dX1_enter_16 ?_
  refine x_iload C dX1_enter_19 rfl ?_
  refine x_iload C dX1_enter_21 rfl ?_
  refine sA_tl C _ _ rfl (by omega) dX1_enter_23 ?_
  refine x_aload_n C dX1_enter_24 rfl rfl ?_
  refine gA1_measured C dX1_enter_25 ?_
  refine x_iload C dX1_enter_28 rfl ?_
  refine x_iload C dX1_enter_30 rfl ?_
  refine sA_me C _ _ rfl (by omega) dX1_enter_32 ?_
  refine x_aload_n C dX1_enter_33 rfl rfl ?_
  refine x_dup C dX1_enter_34 rfl ?_
  refine gA1_entries C dX1_enter_35 ?_
  refine x_iconst C (v := 1) dX1_enter_38 (by decide) ?_
  refine x_iadd C dX1_enter_39 ?_
  refine pA1_entries C (en + 1) (nI_1 en) dX1_enter_40 ?_
  refine x_iload_n C dX1_enter_43 rfl rfl ?_
  refine x_callSi C gs_X1_36 (c_X1_isWeight v) rfl rfl (Nat.le_of_ble_eq_true rfl) ⟨(Nat.le_of_ble_eq_true rfl), (Nat.le_of_ble_eq_true rfl)⟩ ⟨Nat.zero_le _, Nat.zero_le _⟩ dX1_enter_44 ?_
  refine x_if_eq C (tgt := 56) dX1_enter_47 (by decide) (fun h => ?_) (fun h => ?_)
  · have h2 : ¬ 0 < v := of_decide_eq_false (bz_f h)
    exact x_vret C dX1_enter_56 rfl (by rw [if_neg h2])
  · have h2 : 0 < v := of_decide_eq_true (bz_t h)
    refine x_aload_n C dX1_enter_50 rfl rfl ?_
    refine x_iload_n C dX1_enter_51 rfl rfl ?_
    refine x_iload_n C dX1_enter_52 rfl rfl ?_
    refine x_callVv C gv_X1_40 (c_X1_rank w v hw) 1 rfl rfl rfl rfl (Nat.le_of_ble_eq_true rfl) ⟨(Nat.le_of_ble_eq_true rfl), (Nat.le_of_ble_eq_true rfl)⟩ ⟨Nat.zero_le _, Nat.zero_le _⟩ dX1_enter_53 ?_
    exact x_vret C dX1_enter_56 rfl (by rw [if_pos h2])
set_option maxRecDepth 100000 in
set_option maxHeartbeats 4000000 in
theorem c_X1_isMeasuredCrack (w d : Nat) (hw : w < 12) (h1 : 1 ≤ d) (h6 : d ≤ 6) : wo_E l yX1_isMeasuredCrack cX1_isMeasuredCrack 4 (some .boolean) 1 D ((cI, .int) :: (cZ, .boolean) :: tys) [.ref (a 1), .int (nI w), .int (nI d)] (wA cI cZ a gr en mk tl me rk dy ln ll ps lf lc tc tp lv rp rc pp ++ Y) (some (.int (bz (decide (mk (w * 6 + d - 1) = -1 ∧ ¬ me (w * 6 + d - 1) = 0))))) (wA cI cZ a gr en mk tl me rk dy ln ll ps lf lc tc tp lv rp rc pp ++ Y) := by
  refine wo_of (ls := [some (.ref (a 1)), some (.int (nI w)), some (.int (nI d)), none]) (by decide) (Nat.le_of_ble_eq_true rfl) rfl ?_
  intro p e s m args below meth c A C
  refine x_iload_n C dX1_isMeasuredCrack_0 rfl rfl ?_
  refine x_iload_n C dX1_isMeasuredCrack_1 rfl rfl ?_
  refine x_callSi C gs_X1_32 (c_X1_slot w d (w * 6 + d - 1) (by omega)) rfl rfl (Nat.le_of_ble_eq_true rfl) ⟨(Nat.le_of_ble_eq_true rfl), (Nat.le_of_ble_eq_true rfl)⟩ ⟨Nat.zero_le _, Nat.zero_le _⟩ dX1_isMeasuredCrack_2 ?_
  refine x_istore_n C dX1_isMeasuredCrack_5 rfl (by decide) ?_
  refine x_aload_n C dX1_isMeasuredCrack_6 rfl rfl ?_
  refine gA1_marks C dX1_isMeasuredCrack_7 ?_
  refine x_iload_n C dX1_isMeasuredCrack_10 rfl rfl ?_
  refine lA_mk C _ rfl (by omega) dX1_isMeasuredCrack_11 ?_
  refine x_iconst C (v := -1) dX1_isMeasuredCrack_12 (by decide) ?_
  refine x_icmp_ne C (tgt := 29) dX1_isMeasuredCrack_13 (by decide) (fun h => ?_) (fun h => ?_)
  · refine x_iconst C (v := 0) dX1_isMeasuredCrack_29 (by decide) ?_
    exact x_zret C dX1_isMeasuredCrack_30 (b := false) rfl (by rw [decide_eq_false (fun z => h z.1)]) rfl
  · refine x_aload_n C dX1_isMeasuredCrack_16 rfl rfl ?_
    refine gA1_measured C dX1_isMeasuredCrack_17 ?_
    refine x_iload_n C dX1_isMeasuredCrack_20 rfl rfl ?_
    refine lA_me C _ rfl (by omega) dX1_isMeasuredCrack_21 ?_
    refine x_if_eq C (tgt := 29) dX1_isMeasuredCrack_22 (by decide) (fun h2 => ?_) (fun h2 => ?_)
    · refine x_iconst C (v := 0) dX1_isMeasuredCrack_29 (by decide) ?_
      exact x_zret C dX1_isMeasuredCrack_30 (b := false) rfl (by rw [decide_eq_false (fun z => z.2 h2)]) rfl
    · refine x_iconst C (v := 1) dX1_isMeasuredCrack_25 (by decide) ?_
      refine x_goto C (tgt := 30) dX1_isMeasuredCrack_26 (by decide) ?_
      exact x_zret C dX1_isMeasuredCrack_30 (b := true) rfl (by rw [decide_eq_true ⟨h, h2⟩]) rfl
set_option maxRecDepth 100000 in
set_option maxHeartbeats 4000000 in
theorem c_X1_makeSound (w d : Nat) (hw : w < 12) (h1 : 1 ≤ d) (h6 : d ≤ 6) : wo_E l yX1_makeSound cX1_makeSound 4 (some .int) 2 D ((cI, .int) :: (cZ, .boolean) :: tys) [.ref (a 1), .int (nI w), .int (nI d)] (wA cI cZ a gr en mk tl me rk dy ln ll ps lf lc tc tp lv rp rc pp ++ Y) (some (.int (me (w * 6 + d - 1)))) (wA cI cZ a gr en (va_up mk (w * 6 + d - 1) (me (w * 6 + d - 1))) tl me (rk_ins 5 rk (w * 6) (me (w * 6 + d - 1))) dy ln ll ps lf lc tc tp lv rp rc pp ++ Y) := by
  refine wo_of (ls := [some (.ref (a 1)), some (.int (nI w)), some (.int (nI d)), none]) (by decide) (Nat.le_of_ble_eq_true rfl) rfl ?_
  intro p e s m args below meth c A C
  refine x_iload_n C dX1_makeSound_0 rfl rfl ?_
  refine x_iload_n C dX1_makeSound_1 rfl rfl ?_
  refine x_callSi C gs_X1_32 (c_X1_slot w d (w * 6 + d - 1) (by omega)) rfl rfl (Nat.le_of_ble_eq_true rfl) ⟨(Nat.le_of_ble_eq_true rfl), (Nat.le_of_ble_eq_true rfl)⟩ ⟨Nat.zero_le _, Nat.zero_le _⟩ dX1_makeSound_2 ?_
  refine x_istore_n C dX1_makeSound_5 rfl (by decide) ?_
  refine x_aload_n C dX1_makeSound_6 rfl rfl ?_
  refine gA1_marks C dX1_makeSound_7 ?_
  refine x_iload_n C dX1_makeSound_10 rfl rfl ?_
  refine x_aload_n C dX1_makeSound_11 rfl rfl ?_
  refine gA1_measured C dX1_makeSound_12 ?_
  refine x_iload_n C dX1_makeSound_15 rfl rfl ?_
  refine lA_me C _ rfl (by omega) dX1_makeSound_16 ?_
  refine sA_mk C _ _ rfl (by omega) dX1_makeSound_17 ?_
  refine x_aload_n C dX1_makeSound_18 rfl rfl ?_
  refine x_iload_n C dX1_makeSound_19 rfl rfl ?_
  refine x_aload_n C dX1_makeSound_20 rfl rfl ?_
  refine gA1_marks C dX1_makeSound_21 ?_
  refine x_iload_n C dX1_makeSound_24 rfl rfl ?_
  refine lA_mk C _ rfl (by omega) dX1_makeSound_25 ?_
  refine x_top (y := me (w * 6 + d - 1)) (va_up_self ..) ?_
  refine x_callVv C gv_X1_40 (c_X1_rank w _ hw) 1 rfl rfl rfl rfl (Nat.le_of_ble_eq_true rfl) ⟨(Nat.le_of_ble_eq_true rfl), (Nat.le_of_ble_eq_true rfl)⟩ ⟨Nat.zero_le _, Nat.zero_le _⟩ dX1_makeSound_26 ?_
  refine x_aload_n C dX1_makeSound_29 rfl rfl ?_
  refine gA1_marks C dX1_makeSound_30 ?_
  refine x_iload_n C dX1_makeSound_33 rfl rfl ?_
  refine lA_mk C _ rfl (by omega) dX1_makeSound_34 ?_
  exact x_iret C dX1_makeSound_35 (by rw [va_up_self]) rfl
set_option maxRecDepth 100000 in
set_option maxHeartbeats 4000000 in
theorem c_X1_howManyGrowers  : wo_E l yX1_howManyGrowers cX1_howManyGrowers 1 (some .int) 0 D ((cI, .int) :: (cZ, .boolean) :: tys) [.ref (a 1)] (wA cI cZ a gr en mk tl me rk dy ln ll ps lf lc tc tp lv rp rc pp ++ Y) (some (.int (nI gr))) (wA cI cZ a gr en mk tl me rk dy ln ll ps lf lc tc tp lv rp rc pp ++ Y) := by
  refine wo_of (ls := [some (.ref (a 1))]) (by decide) (Nat.le_of_ble_eq_true rfl) rfl ?_
  intro p e s m args below meth c A C
  refine x_aload_n C dX1_howManyGrowers_0 rfl rfl ?_
  refine gA1_growers C dX1_howManyGrowers_1 ?_
  exact x_iret C dX1_howManyGrowers_4 rfl rfl
set_option maxRecDepth 100000 in
set_option maxHeartbeats 4000000 in
theorem c_X1_howManyEntries  : wo_E l yX1_howManyEntries cX1_howManyEntries 1 (some .int) 0 D ((cI, .int) :: (cZ, .boolean) :: tys) [.ref (a 1)] (wA cI cZ a gr en mk tl me rk dy ln ll ps lf lc tc tp lv rp rc pp ++ Y) (some (.int (nI en))) (wA cI cZ a gr en mk tl me rk dy ln ll ps lf lc tc tp lv rp rc pp ++ Y) := by
  refine wo_of (ls := [some (.ref (a 1))]) (by decide) (Nat.le_of_ble_eq_true rfl) rfl ?_
  intro p e s m args below meth c A C
  refine x_aload_n C dX1_howManyEntries_0 rfl rfl ?_
  refine gA1_entries C dX1_howManyEntries_1 ?_
  exact x_iret C dX1_howManyEntries_4 rfl rfl
set_option maxRecDepth 100000 in
set_option maxHeartbeats 4000000 in
theorem c_X1_hasEntry (w d : Nat) (hw : w < 12) (h1 : 1 ≤ d) (h6 : d ≤ 6) : wo_E l yX1_hasEntry cX1_hasEntry 3 (some .boolean) 1 D ((cI, .int) :: (cZ, .boolean) :: tys) [.ref (a 1), .int (nI w), .int (nI d)] (wA cI cZ a gr en mk tl me rk dy ln ll ps lf lc tc tp lv rp rc pp ++ Y) (some (.int (bz (decide (¬ mk (w * 6 + d - 1) = -1000000))))) (wA cI cZ a gr en mk tl me rk dy ln ll ps lf lc tc tp lv rp rc pp ++ Y) := by
  refine wo_of (ls := [some (.ref (a 1)), some (.int (nI w)), some (.int (nI d))]) (by decide) (Nat.le_of_ble_eq_true rfl) rfl ?_
  intro p e s m args below meth c A C
  refine x_aload_n C dX1_hasEntry_0 rfl rfl ?_
  refine gA1_marks C dX1_hasEntry_1 ?_
  refine x_iload_n C dX1_hasEntry_4 rfl rfl ?_
  refine x_iload_n C dX1_hasEntry_5 rfl rfl ?_
  refine x_callSi C gs_X1_32 (c_X1_slot w d (w * 6 + d - 1) (by omega)) rfl rfl (Nat.le_of_ble_eq_true rfl) ⟨(Nat.le_of_ble_eq_true rfl), (Nat.le_of_ble_eq_true rfl)⟩ ⟨Nat.zero_le _, Nat.zero_le _⟩ dX1_hasEntry_6 ?_
  refine lA_mk C _ rfl (by omega) dX1_hasEntry_9 ?_
  refine x_ldc C kk_X1_31 dX1_hasEntry_10 ?_
  refine x_icmp_eq C (tgt := 19) dX1_hasEntry_12 (by decide) (fun h => ?_) (fun h => ?_)
  · refine x_iconst C (v := 0) dX1_hasEntry_19 (by decide) ?_
    exact x_zret C dX1_hasEntry_20 (b := false) rfl (by rw [decide_eq_false (fun z => z h)]) rfl
  · refine x_iconst C (v := 1) dX1_hasEntry_15 (by decide) ?_
    refine x_goto C (tgt := 20) dX1_hasEntry_16 (by decide) ?_
    exact x_zret C dX1_hasEntry_20 (b := true) rfl (by rw [decide_eq_true h]) rfl
set_option maxRecDepth 100000 in
set_option maxHeartbeats 4000000 in
theorem c_X1_markOn (w d : Nat) (hw : w < 12) (h1 : 1 ≤ d) (h6 : d ≤ 6) : wo_E l yX1_markOn cX1_markOn 3 (some .int) 1 D ((cI, .int) :: (cZ, .boolean) :: tys) [.ref (a 1), .int (nI w), .int (nI d)] (wA cI cZ a gr en mk tl me rk dy ln ll ps lf lc tc tp lv rp rc pp ++ Y) (some (.int (mk (w * 6 + d - 1)))) (wA cI cZ a gr en mk tl me rk dy ln ll ps lf lc tc tp lv rp rc pp ++ Y) := by
  refine wo_of (ls := [some (.ref (a 1)), some (.int (nI w)), some (.int (nI d))]) (by decide) (Nat.le_of_ble_eq_true rfl) rfl ?_
  intro p e s m args below meth c A C
  refine x_aload_n C dX1_markOn_0 rfl rfl ?_
  refine gA1_marks C dX1_markOn_1 ?_
  refine x_iload_n C dX1_markOn_4 rfl rfl ?_
  refine x_iload_n C dX1_markOn_5 rfl rfl ?_
  refine x_callSi C gs_X1_32 (c_X1_slot w d (w * 6 + d - 1) (by omega)) rfl rfl (Nat.le_of_ble_eq_true rfl) ⟨(Nat.le_of_ble_eq_true rfl), (Nat.le_of_ble_eq_true rfl)⟩ ⟨Nat.zero_le _, Nat.zero_le _⟩ dX1_markOn_6 ?_
  refine lA_mk C _ rfl (by omega) dX1_markOn_9 ?_
  exact x_iret C dX1_markOn_10 rfl rfl
set_option maxRecDepth 100000 in
set_option maxHeartbeats 4000000 in
theorem c_X1_tiltOn (w d : Nat) (hw : w < 12) (h1 : 1 ≤ d) (h6 : d ≤ 6) : wo_E l yX1_tiltOn cX1_tiltOn 3 (some .int) 1 D ((cI, .int) :: (cZ, .boolean) :: tys) [.ref (a 1), .int (nI w), .int (nI d)] (wA cI cZ a gr en mk tl me rk dy ln ll ps lf lc tc tp lv rp rc pp ++ Y) (some (.int (tl (w * 6 + d - 1)))) (wA cI cZ a gr en mk tl me rk dy ln ll ps lf lc tc tp lv rp rc pp ++ Y) := by
  refine wo_of (ls := [some (.ref (a 1)), some (.int (nI w)), some (.int (nI d))]) (by decide) (Nat.le_of_ble_eq_true rfl) rfl ?_
  intro p e s m args below meth c A C
  refine x_aload_n C dX1_tiltOn_0 rfl rfl ?_
  refine gA1_tilts C dX1_tiltOn_1 ?_
  refine x_iload_n C dX1_tiltOn_4 rfl rfl ?_
  refine x_iload_n C dX1_tiltOn_5 rfl rfl ?_
  refine x_callSi C gs_X1_32 (c_X1_slot w d (w * 6 + d - 1) (by omega)) rfl rfl (Nat.le_of_ble_eq_true rfl) ⟨(Nat.le_of_ble_eq_true rfl), (Nat.le_of_ble_eq_true rfl)⟩ ⟨Nat.zero_le _, Nat.zero_le _⟩ dX1_tiltOn_6 ?_
  refine lA_tl C _ rfl (by omega) dX1_tiltOn_9 ?_
  exact x_iret C dX1_tiltOn_10 rfl rfl
set_option maxRecDepth 100000 in
set_option maxHeartbeats 4000000 in
theorem c_X1_valueOn (what : Int32) (w d : Nat) (hw : w < 12) (h1 : 1 ≤ d) (h6 : d ≤ 6) : wo_E l yX1_valueOn cX1_valueOn 5 (some .int) 2 D ((cI, .int) :: (cZ, .boolean) :: tys) [.ref (a 1), .int what, .int (nI w), .int (nI d)] (wA cI cZ a gr en mk tl me rk dy ln ll ps lf lc tc tp lv rp rc pp ++ Y) (some (.int (vl_A mk tl what (w * 6 + d - 1)))) (wA cI cZ a gr en mk tl me rk dy ln ll ps lf lc tc tp lv rp rc pp ++ Y) := by
  refine wo_of (ls := [some (.ref (a 1)), some (.int what), some (.int (nI w)), some (.int (nI d)), none]) (by decide) (Nat.le_of_ble_eq_true rfl) rfl ?_
  intro p e s m args below meth c A C
  refine x_iload_n C dX1_valueOn_0 rfl rfl ?_
  refine x_iconst C (v := 1) dX1_valueOn_1 (by decide) ?_
  refine x_icmp_ne C (tgt := 12) dX1_valueOn_2 (by decide) (fun h => ?_) (fun h => ?_)
  · refine x_aload_n C dX1_valueOn_12 rfl rfl ?_
    refine x_iload_n C dX1_valueOn_13 rfl rfl ?_
    refine x_iload_n C dX1_valueOn_14 rfl rfl ?_
    refine x_callVi C gv_X1_47 (c_X1_markOn w d hw h1 h6) 1 rfl rfl rfl rfl (Nat.le_of_ble_eq_true rfl) ⟨(Nat.le_of_ble_eq_true rfl), (Nat.le_of_ble_eq_true rfl)⟩ ⟨Nat.zero_le _, Nat.zero_le _⟩ dX1_valueOn_15 ?_
    refine x_istore C dX1_valueOn_18 (by decide) ?_
    refine x_iload C dX1_valueOn_20 rfl ?_
    refine x_callSi C gs_X1_36 (c_X1_isWeight _) rfl rfl (Nat.le_of_ble_eq_true rfl) ⟨(Nat.le_of_ble_eq_true rfl), (Nat.le_of_ble_eq_true rfl)⟩ ⟨Nat.zero_le _, Nat.zero_le _⟩ dX1_valueOn_22 ?_
    refine x_if_eq C (tgt := 33) dX1_valueOn_25 (by decide) (fun h2 => ?_) (fun h2 => ?_)
    · have h3 := of_decide_eq_false (bz_f h2)
      refine x_ldc C kk_X1_31 dX1_valueOn_33 ?_
      exact x_iret C dX1_valueOn_35 (by unfold vl_A; rw [if_neg h, if_neg h3]) rfl
    · have h3 := of_decide_eq_true (bz_t h2)
      refine x_iload C dX1_valueOn_28 rfl ?_
      refine x_goto C (tgt := 35) dX1_valueOn_30 (by decide) ?_
      exact x_iret C dX1_valueOn_35 (by unfold vl_A; rw [if_neg h, if_pos h3]) rfl
  · refine x_aload_n C dX1_valueOn_5 rfl rfl ?_
    refine x_iload_n C dX1_valueOn_6 rfl rfl ?_
    refine x_iload_n C dX1_valueOn_7 rfl rfl ?_
    refine x_callVi C gv_X1_44 (c_X1_tiltOn w d hw h1 h6) 1 rfl rfl rfl rfl (Nat.le_of_ble_eq_true rfl) ⟨(Nat.le_of_ble_eq_true rfl), (Nat.le_of_ble_eq_true rfl)⟩ ⟨Nat.zero_le _, Nat.zero_le _⟩ dX1_valueOn_8 ?_
    exact x_iret C dX1_valueOn_11 (by unfold vl_A; rw [if_pos h]) rfl
set_option maxRecDepth 100000 in
set_option maxHeartbeats 4000000 in
theorem c_X1_latestDayOf (w : Nat) (hw : w < 12) : wo_E l yX1_latestDayOf cX1_latestDayOf 3 (some .int) 2 D ((cI, .int) :: (cZ, .boolean) :: tys) [.ref (a 1), .int (nI w)] (wA cI cZ a gr en mk tl me rk dy ln ll ps lf lc tc tp lv rp rc pp ++ Y) (some (.int (wo_dN (lt_A mk w 6)))) (wA cI cZ a gr en mk tl me rk dy ln ll ps lf lc tc tp lv rp rc pp ++ Y) := by
  refine wo_of (ls := [some (.ref (a 1)), some (.int (nI w)), none]) (by decide) (Nat.le_of_ble_eq_true rfl) rfl ?_
  intro p e s m args below meth c A C
  refine x_bipush C (v := 6) dX1_latestDayOf_0 (by decide) ?_
  refine x_istore_n C dX1_latestDayOf_2 rfl (by decide) ?_
  have loop : ∀ (d : Nat), d ≤ 6 → lt_A mk w d = lt_A mk w 6 → wo_W p l e (wo_rm 2) s m args below meth c A D 0 0 3 (MQ below (wo_Q D ((cI, .int) :: (cZ, .boolean) :: tys) (some (.int (wo_dN (lt_A mk w 6)))) (wA cI cZ a gr en mk tl me rk dy ln ll ps lf lc tc tp lv rp rc pp ++ Y) A) args s 0 0 A) 3 [some (.ref (a 1)), some (.int (nI w)), some (.int (nI d))] [] (wA cI cZ a gr en mk tl me rk dy ln ll ps lf lc tc tp lv rp rc pp ++ Y) := by
    intro d
    induction d with
    | zero =>
      intro hd he
      refine x_iload_n C dX1_latestDayOf_3 rfl rfl ?_
      refine x_iconst C (v := 1) dX1_latestDayOf_4 (by decide) ?_
      refine x_icmp_lt C (tgt := 25) dX1_latestDayOf_5 (by decide) (fun h => ?_) (fun h => ?_)
      · refine x_ldc C kk_X1_31 dX1_latestDayOf_25 ?_
        exact x_iret C dX1_latestDayOf_27 (by rw [← he]; rfl) rfl
      · exact absurd (show nI 0 < nI 1 by decide) h
    | succ d ih =>
      intro hd he
      refine x_iload_n C dX1_latestDayOf_3 rfl rfl ?_
      refine x_iconst C (v := 1) dX1_latestDayOf_4 (by decide) ?_
      refine x_icmp_lt C (tgt := 25) dX1_latestDayOf_5 (by decide) (fun h => ?_) (fun h => ?_)
      · exact absurd (wo_lt (a := d + 1) (b := 1) (by omega) (by omega) h) (by omega)
      · refine x_aload_n C dX1_latestDayOf_8 rfl rfl ?_
        refine x_iload_n C dX1_latestDayOf_9 rfl rfl ?_
        refine x_iload_n C dX1_latestDayOf_10 rfl rfl ?_
        refine x_callVi C gv_X1_50 (c_X1_hasEntry w (d + 1) hw (by omega) (by omega)) 1 rfl rfl rfl rfl (Nat.le_of_ble_eq_true rfl) ⟨(Nat.le_of_ble_eq_true rfl), (Nat.le_of_ble_eq_true rfl)⟩ ⟨Nat.zero_le _, Nat.zero_le _⟩ dX1_latestDayOf_11 ?_
        refine x_if_eq C (tgt := 19) dX1_latestDayOf_14 (by decide) (fun h2 => ?_) (fun h2 => ?_)
        · have h3 := of_decide_eq_false (bz_f h2)
          have h4 : mk (w * 6 + d) = -1000000 := Classical.not_not.mp h3
          refine x_iinc C dX1_latestDayOf_19 rfl (wo_m1' (b := d) rfl) (by decide) ?_
          refine x_goto C (tgt := 3) dX1_latestDayOf_22 (by decide) ?_
          exact ih (by omega) (by rw [← he]; show _ = lt_A mk w (d + 1); rw [lt_A, if_pos h4])
        · have h3 := of_decide_eq_true (bz_t h2)
          have h4 : ¬ mk (w * 6 + d) = -1000000 := h3
          refine x_iload_n C dX1_latestDayOf_17 rfl rfl ?_
          exact x_iret C dX1_latestDayOf_18 (by rw [← he]; show _ = some (Value.int (nI (d + 1))); rw [lt_A, if_neg h4]; rfl) rfl
  exact loop 6 (Nat.le_refl 6) rfl
theorem wo_lt_le (mk : Nat → Int32) (w : Nat) : ∀ d, lt_A mk w d ≤ d
  | 0 => Nat.le_refl 0
  | d + 1 => by
    unfold lt_A
    split
    · exact Nat.le_succ_of_le (wo_lt_le mk w d)
    · exact Nat.le_refl _
theorem wo_dN_0 {d : Nat} (hd : d ≤ 6) : wo_dN d = -1000000 ↔ d = 0 := by
  unfold wo_dN
  split
  · next h => exact ⟨fun _ => h, fun _ => rfl⟩
  · next h =>
    refine ⟨fun z => ?_, fun z => absurd z h⟩
    have h1 := congrArg Int32.toInt z
    rw [nI_toInt (by omega)] at h1
    rw [show (-1000000 : Int32).toInt = -1000000 by decide] at h1
    omega
theorem wo_dN_s {d : Nat} (h : ¬ d = 0) : wo_dN d = nI d := by unfold wo_dN; rw [if_neg h]
set_option maxRecDepth 100000 in
set_option maxHeartbeats 4000000 in
theorem c_X1_latestTiltOf (w : Nat) (hw : w < 12) : wo_E l yX1_latestTiltOf cX1_latestTiltOf 3 (some .int) 3 D ((cI, .int) :: (cZ, .boolean) :: tys) [.ref (a 1), .int (nI w)] (wA cI cZ a gr en mk tl me rk dy ln ll ps lf lc tc tp lv rp rc pp ++ Y) (some (.int (if lt_A mk w 6 = 0 then -1000000 else tl (w * 6 + lt_A mk w 6 - 1)))) (wA cI cZ a gr en mk tl me rk dy ln ll ps lf lc tc tp lv rp rc pp ++ Y) := by
  refine wo_of (ls := [some (.ref (a 1)), some (.int (nI w)), none]) (by decide) (Nat.le_of_ble_eq_true rfl) rfl ?_
  intro p e s m args below meth c A C
  have hle := wo_lt_le mk w 6
  refine x_aload_n C dX1_latestTiltOf_0 rfl rfl ?_
  refine x_iload_n C dX1_latestTiltOf_1 rfl rfl ?_
  refine x_callVi C gv_X1_54 (c_X1_latestDayOf w hw) 1 rfl rfl rfl rfl (Nat.le_of_ble_eq_true rfl) ⟨(Nat.le_of_ble_eq_true rfl), (Nat.le_of_ble_eq_true rfl)⟩ ⟨Nat.zero_le _, Nat.zero_le _⟩ dX1_latestTiltOf_2 ?_
  refine x_istore_n C dX1_latestTiltOf_5 rfl (by decide) ?_
  refine x_iload_n C dX1_latestTiltOf_6 rfl rfl ?_
  refine x_ldc C kk_X1_31 dX1_latestTiltOf_7 ?_
  refine x_icmp_ne C (tgt := 17) dX1_latestTiltOf_9 (by decide) (fun h => ?_) (fun h => ?_)
  · have h2 : ¬ lt_A mk w 6 = 0 := fun z => h ((wo_dN_0 hle).mpr z)
    refine x_aload_n C dX1_latestTiltOf_17 rfl rfl ?_
    refine x_iload_n C dX1_latestTiltOf_18 rfl rfl ?_
    refine x_iload_n C dX1_latestTiltOf_19 rfl rfl ?_
    refine x_top (y := nI (lt_A mk w 6)) (wo_dN_s h2) ?_
    refine x_callVi C gv_X1_44 (c_X1_tiltOn w (lt_A mk w 6) hw (by omega) hle) 1 rfl rfl rfl rfl (Nat.le_of_ble_eq_true rfl) ⟨(Nat.le_of_ble_eq_true rfl), (Nat.le_of_ble_eq_true rfl)⟩ ⟨Nat.zero_le _, Nat.zero_le _⟩ dX1_latestTiltOf_20 ?_
    exact x_iret C dX1_latestTiltOf_23 (by rw [if_neg h2]) rfl
  · have h2 : lt_A mk w 6 = 0 := (wo_dN_0 hle).mp h
    refine x_ldc C kk_X1_31 dX1_latestTiltOf_12 ?_
    refine x_goto C (tgt := 23) dX1_latestTiltOf_14 (by decide) ?_
    exact x_iret C dX1_latestTiltOf_23 (by rw [if_pos h2]) rfl
set_option maxRecDepth 100000 in
set_option maxHeartbeats 4000000 in
theorem c_X1_bestOf (w : Nat) (hw : w < 12) : wo_E l yX1_bestOf cX1_bestOf 2 (some .int) 1 D ((cI, .int) :: (cZ, .boolean) :: tys) [.ref (a 1), .int (nI w)] (wA cI cZ a gr en mk tl me rk dy ln ll ps lf lc tc tp lv rp rc pp ++ Y) (some (.int (rk (w * 6)))) (wA cI cZ a gr en mk tl me rk dy ln ll ps lf lc tc tp lv rp rc pp ++ Y) := by
  refine wo_of (ls := [some (.ref (a 1)), some (.int (nI w))]) (by decide) (Nat.le_of_ble_eq_true rfl) rfl ?_
  intro p e s m args below meth c A C
  refine x_aload_n C dX1_bestOf_0 rfl rfl ?_
  refine gA1_ranked C dX1_bestOf_1 ?_
  refine x_iload_n C dX1_bestOf_4 rfl rfl ?_
  refine x_iconst C (v := 1) dX1_bestOf_5 (by decide) ?_
  refine x_callSi C gs_X1_32 (c_X1_slot w 1 (w * 6) (by omega)) rfl rfl (Nat.le_of_ble_eq_true rfl) ⟨(Nat.le_of_ble_eq_true rfl), (Nat.le_of_ble_eq_true rfl)⟩ ⟨Nat.zero_le _, Nat.zero_le _⟩ dX1_bestOf_6 ?_
  refine lA_rk C _ rfl (by omega) dX1_bestOf_9 ?_
  exact x_iret C dX1_bestOf_10 rfl rfl
set_option maxRecDepth 100000 in
set_option maxHeartbeats 4000000 in
theorem c_X1_isBefore (u w : Nat) (hu : u < 12) (hw : w < 12) : wo_E l yX1_isBefore cX1_isBefore 6 (some .boolean) 1 D ((cI, .int) :: (cZ, .boolean) :: tys) [.ref (a 1), .int (nI u), .int (nI w)] (wA cI cZ a gr en mk tl me rk dy ln ll ps lf lc tc tp lv rp rc pp ++ Y) (some (.int (bz (lx_A rk (u * 6) (w * 6) 6 0)))) (wA cI cZ a gr en mk tl me rk dy ln ll ps lf lc tc tp lv rp rc pp ++ Y) := by
  refine wo_of (ls := [some (.ref (a 1)), some (.int (nI u)), some (.int (nI w)), none, none, none]) (by decide) (Nat.le_of_ble_eq_true rfl) rfl ?_
  intro p e s m args below meth c A C
  refine x_iconst C (v := 1) dX1_isBefore_0 (by decide) ?_
  refine x_istore_n C dX1_isBefore_1 rfl (by decide) ?_
  have loop : ∀ (n k : Nat) (x4 x5 : Option Value), n + k = 6 → lx_A rk (u * 6) (w * 6) n k = lx_A rk (u * 6) (w * 6) 6 0 → wo_W p l e (wo_rm 1) s m args below meth c A D 0 0 6 (MQ below (wo_Q D ((cI, .int) :: (cZ, .boolean) :: tys) (some (.int (bz (lx_A rk (u * 6) (w * 6) 6 0)))) (wA cI cZ a gr en mk tl me rk dy ln ll ps lf lc tc tp lv rp rc pp ++ Y) A) args s 0 0 A) 2 [some (.ref (a 1)), some (.int (nI u)), some (.int (nI w)), some (.int (nI (k + 1))), x4, x5] [] (wA cI cZ a gr en mk tl me rk dy ln ll ps lf lc tc tp lv rp rc pp ++ Y) := by
    intro n
    induction n with
    | zero =>
      intro k x4 x5 hk he
      refine x_iload_n C dX1_isBefore_2 rfl rfl ?_
      refine x_bipush C (v := 6) dX1_isBefore_3 (by decide) ?_
      refine x_icmp_gt C (tgt := 58) dX1_isBefore_5 (by decide) (fun h => ?_) (fun h => ?_)
      · refine x_iconst C (v := 0) dX1_isBefore_58 (by decide) ?_
        exact x_zret C dX1_isBefore_59 (b := false) rfl (by rw [← he]; rfl) rfl
      · exact absurd (show nI 6 < nI (k + 1) from nI_lt (by omega) (by omega)) h
    | succ n ih =>
      intro k x4 x5 hk he
      refine x_iload_n C dX1_isBefore_2 rfl rfl ?_
      refine x_bipush C (v := 6) dX1_isBefore_3 (by decide) ?_
      refine x_icmp_gt C (tgt := 58) dX1_isBefore_5 (by decide) (fun h => ?_) (fun h => ?_)
      · exact absurd (wo_lt (a := 6) (b := k + 1) (by omega) (by omega) h) (by omega)
      · refine x_aload_n C dX1_isBefore_8 rfl rfl ?_
        refine gA1_ranked C dX1_isBefore_9 ?_
        refine x_iload_n C dX1_isBefore_12 rfl rfl ?_
        refine x_iload_n C dX1_isBefore_13 rfl rfl ?_
        refine x_callSi C gs_X1_32 (c_X1_slot u (k + 1) (u * 6 + k) (by omega)) rfl rfl (Nat.le_of_ble_eq_true rfl) ⟨(Nat.le_of_ble_eq_true rfl), (Nat.le_of_ble_eq_true rfl)⟩ ⟨Nat.zero_le _, Nat.zero_le _⟩ dX1_isBefore_14 ?_
        refine lA_rk C _ rfl (by omega) dX1_isBefore_17 ?_
        refine x_istore C dX1_isBefore_18 (by decide) ?_
        refine x_aload_n C dX1_isBefore_20 rfl rfl ?_
        refine gA1_ranked C dX1_isBefore_21 ?_
        refine x_iload_n C dX1_isBefore_24 rfl rfl ?_
        refine x_iload_n C dX1_isBefore_25 rfl rfl ?_
        refine x_callSi C gs_X1_32 (c_X1_slot w (k + 1) (w * 6 + k) (by omega)) rfl rfl (Nat.le_of_ble_eq_true rfl) ⟨(Nat.le_of_ble_eq_true rfl), (Nat.le_of_ble_eq_true rfl)⟩ ⟨Nat.zero_le _, Nat.zero_le _⟩ dX1_isBefore_26 ?_
        refine lA_rk C _ rfl (by omega) dX1_isBefore_29 ?_
        refine x_istore C dX1_isBefore_30 (by decide) ?_
        refine x_iload C dX1_isBefore_32 rfl ?_
        refine x_iload C dX1_isBefore_34 rfl ?_
        refine x_icmp_eq C (tgt := 52) dX1_isBefore_36 (by decide) (fun h2 => ?_) (fun h2 => ?_)
        · refine x_iinc C dX1_isBefore_52 rfl (nI_1 (k + 1)) (by decide) ?_
          refine x_goto C (tgt := 2) dX1_isBefore_55 (by decide) ?_
          exact ih (k + 1) _ _ (by omega) (by rw [← he]; show _ = lx_A rk (u * 6) (w * 6) (n + 1) k; rw [lx_A, if_pos h2])
        · refine x_iload C dX1_isBefore_39 rfl ?_
          refine x_iload C dX1_isBefore_41 rfl ?_
          refine x_icmp_le C (tgt := 50) dX1_isBefore_43 (by decide) (fun h3 => ?_) (fun h3 => ?_)
          · refine x_iconst C (v := 0) dX1_isBefore_50 (by decide) ?_
            exact x_zret C dX1_isBefore_51 (b := false) rfl (by rw [← he, lx_A, if_neg h2, decide_eq_false (Int32.not_lt.mpr h3)]) rfl
          · refine x_iconst C (v := 1) dX1_isBefore_46 (by decide) ?_
            refine x_goto C (tgt := 51) dX1_isBefore_47 (by decide) ?_
            exact x_zret C dX1_isBefore_51 (b := true) rfl (by rw [← he, lx_A, if_neg h2, decide_eq_true (Int32.not_le.mp h3)]) rfl
  exact loop 6 0 _ _ rfl rfl
theorem wo_cnt_f {q : Nat → Bool} {n : Nat} (h : q n = false) : wo_cnt q (n + 1) = wo_cnt q n := by rw [wo_cnt, h]; rfl
theorem wo_cnt_t {q : Nat → Bool} {n : Nat} (h : q n = true) : wo_cnt q (n + 1) = wo_cnt q n + 1 := by rw [wo_cnt, h]; rfl
theorem wo_cnt_le (q : Nat → Bool) : ∀ n, wo_cnt q n ≤ n
  | 0 => Nat.le_refl 0
  | n + 1 => by
    have h := wo_cnt_le q n
    unfold wo_cnt
    split <;> omega
set_option maxRecDepth 100000 in
set_option maxHeartbeats 4000000 in
theorem c_X1_placeOf (w : Nat) (hw : w < 12) (hg : gr ≤ 12) : wo_E l yX1_placeOf cX1_placeOf 4 (some .int) 2 D ((cI, .int) :: (cZ, .boolean) :: tys) [.ref (a 1), .int (nI w)] (wA cI cZ a gr en mk tl me rk dy ln ll ps lf lc tc tp lv rp rc pp ++ Y) (some (.int (nI (pl_A rk gr w)))) (wA cI cZ a gr en mk tl me rk dy ln ll ps lf lc tc tp lv rp rc pp ++ Y) := by
  refine wo_of (ls := [some (.ref (a 1)), some (.int (nI w)), none, none]) (by decide) (Nat.le_of_ble_eq_true rfl) rfl ?_
  intro p e s m args below meth c A C
  refine x_iconst C (v := 0) dX1_placeOf_0 (by decide) ?_
  refine x_istore_n C dX1_placeOf_1 rfl (by decide) ?_
  refine x_iconst C (v := 0) dX1_placeOf_2 (by decide) ?_
  refine x_istore_n C dX1_placeOf_3 rfl (by decide) ?_
  have loop : ∀ (n k : Nat), n + k = gr → wo_W p l e (wo_rm 2) s m args below meth c A D 0 0 4 (MQ below (wo_Q D ((cI, .int) :: (cZ, .boolean) :: tys) (some (.int (nI (pl_A rk gr w)))) (wA cI cZ a gr en mk tl me rk dy ln ll ps lf lc tc tp lv rp rc pp ++ Y) A) args s 0 0 A) 4 [some (.ref (a 1)), some (.int (nI w)), some (.int (nI (wo_cnt (fun o => lx_A rk (o * 6) (w * 6) 6 0) k))), some (.int (nI k))] [] (wA cI cZ a gr en mk tl me rk dy ln ll ps lf lc tc tp lv rp rc pp ++ Y) := by
    intro n
    induction n with
    | zero =>
      intro k hk
      refine x_iload_n C dX1_placeOf_4 rfl rfl ?_
      refine x_aload_n C dX1_placeOf_5 rfl rfl ?_
      refine gA1_growers C dX1_placeOf_6 ?_
      refine x_icmp_ge C (tgt := 30) dX1_placeOf_9 (by decide) (fun h => ?_) (fun h => ?_)
      · refine x_iconst C (v := 1) dX1_placeOf_30 (by decide) ?_
        refine x_iload_n C dX1_placeOf_31 rfl rfl ?_
        refine x_iadd C dX1_placeOf_32 ?_
        have hk2 : k = gr := by omega
        exact x_iret C dX1_placeOf_33 (by subst hk2; unfold pl_A; rw [show (1 : Int32) = nI 1 from rfl, nI_add]) rfl
      · exact absurd (show nI gr ≤ nI k from nI_le (by omega) (by omega)) h
    | succ n ih =>
      intro k hk
      refine x_iload_n C dX1_placeOf_4 rfl rfl ?_
      refine x_aload_n C dX1_placeOf_5 rfl rfl ?_
      refine gA1_growers C dX1_placeOf_6 ?_
      refine x_icmp_ge C (tgt := 30) dX1_placeOf_9 (by decide) (fun h => ?_) (fun h => ?_)
      · exact absurd (wo_le (by omega) (by omega) h) (by omega)
      · refine x_aload_n C dX1_placeOf_12 rfl rfl ?_
        refine x_iload_n C dX1_placeOf_13 rfl rfl ?_
        refine x_iload_n C dX1_placeOf_14 rfl rfl ?_
        refine x_callVi C gv_X1_58 (c_X1_isBefore k w (by omega) hw) 1 rfl rfl rfl rfl (Nat.le_of_ble_eq_true rfl) ⟨(Nat.le_of_ble_eq_true rfl), (Nat.le_of_ble_eq_true rfl)⟩ ⟨Nat.zero_le _, Nat.zero_le _⟩ dX1_placeOf_15 ?_
        refine x_if_eq C (tgt := 24) dX1_placeOf_18 (by decide) (fun h2 => ?_) (fun h2 => ?_)
        · have h3 := bz_f h2
          refine x_iinc C dX1_placeOf_24 rfl (nI_1 k) (by decide) ?_
          refine x_goto C (tgt := 4) dX1_placeOf_27 (by decide) ?_
          exact x_ls (by rw [wo_cnt_f (q := fun o => lx_A rk (o * 6) (w * 6) 6 0) h3]; rfl) (ih (k + 1) (by omega))
        · have h3 := bz_t h2
          refine x_iinc C dX1_placeOf_21 rfl (nI_1 _) (by decide) ?_
          refine x_iinc C dX1_placeOf_24 rfl (nI_1 k) (by decide) ?_
          refine x_goto C (tgt := 4) dX1_placeOf_27 (by decide) ?_
          exact x_ls (by rw [wo_cnt_t (q := fun o => lx_A rk (o * 6) (w * 6) 6 0) h3]; rfl) (ih (k + 1) (by omega))
  exact loop gr 0 (by omega)
/-- clearFor: rows of all 72 places -/
def wo_fill (f : Nat → Int32) (v : Int32) (n : Nat) : Nat → Int32 := fun j => if j < n then v else f j
theorem wo_fill_up (f : Nat → Int32) (v : Int32) (n : Nat) : va_up (wo_fill f v n) n v = wo_fill f v (n + 1) := by
  funext j; unfold va_up wo_fill
  by_cases h : j = n
  · rw [if_pos h, if_pos (by omega)]
  · rw [if_neg h]
    by_cases h2 : j < n
    · rw [if_pos h2, if_pos (by omega)]
    · rw [if_neg h2, if_neg (by omega)]
theorem wo_fill_0 (f : Nat → Int32) (v : Int32) : wo_fill f v 0 = f := by funext j; unfold wo_fill; rw [if_neg (by omega)]
set_option maxRecDepth 100000 in
set_option maxHeartbeats 4000000 in
theorem c_X1_clearFor (g : Nat) : wo_E l yX1_clearFor cX1_clearFor 3 (none) 0 D ((cI, .int) :: (cZ, .boolean) :: tys) [.ref (a 1), .int (nI g)] (wA cI cZ a gr en mk tl me rk dy ln ll ps lf lc tc tp lv rp rc pp ++ Y) none (wA cI cZ a (g) (0) (wo_fill mk (-1000000) 72) (wo_fill tl (-1000000) 72) (wo_fill me 0 72) (wo_fill rk (-1000000) 72) dy ln ll ps lf lc tc tp lv rp rc pp ++ Y) := by
  refine wo_of (ls := [some (.ref (a 1)), some (.int (nI g)), none]) (by decide) (Nat.le_of_ble_eq_true rfl) rfl ?_
  intro p e s m args below meth c A C
  refine x_aload_n C dX1_clearFor_0 rfl rfl ?_
  refine x_iload_n C dX1_clearFor_1 rfl rfl ?_
  refine pA1_growers C _ rfl dX1_clearFor_2 ?_
  refine x_aload_n C dX1_clearFor_5 rfl rfl ?_
  refine x_iconst C (v := 0) dX1_clearFor_6 (by decide) ?_
  refine pA1_entries C 0 rfl dX1_clearFor_7 ?_
  refine x_iconst C (v := 0) dX1_clearFor_10 (by decide) ?_
  refine x_istore_n C dX1_clearFor_11 rfl (by decide) ?_
  have loop : ∀ (n k : Nat), n + k = 72 → wo_W p l e (wo_rm 0) s m args below meth c A D 0 0 3 (MQ below (wo_Q D ((cI, .int) :: (cZ, .boolean) :: tys) none (wA cI cZ a (g) (0) (wo_fill mk (-1000000) 72) (wo_fill tl (-1000000) 72) (wo_fill me 0 72) (wo_fill rk (-1000000) 72) dy ln ll ps lf lc tc tp lv rp rc pp ++ Y) A) args s 0 0 A) 12 [some (.ref (a 1)), some (.int (nI g)), some (.int (nI k))] [] (wA cI cZ a (g) (0) (wo_fill mk (-1000000) k) (wo_fill tl (-1000000) k) (wo_fill me 0 k) (wo_fill rk (-1000000) k) dy ln ll ps lf lc tc tp lv rp rc pp ++ Y) := by
    intro n
    induction n with
    | zero =>
      intro k hk
      refine x_iload_n C dX1_clearFor_12 rfl rfl ?_
      refine x_bipush C (v := 72) dX1_clearFor_13 (by decide) ?_
      refine x_icmp_ge C (tgt := 55) dX1_clearFor_15 (by decide) (fun h => ?_) (fun h => ?_)
      · have hk2 : k = 72 := by omega
        subst hk2
        exact x_vret C dX1_clearFor_55 rfl rfl
      · exact absurd (show nI 72 ≤ nI k from nI_le (by omega) (by omega)) h
    | succ n ih =>
      intro k hk
      refine x_iload_n C dX1_clearFor_12 rfl rfl ?_
      refine x_bipush C (v := 72) dX1_clearFor_13 (by decide) ?_
      refine x_icmp_ge C (tgt := 55) dX1_clearFor_15 (by decide) (fun h => ?_) (fun h => ?_)
      · exact absurd (wo_le (a := 72) (b := k) (by omega) (by omega) h) (by omega)
      · refine x_aload_n C dX1_clearFor_18 rfl rfl ?_
        refine gA1_marks C dX1_clearFor_19 ?_
        refine x_iload_n C dX1_clearFor_22 rfl rfl ?_
        refine x_ldc C kk_X1_31 dX1_clearFor_23 ?_
        refine sA_mk C _ _ rfl (by omega) dX1_clearFor_25 ?_
        refine x_aload_n C dX1_clearFor_26 rfl rfl ?_
        refine gA1_tilts C dX1_clearFor_27 ?_
        refine x_iload_n C dX1_clearFor_30 rfl rfl ?_
        refine x_ldc C kk_X1_31 dX1_clearFor_31 ?_
        refine sA_tl C _ _ rfl (by omega) dX1_clearFor_33 ?_
        refine x_aload_n C dX1_clearFor_34 rfl rfl ?_
        refine gA1_measured C dX1_clearFor_35 ?_
        refine x_iload_n C dX1_clearFor_38 rfl rfl ?_
        refine x_iconst C (v := 0) dX1_clearFor_39 (by decide) ?_
        refine sA_me C _ _ rfl (by omega) dX1_clearFor_40 ?_
        refine x_aload_n C dX1_clearFor_41 rfl rfl ?_
        refine gA1_ranked C dX1_clearFor_42 ?_
        refine x_iload_n C dX1_clearFor_45 rfl rfl ?_
        refine x_ldc C kk_X1_31 dX1_clearFor_46 ?_
        refine sA_rk C _ _ rfl (by omega) dX1_clearFor_48 ?_
        refine x_iinc C dX1_clearFor_49 rfl (nI_1 k) (by decide) ?_
        refine x_goto C (tgt := 12) dX1_clearFor_52 (by decide) ?_
        exact x_ws (by rw [wo_fill_up, wo_fill_up, wo_fill_up, wo_fill_up]) (ih (k + 1) (by omega))
  exact x_ws (by rw [wo_fill_0, wo_fill_0, wo_fill_0, wo_fill_0]) (loop 72 0 rfl)
end SHT
