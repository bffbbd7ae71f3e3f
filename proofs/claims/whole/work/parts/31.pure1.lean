/-! ===== pure: rows of weights ===== -/
def rl_ (f : Nat → Int32) : Nat → List Int32
  | 0 => []
  | n + 1 => f n :: rl_ f n
theorem rl_congr {f g : Nat → Int32} : ∀ n, (∀ k, k < n → f k = g k) → rl_ f n = rl_ g n
  | 0, _ => rfl
  | n + 1, h => by rw [rl_, rl_, h n (by omega), rl_congr n (fun k hk => h k (by omega))]
theorem rl_inj {f g : Nat → Int32} : ∀ n, rl_ f n = rl_ g n → ∀ k, k < n → f k = g k
  | 0, _, k, hk => absurd hk (Nat.not_lt_zero k)
  | n + 1, h, k, hk => by
    rw [rl_, rl_] at h
    injection h with h1 h2
    by_cases e : k = n
    · rw [e]; exact h1
    · exact rl_inj n h2 k (by omega)
theorem rl_len (f : Nat → Int32) : ∀ n, (rl_ f n).length = n
  | 0 => rfl
  | n + 1 => by rw [rl_, List.length_cons, rl_len f n]
def insR (v : Int32) : List Int32 → List Int32
  | [] => [v]
  | x :: r => if x < v then x :: insR v r else v :: x :: r
theorem insR_len (v : Int32) : ∀ r, (insR v r).length = r.length + 1
  | [] => rfl
  | x :: r => by
    unfold insR
    split
    · rw [List.length_cons, List.length_cons, insR_len v r]
    · rfl
theorem i32_tri (a b : Int32) : a < b ∨ a = b ∨ b < a := by
  rcases Int.lt_trichotomy a.toInt b.toInt with h | h | h
  · exact Or.inl (Int32.lt_iff_toInt_lt.mpr h)
  · exact Or.inr (Or.inl (Int32.toInt_inj.mp h))
  · exact Or.inr (Or.inr (Int32.lt_iff_toInt_lt.mpr h))
theorem i32_nlt {a b : Int32} (h : ¬ a < b) : b.toInt ≤ a.toInt := by
  have := Int32.not_lt.mp h
  exact Int32.le_iff_toInt_le.mp this
theorem insR_comm (a b : Int32) : ∀ r, insR a (insR b r) = insR b (insR a r)
  | [] => by
    show insR a [b] = insR b [a]
    unfold insR insR
    rcases i32_tri a b with h | h | h
    · have h2 : ¬ b < a := Int32.not_lt.mpr (Int32.le_of_lt h)
      rw [if_neg h2, if_pos h]
    · subst h; rfl
    · have h2 : ¬ a < b := Int32.not_lt.mpr (Int32.le_of_lt h)
      rw [if_pos h, if_neg h2]
  | x :: r => by
    by_cases ha : x < a <;> by_cases hb : x < b
    · have e1 : insR b (x :: r) = x :: insR b r := by rw [insR, if_pos hb]
      have e2 : insR a (x :: r) = x :: insR a r := by rw [insR, if_pos ha]
      rw [e1, e2, insR, if_pos ha, insR, if_pos hb, insR_comm a b r]
    · have e1 : insR b (x :: r) = b :: x :: r := by rw [insR, if_neg hb]
      have e2 : insR a (x :: r) = x :: insR a r := by rw [insR, if_pos ha]
      have h3 : b < a := Int32.lt_iff_toInt_lt.mpr (by have := Int32.lt_iff_toInt_lt.mp ha; have := i32_nlt hb; omega)
      rw [e1, e2, insR, if_pos h3, e2, insR, if_neg hb]
    · have e1 : insR b (x :: r) = x :: insR b r := by rw [insR, if_pos hb]
      have e2 : insR a (x :: r) = a :: x :: r := by rw [insR, if_neg ha]
      have h3 : a < b := Int32.lt_iff_toInt_lt.mpr (by have := Int32.lt_iff_toInt_lt.mp hb; have := i32_nlt ha; omega)
      rw [e1, e2, insR, if_neg ha]
      conv => rhs; rw [insR, if_pos h3, e1]
    · have e1 : insR b (x :: r) = b :: x :: r := by rw [insR, if_neg hb]
      have e2 : insR a (x :: r) = a :: x :: r := by rw [insR, if_neg ha]
      rw [e1, e2]
      rcases i32_tri a b with h | h | h
      · have h2 : ¬ b < a := Int32.not_lt.mpr (Int32.le_of_lt h)
        conv => lhs; rw [insR, if_neg h2]
        conv => rhs; rw [insR, if_pos h, insR, if_neg hb]
      · subst h; rfl
      · have h2 : ¬ a < b := Int32.not_lt.mpr (Int32.le_of_lt h)
        conv => lhs; rw [insR, if_pos h, insR, if_neg ha]
        conv => rhs; rw [insR, if_neg h2]
theorem rl_ins (v : Int32) (fr : Nat) : ∀ (n : Nat) (f : Nat → Int32), rl_ (fun k => rk_ins n f fr v (fr + k)) (n + 1) = insR v (rl_ (fun k => f (fr + k)) n)
  | 0, f => by
    show [rk_ins 0 f fr v (fr + 0)] = [v]
    rw [rk_ins, Nat.add_zero, up_eq]
  | n + 1, f => by
    rw [rl_]
    by_cases h : f (fr + n) < v
    · have e : rk_ins (n + 1) f fr v = rk_ins n (va_up f (fr + n + 1) (f (fr + n))) fr v := by rw [rk_ins, if_pos h]
      rw [e, rl_ins v fr n, show rl_ (fun k => f (fr + k)) (n + 1) = f (fr + n) :: rl_ (fun k => f (fr + k)) n from rfl, insR, if_pos h]
      rw [rk_ins_out n _ fr v (fr + (n + 1)) (by omega), show fr + (n + 1) = fr + n + 1 by omega, up_eq]
      rw [rl_congr n (g := fun k => f (fr + k)) (fun k hk => up_ne (by omega))]
    · have e : rk_ins (n + 1) f fr v = va_up f (fr + n + 1) v := by rw [rk_ins, if_neg h]
      rw [e, show fr + (n + 1) = fr + n + 1 by omega, up_eq, show rl_ (fun k => f (fr + k)) (n + 1) = f (fr + n) :: rl_ (fun k => f (fr + k)) n from rfl, insR, if_neg h]
      rw [rl_congr (n + 1) (g := fun k => f (fr + k)) (fun k hk => up_ne (by omega))]
      rfl
/-- the weights of a grower, the least first -/
def lb_ (kd wo : Nat → Int32) (w : Nat) : Nat → List Int32
  | 0 => []
  | r + 1 => if kd (7 * w + (r + 1)) = 1 then insR (wo (7 * w + (r + 1))) (lb_ kd wo w r) else lb_ kd wo w r
theorem lb_ws (kd wo : Nat → Int32) (w : Nat) (f : Nat → Int32) : ∀ r, rl_ (ws_B kd wo w f r).1 (ws_B kd wo w f r).2 = lb_ kd wo w r
  | 0 => rfl
  | r + 1 => by
    have h := lb_ws kd wo w f r
    unfold ws_B lb_
    split
    · have h2 := rl_ins (wo (7 * w + (r + 1))) 0 (ws_B kd wo w f r).2 (ws_B kd wo w f r).1
      simp only [Nat.zero_add] at h2
      show rl_ (rk_ins (ws_B kd wo w f r).2 (ws_B kd wo w f r).1 0 (wo (7 * w + (r + 1)))) ((ws_B kd wo w f r).2 + 1) = _
      rw [h2, h]
    · exact h
theorem lb_wk (kd wo : Nat → Int32) (w : Nat) : rl_ (wk_B kd wo w) (wn_B kd wo w) = lb_ kd wo w 6 := lb_ws kd wo w _ 6
theorem lb_len (kd wo : Nat → Int32) (w : Nat) : (lb_ kd wo w 6).length = wn_B kd wo w := by rw [← lb_wk, rl_len]
theorem lb_same {kd wo kd' wo' : Nat → Int32} {w : Nat} : ∀ r, (∀ d, 1 ≤ d → d ≤ r → (kd' (7 * w + d) = 1 ↔ kd (7 * w + d) = 1) ∧ (kd (7 * w + d) = 1 → wo' (7 * w + d) = wo (7 * w + d))) → lb_ kd' wo' w r = lb_ kd wo w r
  | 0, _ => rfl
  | r + 1, h => by
    have h1 := h (r + 1) (by omega) (by omega)
    have h2 := lb_same r (fun d a b => h d a (by omega))
    unfold lb_
    by_cases hk : kd (7 * w + (r + 1)) = 1
    · rw [if_pos hk, if_pos (h1.1.mpr hk), h1.2 hk, h2]
    · rw [if_neg hk, if_neg (fun z => hk (h1.1.mp z)), h2]
theorem lb_add {kd wo kd' wo' : Nat → Int32} {w d : Nat} {v : Int32} (hd1 : 1 ≤ d) (hk : ¬ kd (7 * w + d) = 1) (hk' : kd' (7 * w + d) = 1) (hv : wo' (7 * w + d) = v) (ho : ∀ e, ¬ e = d → (kd' (7 * w + e) = 1 ↔ kd (7 * w + e) = 1) ∧ (kd (7 * w + e) = 1 → wo' (7 * w + e) = wo (7 * w + e))) : ∀ r, d ≤ r → lb_ kd' wo' w r = insR v (lb_ kd wo w r)
  | 0, h => absurd h (by omega)
  | r + 1, h => by
    by_cases e : r + 1 = d
    · have h2 : lb_ kd' wo' w r = lb_ kd wo w r := lb_same r (fun d' a b => ho d' (by omega))
      unfold lb_
      rw [e, if_pos hk', if_neg hk, hv, h2]
    · have h1 := ho (r + 1) e
      have h2 := lb_add hd1 hk hk' hv ho r (by omega)
      unfold lb_
      by_cases hq : kd (7 * w + (r + 1)) = 1
      · rw [if_pos hq, if_pos (h1.1.mpr hq), h1.2 hq, h2, insR_comm]
      · rw [if_neg hq, if_neg (fun z => hq (h1.1.mp z)), h2]
/-- the class's row is the weights, and none behind them -/
def row_ok (rk kd wo : Nat → Int32) (w : Nat) : Prop := rl_ (fun k => rk (w * 6 + k)) 6 = List.replicate (6 - wn_B kd wo w) (-1000000) ++ lb_ kd wo w 6
theorem insR_pad {v : Int32} (hv : (-1000000 : Int32) < v) (r : List Int32) : ∀ n, insR v (List.replicate n (-1000000) ++ r) = List.replicate n (-1000000) ++ insR v r
  | 0 => rfl
  | n + 1 => by
    rw [List.replicate_succ, List.cons_append, insR, if_pos hv, insR_pad hv r n, List.cons_append]
theorem rl_pad (f : Nat → Int32) (n : Nat) : ∀ m, rl_ (fun k => if k < n then f k else -1000000) (n + m) = List.replicate m (-1000000) ++ rl_ f n
  | 0 => by
    rw [Nat.add_zero, List.replicate_zero, List.nil_append]
    exact rl_congr n (fun k hk => by rw [if_pos hk])
  | m + 1 => by
    rw [← Nat.add_assoc, rl_, rl_pad f n m, if_neg (by omega), List.replicate_succ, List.cons_append]
theorem row_at {rk kd wo : Nat → Int32} {w : Nat} (h : row_ok rk kd wo w) {k : Nat} (hk : k < 6) : rk (w * 6 + k) = if k < wn_B kd wo w then wk_B kd wo w k else -1000000 := by
  have hn := wn_le kd wo w
  have h1 := rl_pad (wk_B kd wo w) (wn_B kd wo w) (6 - wn_B kd wo w)
  rw [show wn_B kd wo w + (6 - wn_B kd wo w) = 6 by omega, lb_wk] at h1
  exact rl_inj 6 (h.trans h1.symm) k hk
theorem row_same {rk rk' kd wo kd' wo' : Nat → Int32} {w : Nat} (h : row_ok rk kd wo w) (hr : ∀ k, k < 6 → rk' (w * 6 + k) = rk (w * 6 + k)) (hs : ∀ d, 1 ≤ d → d ≤ 6 → (kd' (7 * w + d) = 1 ↔ kd (7 * w + d) = 1) ∧ (kd (7 * w + d) = 1 → wo' (7 * w + d) = wo (7 * w + d))) : row_ok rk' kd' wo' w := by
  have e := lb_same (w := w) 6 hs
  have e2 : wn_B kd' wo' w = wn_B kd wo w := by rw [← lb_len, ← lb_len, e]
  unfold row_ok
  rw [e2, e, ← h]
  exact rl_congr 6 hr
theorem row_add {rk kd wo kd' wo' : Nat → Int32} {w d : Nat} {v : Int32} (h : row_ok rk kd wo w) (hv : (-1000000 : Int32) < v) (hd1 : 1 ≤ d) (hd6 : d ≤ 6) (hk : ¬ kd (7 * w + d) = 1) (hk' : kd' (7 * w + d) = 1) (hw : wo' (7 * w + d) = v) (ho : ∀ e, ¬ e = d → (kd' (7 * w + e) = 1 ↔ kd (7 * w + e) = 1) ∧ (kd (7 * w + e) = 1 → wo' (7 * w + e) = wo (7 * w + e))) : row_ok (rk_ins 5 rk (w * 6) v) kd' wo' w := by
  have e := lb_add hd1 hk hk' hw ho 6 hd6
  have e2 : wn_B kd' wo' w = wn_B kd wo w + 1 := by rw [← lb_len, ← lb_len, e, insR_len]
  have hn := wn_le kd' wo' w
  have h5 : rl_ (fun k => rk (w * 6 + k)) 5 = List.replicate (5 - wn_B kd wo w) (-1000000) ++ lb_ kd wo w 6 := by
    have h6 := h
    unfold row_ok at h6
    rw [rl_, show 6 - wn_B kd wo w = (5 - wn_B kd wo w) + 1 by omega, List.replicate_succ, List.cons_append] at h6
    injection h6
  unfold row_ok
  rw [rl_ins v (w * 6) 5 rk, h5, insR_pad hv, e2, e, show 6 - (wn_B kd wo w + 1) = 5 - wn_B kd wo w by omega]
