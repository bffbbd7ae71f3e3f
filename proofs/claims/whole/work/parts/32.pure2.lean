/-! ===== pure: places, and the day's order as a list ===== -/
theorem lx_none {rk : Nat → Int32} {x y : Nat} : ∀ (n k : Nat), (∀ j, k ≤ j → j < k + n → rk (x + j) = rk (y + j)) → lx_A rk x y n k = false
  | 0, _, _ => rfl
  | n + 1, k, h => by
    rw [lx_A, if_pos (h k (Nat.le_refl _) (by omega))]
    exact lx_none n (k + 1) (fun j h1 h2 => h j (by omega) (by omega))
theorem lx_eq {rk : Nat → Int32} {x y : Nat} {f g : Nat → Int32} {n m : Nat} (hn : n ≤ 6) (hm : m ≤ 6) (hx : ∀ k, k < 6 → rk (x + k) = if k < n then f k else -1000000) (hy : ∀ k, k < 6 → rk (y + k) = if k < m then g k else -1000000) (hf : ∀ k, k < n → (-1000000 : Int32) < f k) (hg : ∀ k, k < m → (-1000000 : Int32) < g k) :
    ∀ q k, k + q = 6 → lx_A rk x y q k = lx_B f g n m (q + 1) k
  | 0, k, h => by
    rw [lx_A, lx_B, if_neg (by omega)]
  | q + 1, k, h => by
    rw [lx_B]
    by_cases h1 : k < n
    · rw [if_pos h1]
      by_cases h2 : k < m
      · rw [if_pos h2, lx_A, hx k (by omega), hy k (by omega), if_pos h1, if_pos h2]
        by_cases h3 : f k = g k
        · rw [if_pos h3, if_pos h3]
          exact lx_eq hn hm hx hy hf hg q (k + 1) (by omega)
        · rw [if_neg h3, if_neg h3]
      · rw [if_neg h2, lx_A, hx k (by omega), hy k (by omega), if_pos h1, if_neg h2]
        have h4 := hf k h1
        rw [if_neg (fun z => by rw [z] at h4; exact Int32.lt_irrefl h4), decide_eq_true h4]
    · rw [if_neg h1]
      by_cases h2 : k < m
      · rw [lx_A, hx k (by omega), hy k (by omega), if_neg h1, if_pos h2]
        have h4 := hg k h2
        rw [if_neg (fun z => by rw [← z] at h4; exact Int32.lt_irrefl h4), decide_eq_false (Int32.not_lt.mpr (Int32.le_of_lt h4))]
      · refine lx_none (q + 1) k (fun j a b => ?_)
        rw [hx j (by omega), hy j (by omega), if_neg (by omega), if_neg (by omega)]
theorem cnt_congr {p q : Nat → Bool} : ∀ n, (∀ k, k < n → p k = q k) → wo_cnt p n = wo_cnt q n
  | 0, _ => rfl
  | n + 1, h => by rw [wo_cnt, wo_cnt, h n (by omega), cnt_congr n (fun k hk => h k (by omega))]
/-- every weight is above none -/
def wpos (kd wo : Nat → Int32) : Prop := ∀ w d, w < 12 → 1 ≤ d → d ≤ 6 → kd (7 * w + d) = 1 → (0 : Int32) < wo (7 * w + d)
theorem insR_all {P : Int32 → Prop} {v : Int32} (hv : P v) : ∀ {r : List Int32}, (∀ x ∈ r, P x) → ∀ x ∈ insR v r, P x
  | [], _, x, hx => by rw [show insR v [] = [v] from rfl, List.mem_singleton] at hx; rw [hx]; exact hv
  | y :: r, h, x, hx => by
    unfold insR at hx
    split at hx
    · rcases List.mem_cons.mp hx with e | e
      · rw [e]; exact h y List.mem_cons_self
      · exact insR_all hv (fun z hz => h z (List.mem_cons_of_mem _ hz)) x e
    · rcases List.mem_cons.mp hx with e | e
      · rw [e]; exact hv
      · exact h x e
theorem lb_all {kd wo : Nat → Int32} {w : Nat} (hw : w < 12) (hp : wpos kd wo) : ∀ r, r ≤ 6 → ∀ x ∈ lb_ kd wo w r, (0 : Int32) < x
  | 0, _, x, hx => by simp [lb_] at hx
  | r + 1, hr, x, hx => by
    unfold lb_ at hx
    split at hx
    · next hk => exact insR_all (P := fun x => (0 : Int32) < x) (hp w (r + 1) hw (by omega) hr hk) (lb_all hw hp r (by omega)) x hx
    · exact lb_all hw hp r (by omega) x hx
theorem rl_mem (f : Nat → Int32) : ∀ n k, k < n → f k ∈ rl_ f n
  | 0, k, h => absurd h (Nat.not_lt_zero k)
  | n + 1, k, h => by
    rw [rl_]
    by_cases e : k = n
    · rw [e]; exact List.mem_cons_self
    · exact List.mem_cons_of_mem _ (rl_mem f n k (by omega))
theorem wk_pos {kd wo : Nat → Int32} {w k : Nat} (hw : w < 12) (hp : wpos kd wo) (hk : k < wn_B kd wo w) : (0 : Int32) < wk_B kd wo w k := lb_all hw hp 6 (Nat.le_refl _) _ (by rw [← lb_wk]; exact rl_mem _ _ k hk)
theorem none_lt {v : Int32} (h : (0 : Int32) < v) : (-1000000 : Int32) < v := Int32.lt_trans (by decide) h
theorem none_ne {v : Int32} (h : (0 : Int32) < v) : ¬ v = -1000000 := fun z => by rw [z] at h; exact absurd h (by decide)
theorem pl_eq {rk kd wo : Nat → Int32} {g : Nat} (hg : g ≤ 12) (hp : wpos kd wo) (hr : ∀ w, w < 12 → row_ok rk kd wo w) {w : Nat} (hw : w < 12) : pl_A rk g w = pl_B kd wo g w := by
  unfold pl_A pl_B
  congr 1
  refine cnt_congr g (fun o ho => ?_)
  have e := lx_eq (wn_le kd wo o) (wn_le kd wo w) (fun k hk => row_at (hr o (by omega)) hk) (fun k hk => row_at (hr w hw) hk) (fun k hk => none_lt (wk_pos (by omega) hp hk)) (fun k hk => none_lt (wk_pos hw hp hk)) 6 0 rfl
  by_cases h : o = w
  · subst h
    rw [decide_eq_false (fun z => z rfl), Bool.false_and]
    exact lx_none 6 0 (fun _ _ _ => rfl)
  · rw [decide_eq_true h, Bool.true_and]
    exact e
/-- the part of a row from place k on, n long, as a list: those with q -/
def sg_ (f : Nat → Nat) (q : Nat → Bool) : Nat → Nat → List Nat
  | 0, _ => []
  | n + 1, k => if q (f k) then f k :: sg_ f q n (k + 1) else sg_ f q n (k + 1)
theorem sg_congr {f f' : Nat → Nat} {q q' : Nat → Bool} : ∀ n k, (∀ j, k ≤ j → j < k + n → f j = f' j ∧ q (f j) = q' (f j)) → sg_ f q n k = sg_ f' q' n k
  | 0, _, _ => rfl
  | n + 1, k, h => by
    have h1 := h k (Nat.le_refl _) (by omega)
    have h2 := sg_congr (f := f) (f' := f') (q := q) (q' := q') n (k + 1) (fun j a b => h j (by omega) (by omega))
    rw [sg_, sg_, h2, ← h1.1, h1.2]
theorem sg_filter (f : Nat → Nat) (q p : Nat → Bool) : ∀ n k, (sg_ f q n k).filter p = sg_ f (fun w => q w && p w) n k
  | 0, _ => rfl
  | n + 1, k => by
    have h := sg_filter f q p n (k + 1)
    rw [sg_, sg_]
    cases h1 : q (f k) with
    | false => rw [Bool.false_and]; exact h
    | true =>
      rw [Bool.true_and, if_pos rfl, List.filter_cons]
      cases h2 : p (f k) with
      | false => exact h
      | true => rw [if_pos rfl, if_pos rfl, h]
theorem sg_mem {f : Nat → Nat} {q : Nat → Bool} : ∀ n k w, w ∈ sg_ f q n k → q w = true ∧ ∃ j, k ≤ j ∧ j < k + n ∧ f j = w
  | 0, _, w, h => by simp [sg_] at h
  | n + 1, k, w, h => by
    unfold sg_ at h
    split at h
    · next hq =>
      rcases List.mem_cons.mp h with e | e
      · rw [e]; exact ⟨hq, k, Nat.le_refl _, by omega, rfl⟩
      · obtain ⟨h1, j, h2, h3, h4⟩ := sg_mem n (k + 1) w e
        exact ⟨h1, j, by omega, by omega, h4⟩
    · obtain ⟨h1, j, h2, h3, h4⟩ := sg_mem n (k + 1) w h
      exact ⟨h1, j, by omega, by omega, h4⟩
theorem sg_len (f : Nat → Nat) : ∀ n k, (sg_ f (fun _ => true) n k).length = n
  | 0, _ => rfl
  | n + 1, k => by rw [sg_, if_pos rfl, List.length_cons, sg_len f n (k + 1)]
theorem sg_snoc (f : Nat → Nat) (q : Nat → Bool) : ∀ n k, sg_ f q (n + 1) k = sg_ f q n k ++ (if q (f (k + n)) then [f (k + n)] else [])
  | 0, k => by
    show (if q (f k) = true then f k :: sg_ f q 0 (k + 1) else sg_ f q 0 (k + 1)) = [] ++ _
    rw [List.nil_append]
    rfl
  | n + 1, k => by
    rw [sg_, sg_snoc f q n (k + 1)]
    conv => rhs; rw [sg_]
    rw [show k + 1 + n = k + (n + 1) by omega]
    split
    · rfl
    · rfl
/-- a row and how many of it, as a list -/
def ls_ (s : (Nat → Nat) × Nat) : List Nat := sg_ s.1 (fun _ => true) s.2 0
theorem ls_put (s : (Nat → Nat) × Nat) (w : Nat) : ls_ (by_put s w) = ls_ s ++ [w] := by
  unfold ls_ by_put
  show sg_ (va_up s.1 s.2 w) (fun _ => true) (s.2 + 1) 0 = _
  rw [sg_snoc, if_pos rfl, Nat.zero_add, up_eq, sg_congr (f' := s.1) (q' := fun _ => true) s.2 0 (fun j _ hj => ⟨up_ne (by omega), rfl⟩)]
def dn_ (ok : Nat → Bool) : Nat → List Nat
  | 0 => []
  | n + 1 => (if ok n then [n] else []) ++ dn_ ok n
def or_ (ok : Nat → Nat → Bool) (g : Nat) : Nat → List Nat
  | 0 => []
  | n + 1 => dn_ (ok (n + 1)) g ++ or_ ok g n
theorem ls_byw (ok : Nat → Nat → Bool) (q : Nat) : ∀ n s, ls_ (by_w ok q n s) = ls_ s ++ dn_ (ok q) n
  | 0, s => by rw [by_w, dn_, List.append_nil]
  | n + 1, s => by
    rw [by_w, ls_byw ok q n, dn_]
    cases h : ok q n with
    | true => rw [if_pos rfl, if_pos rfl, ls_put, List.append_assoc]
    | false => rfl
theorem ls_byp (ok : Nat → Nat → Bool) (g : Nat) : ∀ n s, ls_ (by_p ok g n s) = ls_ s ++ or_ ok g n
  | 0, s => by rw [by_p, or_, List.append_nil]
  | n + 1, s => by rw [by_p, ls_byp ok g n, ls_byw, or_, List.append_assoc]
theorem ls_pu {s : (Nat → Nat) × Nat} (w : Nat) (h : s.2 < 12) : ls_ (pu_A s w) = ls_ s ++ [w] := by
  have e : pu_A s w = by_put s w := by unfold pu_A by_put; rw [if_pos h]
  rw [e, ls_put]
theorem ls_n (s : (Nat → Nat) × Nat) : (ls_ s).length = s.2 := sg_len s.1 s.2 0
theorem dn_congr {p q : Nat → Bool} : ∀ n, (∀ k, k < n → p k = q k) → dn_ p n = dn_ q n
  | 0, _ => rfl
  | n + 1, h => by rw [dn_, dn_, h n (by omega), dn_congr n (fun k hk => h k (by omega))]
theorem or_congr {p q : Nat → Nat → Bool} {g : Nat} : ∀ n, (∀ j k, j ≤ n → k < g → p j k = q j k) → or_ p g n = or_ q g n
  | 0, _ => rfl
  | n + 1, h => by rw [or_, or_, dn_congr g (fun k hk => h (n + 1) k (by omega) hk), or_congr n (fun j k hj hk => h j k (by omega) hk)]
theorem dn_filter (ok p : Nat → Bool) : ∀ n, (dn_ ok n).filter p = dn_ (fun k => ok k && p k) n
  | 0 => rfl
  | n + 1 => by
    rw [dn_, dn_, List.filter_append, dn_filter ok p n]
    congr 1
    cases h1 : ok n with
    | false => rfl
    | true =>
      rw [if_pos rfl, Bool.true_and, List.filter_cons, List.filter_nil]
theorem or_filter (ok : Nat → Nat → Bool) (p : Nat → Bool) (g : Nat) : ∀ n, (or_ ok g n).filter p = or_ (fun j k => ok j k && p k) g n
  | 0 => rfl
  | n + 1 => by rw [or_, or_, List.filter_append, dn_filter, or_filter ok p g n]
theorem dn_mem {ok : Nat → Bool} : ∀ n w, w ∈ dn_ ok n → w < n ∧ ok w = true
  | 0, w, h => by simp [dn_] at h
  | n + 1, w, h => by
    unfold dn_ at h
    rcases List.mem_append.mp h with h | h
    · split at h
      · next hk => rw [List.mem_singleton.mp h]; exact ⟨by omega, hk⟩
      · simp at h
    · have := dn_mem n w h
      exact ⟨by omega, this.2⟩
theorem dn_nd (ok : Nat → Bool) : ∀ n, (dn_ ok n).Nodup
  | 0 => List.nodup_nil
  | n + 1 => by
    unfold dn_
    split
    · show (n :: dn_ ok n).Nodup
      rw [List.nodup_cons]
      exact ⟨fun h => by have := (dn_mem n n h).1; omega, dn_nd ok n⟩
    · exact dn_nd ok n
theorem or_mem {ok : Nat → Nat → Bool} {g : Nat} : ∀ n w, w ∈ or_ ok g n → w < g ∧ ∃ j, j ≤ n ∧ ok j w = true
  | 0, w, h => by simp [or_] at h
  | n + 1, w, h => by
    unfold or_ at h
    rcases List.mem_append.mp h with h | h
    · have := dn_mem g w h
      exact ⟨this.1, n + 1, Nat.le_refl _, this.2⟩
    · obtain ⟨h1, j, h2, h3⟩ := or_mem n w h
      exact ⟨h1, j, by omega, h3⟩
theorem or_nd {ok : Nat → Nat → Bool} {g : Nat} (hu : ∀ i j w, ok i w = true → ok j w = true → i = j) : ∀ n, (or_ ok g n).Nodup
  | 0 => List.nodup_nil
  | n + 1 => by
    unfold or_
    rw [List.nodup_append]
    refine ⟨dn_nd _ _, or_nd hu n, fun a ha b hb e => ?_⟩
    subst e
    obtain ⟨-, j, hj, h3⟩ := or_mem n a hb
    have := hu (n + 1) j a (dn_mem g a ha).2 h3
    omega
/-- the class's lining up, where its row doesn't run full -/
theorem ls_lnw {tp : Nat → Nat} {tc lf : Nat → Bool} {q : Nat} : ∀ n s, s.2 + (dn_ (ln_ok tp tc lf q) n).length ≤ 12 → ls_ (ln_w tp tc lf q n s) = ls_ s ++ dn_ (ln_ok tp tc lf q) n
  | 0, s, _ => by rw [ln_w, dn_, List.append_nil]
  | n + 1, s, h => by
    rw [ln_w, dn_]
    rw [dn_] at h
    cases hk : ln_ok tp tc lf q n with
    | true =>
      rw [hk, if_pos rfl, List.length_append] at h
      have h1 : ([n] : List Nat).length = 1 := rfl
      have hlt : s.2 < 12 := by omega
      have h2 : (pu_A s n).2 = s.2 + 1 := by unfold pu_A; rw [if_pos hlt]
      rw [if_pos rfl, if_pos rfl, ls_lnw n (pu_A s n) (by omega), ls_pu n hlt, List.append_assoc]
    | false =>
      rw [hk, if_neg (by decide), List.nil_append] at h
      rw [if_neg (by decide), if_neg (by decide), ls_lnw n s h, List.nil_append]
theorem ls_lnp {tp : Nat → Nat} {tc lf : Nat → Bool} {g : Nat} : ∀ n s, s.2 + (or_ (ln_ok tp tc lf) g n).length ≤ 12 → ls_ (ln_p tp tc lf g n s) = ls_ s ++ or_ (ln_ok tp tc lf) g n
  | 0, s, _ => by rw [ln_p, or_, List.append_nil]
  | n + 1, s, h => by
    rw [or_, List.length_append] at h
    have h1 := ls_lnw (tp := tp) (tc := tc) (lf := lf) (q := n + 1) g s (by omega)
    have h2 : (ln_w tp tc lf (n + 1) g s).2 = s.2 + (dn_ (ln_ok tp tc lf (n + 1)) g).length := by rw [← ls_n, h1, List.length_append, ls_n]
    rw [ln_p, ls_lnp n _ (by rw [h2]; omega), h1, or_, List.append_assoc]
def rg_ : Nat → List Nat
  | 0 => []
  | n + 1 => rg_ n ++ [n]
theorem rg_mem : ∀ n w, w ∈ rg_ n ↔ w < n
  | 0, w => by simp [rg_]
  | n + 1, w => by
    rw [rg_, List.mem_append, rg_mem n w, List.mem_singleton]
    omega
theorem rg_nd : ∀ n, (rg_ n).Nodup
  | 0 => List.nodup_nil
  | n + 1 => by
    rw [rg_, List.nodup_append]
    refine ⟨rg_nd n, by simp, fun a ha b hb e => ?_⟩
    rw [List.mem_singleton.mp hb] at e
    have := (rg_mem n a).mp ha
    omega
theorem rg_len : ∀ n, (rg_ n).length = n
  | 0 => rfl
  | n + 1 => by rw [rg_, List.length_append, rg_len n]; rfl
theorem ls_id (f : Nat → Nat) : ∀ n, (∀ k, k < n → f k = k) → sg_ f (fun _ => true) n 0 = rg_ n
  | 0, _ => rfl
  | n + 1, h => by rw [sg_snoc, if_pos rfl, Nat.zero_add, ls_id f n (fun k hk => h k (by omega)), h n (by omega), rg_]
theorem ls_num {lf : Nat → Bool} {ln : Nat → Nat} : ∀ n, n ≤ 12 → ls_ (ln_num lf (ln, 0) n) = (rg_ n).filter (fun w => !lf w)
  | 0, _ => rfl
  | n + 1, h => by
    have ih := ls_num (lf := lf) (ln := ln) n (by omega)
    rw [ln_num, rg_, List.filter_append, ← ih, List.filter_cons, List.filter_nil]
    cases hk : lf n with
    | true => rw [if_pos rfl]; simp
    | false =>
      have h1 : (ln_num lf (ln, 0) n).2 ≤ n := by
        rw [← ls_n, ih]
        exact Nat.le_trans (List.length_filter_le _ _) (by rw [rg_len]; exact Nat.le_refl _)
      rw [if_neg (by decide), ls_pu n (by omega)]
      rfl
