/-! ===== entries, appeals, a new weigh-off: the relation of the sheets ===== -/
theorem cnt_one {p q : Nat → Bool} {j : Nat} (hp : p j = false) (hq : q j = true) (ho : ∀ k, ¬ k = j → q k = p k) : ∀ n, j < n → wo_cnt q n = wo_cnt p n + 1
  | 0, h => absurd h (Nat.not_lt_zero j)
  | n + 1, h => by
    rw [wo_cnt, wo_cnt]
    by_cases e : n = j
    · subst e
      rw [hp, hq, cnt_congr n (fun k hk => ho k (by omega))]
      rfl
    · rw [ho n e, cnt_one hp hq ho n (by omega)]
      omega
theorem lt_congr {mk mk' : Nat → Int32} {w : Nat} : ∀ n, (∀ d, d < n → (mk' (w * 6 + d) = -1000000 ↔ mk (w * 6 + d) = -1000000)) → lt_A mk' w n = lt_A mk w n
  | 0, _ => rfl
  | n + 1, h => by
    have ih := lt_congr (mk := mk) (mk' := mk') (w := w) n (fun d hd => h d (by omega))
    have h1 := h n (by omega)
    rw [lt_A, lt_A, ih]
    by_cases e : mk (w * 6 + n) = -1000000
    · rw [if_pos e, if_pos (h1.mpr e)]
    · rw [if_neg e, if_neg (fun z => e (h1.mp z))]
theorem lt_at {mk : Nat → Int32} {w d : Nat} (hd : 1 ≤ d) (hv : ¬ mk (w * 6 + (d - 1)) = -1000000) : ∀ n, d ≤ n → (∀ e, d ≤ e → e < n → mk (w * 6 + e) = -1000000) → lt_A mk w n = d
  | 0, h, _ => absurd h (by omega)
  | n + 1, h, ho => by
    rw [lt_A]
    by_cases e : n + 1 = d
    · rw [if_neg (by rw [show n = d - 1 by omega]; exact hv), e]
    · rw [if_pos (ho n (by omega) (by omega)), lt_at hd hv n (by omega) (fun e' a b => ho e' a (by omega))]
theorem cell_none {mk tl me kd wo : Nat → Int32} {mb : Nat → Bool} {ti : Nat → Int32} {td : Nat → Bool} {i j : Nat} (h : r_cell mk tl me kd wo mb ti td i j) : mk i = -1000000 ↔ kd j = 0 := by
  rcases h.1 with ⟨a, b⟩ | ⟨a, b, c⟩ | ⟨a, b⟩ | ⟨a, b⟩
  · exact ⟨fun _ => a, fun _ => b⟩
  · exact ⟨fun z => absurd (b.symm.trans z) (none_ne c), fun z => by rw [a] at z; exact absurd z (by decide)⟩
  · exact ⟨fun z => by rw [b] at z; exact absurd z (by decide), fun z => by rw [a] at z; exact absurd z (by decide)⟩
  · exact ⟨fun z => by rw [b] at z; exact absurd z (by decide), fun z => by rw [a] at z; exact absurd z (by decide)⟩
theorem sht_wpos {gr en : Nat} {mk tl me rk kd wo : Nat → Int32} {mb : Nat → Bool} {ti : Nat → Int32} {td : Nat → Bool} {la : Nat → Nat} (h : ShtR gr en mk tl me rk kd wo mb ti td la) : wpos kd wo := by
  intro w d hw h1 h6 hk
  rcases (h.2.2.1 w d hw h1 h6).1 with ⟨a, b⟩ | ⟨a, b, c⟩ | ⟨a, b⟩ | ⟨a, b⟩
  · rw [hk] at a; exact absurd a (by decide)
  · exact c
  · rw [hk] at a; exact absurd a (by decide)
  · rw [hk] at a; exact absurd a (by decide)
theorem sht_entry {gr en : Nat} {mk tl me rk kd wo : Nat → Int32} {mb : Nat → Bool} {ti : Nat → Int32} {td : Nat → Bool} {la : Nat → Nat} {w dy : Nat} {v t q k : Int32} {b l : Bool} {rk' wo' ti' : Nat → Int32} (h : ShtR gr en mk tl me rk kd wo mb ti td la) (hw : w < gr) (h1 : 1 ≤ dy) (h6 : dy ≤ 6) (hk0 : kd (7 * w + dy) = 0) (hlate : ∀ d, dy < d → d ≤ 6 → kd (7 * w + d) = 0) (hv : ¬ v = -1000000) (hk : ¬ k = 0) (hwo : ∀ x, ¬ x = 7 * w + dy → wo' x = wo x) (hti : ∀ x, ¬ x = 7 * w + dy → ti' x = ti x)
    (hcell : r_cell (va_up mk (w * 6 + dy - 1) v) (va_up tl (w * 6 + dy - 1) t) (va_up me (w * 6 + dy - 1) q) (va_up kd (7 * w + dy) k) wo' (va_up mb (7 * w + dy) b) ti' (va_up td (7 * w + dy) l) (w * 6 + dy - 1) (7 * w + dy)) (hrow : row_ok rk' (va_up kd (7 * w + dy) k) wo' w) (hrk : ∀ x, (x < w * 6 ∨ w * 6 + 6 ≤ x) → rk' x = rk x) :
    ShtR gr (en + 1) (va_up mk (w * 6 + dy - 1) v) (va_up tl (w * 6 + dy - 1) t) (va_up me (w * 6 + dy - 1) q) rk' (va_up kd (7 * w + dy) k) wo' (va_up mb (7 * w + dy) b) ti' (va_up td (7 * w + dy) l) (va_up la w dy) := by
  obtain ⟨g3, g12, hC, hz, hz2, hr, hen, hla⟩ := h
  refine ⟨g3, g12, fun w' d' hw' a b' => ?_, fun w' hw' => ?_, fun w' d' a b' c => ?_, fun w' hw' => ?_, ?_, fun w' hw' => ?_⟩
  · by_cases e : w' = w ∧ d' = dy
    · rw [e.1, e.2]; exact hcell
    · have n1 : ¬ w' * 6 + d' - 1 = w * 6 + dy - 1 := by omega
      have n2 : ¬ 7 * w' + d' = 7 * w + dy := by omega
      have := hC w' d' hw' a b'
      unfold r_cell at this ⊢
      rw [up_ne n1, up_ne n1, up_ne n1, up_ne n2, up_ne n2, up_ne n2, hwo _ n2, hti _ n2]
      exact this
  · rw [up_ne (by omega)]; exact hz w' hw'
  · rw [up_ne (by omega)]; exact hz2 w' d' a b' c
  · by_cases e : w' = w
    · rw [e]; exact hrow
    · refine row_same (hr w' hw') (fun k hk => hrk _ (by omega)) (fun d a b' => ?_)
      rw [up_ne (by omega)]
      exact ⟨Iff.rfl, fun _ => hwo _ (by omega)⟩
  · rw [hen]
    refine (cnt_one (j := 7 * w + dy) (decide_eq_false (fun z => z hk0)) (by show decide _ = true; rw [up_eq]; exact decide_eq_true hk) (fun x hx => ?_) 84 (by omega)).symm
    show decide (¬ va_up kd (7 * w + dy) k x = 0) = _
    rw [up_ne hx]
  · by_cases e : w' = w
    · subst e
      rw [up_eq]
      refine (lt_at h1 ?_ 6 h6 (fun e' a b' => ?_)).symm
      · rw [show w' * 6 + (dy - 1) = w' * 6 + dy - 1 by omega, up_eq]; exact hv
      · rw [up_ne (by omega)]
        have hc := hC w' (e' + 1) hw' (by omega) (by omega)
        have := (cell_none hc).mpr (hlate (e' + 1) (by omega) (by omega))
        exact this
    · rw [up_ne e, hla w' hw']
      exact (lt_congr 6 (fun d hd => by rw [up_ne (by omega)])).symm
theorem sht_appeal {gr en : Nat} {mk tl me rk kd wo : Nat → Int32} {mb : Nat → Bool} {ti : Nat → Int32} {td : Nat → Bool} {la : Nat → Nat} {w d : Nat} (h : ShtR gr en mk tl me rk kd wo mb ti td la) (hw : w < 12) (h1 : 1 ≤ d) (h6 : d ≤ 6) (hk2 : kd (7 * w + d) = 2) (hm : mb (7 * w + d) = true) :
    ShtR gr en (va_up mk (w * 6 + d - 1) (me (w * 6 + d - 1))) tl me (rk_ins 5 rk (w * 6) (me (w * 6 + d - 1))) (va_up kd (7 * w + d) 1) wo (va_up mb (7 * w + d) false) ti td la := by
  obtain ⟨g3, g12, hC, hz, hz2, hr, hen, hla⟩ := h
  have hc := hC w d hw h1 h6
  obtain ⟨m1, m2⟩ := (hc.2.2.2 hk2).2 hm
  have hgr : w < gr := by
    rcases Nat.lt_or_ge w gr with q | q
    · exact q
    · have := hz2 w d q hw h6
      rw [hk2] at this
      exact absurd this (by decide)
  refine ⟨g3, g12, fun w' d' hw' a b' => ?_, fun w' hw' => ?_, fun w' d' a b' c => ?_, fun w' hw' => ?_, ?_, fun w' hw' => ?_⟩
  · by_cases e : w' = w ∧ d' = d
    · rw [e.1, e.2]
      refine ⟨Or.inr (Or.inl ⟨up_eq, by rw [up_eq]; exact m1, m2⟩), hc.2.1, hc.2.2.1, fun z => ?_⟩
      rw [up_eq] at z
      exact absurd z (by decide)
    · have n1 : ¬ w' * 6 + d' - 1 = w * 6 + d - 1 := by omega
      have n2 : ¬ 7 * w' + d' = 7 * w + d := by omega
      have := hC w' d' hw' a b'
      unfold r_cell at this ⊢
      rw [up_ne n1, up_ne n2, up_ne n2]
      exact this
  · rw [up_ne (by omega)]; exact hz w' hw'
  · rw [up_ne (by omega)]; exact hz2 w' d' a b' c
  · by_cases e : w' = w
    · subst e
      refine row_add (hr w' hw') (d := d) (by rw [m1]; exact none_lt m2) h1 h6 (by rw [hk2]; decide) up_eq m1.symm (fun e he => ?_)
      rw [up_ne (by omega)]
      exact ⟨Iff.rfl, fun _ => rfl⟩
    · refine row_same (hr w' hw') (fun k hk => rk_ins_out _ _ _ _ _ (by omega)) (fun d' a b' => ?_)
      rw [up_ne (by omega)]
      exact ⟨Iff.rfl, fun _ => rfl⟩
  · rw [hen]
    refine cnt_congr 84 (fun x hx => ?_)
    by_cases e : x = 7 * w + d
    · rw [e, up_eq, hk2]; decide
    · rw [up_ne e]
  · rw [hla w' hw']
    refine (lt_congr 6 (fun d' hd => ?_)).symm
    by_cases e : w' * 6 + d' = w * 6 + d - 1
    · rw [e, up_eq]
      refine ⟨fun z => absurd (m1.symm.trans z) (none_ne m2), fun z => ?_⟩
      have := (cell_none hc).mp z
      rw [hk2] at this
      exact absurd this (by decide)
    · rw [up_ne e]
theorem cnt_zero {p : Nat → Bool} : ∀ n, (∀ k, k < n → p k = false) → wo_cnt p n = 0
  | 0, _ => rfl
  | n + 1, h => by rw [wo_cnt, h n (by omega), cnt_zero n (fun k hk => h k (by omega))]; rfl
theorem lt_zero {mk : Nat → Int32} {w : Nat} : ∀ n, (∀ d, d < n → mk (w * 6 + d) = -1000000) → lt_A mk w n = 0
  | 0, _ => rfl
  | n + 1, h => by rw [lt_A, if_pos (h n (by omega)), lt_zero n (fun d hd => h d (by omega))]
theorem fill_lt {f : Nat → Int32} {v : Int32} {n j : Nat} (h : j < n) : wo_fill f v n j = v := by unfold wo_fill; rw [if_pos h]
theorem sht_new {g : Nat} {mk tl me rk kd wo : Nat → Int32} {mb : Nat → Bool} {ti : Nat → Int32} {td : Nat → Bool} {la : Nat → Nat} (h3 : 3 ≤ g) (h12 : g ≤ 12) : ShtR g 0 (wo_fill mk (-1000000) 72) (wo_fill tl (-1000000) 72) (wo_fill me 0 72) (wo_fill rk (-1000000) 72) (wo_fill kd 0 84) wo (wo_ff mb (fun _ => false) 84) ti (wo_ff td (fun _ => false) 84) (wo_ff la (fun _ => 0) 12) := by
  have hlb : ∀ w, w < 12 → ∀ r, r ≤ 6 → lb_ (wo_fill kd 0 84) wo w r = [] := by
    intro w hw r
    induction r with
    | zero => intro _; rfl
    | succ r ih =>
      intro hr
      rw [lb_, fill_lt (by omega), if_neg (by decide)]
      exact ih (by omega)
  refine ⟨h3, h12, fun w d hw a b => ?_, fun w hw => fill_lt (by omega), fun w d a b c => fill_lt (by omega), fun w hw => ?_, ?_, fun w hw => ?_⟩
  · refine ⟨Or.inl ⟨fill_lt (by omega), fill_lt (by omega)⟩, ?_, fun z => ?_, fun z => ?_⟩
    · rw [fill_lt (by omega), wo_ff_lt (by omega)]; rfl
    · rw [wo_ff_lt (by omega)] at z; exact absurd z (by decide)
    · rw [fill_lt (by omega)] at z; exact absurd z (by decide)
  · have e := hlb w hw 6 (Nat.le_refl _)
    have e2 : wn_B (wo_fill kd 0 84) wo w = 0 := by rw [← lb_len, e]; rfl
    unfold row_ok
    rw [e2, e, rl_congr 6 (g := fun _ => -1000000) (fun k hk => fill_lt (by omega))]
    rfl
  · refine (cnt_zero 84 (fun k hk => ?_)).symm
    rw [fill_lt hk]; decide
  · rw [wo_ff_lt hw]
    exact (lt_zero 6 (fun d hd => fill_lt (by omega))).symm
def RecR (rp rc : Int32) (rh : Bool) (re rs : Int32) : Prop := rp = (if rh then re else -1000000) ∧ (rh = true → 0 < re) ∧ rc = rs
def PrzR (pp : Int32) (ph : Bool) (pr : Int32) : Prop := pp = (if ph then pr else -1000000) ∧ (ph = true → 0 < pr)
theorem rec_eq {w t rp rc : Int32} {td : Nat → Bool} {ti : Nat → Int32} {rh : Bool} {wo : Nat → Int32} {re rs : Int32} {j : Nat} (hR : RecR rp rc rh re rs) (hw : w = wo j) (ht : t = (if td j then ti j else -1000000)) (htn : td j = true → ¬ ti j = -1000000) : rec_A w t rp = rec_B td ti rh wo re j := by
  obtain ⟨h1, h2, h3⟩ := hR
  subst hw ht h1
  unfold rec_A rec_B
  cases htd : td j with
  | false =>
    rw [Bool.false_and, Bool.false_and, if_neg (by decide)]
    exact decide_eq_false (fun z => z.1 rfl)
  | true =>
    rw [if_pos rfl, Bool.true_and]
    have hn := htn htd
    cases rh with
    | false =>
      rw [if_neg (by decide), Bool.not_false, Bool.true_or, Bool.and_true]
      exact decide_eq_decide.mpr ⟨fun z => z.2.1, fun z => ⟨hn, z, Or.inl rfl⟩⟩
    | true =>
      rw [if_pos rfl, Bool.not_true, Bool.false_or, ← Bool.decide_and]
      have hre := none_ne (h2 rfl)
      exact decide_eq_decide.mpr ⟨fun z => ⟨z.2.1, z.2.2.resolve_left hre⟩, fun z => ⟨hn, z.1, Or.inr z.2⟩⟩
theorem rec_upd {rp rc : Int32} {rh : Bool} {re rs v : Int32} (c : Bool) (hR : RecR rp rc rh re rs) (hv : 0 < v) : RecR (if c then v else rp) (if c then rc + 1 else rc) (if c then true else rh) (if c then v else re) (if c then rs + 1 else rs) := by
  cases c with
  | false => exact hR
  | true => exact ⟨rfl, fun _ => hv, by rw [hR.2.2]⟩
