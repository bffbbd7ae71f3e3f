/-! ===== my own layer: one list of words for all methods, locals as a list, worlds as lists, contracts that name the answer and the world behind ===== -/
def wo_BG : List Cond := lw_tbl.filter goodWord
theorem wo_bg {w : Cond} (h : w ∈ lw_tbl) (g : goodWord w = true) : w ∈ wo_BG := List.mem_filter.mpr ⟨h, g⟩
theorem wo_b0 {w : Cond} {i : Nat} (h : (k2_sels lw_privs)[i]? = some w) (g : goodWord w = true) : w ∈ wo_BG := wo_bg (List.mem_append_left _ (List.mem_of_getElem? h)) g
theorem wo_b1 {w : Cond} {i : Nat} (h : tables_1_1[i]? = some w) (g : goodWord w = true) : w ∈ wo_BG := wo_bg (List.mem_append_right _ (List.mem_append_left _ (List.mem_of_getElem? h))) g
theorem wo_b2 {w : Cond} {i : Nat} (h : tables_1_2[i]? = some w) (g : goodWord w = true) : w ∈ wo_BG := wo_bg (List.mem_append_right _ (List.mem_append_right _ (List.mem_append_left _ (List.mem_of_getElem? h)))) g
theorem wo_b3 {w : Cond} {i : Nat} (h : tables_1_3[i]? = some w) (g : goodWord w = true) : w ∈ wo_BG := wo_bg (List.mem_append_right _ (List.mem_append_right _ (List.mem_append_right _ (List.mem_append_left _ (List.mem_of_getElem? h))))) g
theorem wo_b4 {w : Cond} {i : Nat} (h : tables_1_4[i]? = some w) (g : goodWord w = true) : w ∈ wo_BG := wo_bg (List.mem_append_right _ (List.mem_append_right _ (List.mem_append_right _ (List.mem_append_right _ (List.mem_of_getElem? h))))) g
theorem wo_good {w : Cond} (h : w ∈ wo_BG) : (w.onTables && w.keeps) = true ∨ ∃ ty, w = .arrayClass ty := good_of_word (List.mem_filter.mp h).2
def wo_lp : Nat → List (Option Value) → List (Nat × Value)
  | _, [] => []
  | n, none :: r => wo_lp (n + 1) r
  | n, some v :: r => if v.category = 1 then (n, v) :: wo_lp (n + 1) r else wo_lp (n + 1) r
theorem wo_lp_mem : ∀ (L : List (Option Value)) (n i : Nat) (v : Value), L[i]? = some (some v) → v.category = 1 → (n + i, v) ∈ wo_lp n L
  | [], n, i, v, h, _ => by simp at h
  | x :: r, n, 0, v, h, hc => by
    simp at h
    subst h
    simp [wo_lp, hc]
  | x :: r, n, i + 1, v, h, hc => by
    have h2 : r[i]? = some (some v) := by simpa using h
    have h3 := wo_lp_mem r (n + 1) i v h2 hc
    have h4 : n + 1 + i = n + (i + 1) := by omega
    rw [h4] at h3
    cases x with
    | none => exact h3
    | some w =>
      unfold wo_lp
      split
      · exact List.mem_cons_of_mem _ h3
      · exact h3
theorem wo_lp_back : ∀ (L : List (Option Value)) (n : Nat) (q : Nat × Value), q ∈ wo_lp n L → ∃ i, q.1 = n + i ∧ L[i]? = some (some q.2) ∧ q.2.category = 1
  | [], n, q, h => by simp [wo_lp] at h
  | none :: r, n, q, h => by
    obtain ⟨i, h1, h2, h3⟩ := wo_lp_back r (n + 1) q h
    exact ⟨i + 1, by omega, by simpa using h2, h3⟩
  | some v :: r, n, q, h => by
    unfold wo_lp at h
    split at h
    · next hc =>
      rcases List.mem_cons.mp h with h | h
      · subst h
        exact ⟨0, rfl, rfl, hc⟩
      · obtain ⟨i, h1, h2, h3⟩ := wo_lp_back r (n + 1) q h
        exact ⟨i + 1, by omega, by simpa using h2, h3⟩
    · obtain ⟨i, h1, h2, h3⟩ := wo_lp_back r (n + 1) q h
      exact ⟨i + 1, by omega, by simpa using h2, h3⟩
theorem wo_at {lv : Array Slot} {nL : Nat} {L : List (Option Value)} {i : Nat} {v : Value} (h : lv_has lv nL (wo_lp 0 L)) (hi : L[i]? = some (some v)) (hc : v.category = 1) : lv[i]? = some (.val v) := by
  have h1 := wo_lp_mem L 0 i v hi hc
  rw [Nat.zero_add] at h1
  exact h.2.2 _ h1
theorem wo_st {lv : Array Slot} {nL i : Nat} {L : List (Option Value)} {v : Value} (hc : v.category = 1) (h : lv_has lv nL ((i, v) :: (wo_lp 0 L).filter (fun q => !(q.1 == i) && !(q.1 + 1 == i && q.2.category == 2)))) : lv_has lv nL (wo_lp 0 (L.set i (some v))) := by
  refine ⟨h.1, h.2.1, fun q hq => ?_⟩
  obtain ⟨j, h1, h2, h3⟩ := wo_lp_back _ 0 q hq
  rw [Nat.zero_add] at h1
  by_cases hj : i = j
  · subst hj
    rw [List.getElem?_set_self'] at h2
    cases hL : L[i]? with
    | none => rw [hL] at h2; simp at h2
    | some z =>
      rw [hL] at h2
      have h4 : v = q.2 := by simpa using h2
      refine h.2.2 q (List.mem_cons.mpr (Or.inl ?_))
      rw [h4]; exact Prod.ext h1 rfl
  · rw [List.getElem?_set_ne hj] at h2
    have h4 := wo_lp_mem L 0 j q.2 h2 h3
    rw [Nat.zero_add] at h4
    refine h.2.2 q (List.mem_cons_of_mem _ (List.mem_filter.mpr ⟨by rw [← h1] at h4; exact h4, ?_⟩))
    have h5 : ¬ q.1 = i := fun z => hj (by rw [← z, h1])
    simp [h5, h3]
def wo_rm (d : Nat) : Room := { frames := d, cells := 0, slots := 0, locals := 36 * d }
/-- what a method's body stands on -/
def wo_C (p : Program) (s : State) (m : MethodId) (args : Array Value) (meth : Method) (c : Code) (A : Nat → Prop) (D : va_G) (cc : ByteArray) (nL : Nat) (own : String) (tys : List (ClassId × FieldType)) (ret : Option FieldType) : Prop :=
  p.tables.exec = Jvm.exec ∧ c.code = cc ∧ c.maxLocals = nL ∧ s.vm.findClass own = some m.cls ∧ (∀ w ∈ wo_BG, w.before args s = true) ∧ va_K D vwCl tys s ∧ (∀ q, s.heap.size ≤ q → A q) ∧ meth.locks = false ∧ meth.sig.returnType = ret
/-- the machine at pc, with locals, stack and world: it comes to Q -/
def wo_W (p : Program) (l : Launch) (e : Env) (R : Room) (s : State) (m : MethodId) (args : Array Value) (below : List Frame) (meth : Method) (c : Code) (A : Nat → Prop) (D : va_G) (cells slots nL : Nat) (Q : State → Prop) (pc : Nat) (ls : List (Option Value)) (st : List Value) (ws : va_W) : Prop :=
  ∀ (H : Heap) (locs : List Loc), va_P D vwCl ws H → va_D A ws → va_S A s.heap H locs → ∀ lv : Array Slot, lv_has lv nL (wo_lp 0 ls) → W p l e R s m args below meth c H locs cells slots Q (F0 m pc lv st)
def wo_Q (D : va_G) (tys : List (ClassId × FieldType)) (r : Option Value) (ws : va_W) (A : Nat → Prop) : Array Value → State → Outcome → State → Prop := fun _ st oc t => (oc = .returned r ∧ va_P D vwCl ws t.heap ∧ va_K D vwCl tys t ∧ va_D A ws) ∧ va_F A st t
def wo_pre (D : va_G) (tys : List (ClassId × FieldType)) (ws : va_W) (sz : Nat) : State → Prop := fun U => U.heap.size = sz ∧ va_P D vwCl ws U.heap ∧ va_K D vwCl tys U ∧ va_D (fun _ => True) ws
/-- a contract: called with As in the world ws, the method answers r and leaves the world ws' -/
def wo_E (l : Launch) (y : MethodName) (cd : ByteArray) (n : Nat) (ret : Option FieldType) (d : Nat) (D : va_G) (tys : List (ClassId × FieldType)) (As : List Value) (ws : va_W) (r : Option Value) (ws' : va_W) : Prop :=
  ∀ sz : Nat, Met l y (.code y cd n ret :: wo_BG) (wo_rm d) (va_Pc As (wo_pre D tys ws sz)) (wo_Q D tys r ws' (va_A ws sz)) 0 0 (va_A ws sz)
def wo_GB (own : String) (idx : Nat) (y : MethodName) (bytes : ByteArray) (maxL : Nat) (ret : Option FieldType) (n : Nat) : Prop :=
  Cond.methodLink own idx y ∈ wo_BG ∧ Cond.initialized y.cls ∈ wo_BG ∧ Cond.code y bytes maxL ret ∈ wo_BG ∧ y.cls ≠ "java/lang/invoke/MethodHandle" ∧ y.cls ≠ "java/lang/invoke/VarHandle" ∧ (parseMethodDescriptor y.desc).map (fun d => d.parameters.length) = some n
def wo_GS (own : String) (idx : Nat) (y : MethodName) (bytes : ByteArray) (maxL : Nat) (ret : Option FieldType) (n : Nat) : Prop := wo_GB own idx y bytes maxL ret n ∧ Cond.static y ∈ wo_BG
def wo_GV (own : String) (idx : Nat) (C : String) (y : MethodName) (bytes : ByteArray) (maxL : Nat) (ret : Option FieldType) (n : Nat) : Prop := wo_GB own idx y bytes maxL ret n ∧ Cond.instanceMethod y ∈ wo_BG ∧ Cond.selects C y y ∈ wo_BG
section WOL
variable {p : Program} {l : Launch} {e : Env} {R : Room} {s : State} {m : MethodId} {args : Array Value} {below : List Frame} {meth : Method} {c : Code} {A : Nat → Prop} {D : va_G} {cells slots nL : Nat} {Q : State → Prop} {cc : ByteArray} {own : String} {tys : List (ClassId × FieldType)} {ret : Option FieldType}
variable {pc : Nat} {ls : List (Option Value)} {st : List Value} {ws : va_W}
theorem wo_callB {idx maxL n d : Nat} {y : MethodName} {bytes : ByteArray} {ret' : Option FieldType} (C : wo_C p s m args meth c A D cc nL own tys ret) (G : wo_GB own idx y bytes maxL ret' n) (hR : d + 1 ≤ R.frames ∧ 8 + (maxL + 11) + 36 * d ≤ R.locals) : CallB R s args own idx y bytes maxL ret' (.code y bytes maxL ret' :: wo_BG) (wo_rm d) 0 0 n := by
  obtain ⟨-, -, -, -, hts, -⟩ := C
  obtain ⟨g1, g2, g3, g4, g5, g6⟩ := G
  refine callB_of (Ts := wo_BG) n hts ?_ rfl rfl rfl (hts _ g2) (hts _ g1) ⟨g4, g5, g6⟩ hR
  intro w hw
  rcases List.mem_cons.mp hw with h | h
  · subst h; exact ⟨g3, wo_good g3⟩
  · exact ⟨h, wo_good h⟩
/-- behind a call -/
theorem wo_back {lv : Array Slot} {st0 rest : List Value} {a : Array Value} {H : Heap} {locs : List Loc} {A1 : Nat → Prop} {r : Option Value} {ws' : va_W}
    (hr : va_Run p l e R s m args below meth c H locs cells slots 0 0 (F0 m pc lv st0) rest (wo_Q D tys r ws' A1 a) A1) (hS : va_S A s.heap H locs) (hA : ∀ q, A1 q → A q) (hl : lv_has lv nL (wo_lp 0 ls))
    (kk : wo_W p l e R s m args below meth c A D cells slots nL Q (pc + 3) ls (r.toList ++ rest) ws') : W p l e R s m args below meth c H locs cells slots Q (F0 m pc lv st0) := by
  intro T hT X
  obtain ⟨v, st₀, t, T', L, h0, X', hL, e1, e2, ⟨⟨hv, hp, -, hd⟩, hz, hk⟩, st⟩ := hr T hT X
  cases hv
  rw [h0] at hz hk
  obtain ⟨t2, a1, b1⟩ := kk T'.heap (locs ++ L) (by rw [e1]; exact hp) (hd.weaken (fun _ q _ h => hA q.1 h))
    ⟨Nat.le_trans hS.1 (by rw [e1]; exact hz), fun q h1 h2 => by rw [e1, hk q (Nat.lt_of_lt_of_le h1 hS.1) (fun z => h2 (hA q z))]; exact hS.2.1 q h1 h2, fun q hq => by
      rcases List.mem_append.mp hq with h | h
      · exact hS.2.2 q h
      · exact hA _ (hL q h)⟩ lv hl T' rfl X'
  exact ⟨t2, st t2 a1, b1⟩
theorem wo_sub {H : Heap} {locs : List Loc} (hD : va_D A ws) (hS : va_S A s.heap H locs) (hA : ∀ q, s.heap.size ≤ q → A q) : ∀ q, va_A ws H.size q → A q := by
  intro q h
  rcases h with ⟨k, e, h⟩ | h
  · exact hD.2 k (q, e) h
  · exact hA q (Nat.le_trans hS.1 h)
theorem wo_blind {As : List Value} {sz : Nat} : FrameBlind (va_Pc As (wo_pre D tys ws sz)) := fun a U g mk q => by
  obtain ⟨q0, q1, qP, qK, qD⟩ := q
  exact ⟨q0, q1, qP, va_K.moved (u := U) (U := U.calling g mk a) (Vm.Alike.refl U.vm) qK, qD⟩
theorem x_callS {idx maxL n d : Nat} {y : MethodName} {bytes : ByteArray} {ret' : Option FieldType} {As rest : List Value} {r : Option Value} {ws' : va_W} (C : wo_C p s m args meth c A D cc nL own tys ret) (G : wo_GS own idx y bytes maxL ret' n) (hM : wo_E l y bytes maxL ret' d D tys As ws r ws')
    (hst : st = As.reverse ++ rest) (hn : As.length = n) (hc : (rest.map fun v => v.category).sum ≤ 8) (hR : d + 1 ≤ R.frames ∧ 8 + (maxL + 11) + 36 * d ≤ R.locals) (hf : cells ≤ R.cells ∧ slots ≤ R.slots) (dg : decode cc pc = .ok (.invokestatic idx, 3))
    (kk : wo_W p l e R s m args below meth c A D cells slots nL Q (pc + 3) ls (r.toList ++ rest) ws') : wo_W p l e R s m args below meth c A D cells slots nL Q pc ls st ws := by
  intro H locs hP hD hS lv hl
  have cb := wo_callB (R := R) C G.1 hR
  obtain ⟨hx, hb, hml, hown, hts, hK, hA, hlk, hr⟩ := C
  exact wo_back (va_runS (As := As) (rest := rest) (Ts := wo_BG) ⟨hx, hb, hml, hown, hts⟩ (hM H.size) ⟨cb, hts _ G.2⟩
    ⟨wo_blind, fun U hU hW => ⟨rfl, by rw [hU], by rw [hU]; exact hP, va_K.moved hW.alike hK, hD.weaken (fun _ _ _ _ => trivial)⟩⟩ rfl hn (hl.1) hst (lv_room hc) dg hf) hS (wo_sub hD hS hA) hl kk
theorem x_callV {idx maxL n d ci : Nat} {y : MethodName} {C0 : String} {T0 : u_T} {N0 : Nat} {fs : List Value} {bytes : ByteArray} {ret' : Option FieldType} {b : Nat} {As rest : List Value} {r : Option Value} {ws' : va_W} (C : wo_C p s m args meth c A D cc nL own tys ret) (G : wo_GV own idx C0 y bytes maxL ret' n) (hM : wo_E l y bytes maxL ret' d D tys (.ref b :: As) ws r ws')
    (q : Nat) (hq : ws[q]? = some (b, .inr (ci, fs))) (hci : vwCl[ci]? = some (C0, T0, N0)) (hst : st = As.reverse ++ .ref b :: rest) (hn : As.length = n) (hc : (rest.map fun v => v.category).sum ≤ 8) (hR : d + 1 ≤ R.frames ∧ 8 + (maxL + 11) + 36 * d ≤ R.locals) (hf : cells ≤ R.cells ∧ slots ≤ R.slots) (dg : decode cc pc = .ok (.invokevirtual idx, 3))
    (kk : wo_W p l e R s m args below meth c A D cells slots nL Q (pc + 3) ls (r.toList ++ rest) ws') : wo_W p l e R s m args below meth c A D cells slots nL Q pc ls st ws := by
  intro H locs hP hD hS lv hl
  have cb := wo_callB (R := R) C G.1 hR
  obtain ⟨hx, hb, hml, hown, hts, hK, hA, hlk, hr⟩ := C
  exact wo_back (va_runV (As := As) (rest := rest) (Ts := wo_BG) ⟨hx, hb, hml, hown, hts⟩ (hM H.size) ⟨cb, hts _ G.2.1, hts _ G.2.2⟩
    ⟨wo_blind, va_recv hK hP hci hq, fun U hU hW => ⟨rfl, by rw [hU], by rw [hU]; exact hP, va_K.moved hW.alike hK, hD.weaken (fun _ _ _ _ => trivial)⟩⟩ rfl hn (hl.1) hst (lv_room hc) dg hf) hS (wo_sub hD hS hA) hl kk
/-- a contract out of its body -/
theorem wo_of {y : MethodName} {n d : Nat} {As : List Value} {r : Option Value} {ws' : va_W} (hy : plainName y.cls = true) (hn : (lg_sl As).length ≤ n) (hls : lv_args 0 As = wo_lp 0 ls)
    (body : ∀ (p : Program) (e : Env) (s : State) (m : MethodId) (args : Array Value) (below : List Frame) (meth : Method) (c : Code) (A : Nat → Prop), wo_C p s m args meth c A D cc n y.cls tys ret → wo_W p l e (wo_rm d) s m args below meth c A D 0 0 n (MQ below (wo_Q D tys r ws' A) args s 0 0 A) 0 ls [] ws) : wo_E l y cc n ret d D tys As ws r ws' := by
  intro sz
  refine Met.ofW (cc := cc) (maxL := n) (ret := ret) hy rfl ?_
  intro p e s m args below meth c s₁ B hml hv
  obtain ⟨rfl, hsz, hP, hK, hD0⟩ := hv
  subst hsz
  have hts := atoms_spec (ws := .code y cc n ret :: wo_BG) B.pre
  have hown : s.vm.findClass y.cls = some m.cls := findClass_of_methodNamed B.named
  have hl := lv_entry As (n := n) hn
  rw [lg_entry_eq]
  rw [hls] at hl
  exact body p e s m As.toArray below meth c (va_A ws s.heap.size) ⟨B.exec, B.bytes, hml, hown, fun w h => hts w (List.mem_cons_of_mem _ h), hK, fun q h => Or.inr h, B.notSynchronized, B.returns⟩ s.heap [] hP (hD0.self) va_S.rf _ hl
theorem x_iret {v : Int32} {ws' : va_W} {r : Option Value} (C : wo_C p s m args meth c A D cc nL own tys (some .int)) (dg : decode cc pc = .ok (.ireturn, 1)) (hr : r = some (.int v)) (hw : ws = ws') : wo_W p l e R s m args below meth c A D 0 0 nL (MQ below (wo_Q D tys r ws' A) args s 0 0 A) pc ls [.int v] ws := by
  intro H locs hP hD hS lv hl
  obtain ⟨hx, hb, hml, hown, hts, hK, hA, hlk, hrt⟩ := C
  subst hr; subst hw
  exact W.iret (v := v) hx hb hrt (fun t ht hW => ⟨⟨rfl, by rw [ht]; exact hP, va_K.moved hW.alike hK, hD⟩, hS.F ht⟩) hS.2.2 dg hlk
theorem x_vret {ws' : va_W} {r : Option Value} (C : wo_C p s m args meth c A D cc nL own tys none) (dg : decode cc pc = .ok (.return_, 1)) (hr : r = none) (hw : ws = ws') : wo_W p l e R s m args below meth c A D 0 0 nL (MQ below (wo_Q D tys r ws' A) args s 0 0 A) pc ls [] ws := by
  intro H locs hP hD hS lv hl
  obtain ⟨hx, hb, hml, hown, hts, hK, hA, hlk, hrt⟩ := C
  subst hr; subst hw
  exact W.vret hx hb hrt (fun t ht hW => ⟨⟨rfl, by rw [ht]; exact hP, va_K.moved hW.alike hK, hD⟩, hS.F ht⟩) hS.2.2 dg hlk
/-- a truth value as the machine has it -/
def bz (b : Bool) : Int32 := if b then 1 else 0
theorem bz_nar (b : Bool) : narrow .boolean (.int (bz b)) = .int (bz b) := by cases b <;> rfl
theorem bz_vp (b : Bool) : vp_nar .boolean (bz b) = bz b := by cases b <;> rfl
theorem x_zret {b : Bool} {v : Int32} {ws' : va_W} {r : Option Value} (C : wo_C p s m args meth c A D cc nL own tys (some .boolean)) (dg : decode cc pc = .ok (.ireturn, 1)) (hv : v = bz b) (hr : r = some (.int (bz b))) (hw : ws = ws') : wo_W p l e R s m args below meth c A D 0 0 nL (MQ below (wo_Q D tys r ws' A) args s 0 0 A) pc ls [.int v] ws := by
  intro H locs hP hD hS lv hl
  obtain ⟨hx, hb, hml, hown, hts, hK, hA, hlk, hrt⟩ := C
  subst hr; subst hw; subst hv
  exact W.zret (v := bz b) hx hb hrt (bz_nar b) (fun t ht hW => ⟨⟨rfl, by rw [ht]; exact hP, va_K.moved hW.alike hK, hD⟩, hS.F ht⟩) hS.2.2 dg hlk
end WOL
