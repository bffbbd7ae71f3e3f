/-! ===== contracts that leave the two scratch rows open ===== -/
abbrev wo_sw : Type := (Nat → Int32) → (Nat → Int32) → va_W
def wo_QS (D : va_G) (tys : List (ClassId × FieldType)) (r : Option Value) (ws : wo_sw) (A : Nat → Prop) : Array Value → State → Outcome → State → Prop := fun _ st oc t => (oc = .returned r ∧ ∃ o1 o2, va_P D vwCl (ws o1 o2) t.heap ∧ va_K D vwCl tys t ∧ va_D A (ws o1 o2)) ∧ va_F A st t
def wo_S (l : Launch) (y : MethodName) (cd : ByteArray) (n : Nat) (ret : Option FieldType) (d : Nat) (D : va_G) (tys : List (ClassId × FieldType)) (As : List Value) (ws : va_W) (r : Option Value) (ws' : wo_sw) : Prop :=
  ∀ sz : Nat, Met l y (.code y cd n ret :: wo_BG) (wo_rm d) (va_Pc As (wo_pre D tys ws sz)) (wo_QS D tys r ws' (va_A ws sz)) 0 0 (va_A ws sz)
section WOS
variable {p : Program} {l : Launch} {e : Env} {R : Room} {s : State} {m : MethodId} {args : Array Value} {below : List Frame} {meth : Method} {c : Code} {A : Nat → Prop} {D : va_G} {cells slots nL : Nat} {Q : State → Prop} {cc : ByteArray} {own : String} {tys : List (ClassId × FieldType)} {ret : Option FieldType}
variable {pc : Nat} {ls : List (Option Value)} {st : List Value} {ws : va_W}
theorem wo_backS {lv : Array Slot} {st0 rest : List Value} {a : Array Value} {H : Heap} {locs : List Loc} {A1 : Nat → Prop} {r : Option Value} {ws' : wo_sw}
    (hr : va_Run p l e R s m args below meth c H locs cells slots 0 0 (F0 m pc lv st0) rest (wo_QS D tys r ws' A1 a) A1) (hS : va_S A s.heap H locs) (hA : ∀ q, A1 q → A q) (hl : lv_has lv nL (wo_lp 0 ls))
    (kk : ∀ o1 o2, wo_W p l e R s m args below meth c A D cells slots nL Q (pc + 3) ls (r.toList ++ rest) (ws' o1 o2)) : W p l e R s m args below meth c H locs cells slots Q (F0 m pc lv st0) := by
  intro T hT X
  obtain ⟨v, st₀, t, T', L, h0, X', hL, e1, e2, ⟨⟨hv, o1, o2, hp, -, hd⟩, hz, hk⟩, st⟩ := hr T hT X
  cases hv
  rw [h0] at hz hk
  obtain ⟨t2, a1, b1⟩ := kk o1 o2 T'.heap (locs ++ L) (by rw [e1]; exact hp) (hd.weaken (fun _ q _ h => hA q.1 h))
    ⟨Nat.le_trans hS.1 (by rw [e1]; exact hz), fun q h1 h2 => by rw [e1, hk q (Nat.lt_of_lt_of_le h1 hS.1) (fun z => h2 (hA q z))]; exact hS.2.1 q h1 h2, fun q hq => by
      rcases List.mem_append.mp hq with h | h
      · exact hS.2.2 q h
      · exact hA _ (hL q h)⟩ lv hl T' rfl X'
  exact ⟨t2, st t2 a1, b1⟩
theorem x_callVSi {idx maxL n d ci : Nat} {y : MethodName} {C0 : String} {T0 : u_T} {N0 : Nat} {fs : List Value} {bytes : ByteArray} {ret' : Option FieldType} {b : Nat} {As rest : List Value} {v : Value} {ws' : wo_sw} (C : wo_C p s m args meth c A D cc nL own tys ret) (G : wo_GV own idx C0 y bytes maxL ret' n) (hM : wo_S l y bytes maxL ret' d D tys (.ref b :: As) ws (some v) ws')
    (q : Nat) (hq : ws[q]? = some (b, .inr (ci, fs))) (hci : vwCl[ci]? = some (C0, T0, N0)) (hst : st = As.reverse ++ .ref b :: rest) (hn : As.length = n) (hc : (rest.map fun v => v.category).sum ≤ 8) (hR : d + 1 ≤ R.frames ∧ 8 + (maxL + 11) + 36 * d ≤ R.locals) (hf : cells ≤ R.cells ∧ slots ≤ R.slots) (dg : decode cc pc = .ok (.invokevirtual idx, 3))
    (kk : ∀ o1 o2, wo_W p l e R s m args below meth c A D cells slots nL Q (pc + 3) ls (v :: rest) (ws' o1 o2)) : wo_W p l e R s m args below meth c A D cells slots nL Q pc ls st ws := by
  intro H locs hP hD hS lv hl
  have cb := wo_callB (R := R) C G.1 hR
  obtain ⟨hx, hb, hml, hown, hts, hK, hA, hlk, hr⟩ := C
  exact wo_backS (va_runV (As := As) (rest := rest) (Ts := wo_BG) ⟨hx, hb, hml, hown, hts⟩ (hM H.size) ⟨cb, hts _ G.2.1, hts _ G.2.2⟩
    ⟨wo_blind, va_recv hK hP hci hq, fun U hU hW => ⟨rfl, by rw [hU], by rw [hU]; exact hP, va_K.moved hW.alike hK, hD.weaken (fun _ _ _ _ => trivial)⟩⟩ rfl hn (hl.1) hst (lv_room hc) dg hf) hS (wo_sub hD hS hA) hl kk
theorem x_callVSv {idx maxL n d ci : Nat} {y : MethodName} {C0 : String} {T0 : u_T} {N0 : Nat} {fs : List Value} {bytes : ByteArray} {ret' : Option FieldType} {b : Nat} {As rest : List Value} {ws' : wo_sw} (C : wo_C p s m args meth c A D cc nL own tys ret) (G : wo_GV own idx C0 y bytes maxL ret' n) (hM : wo_S l y bytes maxL ret' d D tys (.ref b :: As) ws none ws')
    (q : Nat) (hq : ws[q]? = some (b, .inr (ci, fs))) (hci : vwCl[ci]? = some (C0, T0, N0)) (hst : st = As.reverse ++ .ref b :: rest) (hn : As.length = n) (hc : (rest.map fun v => v.category).sum ≤ 8) (hR : d + 1 ≤ R.frames ∧ 8 + (maxL + 11) + 36 * d ≤ R.locals) (hf : cells ≤ R.cells ∧ slots ≤ R.slots) (dg : decode cc pc = .ok (.invokevirtual idx, 3))
    (kk : ∀ o1 o2, wo_W p l e R s m args below meth c A D cells slots nL Q (pc + 3) ls rest (ws' o1 o2)) : wo_W p l e R s m args below meth c A D cells slots nL Q pc ls st ws := by
  intro H locs hP hD hS lv hl
  have cb := wo_callB (R := R) C G.1 hR
  obtain ⟨hx, hb, hml, hown, hts, hK, hA, hlk, hr⟩ := C
  exact wo_backS (va_runV (As := As) (rest := rest) (Ts := wo_BG) ⟨hx, hb, hml, hown, hts⟩ (hM H.size) ⟨cb, hts _ G.2.1, hts _ G.2.2⟩
    ⟨wo_blind, va_recv hK hP hci hq, fun U hU hW => ⟨rfl, by rw [hU], by rw [hU]; exact hP, va_K.moved hW.alike hK, hD.weaken (fun _ _ _ _ => trivial)⟩⟩ rfl hn (hl.1) hst (lv_room hc) dg hf) hS (wo_sub hD hS hA) hl kk
theorem wo_ofS {y : MethodName} {n d : Nat} {As : List Value} {r : Option Value} {ws' : wo_sw} (hy : plainName y.cls = true) (hn : (lg_sl As).length ≤ n) (hls : lv_args 0 As = wo_lp 0 ls)
    (body : ∀ (p : Program) (e : Env) (s : State) (m : MethodId) (args : Array Value) (below : List Frame) (meth : Method) (c : Code) (A : Nat → Prop), wo_C p s m args meth c A D cc n y.cls tys ret → wo_W p l e (wo_rm d) s m args below meth c A D 0 0 n (MQ below (wo_QS D tys r ws' A) args s 0 0 A) 0 ls [] ws) : wo_S l y cc n ret d D tys As ws r ws' := by
  intro sz
  refine Met.ofW (cc := cc) (maxL := n) (ret := ret) hy rfl ?_
  intro p e s m args below meth c s₁ B hml hv
  obtain ⟨rfl, hsz, hP, hK, hD0⟩ := hv
  subst hsz
  have hts := atoms_spec (ws := .code y cc n ret :: wo_BG) B.pre
  have hown : s.vm.findClass y.cls = some m.cls := findClass_of_methodNamed B.named
  have hl := lv_entry As (n := n) hn
  rw [lg_entry_eq]
  rw [hls] at hl
  exact body p e s m As.toArray below meth c (va_A ws s.heap.size) ⟨B.exec, B.bytes, hml, hown, fun w h => hts w (List.mem_cons_of_mem _ h), hK, fun q h => Or.inr h, B.notSynchronized, B.returns⟩ s.heap [] hP (hD0.self) va_S.rf _ hl
theorem x_iretS {v : Int32} {ws' : wo_sw} {r : Option Value} {o1 o2 : Nat → Int32} (C : wo_C p s m args meth c A D cc nL own tys (some .int)) (dg : decode cc pc = .ok (.ireturn, 1)) (hr : r = some (.int v)) (hw : ws = ws' o1 o2) : wo_W p l e R s m args below meth c A D 0 0 nL (MQ below (wo_QS D tys r ws' A) args s 0 0 A) pc ls [.int v] ws := by
  intro H locs hP hD hS lv hl
  obtain ⟨hx, hb, hml, hown, hts, hK, hA, hlk, hrt⟩ := C
  subst hr; subst hw
  exact W.iret (v := v) hx hb hrt (fun t ht hW => ⟨⟨rfl, o1, o2, by rw [ht]; exact hP, va_K.moved hW.alike hK, hD⟩, hS.F ht⟩) hS.2.2 dg hlk
theorem x_vretS {ws' : wo_sw} {r : Option Value} {o1 o2 : Nat → Int32} (C : wo_C p s m args meth c A D cc nL own tys none) (dg : decode cc pc = .ok (.return_, 1)) (hr : r = none) (hw : ws = ws' o1 o2) : wo_W p l e R s m args below meth c A D 0 0 nL (MQ below (wo_QS D tys r ws' A) args s 0 0 A) pc ls [] ws := by
  intro H locs hP hD hS lv hl
  obtain ⟨hx, hb, hml, hown, hts, hK, hA, hlk, hrt⟩ := C
  subst hr; subst hw
  exact W.vret hx hb hrt (fun t ht hW => ⟨⟨rfl, o1, o2, by rw [ht]; exact hP, va_K.moved hW.alike hK, hD⟩, hS.F ht⟩) hS.2.2 dg hlk
theorem x_zretS {b : Bool} {v : Int32} {ws' : wo_sw} {r : Option Value} {o1 o2 : Nat → Int32} (C : wo_C p s m args meth c A D cc nL own tys (some .boolean)) (dg : decode cc pc = .ok (.ireturn, 1)) (hv : v = bz b) (hr : r = some (.int (bz b))) (hw : ws = ws' o1 o2) : wo_W p l e R s m args below meth c A D 0 0 nL (MQ below (wo_QS D tys r ws' A) args s 0 0 A) pc ls [.int v] ws := by
  intro H locs hP hD hS lv hl
  obtain ⟨hx, hb, hml, hown, hts, hK, hA, hlk, hrt⟩ := C
  subst hr; subst hw; subst hv
  exact W.zret (v := bz b) hx hb hrt (bz_nar b) (fun t ht hW => ⟨⟨rfl, o1, o2, by rw [ht]; exact hP, va_K.moved hW.alike hK, hD⟩, hS.F ht⟩) hS.2.2 dg hlk
end WOS
