/-! ===== the law's own methods with handlers ===== -/
def wo_L (l : Launch) (y : MethodName) (cd : ByteArray) (n : Nat) (hh : List (Nat × Nat × Nat × Nat)) (d mc ms : Nat) (D : va_G) (tys : List (ClassId × FieldType)) (As : List Value) (ws : va_W) (r : Option Value) (ws' : va_W) : Prop :=
  ∀ sz : Nat, Met l y (.codeWith y cd n (some .int) hh :: wo_BG) (wo_rmn d mc ms) (va_Pc As (fun U => wo_pre D tys ws sz U ∧ wo_XT (va_A ws sz) U U.heap)) (wo_Q D tys r ws' (va_A ws sz)) mc ms (va_A ws sz)
section WOH
variable {p : Program} {l : Launch} {e : Env} {R : Room} {s : State} {m : MethodId} {args : Array Value} {below : List Frame} {meth : Method} {c : Code} {A : Nat → Prop} {D : va_G} {cells slots nL : Nat} {Q : State → Prop} {cc : ByteArray} {own : String} {tys : List (ClassId × FieldType)} {ret : Option FieldType}
variable {pc : Nat} {ls : List (Option Value)} {st : List Value} {ws : va_W}
theorem wo_ofL {y : MethodName} {n d mc ms : Nat} {hh : List (Nat × Nat × Nat × Nat)} {As : List Value} {r : Option Value} {ws' : va_W} (hy : plainName y.cls = true) (hn : (lg_sl As).length ≤ n) (hls : lv_args 0 As = wo_lp 0 ls)
    (body : ∀ (p : Program) (e : Env) (s : State) (m : MethodId) (args : Array Value) (below : List Frame) (meth : Method) (c : Code) (A : Nat → Prop), wo_C p s m args meth c A D cc n y.cls tys (some .int) → wo_XT A s s.heap → c.exceptionTable.toList = tableOf hh → wo_W p l e (wo_rmn d mc ms) s m args below meth c A D 0 0 n (MQ below (wo_Q D tys r ws' A) args s mc ms A) 0 ls [] ws) : wo_L l y cc n hh d mc ms D tys As ws r ws' := by
  intro sz
  refine va_MetW (cc := cc) (maxL := n) (ret := some .int) (hh := hh) hy rfl ?_
  intro p e s m args below meth c s₁ B hml hv
  obtain ⟨rfl, ⟨hsz, hP, hK, hD0⟩, hX⟩ := hv
  subst hsz
  have hts := atoms_spec (ws := .codeWith y cc n (some .int) hh :: wo_BG) B.pre
  have hown : s.vm.findClass y.cls = some m.cls := findClass_of_methodNamed B.named
  have htab := vx_table (x := y) B (hts _ List.mem_cons_self)
  have hl := lv_entry As (n := n) hn
  rw [lg_entry_eq]
  rw [hls] at hl
  exact body p e s m As.toArray below meth c (va_A ws s.heap.size) ⟨B.exec, B.bytes, hml, hown, fun w h => hts w (List.mem_cons_of_mem _ h), hK, fun q h => Or.inr h, B.notSynchronized, B.returns⟩ hX htab s.heap [] hP (hD0.self) va_S.rf _ hl
theorem x_iretL {v : Int32} {ws' : va_W} {r : Option Value} {mc ms : Nat} (C : wo_C p s m args meth c A D cc nL own tys (some .int)) (dg : decode cc pc = .ok (.ireturn, 1)) (hr : r = some (.int v)) (hw : ws = ws') (hc : cells ≤ mc) (hs : slots ≤ ms) : wo_W p l e R s m args below meth c A D cells slots nL (MQ below (wo_Q D tys r ws' A) args s mc ms A) pc ls [.int v] ws := by
  intro H locs hP hD hS lv hl
  obtain ⟨hx, hb, hml, hown, hts, hK, hA, hlk, hrt⟩ := C
  subst hr; subst hw
  refine W.widen (k := mc) (n := ms) hc hs ?_
  exact W.iret (v := v) hx hb hrt (fun t ht hW => ⟨⟨rfl, by rw [ht]; exact hP, va_K.moved hW.alike hK, hD⟩, hS.F ht⟩) hS.2.2 dg hlk
theorem x_catch1 {E : String} {x : Nat × Nat × Nat × Nat} {suf : List (Nat × Nat × Nat × Nat)} (C : wo_C p s m args meth c A D cc nL own tys ret) (hX : wo_XT A s s.heap) (htab : c.exceptionTable.toList = tableOf (x :: suf)) (hE : E = wo_IAE ∨ E = wo_ISE) (hc : covers ⟨x.1, x.2.1, x.2.2.1, x.2.2.2⟩ pc = true) (h0 : x.2.2.2 ≠ 0) (hlk : Cond.classLink own x.2.2.2 E ∈ wo_BG)
    (kk : ∀ q9 : Nat, wo_W p l e R s m args below meth c A D cells slots nL Q x.2.2.1 ls [.ref q9] ws) : wo_WX p l e R s m args below meth c A D cells slots nL Q pc ls st ws E := by
  intro H locs q9 ce hP hD hS lv hl hce hcv hcl
  obtain ⟨hx, hb, hml, hown, hts, hK, hA, hlk0, hr⟩ := C
  have hcast : (Cond.castable E E).before args s = true := by
    rcases hE with rfl | rfl
    · exact va_Nw.use rfl hX.2.2.2.1
    · exact va_Nw.use rfl hX.2.2.2.2.1
  exact vx_catch (own := own) hown [] ⟨x.1, x.2.1, x.2.2.1, x.2.2.2⟩ (tableOf suf) htab (fun z hz => absurd hz List.not_mem_nil) hc h0 (hts _ hlk) hcast hce hcv hcl (kk q9 H locs hP hD hS lv hl)
theorem x_catch2 {x0 x : Nat × Nat × Nat × Nat} {suf : List (Nat × Nat × Nat × Nat)} (C : wo_C p s m args meth c A D cc nL own tys ret) (hX : wo_XT A s s.heap) (htab : c.exceptionTable.toList = tableOf (x0 :: x :: suf)) (h00 : x0.2.2.2 ≠ 0) (hlk0 : Cond.classLink own x0.2.2.2 wo_IAE ∈ wo_BG) (hc : covers ⟨x.1, x.2.1, x.2.2.1, x.2.2.2⟩ pc = true) (h0 : x.2.2.2 ≠ 0) (hlk : Cond.classLink own x.2.2.2 wo_ISE ∈ wo_BG)
    (kk : ∀ q9 : Nat, wo_W p l e R s m args below meth c A D cells slots nL Q x.2.2.1 ls [.ref q9] ws) : wo_WX p l e R s m args below meth c A D cells slots nL Q pc ls st ws wo_ISE := by
  intro H locs q9 ce hP hD hS lv hl hce hcv hcl
  obtain ⟨hx, hb, hml, hown, hts, hK, hA, hlk9, hr⟩ := C
  exact vx_catch (own := own) hown [⟨x0.1, x0.2.1, x0.2.2.1, x0.2.2.2⟩] ⟨x.1, x.2.1, x.2.2.1, x.2.2.2⟩ (tableOf suf) htab (fun z hz => by
    rw [List.mem_singleton.mp hz]
    exact Or.inr ⟨h00, wo_IAE, hts _ hlk0, hX.2.2.2.2.2.1⟩) hc h0 (hts _ hlk) (va_Nw.use rfl hX.2.2.2.2.1) hce hcv hcl (kk q9 H locs hP hD hS lv hl)
def wo_GL (own : String) (idx : Nat) (y : MethodName) (bytes : ByteArray) (maxL : Nat) (hh : List (Nat × Nat × Nat × Nat)) (n : Nat) : Prop :=
  Cond.methodLink own idx y ∈ wo_BG ∧ Cond.static y ∈ wo_BG ∧ Cond.initialized y.cls ∈ wo_BG ∧ Cond.codeWith y bytes maxL (some .int) hh ∈ wo_BG ∧ y.cls ≠ "java/lang/invoke/MethodHandle" ∧ y.cls ≠ "java/lang/invoke/VarHandle" ∧ (parseMethodDescriptor y.desc).map (fun d => d.parameters.length) = some n
theorem x_callL {idx maxL n d mc ms : Nat} {y : MethodName} {bytes : ByteArray} {hh : List (Nat × Nat × Nat × Nat)} {As rest : List Value} {v : Value} {ws' : va_W} (C : wo_C p s m args meth c A D cc nL own tys ret) (hX : wo_XT A s s.heap) (G : wo_GL own idx y bytes maxL hh n) (hM : wo_L l y bytes maxL hh d mc ms D tys As ws (some v) ws')
    (hst : st = As.reverse ++ rest) (hn : As.length = n) (hc : (rest.map fun v => v.category).sum ≤ 8) (hR : d + 1 ≤ R.frames ∧ 8 + (maxL + 11) + 36 * d ≤ R.locals) (hf : cells + mc ≤ R.cells ∧ slots + ms ≤ R.slots) (dg : decode cc pc = .ok (.invokestatic idx, 3))
    (kk : wo_W p l e R s m args below meth c A D (cells + mc) (slots + ms) nL Q (pc + 3) ls (v :: rest) ws') : wo_W p l e R s m args below meth c A D cells slots nL Q pc ls st ws := by
  intro H locs hP hD hS lv hl
  obtain ⟨hx, hb, hml, hown, hts, hK, hA, hlk, hr⟩ := C
  obtain ⟨g1, g2, g3, g4, g5, g6, g7⟩ := G
  have hT : GoodIn wo_BG (va_wsS own idx y (.codeWith y bytes maxL (some .int) hh :: wo_BG)) := by
    intro w hw
    have hw2 : w ∈ wo_BG := by
      rcases List.mem_append.mp hw with h | h
      · rcases List.mem_cons.mp h with h | h
        · rw [h]; exact g1
        · rcases List.mem_cons.mp h with h | h
          · rw [h]; exact g2
          · rw [List.mem_singleton.mp h]; exact g3
      · rcases List.mem_cons.mp h with h | h
        · rw [h]; exact g4
        · exact h
    exact ⟨hw2, wo_good hw2⟩
  have hAs := wo_sub hD hS hA
  have hrun := vx_runSW (R := R) (p := p) (e := e) (below := below) (meth := meth) (locs := locs) (g := F0 m pc lv st) (As := As) (rest := rest) (Ts := wo_BG) ⟨hx, hb, hml, hown, hts⟩ (hM H.size) (vx_cwSW n hts hT rfl rfl rfl ⟨g5, g6, g7⟩ hR)
    ⟨wo_blindX, fun U hU hW => ⟨rfl, ⟨by rw [hU], by rw [hU]; exact hP, va_K.moved hW.alike hK, hD.weaken (fun _ _ _ _ => trivial)⟩, by rw [hU]; exact hX.go hS hAs hW⟩⟩ rfl hn (hl.1) hst (lv_room hc) dg hf
  intro T hT2 X
  obtain ⟨v2, st₀, t, T', L, h0, X', hL, e1, e2, ⟨⟨hv, hp, -, hd⟩, hz, hk⟩, stt⟩ := hrun T hT2 X
  cases hv
  rw [h0] at hz hk
  obtain ⟨t2, a1, b1⟩ := kk T'.heap (locs ++ L) (by rw [e1]; exact hp) (hd.weaken (fun _ q _ h => hAs q.1 h))
    ⟨Nat.le_trans hS.1 (by rw [e1]; exact hz), fun q h1 h2 => by rw [e1, hk q (Nat.lt_of_lt_of_le h1 hS.1) (fun z => h2 (hAs q z))]; exact hS.2.1 q h1 h2, fun q hq => by
      rcases List.mem_append.mp hq with h | h
      · exact hS.2.2 q h
      · exact hAs _ (hL q h)⟩ lv hl T' rfl X'
  exact ⟨t2, stt t2 a1, b1⟩
end WOH
