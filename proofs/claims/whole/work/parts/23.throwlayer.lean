/-! ===== contracts of methods that throw; what a throw needs of the start ===== -/
def wo_IAE : String := "java/lang/IllegalArgumentException"
def wo_ISE : String := "java/lang/IllegalStateException"
def wo_names : List String := ["java/lang/RuntimeException", "java/lang/Exception"]
def wo_strs : List (Nat × String) := [(50, "the number of growers is not 3 .. 12"), (180, "the tenths of a pound are not 100 .. 9999"), (182, "the tenths of a degree are not -99 .. 99"), (174, "the weigh-off is over"), (176, "there is no such grower"), (91, "that grower has left already"), (178, "there is no such day"), (104, "no cracked fruit that was measured stands there"), (184, "the pounds are not 0 .. 999"), (186, "there is no such what"), (188, "there is no such sign"), (163, "there is no such thing to look at")]
def wo_decl : List MethodName := [Bundle.initS "java/lang/RuntimeException", Bundle.initS "java/lang/Exception", Bundle.initS Bundle.tN]
def wo_ng (E : String) : List Cond := Cond.castable E E :: wo_decl.map Cond.declares
def wo_XT (A : Nat → Prop) (U : State) (H : Heap) : Prop := vx_Zq Bundle.tN "UNASSIGNED_STACK" Bundle.steD A U H ∧ vx_Zq Bundle.tN "SUPPRESSED_SENTINEL" Bundle.listD A U H ∧ (∀ q ∈ wo_strs, ∃ sa, vk_R RX2 q.1 q.2 sa U) ∧ va_Nw (.castable wo_IAE wo_IAE) U ∧ va_Nw (.castable wo_ISE wo_ISE) U ∧ va_Nc wo_ISE wo_IAE U ∧ ∀ x ∈ wo_decl, va_Nw (.declares x) U
theorem wo_XT.go {A B : Nat → Prop} {s U : State} {H : Heap} {locs : List Loc} (h : wo_XT A s s.heap) (hS : va_S A s.heap H locs) (hAB : ∀ q, B q → A q) (hW : s.WarmedH U.vm) : wo_XT B U H := by
  obtain ⟨h1, h2, h3, h4, h5, h6, h7⟩ := h
  refine ⟨((h1.kept hS.2.1).narrow hAB).moved hW.alike, ((h2.kept hS.2.1).narrow hAB).moved hW.alike, fun q hq => ?_, va_Nw.warmC hW h4, va_Nw.warmC hW h5, h6.moved hW.alike, fun x hx => va_Nw.warmD hW (h7 x hx)⟩
  obtain ⟨sa, hs⟩ := h3 q hq
  exact ⟨sa, hs.warm hW⟩
theorem wo_XT.same {A : Nat → Prop} {u U : State} {H : Heap} (h : wo_XT A u H) (hv : U.vm = u.vm) : wo_XT A U H := by
  obtain ⟨h1, h2, h3, h4, h5, h6, h7⟩ := h
  have ha : u.vm.Alike U.vm := by rw [hv]; exact Vm.Alike.refl _
  refine ⟨h1.moved ha, h2.moved ha, fun q hq => ?_, va_Nw.same rfl hv.symm h4, va_Nw.same rfl hv.symm h5, h6.moved ha, fun x hx => va_Nw.same rfl hv.symm (h7 x hx)⟩
  obtain ⟨sa, hs⟩ := h3 q hq
  exact ⟨sa, hs.same hv⟩
def wo_rmx (d : Nat) : Room := { frames := d, cells := 1, slots := 6, locals := 36 * d }
def wo_XC (E0 : String) (D : va_G) (tys : List (ClassId × FieldType)) (ws : va_W) (A : Nat → Prop) : String → State → State → Prop := fun E st t => E = E0 ∧ va_P D vwCl ws t.heap ∧ va_K D vwCl tys t ∧ va_D A ws ∧ va_F A st t
/-- a contract: called with As in the world ws, the method throws an E, and the world is as before -/
def wo_X (l : Launch) (y : MethodName) (cd : ByteArray) (n : Nat) (ret : Option FieldType) (d : Nat) (D : va_G) (tys : List (ClassId × FieldType)) (As : List Value) (ws : va_W) (E : String) : Prop :=
  ∀ sz : Nat, vx_Met l y (.code y cd n ret :: wo_BG) (wo_rmx d) (va_Pc As (fun U => wo_pre D tys ws sz U ∧ wo_XT (va_A ws sz) U U.heap)) (fun _ _ _ _ => False) (wo_XC E D tys ws (va_A ws sz)) 1 6 (va_A ws sz)
def wo_exc (E : String) (ik ic : Nat) : Prop := Cond.classLink RX2 ik E ∈ wo_BG ∧ Cond.initialized E ∈ wo_BG ∧ Bundle.fit E = true ∧ (∀ w ∈ (vx_atS RX2 ic E wo_names).filter goodWord, w ∈ wo_BG) ∧ (∀ w ∈ (vx_atS RX2 ic E wo_names).filter (fun w => !goodWord w), w ∈ wo_ng E) ∧ (∀ w ∈ Cond.classLink RX2 ik E :: Cond.initialized E :: vx_atS RX2 ic E wo_names, vx_ot w = true) ∧ (E = wo_IAE ∨ E = wo_ISE)
theorem wo_x1 : wo_exc wo_IAE 48 52 := ⟨kl_X2_48, kn_IAE, by decide +kernel, fun w h => wo_bg ((by decide +kernel : ∀ w ∈ (vx_atS RX2 52 wo_IAE wo_names).filter goodWord, w ∈ lw_tbl) w h) (List.mem_filter.mp h).2, by decide +kernel, by decide +kernel, Or.inl rfl⟩
theorem wo_x2 : wo_exc wo_ISE 89 93 := ⟨kl_X2_89, kn_ISE, by decide +kernel, fun w h => wo_bg ((by decide +kernel : ∀ w ∈ (vx_atS RX2 93 wo_ISE wo_names).filter goodWord, w ∈ lw_tbl) w h) (List.mem_filter.mp h).2, by decide +kernel, by decide +kernel, Or.inr rfl⟩
/-- the machine with an E thrown over the frame at pc -/
def wo_WX (p : Program) (l : Launch) (e : Env) (R : Room) (s : State) (m : MethodId) (args : Array Value) (below : List Frame) (meth : Method) (c : Code) (A : Nat → Prop) (D : va_G) (cells slots nL : Nat) (Q : State → Prop) (pc : Nat) (ls : List (Option Value)) (st : List Value) (ws : va_W) (E : String) : Prop :=
  ∀ (H : Heap) (locs : List Loc) (q9 : Addr) (ce : Cell), va_P D vwCl ws H → va_D A ws → va_S A s.heap H locs → ∀ lv : Array Slot, lv_has lv nL (wo_lp 0 ls) → H[q9]? = some ce → ce.vm = .none → s.vm.findClass E = some ce.cls → vx_W p l e R s m args below meth c H locs cells slots Q (F0 m pc lv st) q9
section WOX
variable {p : Program} {l : Launch} {e : Env} {R : Room} {s : State} {m : MethodId} {args : Array Value} {below : List Frame} {meth : Method} {c : Code} {A : Nat → Prop} {D : va_G} {cells slots nL : Nat} {Q : State → Prop} {cc : ByteArray} {own : String} {tys : List (ClassId × FieldType)} {ret : Option FieldType}
variable {pc : Nat} {ls : List (Option Value)} {st : List Value} {ws : va_W}
theorem wo_keep {H : Heap} {locs : List Loc} {t : State} (hS : va_S A s.heap H locs) (h1 : H.size ≤ t.heap.size) (h2 : ∀ q : Nat, q < H.size → t.heap[q]? = H[q]?) : va_F A s t := ⟨Nat.le_trans hS.1 h1, fun q hq hA => by rw [h2 q (Nat.lt_of_lt_of_le hq hS.1)]; exact hS.2.1 q hq hA⟩
theorem x_throw {E : String} {ik ic is : Nat} {text : String} (C : wo_C p s m args meth c A D cc nL RX2 tys ret) (ht : ∀ x ∈ c.exceptionTable.toList, False) (hl : l.stackTraces = false) (hX : wo_XT A s s.heap) (hE : wo_exc E ik ic) (hs : (is, text) ∈ wo_strs) (hR : 5 < R.frames ∧ (st.map fun v => v.category).sum + 82 ≤ R.locals ∧ 1 ≤ R.cells ∧ 6 ≤ R.slots)
    (d0 : decode cc pc = .ok (.new ik, 3)) (d3 : decode cc (pc + 3) = .ok (.dup, 1)) (d4 : decode cc (pc + 4) = .ok (.ldc is, 2)) (d6 : decode cc (pc + 6) = .ok (.invokespecial ic, 3)) (d9 : decode cc (pc + 9) = .ok (.athrow, 1)) :
    wo_W p l e R s m args below meth c A D 0 0 nL (vx_MQ below (fun _ _ _ _ => False) (wo_XC E D tys ws A) args s 1 6 A) pc ls st ws := by
  intro H locs hP hD hS lv hl0
  obtain ⟨hx, hb, hml, hown, hts, hK, hA, hlk, hrt⟩ := C
  obtain ⟨g1, g2, g3, g4, g5, g6, g7⟩ := hE
  obtain ⟨sa, hsa⟩ := hX.2.2.1 _ hs
  have hcast : (Cond.castable E E).before args s = true := by
    rcases g7 with rfl | rfl
    · exact va_Nw.use rfl hX.2.2.2.1
    · exact va_Nw.use rfl hX.2.2.2.2.1
  have hat : ∀ w ∈ vx_atS RX2 ic E wo_names, w.before args s = true := vx_hat (B := wo_ng E) (fun w h => hts w (g4 w h)) g5 (vx_c hcast (fun w h => by
    obtain ⟨x, hx9, rfl⟩ := List.mem_map.mp h
    exact va_Nw.use rfl (hX.2.2.2.2.2.2 x hx9)))
  exact vx_throwS hx hb hl hown g3 (by decide +kernel) (hts _ g1) (hts _ g2) hsa hat g6 hX.1 hX.2.1 hS (hl0.1.trans hml.symm) d0 d3 d4 d6 d9 (fun x hx => (ht x hx).elim) hR.1 hR.2.1 (by omega) (by omega) hlk
    (fun t hal h1 h2 => ⟨rfl, fun k q hk => (hP k q hk).kept (h2 q.1 (hP k q hk).lt), va_K.moved hal hK, hD, wo_keep hS h1 h2⟩) hS.2.2 (by omega) (by omega)
theorem wo_callBX {idx maxL n d : Nat} {y : MethodName} {bytes : ByteArray} {ret' : Option FieldType} (C : wo_C p s m args meth c A D cc nL own tys ret) (G : wo_GB own idx y bytes maxL ret' n) (hR : d + 1 ≤ R.frames ∧ 8 + (maxL + 11) + 36 * d ≤ R.locals) : CallB R s args own idx y bytes maxL ret' (.code y bytes maxL ret' :: wo_BG) (wo_rmx d) 1 6 n := by
  obtain ⟨-, -, -, -, hts, -⟩ := C
  obtain ⟨g1, g2, g3, g4, g5, g6⟩ := G
  refine callB_of (Ts := wo_BG) n hts ?_ rfl rfl rfl (hts _ g2) (hts _ g1) ⟨g4, g5, g6⟩ hR
  intro w hw
  rcases List.mem_cons.mp hw with h | h
  · subst h; exact ⟨g3, wo_good g3⟩
  · exact ⟨h, wo_good h⟩
theorem wo_blindX {As : List Value} {sz : Nat} : FrameBlind (va_Pc As (fun U => wo_pre D tys ws sz U ∧ wo_XT (va_A ws sz) U U.heap)) := fun a U g mk q => by
  obtain ⟨q0, ⟨q1, qP, qK, qD⟩, qX⟩ := q
  exact ⟨q0, ⟨q1, qP, va_K.moved (u := U) (U := U.calling g mk a) (Vm.Alike.refl U.vm) qK, qD⟩, wo_XT.same (u := U) (U := U.calling g mk a) qX rfl⟩
theorem wo_backX {lv : Array Slot} {st0 rest : List Value} {H : Heap} {locs : List Loc} {A1 : Nat → Prop} {E : String}
    (hr : vx_Run p l e R s m args below meth c H locs cells slots 1 6 (F0 m pc lv st0) rest (fun _ _ _ => False) (wo_XC E D tys ws A1) A1) (hS : va_S A s.heap H locs) (hA : ∀ q, A1 q → A q) (hl : lv_has lv nL (wo_lp 0 ls))
    (kk : wo_WX p l e R s m args below meth c A D (cells + 1) (slots + 6) nL Q pc ls rest ws E) : W p l e R s m args below meth c H locs cells slots Q (F0 m pc lv st0) := by
  intro T hT X
  rcases hr T hT X with ⟨v, st₀, t, T', L, h0, X', hL, e1, e2, hF, st⟩ | ⟨q, st₀, t, T', L, E1, ce, h0, X', hL, e1, e2, ⟨hE, hp, -, hd, hF⟩, hce, hcv, hcl, st⟩
  · exact hF.elim
  · subst hE
    obtain ⟨k1, k2, k3⟩ := vx_keep h0 e1 hS (fun q _ h => hA q h) hA hL hF
    obtain ⟨t2, a1, b1⟩ := kk T'.heap (locs ++ L) q ce (by rw [e1]; exact hp) (hd.weaken (fun _ q _ h => hA q.1 h)) k3 lv hl (by rw [e1]; exact hce) hcv hcl T' rfl X'
    exact ⟨t2, st.trans a1, b1⟩
theorem x_callVX {idx maxL n d ci : Nat} {y : MethodName} {C0 : String} {T0 : u_T} {N0 : Nat} {fs : List Value} {bytes : ByteArray} {ret' : Option FieldType} {b : Nat} {As rest : List Value} {E : String} (C : wo_C p s m args meth c A D cc nL own tys ret) (hX : wo_XT A s s.heap) (G : wo_GV own idx C0 y bytes maxL ret' n) (hM : wo_X l y bytes maxL ret' d D tys (.ref b :: As) ws E)
    (q : Nat) (hq : ws[q]? = some (b, .inr (ci, fs))) (hci : vwCl[ci]? = some (C0, T0, N0)) (hst : st = As.reverse ++ .ref b :: rest) (hn : As.length = n) (hc : (rest.map fun v => v.category).sum ≤ 8) (hR : d + 1 ≤ R.frames ∧ 8 + (maxL + 11) + 36 * d ≤ R.locals) (hf : cells + 1 ≤ R.cells ∧ slots + 6 ≤ R.slots) (dg : decode cc pc = .ok (.invokevirtual idx, 3))
    (kk : wo_WX p l e R s m args below meth c A D (cells + 1) (slots + 6) nL Q pc ls rest ws E) : wo_W p l e R s m args below meth c A D cells slots nL Q pc ls st ws := by
  intro H locs hP hD hS lv hl
  have cb := wo_callBX (R := R) C G.1 hR
  obtain ⟨hx, hb, hml, hown, hts, hK, hA, hlk, hr⟩ := C
  exact wo_backX (vx_runV (As := As) (rest := rest) (Ts := wo_BG) ⟨hx, hb, hml, hown, hts⟩ (hM H.size) ⟨cb, hts _ G.2.1, hts _ G.2.2⟩
    ⟨wo_blindX, va_recv hK hP hci hq, fun U hU hW => ⟨rfl, ⟨by rw [hU], by rw [hU]; exact hP, va_K.moved hW.alike hK, hD.weaken (fun _ _ _ _ => trivial)⟩, by rw [hU]; exact hX.go hS (wo_sub hD hS hA) hW⟩⟩ rfl hn (hl.1) hst (lv_room hc) dg hf) hS (wo_sub hD hS hA) hl kk
theorem x_callSX {idx maxL n d : Nat} {y : MethodName} {bytes : ByteArray} {ret' : Option FieldType} {As rest : List Value} {E : String} (C : wo_C p s m args meth c A D cc nL own tys ret) (hX : wo_XT A s s.heap) (G : wo_GS own idx y bytes maxL ret' n) (hM : wo_X l y bytes maxL ret' d D tys As ws E)
    (hst : st = As.reverse ++ rest) (hn : As.length = n) (hc : (rest.map fun v => v.category).sum ≤ 8) (hR : d + 1 ≤ R.frames ∧ 8 + (maxL + 11) + 36 * d ≤ R.locals) (hf : cells + 1 ≤ R.cells ∧ slots + 6 ≤ R.slots) (dg : decode cc pc = .ok (.invokestatic idx, 3))
    (kk : wo_WX p l e R s m args below meth c A D (cells + 1) (slots + 6) nL Q pc ls rest ws E) : wo_W p l e R s m args below meth c A D cells slots nL Q pc ls st ws := by
  intro H locs hP hD hS lv hl
  have cb := wo_callBX (R := R) C G.1 hR
  obtain ⟨hx, hb, hml, hown, hts, hK, hA, hlk, hr⟩ := C
  exact wo_backX (vx_runS (As := As) (rest := rest) (Ts := wo_BG) ⟨hx, hb, hml, hown, hts⟩ (hM H.size) ⟨cb, hts _ G.2⟩
    ⟨wo_blindX, fun U hU hW => ⟨rfl, ⟨by rw [hU], by rw [hU]; exact hP, va_K.moved hW.alike hK, hD.weaken (fun _ _ _ _ => trivial)⟩, by rw [hU]; exact hX.go hS (wo_sub hD hS hA) hW⟩⟩ rfl hn (hl.1) hst (lv_room hc) dg hf) hS (wo_sub hD hS hA) hl kk
/-- not caught here -/
theorem x_prop {E : String} (C : wo_C p s m args meth c A D cc nL own tys ret) (ht : ∀ x ∈ c.exceptionTable.toList, False) : wo_WX p l e R s m args below meth c A D (0 + 1) (0 + 6) nL (vx_MQ below (fun _ _ _ _ => False) (wo_XC E D tys ws A) args s 1 6 A) pc ls st ws E := by
  intro H locs q9 ce hP hD hS lv hl hce hcv hcl
  obtain ⟨hx, hb, hml, hown, hts, hK, hA, hlk, hr⟩ := C
  exact vx_out (fun x hx => (ht x hx).elim) hlk hce hcv hcl (fun t ht hal => ⟨rfl, by rw [ht]; exact hP, va_K.moved hal hK, hD, hS.F ht⟩) hS.2.2 (Nat.le_refl _) (Nat.le_refl _)
theorem wo_ofX {y : MethodName} {n d : Nat} {As : List Value} {E : String} (hy : plainName y.cls = true) (hn : (lg_sl As).length ≤ n) (hls : lv_args 0 As = wo_lp 0 ls)
    (body : ∀ (p : Program) (e : Env) (s : State) (m : MethodId) (args : Array Value) (below : List Frame) (meth : Method) (c : Code) (A : Nat → Prop), wo_C p s m args meth c A D cc n y.cls tys ret → (∀ x ∈ c.exceptionTable.toList, False) → wo_XT A s s.heap → wo_W p l e (wo_rmx d) s m args below meth c A D 0 0 n (vx_MQ below (fun _ _ _ _ => False) (wo_XC E D tys ws A) args s 1 6 A) 0 ls [] ws) : wo_X l y cc n ret d D tys As ws E := by
  intro sz
  refine vx_ofW (cc := cc) (maxL := n) (ret := ret) hy rfl ?_
  intro p e s m args below meth c s₁ B hml ht hv
  obtain ⟨rfl, ⟨hsz, hP, hK, hD0⟩, hX⟩ := hv
  subst hsz
  have hts := atoms_spec (ws := .code y cc n ret :: wo_BG) B.pre
  have hown : s.vm.findClass y.cls = some m.cls := findClass_of_methodNamed B.named
  have hl := lv_entry As (n := n) hn
  rw [lg_entry_eq]
  rw [hls] at hl
  exact body p e s m As.toArray below meth c (va_A ws s.heap.size) ⟨B.exec, B.bytes, hml, hown, fun w h => hts w (List.mem_cons_of_mem _ h), hK, fun q h => Or.inr h, B.notSynchronized, B.returns⟩ ht hX s.heap [] hP (hD0.self) va_S.rf _ hl
end WOX
