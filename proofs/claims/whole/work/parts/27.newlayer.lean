/-! ===== making objects and rows ===== -/
theorem kq_X2 : Cond.instantiable RX2 6 ∈ wo_BG := wo_b1 (i := 11) rfl rfl
theorem km_X2_obj : Cond.methodLink RX2 1 Lib.objectInit ∈ wo_BG := wo_b1 (i := 15) rfl rfl
theorem ko_inst : Cond.instanceMethod Lib.objectInit ∈ wo_BG := wo_b1 (i := 16) rfl rfl
theorem ko_code : Cond.code Lib.objectInit ⟨#[0xb1]⟩ 1 none ∈ wo_BG := wo_b1 (i := 17) rfl rfl
theorem kq_X1 : Cond.instantiable RX1 6 ∈ wo_BG := wo_b1 (i := 19) rfl rfl
theorem km_X1_obj : Cond.methodLink RX1 3 Lib.objectInit ∈ wo_BG := wo_b1 (i := 23) rfl rfl
theorem ka_I : Cond.arrayClass .int ∈ wo_BG := wo_b1 (i := 43) rfl rfl
theorem kq_X0 : Cond.instantiable RX0 9 ∈ wo_BG := wo_b1 (i := 45) rfl rfl
theorem km_X0_obj : Cond.methodLink RX0 3 Lib.objectInit ∈ wo_BG := wo_b1 (i := 49) rfl rfl
theorem ka_Z : Cond.arrayClass .boolean ∈ wo_BG := wo_b1 (i := 78) rfl rfl
theorem kq_X3 : Cond.instantiable RX3 22 ∈ wo_BG := wo_b3 (i := 51) rfl rfl
theorem km_X3_obj : Cond.methodLink RX3 1 Lib.objectInit ∈ wo_BG := wo_b3 (i := 55) rfl rfl
theorem ka_J : Cond.arrayClass .long ∈ wo_BG := wo_b4 (i := 46) rfl rfl

theorem wo_Pmem {D : va_G} {ws : va_W} {H : Heap} : va_P D vwCl ws H ↔ ∀ q ∈ ws, va_at D vwCl q H := ⟨fun h q hq => by
    obtain ⟨k, hk⟩ := List.mem_iff_getElem?.mp hq
    exact h k q hk, fun h k q hk => h q (List.mem_of_getElem? hk)⟩
theorem wo_Pperm {D : va_G} {ws ws' : va_W} {H : Heap} (hp : ws.Perm ws') (h : va_P D vwCl ws H) : va_P D vwCl ws' H := wo_Pmem.mpr fun q hq => wo_Pmem.mp h q (hp.mem_iff.mpr hq)
theorem wo_Dnd {A : Nat → Prop} {ws : va_W} : va_D A ws ↔ (ws.map (fun q => q.1)).Nodup ∧ ∀ q ∈ ws, A q.1 := by
  constructor
  · intro h
    refine ⟨?_, fun q hq => by
      obtain ⟨k, hk⟩ := List.mem_iff_getElem?.mp hq
      exact h.2 k q hk⟩
    rw [List.nodup_iff_pairwise_ne, List.pairwise_iff_getElem]
    intro i j hi hj hij he
    rw [List.length_map] at hi hj
    have e1 : ws[i]? = some ws[i] := List.getElem?_eq_getElem hi
    have e2 : ws[j]? = some ws[j] := List.getElem?_eq_getElem hj
    have h3 := h.1 i j _ _ e1 e2 (by simpa using he)
    omega
  · intro h
    refine ⟨fun i j p q hi hj he => ?_, fun k q hk => h.2 q (List.mem_of_getElem? hk)⟩
    have h1 := h.1
    rw [List.nodup_iff_pairwise_ne, List.pairwise_iff_getElem] at h1
    obtain ⟨hi', rfl⟩ := List.getElem?_eq_some_iff.mp hi
    obtain ⟨hj', rfl⟩ := List.getElem?_eq_some_iff.mp hj
    rcases Nat.lt_trichotomy i j with h9 | h9 | h9
    · exact absurd (by rw [List.getElem_map, List.getElem_map]; exact he) (h1 i j (by rw [List.length_map]; exact hi') (by rw [List.length_map]; exact hj') h9)
    · exact h9
    · exact absurd (by rw [List.getElem_map, List.getElem_map]; exact he.symm) (h1 j i (by rw [List.length_map]; exact hj') (by rw [List.length_map]; exact hi') h9)
theorem wo_Dperm {A : Nat → Prop} {ws ws' : va_W} (hp : ws.Perm ws') (h : va_D A ws) : va_D A ws' := by
  rw [wo_Dnd] at h ⊢
  exact ⟨(hp.map _).nodup_iff.mp h.1, fun q hq => h.2 q (hp.mem_iff.mpr hq)⟩
/-- the world with a cell laid in at place k -/
def wo_ins (ws : va_W) (k : Nat) (q : Nat × va_E) : va_W := ws.take k ++ q :: ws.drop k
theorem wo_ins_perm (ws : va_W) (k : Nat) (q : Nat × va_E) : (ws ++ [q]).Perm (wo_ins ws k q) := by
  unfold wo_ins
  have h1 : ws ++ [q] = ws.take k ++ (ws.drop k ++ [q]) := by rw [← List.append_assoc, List.take_append_drop]
  rw [h1]
  exact List.Perm.append_left _ (List.perm_append_singleton q _)
def wo_rmn (d mc ms : Nat) : Room := { frames := d, cells := mc, slots := ms, locals := 36 * d }
def wo_QN (D : va_G) (tys : List (ClassId × FieldType)) (post : va_W → Prop) (A : Nat → Prop) : Array Value → State → Outcome → State → Prop := fun _ st oc t => (oc = .returned none ∧ ∃ ws, post ws ∧ va_P D vwCl ws t.heap ∧ va_K D vwCl tys t ∧ va_D A ws) ∧ va_F A st t
/-- a constructor's contract: the world behind it is some ws' with post ws' -/
def wo_N (l : Launch) (y : MethodName) (cd : ByteArray) (n : Nat) (d mc ms : Nat) (D : va_G) (tys : List (ClassId × FieldType)) (As : List Value) (ws : va_W) (post : va_W → Prop) : Prop :=
  ∀ sz : Nat, Met l y (.code y cd n none :: wo_BG) (wo_rmn d mc ms) (va_Pc As (wo_pre D tys ws sz)) (wo_QN D tys post (va_A ws sz)) mc ms (va_A ws sz)
section WON
variable {p : Program} {l : Launch} {e : Env} {R : Room} {s : State} {m : MethodId} {args : Array Value} {below : List Frame} {meth : Method} {c : Code} {A : Nat → Prop} {D : va_G} {cells slots nL : Nat} {Q : State → Prop} {cc : ByteArray} {own : String} {tys : List (ClassId × FieldType)} {ret : Option FieldType}
variable {pc : Nat} {ls : List (Option Value)} {st : List Value} {ws : va_W}
theorem x_perm {ws2 : va_W} (hp : ws.Perm ws2) (kk : wo_W p l e R s m args below meth c A D cells slots nL Q pc ls st ws2) : wo_W p l e R s m args below meth c A D cells slots nL Q pc ls st ws := fun H locs hP hD hS lv hl => kk H locs (wo_Pperm hp hP) (wo_Dperm hp hD) hS lv hl
theorem x_objInit {idx a : Nat} (C : wo_C p s m args meth c A D cc nL own tys ret) (hm : Cond.methodLink own idx Lib.objectInit ∈ wo_BG) (dg : decode cc pc = .ok (.invokespecial idx, 3)) (hR : 1 ≤ R.frames ∧ (st.map fun v => v.category).sum + 12 ≤ R.locals) (kk : wo_W p l e R s m args below meth c A D cells slots nL Q (pc + 3) ls st ws) : wo_W p l e R s m args below meth c A D cells slots nL Q pc ls (.ref a :: st) ws := by
  intro H locs hP hD hS lv hl
  obtain ⟨hx, hb, hml, hown, hts, hK, hA, hlk, hr⟩ := C
  refine W.objInit hx hb hown (hts _ hm) (hts _ ko_inst) (hts _ ko_code) rfl (by rw [hml]; exact hl.1) rfl dg hR.1 ?_ (kk H locs hP hD hS lv hl)
  have h0 : (F0 m pc lv (.ref a :: st)).monitorRoom = 0 := by
    have := lv_room (m := m) (pc := pc) (ls := lv) (rest := .ref a :: st) (st := []) (Nat.zero_le 8)
    simp [JFrame.monitorRoom]
  rw [h0]
  have := hR.2
  omega
theorem x_newa {atype : ArrayType} {ty : FieldType} {cA : ClassId} {n : Int32} {N : Nat} {a0 : vp_A} (C : wo_C p s m args meth c A D cc nL own tys ret) (k t0 : Nat) (hty : newarray.typeOf atype = ty) (harr : Cond.arrayClass ty ∈ wo_BG) (ht : tys[t0]? = some (cA, ty)) (hpr : va_RA s cA ty → s.vm.findClass ("[" ++ ty.toString) = some cA)
    (ha : ∀ cA : ClassId, vp_cell cA a0 = arrV cA N (fun _ => defaultValue ty)) (hn : ¬ n < 0) (hN : n.toNatClampNeg = N) (hbytes : N * componentBytes ty ≤ 536870912) (hcells : cells + 1 ≤ R.cells) (hslots : slots + N ≤ R.slots) (dg : decode cc pc = .ok (.newarray atype, 2))
    (kk : ∀ q : Nat, wo_W p l e R s m args below meth c A D (cells + 1) (slots + N) nL Q (pc + 2) ls (.ref q :: st) (wo_ins ws k (q, .inl (cA, a0)))) : wo_W p l e R s m args below meth c A D cells slots nL Q pc ls (.int n :: st) ws := by
  intro H locs hP hD hS lv hl
  obtain ⟨hx, hb, hml, hown, hts, hK, hA, hlk, hr⟩ := C
  subst hty
  refine va_newa hx hb (hts _ harr) rfl hK hP hD hS hA ha hn hN hbytes hcells hslots dg (fun q cB H1 hK1 hP1 hD1 hS1 => ?_)
  have hc : cB = cA := by
    have e1 := (hK1.2 tys.length _ (by rw [List.getElem?_append_right (Nat.le_refl _), Nat.sub_self]; rfl)).2
    have e2 := hpr (hK.2 t0 _ ht).2
    have e3 : s.vm.findClass ("[" ++ (newarray.typeOf atype).toString) = some cB := by cases atype <;> exact e1
    exact Option.some.inj (e3.symm.trans e2)
  subst hc
  exact kk q H1 locs (wo_Pperm (wo_ins_perm ws k _) hP1) (wo_Dperm (wo_ins_perm ws k _) hD1) hS1 lv hl
theorem x_new {C0 : String} {T : u_T} {N ci index : Nat} {fs : List Value} (C : wo_C p s m args meth c A D cc nL own tys ret) (k : Nat) (hin : ∀ w ∈ u_ws C0 T N, w ∈ wo_BG) (ty : Nat → FieldType) (hty : ∀ k, k < N → parseFieldDescriptor (T k).2.2.1 = some (ty k)) (hcl : Cond.classLink own index C0 ∈ wo_BG) (hinst : Cond.instantiable C0 N ∈ wo_BG) (hini : Cond.initialized C0 ∈ wo_BG) (hc : vwCl[ci]? = some (C0, T, N)) (hfs : ∀ j, j < N → defaultValue (ty j) = vp_V fs j) (hcells : cells + 1 ≤ R.cells) (hslots : slots + N ≤ R.slots) (dg : decode cc pc = .ok (.new index, 3))
    (kk : ∀ q : Nat, wo_W p l e R s m args below meth c A D (cells + 1) (slots + N) nL Q (pc + 3) ls (.ref q :: st) (wo_ins ws k (q, .inr (ci, fs)))) : wo_W p l e R s m args below meth c A D cells slots nL Q pc ls st ws := by
  intro H locs hP hD hS lv hl
  obtain ⟨hx, hb, hml, hown, hts, hK, hA, hlk, hr⟩ := C
  exact va_new hx hb hts hin ty hty hown (hts _ hcl) (hts _ hinst) (hts _ hini) hK hP hD hS hA hc hfs hcells hslots dg (fun q H1 hP1 hD1 hS1 => kk q H1 locs (wo_Pperm (wo_ins_perm ws k _) hP1) (wo_Dperm (wo_ins_perm ws k _) hD1) hS1 lv hl)
theorem x_putF {C0 : String} {T : u_T} {N ci a idx : Nat} {fs : List Value} {v : Value} {ty : FieldType} {ws2 : va_W} (C : wo_C p s m args meth c A D cc nL own tys ret) (hi : meth.name = "<init>") (hin : ∀ w ∈ u_ws C0 T N, w ∈ wo_BG) (ty0 : Nat → FieldType) (hty : ∀ k, k < N → parseFieldDescriptor (T k).2.2.1 = some (ty0 k)) (hnm : ∀ a, a < N → ∀ b, b < N → a ≠ b → (T a).2.1 ≠ (T b).2.1) (k : Nat) (hlk : Cond.fieldLink own idx (T k).1 (T k).2.1 (T k).2.2.1 ∈ wo_BG) (q : Nat) (hq : ws[q]? = some (a, .inr (ci, fs))) (hci : vwCl[ci]? = some (C0, T, N)) (hk : k < N) (hfin : (T k).2.2.2 = true) (hdecl : (T k).1 = own) (hd : parseFieldDescriptor (T k).2.2.1 = some ty) (hn : narrow ty v = v) (hfit : fits ty v = true) (hl0 : k < fs.length) (hws : ws.set q (a, .inr (ci, fs.set k v)) = ws2) (dg : decode cc pc = .ok (.putfield idx, 3))
    (kk : wo_W p l e R s m args below meth c A D cells slots nL Q (pc + 3) ls st ws2) : wo_W p l e R s m args below meth c A D cells slots nL Q pc ls (v :: .ref a :: st) ws := by
  subst hws
  exact fun H locs hP hD hS lv hl => va_putF C.1 C.2.1 C.2.2.2.2.1 hin ty0 hty hnm C.2.2.2.1 C.2.2.2.2.2.1 hP hD hS q hq hci k hk (C.2.2.2.2.1 _ hlk) (fun _ h9 => h9) hfin hi hdecl hd hn hfit hl0 dg (fun H1 locs1 hP1 hD1 hS1 => kk H1 locs1 hP1 hD1 hS1 lv hl)
theorem wo_ofN {y : MethodName} {n d mc ms : Nat} {As : List Value} {post : va_W → Prop} (hy : plainName y.cls = true) (hyn : y.name = "<init>") (hn : (lg_sl As).length ≤ n) (hls : lv_args 0 As = wo_lp 0 ls)
    (body : ∀ (p : Program) (e : Env) (s : State) (m : MethodId) (args : Array Value) (below : List Frame) (meth : Method) (c : Code) (A : Nat → Prop), wo_C p s m args meth c A D cc n y.cls tys none → meth.name = "<init>" → wo_W p l e (wo_rmn d mc ms) s m args below meth c A D 0 0 n (MQ below (wo_QN D tys post A) args s mc ms A) 0 ls [] ws) : wo_N l y cc n d mc ms D tys As ws post := by
  intro sz
  refine Met.ofW (cc := cc) (maxL := n) (ret := none) hy rfl ?_
  intro p e s m args below meth c s₁ B hml hv
  obtain ⟨rfl, hsz, hP, hK, hD0⟩ := hv
  subst hsz
  have hts := atoms_spec (ws := .code y cc n none :: wo_BG) B.pre
  have hown : s.vm.findClass y.cls = some m.cls := findClass_of_methodNamed B.named
  have hi : meth.name = "<init>" := (name_of_methodNamed B.named B.method).1.trans hyn
  have hl := lv_entry As (n := n) hn
  rw [lg_entry_eq]
  rw [hls] at hl
  exact body p e s m As.toArray below meth c (va_A ws s.heap.size) ⟨B.exec, B.bytes, hml, hown, fun w h => hts w (List.mem_cons_of_mem _ h), hK, fun q h => Or.inr h, B.notSynchronized, B.returns⟩ hi s.heap [] hP (hD0.self) va_S.rf _ hl
theorem x_vretN {post : va_W → Prop} {mc ms : Nat} (C : wo_C p s m args meth c A D cc nL own tys none) (dg : decode cc pc = .ok (.return_, 1)) (hc : cells ≤ mc) (hs : slots ≤ ms) (hw : post ws) : wo_W p l e R s m args below meth c A D cells slots nL (MQ below (wo_QN D tys post A) args s mc ms A) pc ls [] ws := by
  intro H locs hP hD hS lv hl
  obtain ⟨hx, hb, hml, hown, hts, hK, hA, hlk, hrt⟩ := C
  refine W.widen (k := mc) (n := ms) hc hs ?_
  exact W.vret hx hb hrt (fun t ht hW => ⟨⟨rfl, ws, hw, by rw [ht]; exact hP, va_K.moved hW.alike hK, hD⟩, hS.F ht⟩) hS.2.2 dg hlk
theorem x_callN {idx maxL n d mc ms : Nat} {y : MethodName} {bytes : ByteArray} {b : Nat} {As rest : List Value} {post : va_W → Prop} (C : wo_C p s m args meth c A D cc nL own tys ret) (G : wo_GB own idx y bytes maxL none n) (Gi : Cond.instanceMethod y ∈ wo_BG) (hyn : y.name = "<init>") (hM : wo_N l y bytes maxL d mc ms D tys (.ref b :: As) ws post)
    (hst : st = As.reverse ++ .ref b :: rest) (hn : As.length = n) (hc : (rest.map fun v => v.category).sum ≤ 8) (hR : d + 1 ≤ R.frames ∧ 8 + (maxL + 11) + 36 * d ≤ R.locals) (hf : cells + mc ≤ R.cells ∧ slots + ms ≤ R.slots) (dg : decode cc pc = .ok (.invokespecial idx, 3))
    (kk : ∀ ws', post ws' → wo_W p l e R s m args below meth c A D (cells + mc) (slots + ms) nL Q (pc + 3) ls rest ws') : wo_W p l e R s m args below meth c A D cells slots nL Q pc ls st ws := by
  intro H locs hP hD hS lv hl
  obtain ⟨hx, hb, hml, hown, hts, hK, hA, hlk, hr⟩ := C
  obtain ⟨g1, g2, g3, g4, g5, g6⟩ := G
  have cb : CallB R s args own idx y bytes maxL none (.code y bytes maxL none :: wo_BG) (wo_rmn d mc ms) mc ms n := by
    refine callB_of (Ts := wo_BG) n hts ?_ rfl rfl rfl (hts _ g2) (hts _ g1) ⟨g4, g5, g6⟩ hR
    intro w hw
    rcases List.mem_cons.mp hw with h | h
    · subst h; exact ⟨g3, wo_good g3⟩
    · exact ⟨h, wo_good h⟩
  have hAs := wo_sub hD hS hA
  have hrun := va_runI (R := R) (p := p) (e := e) (below := below) (meth := meth) (locs := locs) (g := F0 m pc lv st) (As := As) (rest := rest) (Ts := wo_BG) ⟨hx, hb, hml, hown, hts⟩ (hM H.size) ⟨cb, hyn, hts _ Gi⟩
    ⟨wo_blind, fun U hU hW => ⟨rfl, by rw [hU], by rw [hU]; exact hP, va_K.moved hW.alike hK, hD.weaken (fun _ _ _ _ => trivial)⟩⟩ rfl hn (hl.1) hst (lv_room hc) dg hf
  intro T hT X
  obtain ⟨v, st₀, t, T', L, h0, X', hL, e1, e2, ⟨⟨hv, ws2, hpo, hp, -, hd⟩, hz, hk⟩, stt⟩ := hrun T hT X
  cases hv
  rw [h0] at hz hk
  obtain ⟨t2, a1, b1⟩ := kk ws2 hpo T'.heap (locs ++ L) (by rw [e1]; exact hp) (hd.weaken (fun _ q _ h => hAs q.1 h))
    ⟨Nat.le_trans hS.1 (by rw [e1]; exact hz), fun q h1 h2 => by rw [e1, hk q (Nat.lt_of_lt_of_le h1 hS.1) (fun z => h2 (hAs q z))]; exact hS.2.1 q h1 h2, fun q hq => by
      rcases List.mem_append.mp hq with h | h
      · exact hS.2.2 q h
      · exact hAs _ (hL q h)⟩ lv hl T' rfl X'
  exact ⟨t2, stt t2 a1, b1⟩
end WON
