section
-- ===== PART A: goes FIRST, ahead of the names: the tables' words, and 'selects' of the private methods out of them =====
/-- a private method of a class that the tables say can be made, by its rows of tables_1 -/
def lw_okq (q : MethodName × Nat) : Prop := (q.1.cls ≠ "java/lang/invoke/MethodHandle" ∧ q.1.cls ≠ "java/lang/invoke/VarHandle") ∧ Cond.instantiable q.1.cls q.2 ∈ tables_1 ∧ Cond.privateMethod q.1 ∈ tables_1 ∧ Cond.instanceMethod q.1 ∈ tables_1
theorem lw_p0 : lw_okq (⟨"WeighOff", "begin", "(I)V"⟩, 6) := ⟨⟨by decide +kernel, by decide +kernel⟩, List.mem_of_getElem? (i := 11) (by decide +kernel), List.mem_of_getElem? (i := 84) (by decide +kernel), List.mem_of_getElem? (i := 85) (by decide +kernel)⟩
theorem lw_p1 : lw_okq (⟨"WeighOff$Course", "lineUp", "()V"⟩, 9) := ⟨⟨by decide +kernel, by decide +kernel⟩, List.mem_of_getElem? (i := 45) (by decide +kernel), List.mem_of_getElem? (i := 97) (by decide +kernel), List.mem_of_getElem? (i := 98) (by decide +kernel)⟩
theorem lw_p2 : lw_okq (⟨"WeighOff$Course", "lineUpByNumber", "()V"⟩, 9) := ⟨⟨by decide +kernel, by decide +kernel⟩, List.mem_of_getElem? (i := 45) (by decide +kernel), List.mem_of_getElem? (i := 101) (by decide +kernel), List.mem_of_getElem? (i := 102) (by decide +kernel)⟩
theorem lw_p3 : lw_okq (⟨"WeighOff$Course", "putInLine", "(I)V"⟩, 9) := ⟨⟨by decide +kernel, by decide +kernel⟩, List.mem_of_getElem? (i := 45) (by decide +kernel), List.mem_of_getElem? (i := 109) (by decide +kernel), List.mem_of_getElem? (i := 110) (by decide +kernel)⟩
theorem lw_p4 : lw_okq (⟨"WeighOff$Course", "lineUpByPlace", "()V"⟩, 9) := ⟨⟨by decide +kernel, by decide +kernel⟩, List.mem_of_getElem? (i := 45) (by decide +kernel), List.mem_of_getElem? (i := 113) (by decide +kernel), List.mem_of_getElem? (i := 114) (by decide +kernel)⟩
theorem lw_p5 : lw_okq (⟨"java/lang/Throwable", "fillInStackTrace", "(I)Ljava/lang/Throwable;"⟩, 6) := ⟨⟨by decide +kernel, by decide +kernel⟩, List.mem_of_getElem? (i := 205) (by decide +kernel), List.mem_of_getElem? (i := 203) (by decide +kernel), List.mem_of_getElem? (i := 204) (by decide +kernel)⟩
theorem lw_p6 : lw_okq (⟨"WeighOff", "requireTurn", "()I"⟩, 6) := ⟨⟨by decide +kernel, by decide +kernel⟩, List.mem_of_getElem? (i := 11) (by decide +kernel), List.mem_of_getElem? (i := 251) (by decide +kernel), List.mem_of_getElem? (i := 252) (by decide +kernel)⟩
theorem lw_p7 : lw_okq (⟨"WeighOff", "tiltIfLevel", "(I)I"⟩, 6) := ⟨⟨by decide +kernel, by decide +kernel⟩, List.mem_of_getElem? (i := 11) (by decide +kernel), List.mem_of_getElem? (i := 271) (by decide +kernel), List.mem_of_getElem? (i := 272) (by decide +kernel)⟩
theorem lw_p8 : lw_okq (⟨"WeighOff$Sheet", "rank", "(II)V"⟩, 6) := ⟨⟨by decide +kernel, by decide +kernel⟩, List.mem_of_getElem? (i := 19) (by decide +kernel), List.mem_of_getElem? (i := 285) (by decide +kernel), List.mem_of_getElem? (i := 286) (by decide +kernel)⟩
theorem lw_p9 : lw_okq (⟨"WeighOff", "noteRecord", "(II)V"⟩, 6) := ⟨⟨by decide +kernel, by decide +kernel⟩, List.mem_of_getElem? (i := 11) (by decide +kernel), List.mem_of_getElem? (i := 289) (by decide +kernel), List.mem_of_getElem? (i := 290) (by decide +kernel)⟩
theorem lw_p10 : lw_okq (⟨"WeighOff$Course", "endDay", "()V"⟩, 9) := ⟨⟨by decide +kernel, by decide +kernel⟩, List.mem_of_getElem? (i := 45) (by decide +kernel), List.mem_of_getElem? (i := 297) (by decide +kernel), List.mem_of_getElem? (i := 298) (by decide +kernel)⟩
theorem lw_p11 : lw_okq (⟨"WeighOff$Course", "takePlaces", "()V"⟩, 9) := ⟨⟨by decide +kernel, by decide +kernel⟩, List.mem_of_getElem? (i := 45) (by decide +kernel), List.mem_of_getElem? (i := 301) (by decide +kernel), List.mem_of_getElem? (i := 302) (by decide +kernel)⟩
theorem lw_p12 : lw_okq (⟨"WeighOff$Sheet", "isBefore", "(II)Z"⟩, 6) := ⟨⟨by decide +kernel, by decide +kernel⟩, List.mem_of_getElem? (i := 19) (by decide +kernel), List.mem_of_getElem? (i := 309) (by decide +kernel), List.mem_of_getElem? (i := 310) (by decide +kernel)⟩
theorem lw_p13 : lw_okq (⟨"WeighOff$Course", "makeCut", "()V"⟩, 9) := ⟨⟨by decide +kernel, by decide +kernel⟩, List.mem_of_getElem? (i := 45) (by decide +kernel), List.mem_of_getElem? (i := 313) (by decide +kernel), List.mem_of_getElem? (i := 314) (by decide +kernel)⟩
theorem lw_p14 : lw_okq (⟨"WeighOff", "requireGrower", "(I)V"⟩, 6) := ⟨⟨by decide +kernel, by decide +kernel⟩, List.mem_of_getElem? (i := 11) (by decide +kernel), List.mem_of_getElem? (i := 342) (by decide +kernel), List.mem_of_getElem? (i := 343) (by decide +kernel)⟩
theorem lw_p15 : lw_okq (⟨"WeighOff", "bestOrLatestTilt", "(II)I"⟩, 6) := ⟨⟨by decide +kernel, by decide +kernel⟩, List.mem_of_getElem? (i := 11) (by decide +kernel), List.mem_of_getElem? (i := 492) (by decide +kernel), List.mem_of_getElem? (i := 493) (by decide +kernel)⟩
def lw_privs_1 : List (MethodName × Nat) := [(⟨"WeighOff", "begin", "(I)V"⟩, 6), (⟨"WeighOff$Course", "lineUp", "()V"⟩, 9), (⟨"WeighOff$Course", "lineUpByNumber", "()V"⟩, 9), (⟨"WeighOff$Course", "putInLine", "(I)V"⟩, 9), (⟨"WeighOff$Course", "lineUpByPlace", "()V"⟩, 9), (⟨"java/lang/Throwable", "fillInStackTrace", "(I)Ljava/lang/Throwable;"⟩, 6), (⟨"WeighOff", "requireTurn", "()I"⟩, 6), (⟨"WeighOff", "tiltIfLevel", "(I)I"⟩, 6), (⟨"WeighOff$Sheet", "rank", "(II)V"⟩, 6), (⟨"WeighOff", "noteRecord", "(II)V"⟩, 6), (⟨"WeighOff$Course", "endDay", "()V"⟩, 9), (⟨"WeighOff$Course", "takePlaces", "()V"⟩, 9), (⟨"WeighOff$Sheet", "isBefore", "(II)Z"⟩, 6), (⟨"WeighOff$Course", "makeCut", "()V"⟩, 9), (⟨"WeighOff", "requireGrower", "(I)V"⟩, 6), (⟨"WeighOff", "bestOrLatestTilt", "(II)I"⟩, 6)]
theorem lw_r1 : ∀ q ∈ lw_privs_1, lw_okq q := List.forall_mem_cons.mpr ⟨lw_p0, List.forall_mem_cons.mpr ⟨lw_p1, List.forall_mem_cons.mpr ⟨lw_p2, List.forall_mem_cons.mpr ⟨lw_p3, List.forall_mem_cons.mpr ⟨lw_p4, List.forall_mem_cons.mpr ⟨lw_p5, List.forall_mem_cons.mpr ⟨lw_p6, List.forall_mem_cons.mpr ⟨lw_p7, List.forall_mem_cons.mpr ⟨lw_p8, List.forall_mem_cons.mpr ⟨lw_p9, List.forall_mem_cons.mpr ⟨lw_p10, List.forall_mem_cons.mpr ⟨lw_p11, List.forall_mem_cons.mpr ⟨lw_p12, List.forall_mem_cons.mpr ⟨lw_p13, List.forall_mem_cons.mpr ⟨lw_p14, List.forall_mem_cons.mpr ⟨lw_p15, fun _ h => absurd h List.not_mem_nil⟩⟩⟩⟩⟩⟩⟩⟩⟩⟩⟩⟩⟩⟩⟩⟩
theorem lw_p16 : lw_okq (⟨"WeighOffModel", "begin", "(I)V"⟩, 22) := ⟨⟨by decide +kernel, by decide +kernel⟩, List.mem_of_getElem? (i := 531) (by decide +kernel), List.mem_of_getElem? (i := 540) (by decide +kernel), List.mem_of_getElem? (i := 541) (by decide +kernel)⟩
theorem lw_p17 : lw_okq (⟨"WeighOffModel", "nextDay", "()V"⟩, 22) := ⟨⟨by decide +kernel, by decide +kernel⟩, List.mem_of_getElem? (i := 531) (by decide +kernel), List.mem_of_getElem? (i := 544) (by decide +kernel), List.mem_of_getElem? (i := 545) (by decide +kernel)⟩
theorem lw_p18 : lw_okq (⟨"WeighOffModel", "weightsOf", "(I[I)I"⟩, 22) := ⟨⟨by decide +kernel, by decide +kernel⟩, List.mem_of_getElem? (i := 531) (by decide +kernel), List.mem_of_getElem? (i := 548) (by decide +kernel), List.mem_of_getElem? (i := 549) (by decide +kernel)⟩
theorem lw_p19 : lw_okq (⟨"WeighOffModel", "placeOf", "(I)I"⟩, 22) := ⟨⟨by decide +kernel, by decide +kernel⟩, List.mem_of_getElem? (i := 531) (by decide +kernel), List.mem_of_getElem? (i := 552) (by decide +kernel), List.mem_of_getElem? (i := 553) (by decide +kernel)⟩
theorem lw_p20 : lw_okq (⟨"WeighOffModel", "isBefore", "(II)Z"⟩, 22) := ⟨⟨by decide +kernel, by decide +kernel⟩, List.mem_of_getElem? (i := 531) (by decide +kernel), List.mem_of_getElem? (i := 556) (by decide +kernel), List.mem_of_getElem? (i := 557) (by decide +kernel)⟩
theorem lw_p21 : lw_okq (⟨"WeighOffModel", "byPlaces", "()V"⟩, 22) := ⟨⟨by decide +kernel, by decide +kernel⟩, List.mem_of_getElem? (i := 531) (by decide +kernel), List.mem_of_getElem? (i := 560) (by decide +kernel), List.mem_of_getElem? (i := 561) (by decide +kernel)⟩
theorem lw_p22 : lw_okq (⟨"WeighOffModel", "forward", "()V"⟩, 22) := ⟨⟨by decide +kernel, by decide +kernel⟩, List.mem_of_getElem? (i := 531) (by decide +kernel), List.mem_of_getElem? (i := 564) (by decide +kernel), List.mem_of_getElem? (i := 565) (by decide +kernel)⟩
theorem lw_p23 : lw_okq (⟨"WeighOffModel", "isIn", "(I)Z"⟩, 22) := ⟨⟨by decide +kernel, by decide +kernel⟩, List.mem_of_getElem? (i := 531) (by decide +kernel), List.mem_of_getElem? (i := 568) (by decide +kernel), List.mem_of_getElem? (i := 569) (by decide +kernel)⟩
theorem lw_p24 : lw_okq (⟨"WeighOffModel", "entry", "(I)I"⟩, 22) := ⟨⟨by decide +kernel, by decide +kernel⟩, List.mem_of_getElem? (i := 531) (by decide +kernel), List.mem_of_getElem? (i := 651) (by decide +kernel), List.mem_of_getElem? (i := 652) (by decide +kernel)⟩
theorem lw_p25 : lw_okq (⟨"WeighOffModel", "asRecord", "(I)V"⟩, 22) := ⟨⟨by decide +kernel, by decide +kernel⟩, List.mem_of_getElem? (i := 531) (by decide +kernel), List.mem_of_getElem? (i := 655) (by decide +kernel), List.mem_of_getElem? (i := 656) (by decide +kernel)⟩
theorem lw_p26 : lw_okq (⟨"WeighOffModel", "passOn", "()V"⟩, 22) := ⟨⟨by decide +kernel, by decide +kernel⟩, List.mem_of_getElem? (i := 531) (by decide +kernel), List.mem_of_getElem? (i := 659) (by decide +kernel), List.mem_of_getElem? (i := 660) (by decide +kernel)⟩
theorem lw_p27 : lw_okq (⟨"WeighOffModel", "isEntry", "(II)Z"⟩, 22) := ⟨⟨by decide +kernel, by decide +kernel⟩, List.mem_of_getElem? (i := 531) (by decide +kernel), List.mem_of_getElem? (i := 679) (by decide +kernel), List.mem_of_getElem? (i := 680) (by decide +kernel)⟩
theorem lw_p28 : lw_okq (⟨"WeighOffModel", "isAsked", "(II)Z"⟩, 22) := ⟨⟨by decide +kernel, by decide +kernel⟩, List.mem_of_getElem? (i := 531) (by decide +kernel), List.mem_of_getElem? (i := 728) (by decide +kernel), List.mem_of_getElem? (i := 729) (by decide +kernel)⟩
theorem lw_p29 : lw_okq (⟨"WeighOffModel", "entryStands", "(IIII)Z"⟩, 22) := ⟨⟨by decide +kernel, by decide +kernel⟩, List.mem_of_getElem? (i := 531) (by decide +kernel), List.mem_of_getElem? (i := 732) (by decide +kernel), List.mem_of_getElem? (i := 733) (by decide +kernel)⟩
theorem lw_p30 : lw_okq (⟨"WeighOffModel", "has", "(II)Z"⟩, 22) := ⟨⟨by decide +kernel, by decide +kernel⟩, List.mem_of_getElem? (i := 531) (by decide +kernel), List.mem_of_getElem? (i := 747) (by decide +kernel), List.mem_of_getElem? (i := 748) (by decide +kernel)⟩
theorem lw_p31 : lw_okq (⟨"WeighOffModel", "told", "(II)I"⟩, 22) := ⟨⟨by decide +kernel, by decide +kernel⟩, List.mem_of_getElem? (i := 531) (by decide +kernel), List.mem_of_getElem? (i := 751) (by decide +kernel), List.mem_of_getElem? (i := 752) (by decide +kernel)⟩
def lw_privs_2 : List (MethodName × Nat) := [(⟨"WeighOffModel", "begin", "(I)V"⟩, 22), (⟨"WeighOffModel", "nextDay", "()V"⟩, 22), (⟨"WeighOffModel", "weightsOf", "(I[I)I"⟩, 22), (⟨"WeighOffModel", "placeOf", "(I)I"⟩, 22), (⟨"WeighOffModel", "isBefore", "(II)Z"⟩, 22), (⟨"WeighOffModel", "byPlaces", "()V"⟩, 22), (⟨"WeighOffModel", "forward", "()V"⟩, 22), (⟨"WeighOffModel", "isIn", "(I)Z"⟩, 22), (⟨"WeighOffModel", "entry", "(I)I"⟩, 22), (⟨"WeighOffModel", "asRecord", "(I)V"⟩, 22), (⟨"WeighOffModel", "passOn", "()V"⟩, 22), (⟨"WeighOffModel", "isEntry", "(II)Z"⟩, 22), (⟨"WeighOffModel", "isAsked", "(II)Z"⟩, 22), (⟨"WeighOffModel", "entryStands", "(IIII)Z"⟩, 22), (⟨"WeighOffModel", "has", "(II)Z"⟩, 22), (⟨"WeighOffModel", "told", "(II)I"⟩, 22)]
theorem lw_r2 : ∀ q ∈ lw_privs_2, lw_okq q := List.forall_mem_cons.mpr ⟨lw_p16, List.forall_mem_cons.mpr ⟨lw_p17, List.forall_mem_cons.mpr ⟨lw_p18, List.forall_mem_cons.mpr ⟨lw_p19, List.forall_mem_cons.mpr ⟨lw_p20, List.forall_mem_cons.mpr ⟨lw_p21, List.forall_mem_cons.mpr ⟨lw_p22, List.forall_mem_cons.mpr ⟨lw_p23, List.forall_mem_cons.mpr ⟨lw_p24, List.forall_mem_cons.mpr ⟨lw_p25, List.forall_mem_cons.mpr ⟨lw_p26, List.forall_mem_cons.mpr ⟨lw_p27, List.forall_mem_cons.mpr ⟨lw_p28, List.forall_mem_cons.mpr ⟨lw_p29, List.forall_mem_cons.mpr ⟨lw_p30, List.forall_mem_cons.mpr ⟨lw_p31, fun _ h => absurd h List.not_mem_nil⟩⟩⟩⟩⟩⟩⟩⟩⟩⟩⟩⟩⟩⟩⟩⟩
def lw_privs : List (MethodName × Nat) := lw_privs_1 ++ (lw_privs_2)
def lw_tbl : List Cond := k2_sels lw_privs ++ tables_1
theorem lw_privs_ok : ∀ q ∈ lw_privs, lw_okq q := by
  show ∀ q ∈ lw_privs_1 ++ (lw_privs_2), lw_okq q
  exact List.forall_mem_append.mpr ⟨lw_r1, lw_r2⟩
end
section
/-! ===== BEGIN words of one list among another's, by their places ===== -/
theorem goodIn_r {big : List Cond} (ws : List Cond) (ps : List Nat) (hp : ws = ps.filterMap (fun i => big[i]?)) (h : ws.all goodWord = true) : GoodIn big ws := by
  intro w hw
  have h1 := List.all_eq_true.mp h w hw
  rw [hp] at hw
  obtain ⟨i, -, hi⟩ := List.mem_filterMap.mp hw
  have hm : w ∈ big := by first | exact List.mem_of_getElem? hi | exact List.getElem?_mem hi
  exact ⟨hm, good_of_word h1⟩
theorem goodIn_app {big a b : List Cond} (ha : GoodIn big a) (hb : GoodIn big b) : GoodIn big (a ++ b) := fun w h => (List.mem_append.mp h).elim (ha w) (hb w)
theorem goodIn_ca {big a b : List Cond} {c : Cond} (ha : GoodIn big (c :: a)) (hb : GoodIn big b) : GoodIn big (c :: (a ++ b)) := fun w h => (List.mem_cons.mp h).elim (fun e => ha w (List.mem_cons.mpr (Or.inl e))) (fun h => (List.mem_append.mp h).elim (fun h => ha w (List.mem_cons.mpr (Or.inr h))) (hb w))
theorem goodIn_sub {big ws : List Cond} (hm : ∀ w ∈ ws, w ∈ big) (h : ws.all goodWord = true) : GoodIn big ws := fun w hw => ⟨hm w hw, good_of_word (List.all_eq_true.mp h w hw)⟩
/-! ===== END ===== -/

/-! ===== BEGIN exceptions that leave a method, and their catching by the caller (launches without stack traces) ===== -/
section VXA
/-! The laws vx_back, vx_callV, vx_callS, vx_callSW, vx_throw0, vx_throwS follow proofs of the library, with one case more: JvmDerived/Free/Laws.lean (Back.of_free), Shelf42/LK1.lean (callV, callS), Shelf/KitTraced.lean (throwNew0V, throwNewS). -/
/-- where a method has thrown q: the class by its name, the cell, what was written, the world -/
def vx_T (XC : String → State → State → Prop) (st : State) (q : Addr) (t : State) (mc ms : Nat) (free : Addr → Prop) : Prop :=
  ∃ (E : String) (ce : Cell) (L : List Loc), XC E st t ∧ t.heap[q]? = some ce ∧ ce.vm = .none ∧ st.vm.findClass E = some ce.cls ∧ st.WarmedH t.vm ∧ st.sameButNew ({ t with vm := st.vm } : State) L mc ms ∧ ∀ z ∈ L, free z.base
def vx_Q (Qc : Array Value → State → Outcome → State → Prop) (XC : String → State → State → Prop) (mc ms : Nat) (free : Addr → Prop) : Array Value → State → Outcome → State → Prop := fun a st o t =>
  (Qc a st o t ∧ ∃ L, FrameEnd st o t L mc ms ∧ ∀ q ∈ L, free q.base) ∨ ∃ q, o = .threw q ∧ vx_T XC st q t mc ms free
/-- a callee that returns or throws -/
def vx_Met (l : Launch) (y : MethodName) (ws : List Cond) (rm : Room) (Pc : Array Value → State → Prop) (Qc : Array Value → State → Outcome → State → Prop) (XC : String → State → State → Prop) (mc ms : Nat) (free : Addr → Prop) : Prop :=
  MetFree l y (headSpec ws rm) Pc (fun _ _ _ _ _ => True) (vx_Q Qc XC mc ms free)
def vx_Post (XC : String → State → State → Prop) (mc ms : Nat) (free : Addr → Prop) : Pt → Array Value → Addr → Pt → Prop := fun A a q B =>
  ∃ (g : JFrame) (mk : MethodId) (t : State) (L : List Loc) (E : String) (ce : Cell), B.U.heap = t.heap ∧ B.U.vm = t.vm ∧ XC E (A.U.calling g mk a) t ∧ t.heap[q]? = some ce ∧ ce.vm = .none ∧ A.U.vm.findClass E = some ce.cls ∧ B.locs = A.locs ++ L ∧ (∀ z ∈ L, free z.base) ∧ B.cells = A.cells + mc ∧ B.slots = A.slots + ms
def vx_Back (l : Launch) (R : Room) (p : Program) (e : Env) (below : List Frame) (s : State) (sargs : Array Value) (y : MethodName) (len W9 : Nat)
    (Pre : Pt → Array Value → Prop) (Post : Pt → Array Value → Option Value → Pt → Prop) (PostX : Pt → Array Value → Addr → Pt → Prop) : Prop :=
  ∀ (m : MethodId) (meth : Method) (c : Code) (A : Pt) (g : JFrame) (ig : Instr) (mk : MethodId) (a : Array Value),
    Stand p l e R s m sargs below meth c A.U A.locs A.cells A.slots → g.method = m → g.locals.size = c.maxLocals → decode c.code g.pc = .ok (ig, len) →
    2 * g.monitorRoom + (g.stack.map fun v => v.category).sum ≤ W9 → A.U.methodNamed? y = some mk → Pre A a →
    (∃ (v : Option Value) (B : Pt), Stand p l e R s m sargs below meth c B.U B.locs B.cells B.slots ∧ Post A a v B ∧
      Steps p.tables e below (doInvoke e (A.U.setTop g) [] mk a).1 (B.U.setTop { g with pc := g.pc + len, stack := v.toList ++ g.stack })) ∨
    (∃ (q : Addr) (B : Pt), Stand p l e R s m sargs below meth c B.U B.locs B.cells B.slots ∧ PostX A a q B ∧
      Steps p.tables e below (doInvoke e (A.U.setTop g) [] mk a).1 ((B.U.setTop g).pushFrame (.throwing q)))
section Payer
variable {l : Launch} {R : Room} {p : Program} {e : Env} {below : List Frame} {s : State} {sargs : Array Value} {y : MethodName} {len W9 : Nat}
theorem vx_back {ws : List Cond} {rm : Room} {Pc : Array Value → State → Prop} {Qc : Array Value → State → Outcome → State → Prop} {XC : String → State → State → Prop} {mc ms : Nat} {free : Addr → Prop} {bytes : ByteArray} {maxL : Nat} {ret : Option FieldType}
    (hM : vx_Met l y ws rm Pc Qc XC mc ms free) (hblind : FrameBlind Pc) (hrc : rm.cells = mc) (hrs : rm.slots = ms)
    (hframes : rm.frames + 1 ≤ R.frames) (hlocals : W9 + (maxL + 11) + rm.locals ≤ R.locals)
    (hws : ∀ w ∈ ws, ∀ a' U, s.WarmedH U.vm → w.before a' U = true) (hcode : Cond.code y bytes maxL ret ∈ ws) (hinit : ∀ a' U, s.WarmedH U.vm → (Cond.initialized y.cls).before a' U = true) :
    vx_Back l R p e below s sargs y len W9 (PreOf R mc ms Pc) (PostOf Qc mc ms free) (vx_Post XC mc ms free) := by
  intro m meth c A g ig mk a X hg hsize hdg hW hn hp
  have h1 : (headSpec ws rm).pre.before a A.U = true := atoms_intro fun w hw => hws w hw _ _ X.warmed
  have h2 : (Cond.code y bytes maxL ret).before a A.U = true := hws _ hcode _ _ X.warmed
  have h3 : (Cond.initialized y.cls).before a A.U = true := hinit _ _ X.warmed
  have h4 : A.cells + (headSpec ws rm).room.cells ≤ R.cells := by rw [show (headSpec ws rm).room.cells = mc from hrc]; exact hp.1
  have h5 : A.slots + (headSpec ws rm).room.slots ≤ R.slots := by rw [show (headSpec ws rm).room.slots = ms from hrs]; exact hp.2.1
  have hPc : Pc a (A.U.calling g mk a) := hblind _ _ _ _ hp.2.2
  obtain ⟨U, Ls, c0, s0⟩ := A
  dsimp only [Pt.U, Pt.locs, Pt.cells, Pt.slots] at h1 h2 h3 h4 h5 X hn hPc ⊢
  obtain ⟨methY, cY, hmY, hcY, -, hlY, -, -, -, -⟩ := Cond.code_spec hn h2
  obtain ⟨kY, hkY, -⟩ := className_of_methodNamed hn
  have hinitY : kY.init = .initialized := Cond.initialized_spec (findClass_of_methodNamed hn) hkY h3
  have h : At U g.method c below := by rw [hg]; exact X.here
  have hlocals9 : W9 + (maxL + 11) + (headSpec ws rm).room.locals ≤ R.locals := hlocals
  have happ : (headSpec ws rm).appliesLoose y e.platform (U.calling g mk a) = true :=
    Spec.appliesLoose_calling (g := g) h hdg hn hkY hinitY
      (X.room_calling (g := g) (R' := (headSpec ws rm).room) hsize hmY hcY hframes (by rw [hlY]; omega) h4 h5) h1
  obtain ⟨mid, hmid⟩ := h.above
  have hfr : (U.setTop g).frames = (.java g :: mid) ++ below := by rw [State.frames_setTop' g h.top, hmid]; rfl
  obtain ⟨o, s₂, hsteps, -, hend, hq⟩ := Steps.callFree hM p X.admits X.cas X.clock (acts := []) hfr happ hPc trivial
  have hq' : vx_Q Qc XC mc ms free a (U.calling g mk a) o s₂ := hq
  rw [State.frames_setTop' g h.top] at hend
  obtain ⟨g₀, hg0⟩ := Option.isSome_iff_exists.mp h.top
  obtain ⟨r, hr⟩ := State.topJava?_eq_some.mp hg0
  have hr' : (({ U with heap := s₂.heap, slotsUsed := s₂.slotsUsed } : State).setVm s₂.vm).frames = .java g₀ :: r := hr
  rcases hq' with ⟨hqc, L, hfe, hL⟩ | ⟨q, rfl, E, ce, L, hx, hce, hcv, hcl, hW₂, hsm, hL⟩
  · obtain ⟨⟨v, rfl⟩, hW₂, e2, q2, q3, q4, q5, q6⟩ := id hfe
    have e3 : s₂ = ({ (U.calling g mk a).setFrames s₂.frames with heap := s₂.heap, slotsUsed := s₂.slotsUsed } : State).setVm s₂.vm := by
      have : s₂ = ({ s₂ with vm := (U.calling g mk a).vm } : State).setVm s₂.vm := rfl
      rw [e2] at this
      exact this
    obtain ⟨c₂, i₂, len₂, hc₂, hd₂, hf₂⟩ := hend
    have hW' : U.WarmedH s₂.vm := hW₂
    have hcc : c₂ = c := by
      have h1 : s₂.code? g.method = U.code? g.method := by
        rw [State.code?_eq, State.code?_eq, hW'.alike.method?]
      exact Option.some.inj (hc₂.symm.trans (h1.trans h.code))
    subst hcc
    have hlen : len₂ = len := by rw [hdg] at hd₂; cases hd₂; rfl
    subst hlen
    have hs₂ : s₂ = (({ U with heap := s₂.heap, slotsUsed := s₂.slotsUsed } : State).setVm s₂.vm).setTop { g with pc := g.pc + len₂, stack := v.toList ++ g.stack } := by
      refine e3.trans ?_
      rw [hf₂, State.calling_eq h.top, State.setFrames_setFrames, State.setTop_of_frames _ hr', hr]
      rfl
    have hsame : U.sameButNew ({ U with heap := s₂.heap, slotsUsed := s₂.slotsUsed } : State) L mc ms := by
      refine ⟨?_, q2, q3, q4, q5, q6⟩
      obtain ⟨t, ht, -⟩ := State.frames_cons hr
      show ({ U with heap := s₂.heap, slotsUsed := s₂.slotsUsed } : State) = { U.setFrames U.frames with heap := s₂.heap, slotsUsed := s₂.slotsUsed }
      rw [State.setFrames_self ht]
    subst hg
    refine Or.inl ⟨v, ⟨(({ U with heap := s₂.heap, slotsUsed := s₂.slotsUsed } : State).setVm s₂.vm), Ls ++ L, c0 + mc, s0 + ms⟩,
      ⟨X.admits, X.cas, X.clock, X.frames, X.room, X.hears, X.method, X.code, (X.here.setHeapUsed s₂.heap s₂.slotsUsed).setVm hW'.alike, X.tail, State.WarmedH.trans X.warmed hW', X.limits, X.bytes, X.same.trans (hsame.setVm s.vm)⟩,
      ⟨g, mk, s₂, L, rfl, rfl, hqc, rfl, hL, rfl, rfl⟩, ?_⟩
    show Steps p.tables e below _ ((({ U with heap := s₂.heap, slotsUsed := s₂.slotsUsed } : State).setVm s₂.vm).setTop { g with pc := g.pc + len₂, stack := v.toList ++ g.stack })
    rw [← hs₂]
    exact hsteps
  · obtain ⟨e2, q2, q3, q4, q5, q6⟩ := id hsm
    have e3 : s₂ = ({ (U.calling g mk a).setFrames s₂.frames with heap := s₂.heap, slotsUsed := s₂.slotsUsed } : State).setVm s₂.vm := by
      have : s₂ = ({ s₂ with vm := (U.calling g mk a).vm } : State).setVm s₂.vm := rfl
      rw [e2] at this
      exact this
    have hf₂ : s₂.frames = .throwing q :: .java g :: U.frames.tail := hend
    have hW' : U.WarmedH s₂.vm := hW₂
    have hs₂ : s₂ = ((({ U with heap := s₂.heap, slotsUsed := s₂.slotsUsed } : State).setVm s₂.vm).setTop g).pushFrame (.throwing q) := by
      refine e3.trans ?_
      rw [hf₂, State.calling_eq h.top, State.setFrames_setFrames, State.pushFrame, State.frames_setTop _ hr', State.setTop_of_frames _ hr', State.setFrames_setFrames, hr]
      rfl
    have hsame : U.sameButNew ({ U with heap := s₂.heap, slotsUsed := s₂.slotsUsed } : State) L mc ms := by
      refine ⟨?_, q2, q3, q4, q5, q6⟩
      obtain ⟨t, ht, -⟩ := State.frames_cons hr
      show ({ U with heap := s₂.heap, slotsUsed := s₂.slotsUsed } : State) = { U.setFrames U.frames with heap := s₂.heap, slotsUsed := s₂.slotsUsed }
      rw [State.setFrames_self ht]
    subst hg
    refine Or.inr ⟨q, ⟨(({ U with heap := s₂.heap, slotsUsed := s₂.slotsUsed } : State).setVm s₂.vm), Ls ++ L, c0 + mc, s0 + ms⟩,
      ⟨X.admits, X.cas, X.clock, X.frames, X.room, X.hears, X.method, X.code, (X.here.setHeapUsed s₂.heap s₂.slotsUsed).setVm hW'.alike, X.tail, State.WarmedH.trans X.warmed hW', X.limits, X.bytes, X.same.trans (hsame.setVm s.vm)⟩,
      ⟨g, mk, s₂, L, E, ce, rfl, rfl, hx, hce, hcv, hcl, rfl, hL, rfl, rfl⟩, ?_⟩
    show Steps p.tables e below _ (((({ U with heap := s₂.heap, slotsUsed := s₂.slotsUsed } : State).setVm s₂.vm).setTop g).pushFrame (.throwing q))
    rw [← hs₂]
    exact hsteps
end Payer
section Calls
variable {p : Program} {l : Launch} {e : Env} {R : Room} {s : State} {m : MethodId} {args : Array Value} {below : List Frame} {meth : Method} {c : Code} {T : State} {locs : List Loc} {cells slots : Nat}
theorem vx_callV (X : Stand p l e R s m args below meth c T locs cells slots) (hexec : p.tables.exec = Jvm.exec) {own C : String} {index : Nat} {y : MethodName} {bytes : ByteArray} {maxL : Nat} {ret : Option FieldType}
    (hown : s.vm.findClass own = some m.cls) (hlink : (Cond.methodLink own index y).before args s = true) (hinst : (Cond.instanceMethod y).before args s = true) (hsel : (Cond.selects C y y).before args s = true)
    (hcode : (Cond.code y bytes maxL ret).before args s = true) (hy : y.cls ≠ "java/lang/invoke/MethodHandle" ∧ y.cls ≠ "java/lang/invoke/VarHandle")
    {W9 : Nat} {Pre : Pt → Array Value → Prop} {Post : Pt → Array Value → Option Value → Pt → Prop} {PostX : Pt → Array Value → Addr → Pt → Prop} (hK : vx_Back l R p e below s args y 3 W9 Pre Post PostX)
    {b : Addr} {cellB : Cell} (hcell : T.heap[b]? = some cellB) (hobj : cellB.vm.isStatics = false) (hcls : s.vm.findClass C = some cellB.cls)
    {g : JFrame} (hg : g.method = m) (hsize : g.locals.size = c.maxLocals) {argsL rest : List Value} (hlen : ∀ sig, parseMethodDescriptor y.desc = some sig → argsL.length = sig.parameters.length)
    (hstack : g.stack = argsL.reverse ++ .ref b :: rest) (hW : 2 * g.monitorRoom + (rest.map fun v => v.category).sum ≤ W9) (hdg : decode c.code g.pc = .ok (.invokevirtual index, 3))
    (hpre : ∀ vm₁, s.WarmedH vm₁ → Pre ⟨T.setVm vm₁, locs, cells, slots⟩ (Value.ref b :: argsL).toArray) :
    (∃ (v : Option Value) (vm₁ : Vm) (B : Pt), s.WarmedH vm₁ ∧ Stand p l e R s m args below meth c B.U B.locs B.cells B.slots ∧ Post ⟨T.setVm vm₁, locs, cells, slots⟩ (Value.ref b :: argsL).toArray v B ∧
      ∀ target, Steps p.tables e below (B.U.setTop { g with pc := g.pc + 3, stack := v.toList ++ rest }) target → Steps p.tables e below (T.setTop g) target) ∨
    (∃ (q : Addr) (vm₁ : Vm) (B : Pt), s.WarmedH vm₁ ∧ Stand p l e R s m args below meth c B.U B.locs B.cells B.slots ∧ PostX ⟨T.setVm vm₁, locs, cells, slots⟩ (Value.ref b :: argsL).toArray q B ∧
      Steps p.tables e below (T.setTop g) ((B.U.setTop { g with stack := rest }).pushFrame (.throwing q))) := by
  obtain ⟨mk, methM, hnamed, hmethM, hstM, habM⟩ := Cond.instanceMethod_spec hinst
  obtain ⟨methM', cM, hmethM', -, -, -, -, -, -, hsigM⟩ := Cond.code_spec hnamed hcode
  cases hmethM.symm.trans hmethM'
  obtain ⟨c2, r2, m2, q1, q2, q3, q4, kP, hkP, hkPi⟩ := Cond.selects_spec hsel
  cases hcls.symm.trans q1
  cases (State.methodFound?_of_named hnamed hy).symm.trans q2
  cases hnamed.symm.trans q3
  have hselP : selectMethod e.platform s.vm cellB.cls mk = .method mk := by rw [Launch.admits_selectMethod X.admits]; exact q4
  obtain ⟨vm₁, X₁, hstep₁⟩ := X.invokevirtual hexec hown hlink hnamed hmethM hstM hkP hkPi hy (a := b) (cell := cellB) hcell
    (fun z h => by rw [h] at hobj; cases hobj) hselP hmethM habM hkP hkPi (g := g) hg (argsL := argsL) (rest := rest) (hlen _ hsigM) hstack hdg
  rcases hK m meth c ⟨T.setVm vm₁, locs, cells, slots⟩ { g with stack := rest } (.invokevirtual index) mk (Value.ref b :: argsL).toArray X₁ hg hsize hdg hW (X₁.named hnamed) (hpre vm₁ X₁.warmed) with ⟨v, B, X', hpost, hsteps⟩ | ⟨q, B, X', hpost, hsteps⟩
  · exact Or.inl ⟨v, vm₁, B, X₁.warmed, X', hpost, fun target h => hstep₁ _ fun acts => by rw [doInvoke_state]; exact hsteps.trans h⟩
  · exact Or.inr ⟨q, vm₁, B, X₁.warmed, X', hpost, hstep₁ _ fun acts => by rw [doInvoke_state]; exact hsteps⟩
theorem vx_callS (X : Stand p l e R s m args below meth c T locs cells slots) (hexec : p.tables.exec = Jvm.exec) {own : String} {index : Nat} {y : MethodName} {bytes : ByteArray} {maxL : Nat} {ret : Option FieldType}
    (hown : s.vm.findClass own = some m.cls) (hlink : (Cond.methodLink own index y).before args s = true) (hstat : (Cond.static y).before args s = true) (hinit : (Cond.initialized y.cls).before args s = true)
    (hcode : (Cond.code y bytes maxL ret).before args s = true) (hy : y.cls ≠ "java/lang/invoke/MethodHandle" ∧ y.cls ≠ "java/lang/invoke/VarHandle")
    {W9 : Nat} {Pre : Pt → Array Value → Prop} {Post : Pt → Array Value → Option Value → Pt → Prop} {PostX : Pt → Array Value → Addr → Pt → Prop} (hK : vx_Back l R p e below s args y 3 W9 Pre Post PostX)
    {g : JFrame} (hg : g.method = m) (hsize : g.locals.size = c.maxLocals) {argsL rest : List Value} (hlen : ∀ sig, parseMethodDescriptor y.desc = some sig → argsL.length = sig.parameters.length)
    (hstack : g.stack = argsL.reverse ++ rest) (hW : 2 * g.monitorRoom + (rest.map fun v => v.category).sum ≤ W9) (hdg : decode c.code g.pc = .ok (.invokestatic index, 3))
    (hpre : ∀ vm₁, s.WarmedH vm₁ → Pre ⟨T.setVm vm₁, locs, cells, slots⟩ argsL.toArray) :
    (∃ (v : Option Value) (vm₁ : Vm) (B : Pt), s.WarmedH vm₁ ∧ Stand p l e R s m args below meth c B.U B.locs B.cells B.slots ∧ Post ⟨T.setVm vm₁, locs, cells, slots⟩ argsL.toArray v B ∧
      ∀ target, Steps p.tables e below (B.U.setTop { g with pc := g.pc + 3, stack := v.toList ++ rest }) target → Steps p.tables e below (T.setTop g) target) ∨
    (∃ (q : Addr) (vm₁ : Vm) (B : Pt), s.WarmedH vm₁ ∧ Stand p l e R s m args below meth c B.U B.locs B.cells B.slots ∧ PostX ⟨T.setVm vm₁, locs, cells, slots⟩ argsL.toArray q B ∧
      Steps p.tables e below (T.setTop g) ((B.U.setTop { g with stack := rest }).pushFrame (.throwing q))) := by
  obtain ⟨mk, hnamed⟩ := Cond.code_named hcode
  obtain ⟨methM, cM, hmethM, -, -, -, -, -, -, hsigM⟩ := Cond.code_spec hnamed hcode
  have hstatic : methM.isStatic = true := Cond.static_spec hnamed hmethM hstat
  obtain ⟨kP, hkP, -⟩ := className_of_methodNamed hnamed
  have hinitP : kP.init = .initialized := Cond.initialized_spec (findClass_of_methodNamed hnamed) hkP hinit
  obtain ⟨vm₁, X₁, hstep₁⟩ := X.invokestatic hexec hown hlink hnamed hmethM hstatic hkP hinitP hy (g := g) hg (argsL := argsL) (rest := rest) (hlen _ hsigM) hstack hdg
  rcases hK m meth c ⟨T.setVm vm₁, locs, cells, slots⟩ { g with stack := rest } (.invokestatic index) mk argsL.toArray X₁ hg hsize hdg hW (X₁.named hnamed) (hpre vm₁ X₁.warmed) with ⟨v, B, X', hpost, hsteps⟩ | ⟨q, B, X', hpost, hsteps⟩
  · exact Or.inl ⟨v, vm₁, B, X₁.warmed, X', hpost, fun target h => hstep₁ _ fun acts => by rw [doInvoke_state]; exact hsteps.trans h⟩
  · exact Or.inr ⟨q, vm₁, B, X₁.warmed, X', hpost, hstep₁ _ fun acts => by rw [doInvoke_state]; exact hsteps⟩
end Calls
theorem vx_cls {s : State} {T : State} {vm₁ : Vm} {E : String} {k : ClassId} (hW : s.WarmedH vm₁) (h : (T.setVm vm₁).vm.findClass E = some k) : s.vm.findClass E = some k := by
  have h1 : vm₁.findClass E = some k := h
  rw [hW.alike.findClass] at h1
  exact h1
/-- the method's frame g, with q thrown over it -/
def vx_W (p : Program) (l : Launch) (e : Env) (R : Room) (s : State) (m : MethodId) (args : Array Value) (below : List Frame) (meth : Method) (c : Code) (H : Heap) (locs : List Loc) (cells slots : Nat) (Q : State → Prop) (g : JFrame) (q : Addr) : Prop :=
  ∀ T : State, T.heap = H → Stand p l e R s m args below meth c T locs cells slots → ∃ t, Steps p.tables e below ((T.setTop g).pushFrame (.throwing q)) t ∧ Q t
def vx_Run (p : Program) (l : Launch) (e : Env) (R : Room) (s : State) (m : MethodId) (args : Array Value) (below : List Frame) (meth : Method) (c : Code) (H : Heap) (locs : List Loc) (cells slots mc ms : Nat) (g : JFrame) (rest : List Value) (Qa : State → Outcome → State → Prop) (XC : String → State → State → Prop) (free : Addr → Prop) : Prop :=
  ∀ T : State, T.heap = H → Stand p l e R s m args below meth c T locs cells slots →
    (∃ (v : Option Value) (st₀ t T' : State) (L : List Loc), st₀.heap = H ∧ Stand p l e R s m args below meth c T' (locs ++ L) (cells + mc) (slots + ms) ∧ (∀ q ∈ L, free q.base) ∧ T'.heap = t.heap ∧ T'.vm = t.vm ∧ Qa st₀ (.returned v) t ∧
      Goes p e below T g T' { g with pc := g.pc + 3, stack := v.toList ++ rest }) ∨
    (∃ (q : Addr) (st₀ t T' : State) (L : List Loc) (E : String) (ce : Cell), st₀.heap = H ∧ Stand p l e R s m args below meth c T' (locs ++ L) (cells + mc) (slots + ms) ∧ (∀ z ∈ L, free z.base) ∧ T'.heap = t.heap ∧ T'.vm = t.vm ∧ XC E st₀ t ∧ t.heap[q]? = some ce ∧ ce.vm = .none ∧ s.vm.findClass E = some ce.cls ∧
      Steps p.tables e below (T.setTop g) ((T'.setTop { g with stack := rest }).pushFrame (.throwing q)))
def vx_X {S : Type} (px : S → Prop) (B : String → S → State → Prop) (A : Nat → Prop) : String → State → State → Prop := fun E st t => ∃ u : S, px u ∧ B E u t ∧ va_F A st t
section Runs
variable {p : Program} {l : Launch} {e : Env} {R : Room} {s : State} {m : MethodId} {args : Array Value} {below : List Frame} {meth : Method} {c : Code} {H : Heap} {locs : List Loc} {cells slots : Nat}
variable {y : MethodName} {bytes cc : ByteArray} {maxL nL mc ms n index : Nat} {ret : Option FieldType} {ws : List Cond} {rm : Room} {Pc : Array Value → State → Prop} {Qc : Array Value → State → Outcome → State → Prop} {XC : String → State → State → Prop} {free : Addr → Prop} {Ts : List Cond} {own C : String} {b : Addr} {As rest : List Value} {g : JFrame}
theorem vx_callBack (cb : CallB R s args own index y bytes maxL ret ws rm mc ms n) (hM : vx_Met l y ws rm Pc Qc XC mc ms free) (hbl : FrameBlind Pc) : vx_Back l R p e below s args y 3 8 (PreOf R mc ms Pc) (PostOf Qc mc ms free) (vx_Post XC mc ms free) := by
  obtain ⟨hrc, hrs, hfr, hlo, hws, hcw, -, hini, -⟩ := cb
  exact vx_back (bytes := bytes) (maxL := maxL) (ret := ret) hM hbl hrc hrs hfr hlo hws hcw (fun a' U hW => word_at hW (Or.inl (by first | rfl | simp [Cond.onTables, Cond.keeps, Cond.steady])) hini)
theorem vx_runV (S : CallFix p m c cc nL s args Ts own) (hM : vx_Met l y ws rm Pc Qc XC mc ms free) (cw : CallW R s args own C index y bytes maxL ret ws rm mc ms n) (hp : PreV s H C b Pc As)
    (hg : g.method = m) (hn : As.length = n) (hsize : g.locals.size = nL) (hstack : g.stack = As.reverse ++ .ref b :: rest) (hW : 2 * g.monitorRoom + (rest.map fun v => v.category).sum ≤ 8) (hdg : decode cc g.pc = .ok (.invokevirtual index, 3)) (hf : cells + mc ≤ R.cells ∧ slots + ms ≤ R.slots) :
    vx_Run p l e R s m args below meth c H locs cells slots mc ms g rest (Qc (Value.ref b :: As).toArray) XC free := by
  have hK : vx_Back l R p e below s args y 3 8 (PreOf R mc ms Pc) (PostOf Qc mc ms free) (vx_Post XC mc ms free) := vx_callBack cw.1 hM hp.1
  obtain ⟨⟨-, -, -, -, -, -, hcode, -, hy, hlen, hl⟩, hin, hse⟩ := cw
  obtain ⟨hx, hb, hml, ho, -⟩ := S
  obtain ⟨-, ⟨cellB, hcB, hoB, hclB⟩, hPc⟩ := hp
  intro T hT X
  rcases vx_callV X hx (C := C) (bytes := bytes) (maxL := maxL) (ret := ret) ho hl hin hse hcode hy hK (by rw [hT]; exact hcB) hoB hclB hg (hsize.trans hml.symm) (argsL := As) (rest := rest) (fun sig h => hn.trans (hlen sig h)) hstack hW (by rw [hb]; exact hdg)
    (fun vm₁ hW₁ => ⟨hf.1, hf.2, hPc (T.setVm vm₁) hT hW₁⟩) with ⟨v, vm₁, ⟨U', l2, c2, s2⟩, hW₁, X', ⟨g', mk, t, L, e1, e2, hq, h1, hL, h2, h3⟩, st⟩ | ⟨q, vm₁, ⟨U', l2, c2, s2⟩, hW₁, X', ⟨g', mk, t, L, E, ce, e1, e2, hq, hce, hcv, hcl, h1, hL, h2, h3⟩, st⟩
  · dsimp only [Pt.U, Pt.locs, Pt.cells, Pt.slots] at X' e1 e2 h1 h2 h3 st
    subst h1; subst h2; subst h3
    exact Or.inl ⟨v, (T.setVm vm₁).calling g' mk (Value.ref b :: As).toArray, t, U', L, hT, X', hL, e1, e2, hq, st⟩
  · dsimp only [Pt.U, Pt.locs, Pt.cells, Pt.slots] at X' e1 e2 h1 h2 h3 st hcl
    subst h1; subst h2; subst h3
    exact Or.inr ⟨q, (T.setVm vm₁).calling g' mk (Value.ref b :: As).toArray, t, U', L, E, ce, hT, X', hL, e1, e2, hq, hce, hcv, vx_cls hW₁ hcl, st⟩
theorem vx_runS (S : CallFix p m c cc nL s args Ts own) (hM : vx_Met l y ws rm Pc Qc XC mc ms free) (cw : CallB R s args own index y bytes maxL ret ws rm mc ms n ∧ (Cond.static y).before args s = true) (hp : PreS s H Pc As)
    (hg : g.method = m) (hn : As.length = n) (hsize : g.locals.size = nL) (hstack : g.stack = As.reverse ++ rest) (hW : 2 * g.monitorRoom + (rest.map fun v => v.category).sum ≤ 8) (hdg : decode cc g.pc = .ok (.invokestatic index, 3)) (hf : cells + mc ≤ R.cells ∧ slots + ms ≤ R.slots) :
    vx_Run p l e R s m args below meth c H locs cells slots mc ms g rest (Qc As.toArray) XC free := by
  have hK : vx_Back l R p e below s args y 3 8 (PreOf R mc ms Pc) (PostOf Qc mc ms free) (vx_Post XC mc ms free) := vx_callBack cw.1 hM hp.1
  obtain ⟨⟨-, -, -, -, -, -, hcode, hini, hy, hlen, hl⟩, hstt⟩ := cw
  obtain ⟨hx, hb, hml, ho, -⟩ := S
  intro T hT X
  rcases vx_callS X hx (bytes := bytes) (maxL := maxL) (ret := ret) ho hl hstt hini hcode hy hK hg (hsize.trans hml.symm) (argsL := As) (rest := rest) (fun sig h => hn.trans (hlen sig h)) hstack hW (by rw [hb]; exact hdg)
    (fun vm₁ hW₁ => ⟨hf.1, hf.2, hp.2 (T.setVm vm₁) hT hW₁⟩) with ⟨v, vm₁, ⟨U', l2, c2, s2⟩, hW₁, X', ⟨g', mk, t, L, e1, e2, hq, h1, hL, h2, h3⟩, st⟩ | ⟨q, vm₁, ⟨U', l2, c2, s2⟩, hW₁, X', ⟨g', mk, t, L, E, ce, e1, e2, hq, hce, hcv, hcl, h1, hL, h2, h3⟩, st⟩
  · dsimp only [Pt.U, Pt.locs, Pt.cells, Pt.slots] at X' e1 e2 h1 h2 h3 st
    subst h1; subst h2; subst h3
    exact Or.inl ⟨v, (T.setVm vm₁).calling g' mk As.toArray, t, U', L, hT, X', hL, e1, e2, hq, st⟩
  · dsimp only [Pt.U, Pt.locs, Pt.cells, Pt.slots] at X' e1 e2 h1 h2 h3 st hcl
    subst h1; subst h2; subst h3
    exact Or.inr ⟨q, (T.setVm vm₁).calling g' mk As.toArray, t, U', L, E, ce, hT, X', hL, e1, e2, hq, hce, hcv, vx_cls hW₁ hcl, st⟩
end Runs
section Rows
variable {p : Program} {l : Launch} {e : Env} {R : Room} {s : State} {m : MethodId} {args : Array Value} {below : List Frame} {meth : Method} {c : Code} {H : Heap} {locs : List Loc} {cells slots : Nat} {Q : State → Prop}
variable {mc ms : Nat} {free : Addr → Prop} {A0 A1 : Nat → Prop} {H0 : Heap} {a : Array Value} {pc : Nat} {ls : Array Slot} {st0 rest : List Value}
theorem vx_keep {st₀ t T' : State} {L : List Loc} (h0 : st₀.heap = H) (e1 : T'.heap = t.heap) (hS : va_S A0 H0 H locs) (hA : ∀ q, q < H.size → A1 q → A0 q) (hf : ∀ q, free q → A0 q) (hL : ∀ q ∈ L, free q.base) (hF : va_F A1 st₀ t) :
    H.size ≤ T'.heap.size ∧ (∀ q : Nat, q < H.size → ¬ A1 q → T'.heap[q]? = H[q]?) ∧ va_S A0 H0 T'.heap (locs ++ L) := by
  obtain ⟨hz, hk⟩ := hF
  rw [h0] at hz hk
  exact ⟨by rw [e1]; exact hz, fun q h1 h2 => by rw [e1]; exact hk q h1 h2,
    ⟨Nat.le_trans hS.1 (by rw [e1]; exact hz), fun q h1 h2 => by rw [e1, hk q (Nat.lt_of_lt_of_le h1 hS.1) (fun z => h2 (hA q (Nat.lt_of_lt_of_le h1 hS.1) z))]; exact hS.2.1 q h1 h2, fun q hq => by
      rcases List.mem_append.mp hq with h | h
      · exact hS.2.2 q h
      · exact hf _ (hL q h)⟩⟩
theorem vx_calli {S SX : Type} {post : Int32 → S → Prop} {px : SX → Prop} {B : S → State → Prop} {BX : String → SX → State → Prop} {AX : Nat → Prop} (hr : vx_Run p l e R s m args below meth c H locs cells slots mc ms (F0 m pc ls st0) rest (va_Qi post B A1 a) (vx_X px BX AX) free) (hS : va_S A0 H0 H locs) (hA : ∀ q, q < H.size → A1 q → A0 q) (hf : ∀ q, free q → A0 q) (hAX : ∀ q, q < H.size → AX q → A0 q)
    (kx : ∀ (E : String) (ce : Cell) (q9 : Addr) (u : SX) (t : State) (H1 : Heap) (locs1 : List Loc), t.heap = H1 → s.vm.Alike t.vm → px u → BX E u t → H.size ≤ H1.size → (∀ q : Nat, q < H.size → ¬ AX q → H1[q]? = H[q]?) → va_S A0 H0 H1 locs1 → H1[q9]? = some ce → ce.vm = .none → s.vm.findClass E = some ce.cls → vx_W p l e R s m args below meth c H1 locs1 (cells + mc) (slots + ms) Q (F0 m pc ls rest) q9)
    (kk : ∀ (r : Int32) (u : S) (t : State) (H1 : Heap) (locs1 : List Loc), t.heap = H1 → s.vm.Alike t.vm → post r u → B u t → H.size ≤ H1.size → (∀ q : Nat, q < H.size → ¬ A1 q → H1[q]? = H[q]?) → va_S A0 H0 H1 locs1 → W p l e R s m args below meth c H1 locs1 (cells + mc) (slots + ms) Q (F0 m (pc + 3) ls (.int r :: rest))) : W p l e R s m args below meth c H locs cells slots Q (F0 m pc ls st0) := by
  intro T hT X
  rcases hr T hT X with ⟨v, st₀, t, T', L, h0, X', hL, e1, e2, ⟨⟨r, u, hv, hp, hb⟩, hF⟩, st⟩ | ⟨q, st₀, t, T', L, E, ce, h0, X', hL, e1, e2, ⟨u, hp, hb, hF⟩, hce, hcv, hcl, st⟩
  · cases hv
    obtain ⟨k1, k2, k3⟩ := vx_keep h0 e1 hS hA hf hL hF
    obtain ⟨t2, a1, b1⟩ := kk r u t T'.heap (locs ++ L) e1.symm (by rw [← e2]; exact X'.warmed.alike) hp hb k1 k2 k3 T' rfl X'
    exact ⟨t2, st t2 a1, b1⟩
  · obtain ⟨k1, k2, k3⟩ := vx_keep h0 e1 hS hAX hf hL hF
    obtain ⟨t2, a1, b1⟩ := kx E ce q u t T'.heap (locs ++ L) e1.symm (by rw [← e2]; exact X'.warmed.alike) hp hb k1 k2 k3 (by rw [e1]; exact hce) hcv hcl T' rfl X'
    exact ⟨t2, st.trans a1, b1⟩
theorem vx_calll {S SX : Type} {post : Int64 → S → Prop} {px : SX → Prop} {B : S → State → Prop} {BX : String → SX → State → Prop} {AX : Nat → Prop} (hr : vx_Run p l e R s m args below meth c H locs cells slots mc ms (F0 m pc ls st0) rest (va_Ql post B A1 a) (vx_X px BX AX) free) (hS : va_S A0 H0 H locs) (hA : ∀ q, q < H.size → A1 q → A0 q) (hf : ∀ q, free q → A0 q) (hAX : ∀ q, q < H.size → AX q → A0 q)
    (kx : ∀ (E : String) (ce : Cell) (q9 : Addr) (u : SX) (t : State) (H1 : Heap) (locs1 : List Loc), t.heap = H1 → s.vm.Alike t.vm → px u → BX E u t → H.size ≤ H1.size → (∀ q : Nat, q < H.size → ¬ AX q → H1[q]? = H[q]?) → va_S A0 H0 H1 locs1 → H1[q9]? = some ce → ce.vm = .none → s.vm.findClass E = some ce.cls → vx_W p l e R s m args below meth c H1 locs1 (cells + mc) (slots + ms) Q (F0 m pc ls rest) q9)
    (kk : ∀ (r : Int64) (u : S) (t : State) (H1 : Heap) (locs1 : List Loc), t.heap = H1 → s.vm.Alike t.vm → post r u → B u t → H.size ≤ H1.size → (∀ q : Nat, q < H.size → ¬ A1 q → H1[q]? = H[q]?) → va_S A0 H0 H1 locs1 → W p l e R s m args below meth c H1 locs1 (cells + mc) (slots + ms) Q (F0 m (pc + 3) ls (.long r :: rest))) : W p l e R s m args below meth c H locs cells slots Q (F0 m pc ls st0) := by
  intro T hT X
  rcases hr T hT X with ⟨v, st₀, t, T', L, h0, X', hL, e1, e2, ⟨⟨r, u, hv, hp, hb⟩, hF⟩, st⟩ | ⟨q, st₀, t, T', L, E, ce, h0, X', hL, e1, e2, ⟨u, hp, hb, hF⟩, hce, hcv, hcl, st⟩
  · cases hv
    obtain ⟨k1, k2, k3⟩ := vx_keep h0 e1 hS hA hf hL hF
    obtain ⟨t2, a1, b1⟩ := kk r u t T'.heap (locs ++ L) e1.symm (by rw [← e2]; exact X'.warmed.alike) hp hb k1 k2 k3 T' rfl X'
    exact ⟨t2, st t2 a1, b1⟩
  · obtain ⟨k1, k2, k3⟩ := vx_keep h0 e1 hS hAX hf hL hF
    obtain ⟨t2, a1, b1⟩ := kx E ce q u t T'.heap (locs ++ L) e1.symm (by rw [← e2]; exact X'.warmed.alike) hp hb k1 k2 k3 (by rw [e1]; exact hce) hcv hcl T' rfl X'
    exact ⟨t2, st.trans a1, b1⟩
theorem vx_callf {S SX : Type} {post : UInt32 → S → Prop} {px : SX → Prop} {B : S → State → Prop} {BX : String → SX → State → Prop} {AX : Nat → Prop} (hr : vx_Run p l e R s m args below meth c H locs cells slots mc ms (F0 m pc ls st0) rest (va_Qf post B A1 a) (vx_X px BX AX) free) (hS : va_S A0 H0 H locs) (hA : ∀ q, q < H.size → A1 q → A0 q) (hf : ∀ q, free q → A0 q) (hAX : ∀ q, q < H.size → AX q → A0 q)
    (kx : ∀ (E : String) (ce : Cell) (q9 : Addr) (u : SX) (t : State) (H1 : Heap) (locs1 : List Loc), t.heap = H1 → s.vm.Alike t.vm → px u → BX E u t → H.size ≤ H1.size → (∀ q : Nat, q < H.size → ¬ AX q → H1[q]? = H[q]?) → va_S A0 H0 H1 locs1 → H1[q9]? = some ce → ce.vm = .none → s.vm.findClass E = some ce.cls → vx_W p l e R s m args below meth c H1 locs1 (cells + mc) (slots + ms) Q (F0 m pc ls rest) q9)
    (kk : ∀ (r : UInt32) (u : S) (t : State) (H1 : Heap) (locs1 : List Loc), t.heap = H1 → s.vm.Alike t.vm → post r u → B u t → H.size ≤ H1.size → (∀ q : Nat, q < H.size → ¬ A1 q → H1[q]? = H[q]?) → va_S A0 H0 H1 locs1 → W p l e R s m args below meth c H1 locs1 (cells + mc) (slots + ms) Q (F0 m (pc + 3) ls (.float r :: rest))) : W p l e R s m args below meth c H locs cells slots Q (F0 m pc ls st0) := by
  intro T hT X
  rcases hr T hT X with ⟨v, st₀, t, T', L, h0, X', hL, e1, e2, ⟨⟨r, u, hv, hp, hb⟩, hF⟩, st⟩ | ⟨q, st₀, t, T', L, E, ce, h0, X', hL, e1, e2, ⟨u, hp, hb, hF⟩, hce, hcv, hcl, st⟩
  · cases hv
    obtain ⟨k1, k2, k3⟩ := vx_keep h0 e1 hS hA hf hL hF
    obtain ⟨t2, a1, b1⟩ := kk r u t T'.heap (locs ++ L) e1.symm (by rw [← e2]; exact X'.warmed.alike) hp hb k1 k2 k3 T' rfl X'
    exact ⟨t2, st t2 a1, b1⟩
  · obtain ⟨k1, k2, k3⟩ := vx_keep h0 e1 hS hAX hf hL hF
    obtain ⟨t2, a1, b1⟩ := kx E ce q u t T'.heap (locs ++ L) e1.symm (by rw [← e2]; exact X'.warmed.alike) hp hb k1 k2 k3 (by rw [e1]; exact hce) hcv hcl T' rfl X'
    exact ⟨t2, st.trans a1, b1⟩
theorem vx_calld {S SX : Type} {post : UInt64 → S → Prop} {px : SX → Prop} {B : S → State → Prop} {BX : String → SX → State → Prop} {AX : Nat → Prop} (hr : vx_Run p l e R s m args below meth c H locs cells slots mc ms (F0 m pc ls st0) rest (va_Qd post B A1 a) (vx_X px BX AX) free) (hS : va_S A0 H0 H locs) (hA : ∀ q, q < H.size → A1 q → A0 q) (hf : ∀ q, free q → A0 q) (hAX : ∀ q, q < H.size → AX q → A0 q)
    (kx : ∀ (E : String) (ce : Cell) (q9 : Addr) (u : SX) (t : State) (H1 : Heap) (locs1 : List Loc), t.heap = H1 → s.vm.Alike t.vm → px u → BX E u t → H.size ≤ H1.size → (∀ q : Nat, q < H.size → ¬ AX q → H1[q]? = H[q]?) → va_S A0 H0 H1 locs1 → H1[q9]? = some ce → ce.vm = .none → s.vm.findClass E = some ce.cls → vx_W p l e R s m args below meth c H1 locs1 (cells + mc) (slots + ms) Q (F0 m pc ls rest) q9)
    (kk : ∀ (r : UInt64) (u : S) (t : State) (H1 : Heap) (locs1 : List Loc), t.heap = H1 → s.vm.Alike t.vm → post r u → B u t → H.size ≤ H1.size → (∀ q : Nat, q < H.size → ¬ A1 q → H1[q]? = H[q]?) → va_S A0 H0 H1 locs1 → W p l e R s m args below meth c H1 locs1 (cells + mc) (slots + ms) Q (F0 m (pc + 3) ls (.double r :: rest))) : W p l e R s m args below meth c H locs cells slots Q (F0 m pc ls st0) := by
  intro T hT X
  rcases hr T hT X with ⟨v, st₀, t, T', L, h0, X', hL, e1, e2, ⟨⟨r, u, hv, hp, hb⟩, hF⟩, st⟩ | ⟨q, st₀, t, T', L, E, ce, h0, X', hL, e1, e2, ⟨u, hp, hb, hF⟩, hce, hcv, hcl, st⟩
  · cases hv
    obtain ⟨k1, k2, k3⟩ := vx_keep h0 e1 hS hA hf hL hF
    obtain ⟨t2, a1, b1⟩ := kk r u t T'.heap (locs ++ L) e1.symm (by rw [← e2]; exact X'.warmed.alike) hp hb k1 k2 k3 T' rfl X'
    exact ⟨t2, st t2 a1, b1⟩
  · obtain ⟨k1, k2, k3⟩ := vx_keep h0 e1 hS hAX hf hL hF
    obtain ⟨t2, a1, b1⟩ := kx E ce q u t T'.heap (locs ++ L) e1.symm (by rw [← e2]; exact X'.warmed.alike) hp hb k1 k2 k3 (by rw [e1]; exact hce) hcv hcl T' rfl X'
    exact ⟨t2, st.trans a1, b1⟩
theorem vx_callv {S SX : Type} {post : S → Prop} {px : SX → Prop} {B : S → State → Prop} {BX : String → SX → State → Prop} {AX : Nat → Prop} (hr : vx_Run p l e R s m args below meth c H locs cells slots mc ms (F0 m pc ls st0) rest (va_Qv post B A1 a) (vx_X px BX AX) free) (hS : va_S A0 H0 H locs) (hA : ∀ q, q < H.size → A1 q → A0 q) (hf : ∀ q, free q → A0 q) (hAX : ∀ q, q < H.size → AX q → A0 q)
    (kx : ∀ (E : String) (ce : Cell) (q9 : Addr) (u : SX) (t : State) (H1 : Heap) (locs1 : List Loc), t.heap = H1 → s.vm.Alike t.vm → px u → BX E u t → H.size ≤ H1.size → (∀ q : Nat, q < H.size → ¬ AX q → H1[q]? = H[q]?) → va_S A0 H0 H1 locs1 → H1[q9]? = some ce → ce.vm = .none → s.vm.findClass E = some ce.cls → vx_W p l e R s m args below meth c H1 locs1 (cells + mc) (slots + ms) Q (F0 m pc ls rest) q9)
    (kk : ∀ (u : S) (t : State) (H1 : Heap) (locs1 : List Loc), t.heap = H1 → s.vm.Alike t.vm → post u → B u t → H.size ≤ H1.size → (∀ q : Nat, q < H.size → ¬ A1 q → H1[q]? = H[q]?) → va_S A0 H0 H1 locs1 → W p l e R s m args below meth c H1 locs1 (cells + mc) (slots + ms) Q (F0 m (pc + 3) ls (rest))) : W p l e R s m args below meth c H locs cells slots Q (F0 m pc ls st0) := by
  intro T hT X
  rcases hr T hT X with ⟨v, st₀, t, T', L, h0, X', hL, e1, e2, ⟨⟨u, hv, hp, hb⟩, hF⟩, st⟩ | ⟨q, st₀, t, T', L, E, ce, h0, X', hL, e1, e2, ⟨u, hp, hb, hF⟩, hce, hcv, hcl, st⟩
  · cases hv
    obtain ⟨k1, k2, k3⟩ := vx_keep h0 e1 hS hA hf hL hF
    obtain ⟨t2, a1, b1⟩ := kk u t T'.heap (locs ++ L) e1.symm (by rw [← e2]; exact X'.warmed.alike) hp hb k1 k2 k3 T' rfl X'
    exact ⟨t2, st t2 a1, b1⟩
  · obtain ⟨k1, k2, k3⟩ := vx_keep h0 e1 hS hAX hf hL hF
    obtain ⟨t2, a1, b1⟩ := kx E ce q u t T'.heap (locs ++ L) e1.symm (by rw [← e2]; exact X'.warmed.alike) hp hb k1 k2 k3 (by rw [e1]; exact hce) hcv hcl T' rfl X'
    exact ⟨t2, st.trans a1, b1⟩
/-- caught by the row x of this method's table; the rows ahead don't take it -/
theorem vx_catch {own name : String} {E : String} {ce : Cell} {q : Addr} (hown : s.vm.findClass own = some m.cls) (pre : List ExceptionTableEntry) (x : ExceptionTableEntry) (suf : List ExceptionTableEntry) (hsplit : c.exceptionTable.toList = pre ++ x :: suf)
    (hpass : ∀ z ∈ pre, covers z pc = false ∨ (z.catchType ≠ 0 ∧ ∃ nm : String, (Cond.classLink own z.catchType nm).before args s = true ∧ va_Nc E nm s)) (hx : covers x pc = true) (h0 : x.catchType ≠ 0)
    (hlink : (Cond.classLink own x.catchType name).before args s = true) (hcast : (Cond.castable E name).before args s = true) (hcell : H[q]? = some ce) (hv : ce.vm = .none) (hcl : s.vm.findClass E = some ce.cls)
    (kk : W p l e R s m args below meth c H locs cells slots Q (F0 m x.handlerPc ls [.ref q])) : vx_W p l e R s m args below meth c H locs cells slots Q (F0 m pc ls rest) q := by
  intro T hT X
  have hpl : e.platform.magicAccessors = ({} : Platform).magicAccessors := by rw [X.admits.platform]
  obtain ⟨c3, c4, hc3, hc4, hasg⟩ := Cond.castable_spec hcast
  cases Option.some.inj (hc3.symm.trans hcl)
  obtain ⟨c5, hc5, hcl5⟩ := Cond.classLink_spec hown hlink e.platform hpl
  cases Option.some.inj (hc4.symm.trans hc5)
  obtain ⟨vm', X', st⟩ := Stand.thenCaughtThrough X q (g := F0 m pc ls rest) rfl (Steps.refl _) (by rw [hT]; exact hcell) (by rw [hv]; rfl) (by obtain ⟨k9, h9, -⟩ := Vm.findClass_spec hcl; exact ⟨k9, h9⟩) pre x suf hsplit
    (fun z hz => by
      rcases hpass z hz with h | ⟨hz0, nm, hl1, hn1⟩
      · exact Or.inl h
      · obtain ⟨c6, hc6, hcl6⟩ := Cond.classLink_spec hown hl1 e.platform hpl
        obtain ⟨a8, b8, h1, h2, h3⟩ := hn1
        cases Option.some.inj (h1.symm.trans hcl)
        cases Option.some.inj (h2.symm.trans hc6)
        exact Or.inr ⟨hz0, _, hcl6, h3⟩) hx (Or.inr ⟨h0, c4, hcl5, hasg⟩)
  obtain ⟨t, a1, b1⟩ := kk (T.setVm vm') hT X'
  exact ⟨t, st.trans a1, b1⟩
end Rows
section Ends
variable {p : Program} {l : Launch} {e : Env} {R : Room} {s : State} {m : MethodId} {args : Array Value} {below : List Frame} {meth : Method} {c : Code} {H : Heap} {locs : List Loc} {cells slots : Nat} {Q : State → Prop}
variable {mc ms : Nat} {free : Addr → Prop} {A0 A1 : Nat → Prop} {H0 : Heap} {a : Array Value} {ls : Array Slot} {st0 rest : List Value}
variable {Qc : Array Value → State → Outcome → State → Prop} {XC : String → State → State → Prop}
/-- what a body that may throw owes at its end -/
def vx_MQ (below : List Frame) (Qc : Array Value → State → Outcome → State → Prop) (XC : String → State → State → Prop) (a : Array Value) (s : State) (mc ms : Nat) (free : Addr → Prop) : State → Prop := fun t =>
  ∃ o, t.status = .running ∧ Ended t below o ∧ vx_Q Qc XC mc ms free a s o t
theorem vx_ret {g : JFrame} {mc ms : Nat} (k : W p l e R s m args below meth c H locs cells slots (MQ below Qc args s mc ms free) g) : W p l e R s m args below meth c H locs cells slots (vx_MQ below Qc XC args s mc ms free) g := by
  intro T hT X
  obtain ⟨t, a1, o, b1, b2, b3, b4⟩ := k T hT X
  exact ⟨t, a1, o, b1, b2, Or.inl ⟨b3, b4⟩⟩
/-- not caught here: it goes on to the caller -/
theorem vx_widen {g : JFrame} {q : Addr} {k n : Nat} (h1 : cells ≤ k) (h2 : slots ≤ n) (kk : vx_W p l e R s m args below meth c H locs k n Q g q) : vx_W p l e R s m args below meth c H locs cells slots Q g q := fun T hT X => kk T hT (stand_widen X h1 h2)
theorem vx_out {pc : Nat} {E : String} {ce : Cell} {q : Addr} {mc ms : Nat} (hout : ∀ x ∈ c.exceptionTable.toList, covers x pc = false) (hlocks : meth.locks = false) (hcell : H[q]? = some ce) (hv : ce.vm = .none) (hcl : s.vm.findClass E = some ce.cls)
    (hx : ∀ t : State, t.heap = H → s.vm.Alike t.vm → XC E s t) (hf : ∀ z ∈ locs, free z.base) (hc : cells ≤ mc) (hs : slots ≤ ms) :
    vx_W p l e R s m args below meth c H locs cells slots (vx_MQ below Qc XC args s mc ms free) (F0 m pc ls rest) q := by
  intro T hT X
  obtain ⟨st1, hrun, hend, hW, hsm⟩ := X.leaveThrown q (g := F0 m pc ls rest) rfl rfl rfl hout hlocks
  have hcell9 : (T.setFrames (.throwing q :: below)).heap[q]? = some ce := by
    show T.heap[q]? = some ce
    rw [hT]; exact hcell
  exact ⟨_, st1, .threw q, hrun, hend, Or.inr ⟨q, rfl, E, ce, locs, hx _ hT hW.alike, hcell9, hv, hcl, hW, hsm.mono hc hs, hf⟩⟩
theorem vx_frame {U : State} {k n : Nat} (h : s.sameButNew ({ U with vm := s.vm } : State) locs k n) : s.heap.size ≤ U.heap.size ∧ ∀ q : Nat, q < s.heap.size → (∀ z ∈ locs, z.base ≠ q) → U.heap[q]? = s.heap[q]? := by
  obtain ⟨-, h2, -, -, -, h6⟩ := h
  refine ⟨h2, fun q hq hz => ?_⟩
  obtain ⟨c9, e1, e2, e3, e4⟩ := h6 q _ (Array.getElem?_eq_getElem hq)
  have hs : c9.slots = (s.heap[q]).slots := Array.ext_getElem? fun i => e4 i fun hm => hz _ hm rfl
  have h9 : c9 = s.heap[q] := by
    rw [hs] at e2
    exact e2
  have e5 : U.heap[q]? = some c9 := e1
  rw [e5, h9, Array.getElem?_eq_getElem hq]
/-- the words of a throw but the four that speak of the heap -/
def vx_no (w : Cond) : Bool := decide (w ≠ .isRef (.static Bundle.tN "UNASSIGNED_STACK" Bundle.steD)) && decide (w ≠ .isRef (.static Bundle.tN "SUPPRESSED_SENTINEL" Bundle.listD)) && decide (w ≠ .laysStatic Bundle.tN "UNASSIGNED_STACK" Bundle.steD) && decide (w ≠ .laysStatic Bundle.tN "SUPPRESSED_SENTINEL" Bundle.listD)
def vx_at0 (own : String) (ic : Nat) (X : String) (names : List String) : List Cond := (Bundle.ownAtoms0 own ic X names).filter vx_no
def vx_atS (own : String) (ic : Nat) (X : String) (names : List String) : List Cond := (Bundle.ownAtoms own ic X names).filter vx_no
/-- a word that the tables alone decide, or a good one -/
def vx_ot (w : Cond) : Bool := w.onTables || goodWord w
theorem vx_ot_at {args a' : Array Value} {s U : State} {w : Cond} (hW : s.WarmedH U.vm) (hvm : s.vm = U.vm) (hg : vx_ot w = true) (h : w.before args s = true) : w.before a' U = true := by
  simp only [vx_ot, Bool.or_eq_true] at hg
  rcases hg with hg | hg
  · exact va_tabs hg hvm h
  · exact word_at hW (good_of_word hg) h
/-- a list's words: the good ones out of the method's own list, the others by premises of their own -/
theorem vx_hat {args : Array Value} {s : State} {L B : List Cond} (h1 : ∀ w ∈ L.filter goodWord, w.before args s = true) (h2 : ∀ w ∈ L.filter (fun w => !goodWord w), w ∈ B) (h3 : ∀ w ∈ B, w.before args s = true) : ∀ w ∈ L, w.before args s = true := by
  intro w hw
  by_cases g : goodWord w = true
  · exact h1 w (List.mem_filter.mpr ⟨hw, g⟩)
  · refine h3 w (h2 w (List.mem_filter.mpr ⟨hw, ?_⟩))
    show (!goodWord w) = true
    cases hgw : goodWord w
    · rfl
    · exact absurd hgw g
theorem vx_c {args : Array Value} {s : State} {w : Cond} {B : List Cond} (h : w.before args s = true) (t : ∀ w ∈ B, w.before args s = true) : ∀ w' ∈ w :: B, w'.before args s = true := fun w' h' => (List.mem_cons.mp h').elim (fun e => by rw [e]; exact h) (t w')
theorem vx_n {args : Array Value} {s : State} : ∀ w ∈ ([] : List Cond), w.before args s = true := fun _ h => nomatch h
theorem vx_own {args : Array Value} {s : State} {L : List Cond} (h1 : ∀ w ∈ L.filter vx_no, w.before args s = true)
    (hU : (Cond.isRef (.static Bundle.tN "UNASSIGNED_STACK" Bundle.steD)).before args s = true) (hN : (Cond.isRef (.static Bundle.tN "SUPPRESSED_SENTINEL" Bundle.listD)).before args s = true)
    (lU : (Cond.laysStatic Bundle.tN "UNASSIGNED_STACK" Bundle.steD).before args s = true) (lN : (Cond.laysStatic Bundle.tN "SUPPRESSED_SENTINEL" Bundle.listD).before args s = true) : ∀ w ∈ L, w.before args s = true := by
  intro w hw
  by_cases e1 : w = .isRef (.static Bundle.tN "UNASSIGNED_STACK" Bundle.steD)
  · rw [e1]; exact hU
  · by_cases e2 : w = .isRef (.static Bundle.tN "SUPPRESSED_SENTINEL" Bundle.listD)
    · rw [e2]; exact hN
    · by_cases e3 : w = .laysStatic Bundle.tN "UNASSIGNED_STACK" Bundle.steD
      · rw [e3]; exact lU
      · by_cases e4 : w = .laysStatic Bundle.tN "SUPPRESSED_SENTINEL" Bundle.listD
        · rw [e4]; exact lN
        · exact h1 w (List.mem_filter.mpr ⟨hw, by unfold vx_no; rw [decide_eq_true e1, decide_eq_true e2, decide_eq_true e3, decide_eq_true e4]; rfl⟩)
/-- where a static field lies, its class's statics cell in H -/
def vx_L (C n d : String) (A : Nat → Prop) (U : State) (H : Heap) : Prop := ∃ (c : ClassId) (k : Class) (i : Nat) (f : Field) (a : Nat) (cell : Cell), U.vm.findClass C = some c ∧ U.fieldFound? C n d = some (c, k, i, f) ∧ f.isStatic = true ∧ k.statics = some a ∧ H[a]? = some cell ∧ cell.vm.isStatics = true ∧ cell.cls = c ∧ f.slot < cell.slots.size ∧ k.staticTypes[f.slot]? = some f.type ∧ ¬ A a
theorem vx_L.moved {C n d : String} {A : Nat → Prop} {u U : State} {H : Heap} (hvm : u.vm.Alike U.vm) (h : vx_L C n d A u H) : vx_L C n d A U H := by
  obtain ⟨c, k, i, f, a, cell, h1, h2, h3, h4, h5, h6, h7, h8, h9, h10⟩ := h
  obtain ⟨k', hi', he⟩ := State.fieldFound?_setVm hvm h2
  exact ⟨c, k', i, f, a, cell, by rw [hvm.findClass]; exact h1, hi', h3, by rw [he]; exact h4, h5, h6, h7, h8, by rw [he]; exact h9, h10⟩
theorem vx_L.kept {C n d : String} {A : Nat → Prop} {U : State} {H H1 : Heap} (h : vx_L C n d A U H) (hq : ∀ a : Nat, a < H.size → ¬ A a → H1[a]? = H[a]?) : vx_L C n d A U H1 := by
  obtain ⟨c, k, i, f, a, cell, h1, h2, h3, h4, h5, h6, h7, h8, h9, h10⟩ := h
  exact ⟨c, k, i, f, a, cell, h1, h2, h3, h4, by rw [hq a (Array.getElem?_eq_some_iff.mp h5).1 h10]; exact h5, h6, h7, h8, h9, h10⟩
theorem vx_L.narrow {C n d : String} {A B : Nat → Prop} {U : State} {H : Heap} (h : vx_L C n d A U H) (hAB : ∀ q, B q → A q) : vx_L C n d B U H := by
  obtain ⟨c, k, i, f, a, cell, h1, h2, h3, h4, h5, h6, h7, h8, h9, h10⟩ := h
  exact ⟨c, k, i, f, a, cell, h1, h2, h3, h4, h5, h6, h7, h8, h9, fun z => h10 (hAB _ z)⟩
theorem vx_L.word {C n d : String} {A : Nat → Prop} {s : State} {args : Array Value} (h : vx_L C n d A s s.heap) : (Cond.laysStatic C n d).before args s = true := by
  obtain ⟨c, k, i, f, a, cell, h1, h2, h3, h4, h5, h6, h7, h8, h9, -⟩ := h
  show (Cond.laysStatic C n d).holds args s none s [] = true
  exact Cond.laysStatic_of h1 h2 h3 h4 h5 h6 h7 h8 h9
/-- .. and what it holds: null or some reference -/
def vx_Zq (C n d : String) (A : Nat → Prop) (U : State) (H : Heap) : Prop := va_Zq C n d A U H ∧ vx_L C n d A U H
theorem vx_Zq.moved {C n d : String} {A : Nat → Prop} {u U : State} {H : Heap} (hvm : u.vm.Alike U.vm) (h : vx_Zq C n d A u H) : vx_Zq C n d A U H := ⟨va_Zq.moved hvm h.1, vx_L.moved hvm h.2⟩
theorem vx_Zq.kept {C n d : String} {A : Nat → Prop} {U : State} {H H1 : Heap} (h : vx_Zq C n d A U H) (hq : ∀ a : Nat, a < H.size → ¬ A a → H1[a]? = H[a]?) : vx_Zq C n d A U H1 := ⟨va_Zq.kept h.1 hq, vx_L.kept h.2 hq⟩
theorem vx_Zq.narrow {C n d : String} {A B : Nat → Prop} {U : State} {H : Heap} (h : vx_Zq C n d A U H) (hAB : ∀ q, B q → A q) : vx_Zq C n d B U H := ⟨va_Zq.narrow h.1 hAB, vx_L.narrow h.2 hAB⟩
theorem vx_Zqof {args : Array Value} {s : State} {C n d : String} {A : Nat → Prop} (hl : (Cond.laysStatic C n d).before args s = true) (hini : (Cond.initialized C).before args s = true) (h : (Cond.isRef (.static C n d)).before args s = true) (hA : ∀ a : Nat, a < s.heap.size → ¬ A a) : vx_Zq C n d A s s.heap := by
  refine ⟨va_Zqof hl hini h hA, ?_⟩
  obtain ⟨c, k, i, f, a, cell, h1, h2, h3, h4, h5, h6, h7, h8, h9⟩ := Cond.laysStatic_spec hl
  exact ⟨c, k, i, f, a, cell, h1, h2, h3, h4, h5, h6, h7, h8, h9, hA a (Array.getElem?_eq_some_iff.mp h5).1⟩
theorem vx_isRef {C n d : String} {v : Value} {A : Nat → Prop} {s : State} {args : Array Value} (h : va_Z C n d v A s s.heap) (hv : v.isRef = true) : (Cond.isRef (.static C n d)).before args s = true := by
  obtain ⟨cf, kf, fi, f, a, cell, h1, h2, h3, h4, h5, h6, h7, -⟩ := h
  have he : (Term.static C n d).eval args s none [] s = some v := by
    simp [Term.eval, State.fieldNamed?, h1, h2, h4, h5, h6, h7]
  simp only [Cond.before, Cond.holds, Cond.value, he]
  cases v <;> simp_all [Value.isRef]
theorem vx_isRefq {C n d : String} {A : Nat → Prop} {s : State} {args : Array Value} (h : va_Zq C n d A s s.heap) : (Cond.isRef (.static C n d)).before args s = true := by
  rcases h with h | ⟨t, h⟩
  · exact vx_isRef h rfl
  · exact vx_isRef h rfl
/-- the same frame, seen from here: as if the method were called anew in this heap -/
theorem vx_rebase {T : State} (X : Stand p l e R s m args below meth c T locs cells slots) {R' : Room} (hf : R'.frames ≤ R.frames) (hl : R'.locals ≤ R.locals) (hc : cells + R'.cells ≤ R.cells) (hs : slots + R'.slots ≤ R.slots) :
    Stand p l e R' ((T.setVm s.vm).setFrames (.invoking m args :: below)) m args below meth c T [] 0 0 := by
  have htop : (T.setVm s.vm).topJava?.isSome := X.here.top
  have hF : ((T.setVm s.vm).setFrames (.invoking m args :: below)).frames = .invoking m args :: below := State.frames_setFrames _ (State.cur_lt_of_top htop)
  obtain ⟨g₀, hg0⟩ := Option.isSome_iff_exists.mp htop
  obtain ⟨r, hr⟩ := State.topJava?_eq_some.mp hg0
  have hl9 : e.platform.stackLimits (T.setVm s.vm).me = e.platform.stackLimits s.me := X.limits
  have hb9 : (T.setVm s.vm).me.stackBytes = s.me.stackBytes := X.bytes
  refine ⟨X.admits, X.cas, X.clock, hF, ?_, X.hears, X.method, X.code, X.here, X.tail, X.warmed, ?_, ?_, ?_⟩
  · have h := X.room
    have hU : ((T.setVm s.vm).setFrames (.invoking m args :: below)).localsInUse = s.localsInUse := by
      rw [State.localsInUse_invoking hF (meth := meth) (c := c) X.method X.code, State.localsInUse_invoking X.frames X.method X.code]
    simp only [State.hasRoom, Bool.and_eq_true, decide_eq_true_eq] at h ⊢
    obtain ⟨⟨⟨⟨h1, h2, h3, h4, h5, h6⟩, h7⟩, h8⟩, h9⟩ := h
    rw [X.frames, List.length_cons] at h2 h3
    have q1 := X.heapSize
    have q2 := X.used
    simp only [hF, hU, List.length_cons, State.stackLimits_setFrames, State.stackBytes_setFrames, hl9, hb9]
    refine ⟨⟨⟨⟨by omega, by omega, by omega, by omega, by omega, h6⟩, ?_⟩, ?_⟩, X.book⟩
    · show T.heap.size + R'.cells ≤ e.platform.maxCells
      omega
    · show T.slotsUsed + R'.slots ≤ e.platform.maxSlots
      omega
  · rw [State.stackLimits_setFrames]; rfl
  · rw [State.stackBytes_setFrames]; rfl
  · refine ⟨?_, Nat.le_refl _, Nat.le_refl _, ?_, ?_, fun a c9 h9 => ⟨c9, h9, rfl, rfl, fun _ _ => rfl⟩⟩
    · obtain ⟨t, ht, -⟩ := State.frames_cons hr
      show T.setVm s.vm = { ((T.setVm s.vm).setFrames (.invoking m args :: below)).setFrames (T.setVm s.vm).frames with heap := T.heap, slotsUsed := T.slotsUsed }
      rw [State.setFrames_setFrames, State.setFrames_self ht]
      rfl
    · show T.slotsUsed = T.slotsUsed + ((T.heap.toList.drop T.heap.size).map (·.slots.size)).sum
      rw [List.drop_eq_nil_of_le (Nat.le_of_eq Array.length_toList)]
      rfl
    · show ((T.heap.toList.drop T.heap.size).map (·.slots.size)).sum ≤ 0
      rw [List.drop_eq_nil_of_le (Nat.le_of_eq Array.length_toList)]
      exact Nat.le_refl _
/-- 'throw new E()': new; dup; invokespecial; athrow -/
theorem vx_throw0 {cc : ByteArray} {pc : Nat} (hexec : p.tables.exec = Jvm.exec) (hb : c.code = cc) (hl : l.stackTraces = false) {own cls : String} {names : List String} {ik ic mc ms : Nat} {A : Nat → Prop}
    (hown : s.vm.findClass own = some m.cls) (hcls : Bundle.fit cls = true) (hnames : ∀ n ∈ names, Bundle.fit n = true)
    (hk : (Cond.classLink own ik cls).before args s = true) (hini : (Cond.initialized cls).before args s = true) (hat : ∀ w ∈ vx_at0 own ic cls names, w.before args s = true)
    (hgood : ∀ w ∈ Cond.classLink own ik cls :: Cond.initialized cls :: vx_at0 own ic cls names, vx_ot w = true)
    (hU : vx_Zq Bundle.tN "UNASSIGNED_STACK" Bundle.steD A s s.heap) (hN : vx_Zq Bundle.tN "SUPPRESSED_SENTINEL" Bundle.listD A s s.heap) (hS : va_S A s.heap H locs) (hsize : ls.size = c.maxLocals)
    (d0 : decode cc pc = .ok (.new ik, 3)) (d3 : decode cc (pc + 3) = .ok (.dup, 1)) (d4 : decode cc (pc + 4) = .ok (.invokespecial ic, 3)) (d7 : decode cc (pc + 7) = .ok (.athrow, 1))
    (hout : ∀ x ∈ c.exceptionTable.toList, covers x (pc + 7) = false)
    (hRframes : names.length + 3 < R.frames) (hRlocals : (rest.map fun v => v.category).sum + (13 * (names.length + 1) + 42) ≤ R.locals) (hRcells : cells + 1 ≤ R.cells) (hRslots : slots + 6 ≤ R.slots) (hlocks : meth.locks = false)
    (hx : ∀ t : State, s.vm.Alike t.vm → H.size ≤ t.heap.size → (∀ q : Nat, q < H.size → t.heap[q]? = H[q]?) → XC cls s t)
    (hf : ∀ z ∈ locs, free z.base) (hc : cells + 1 ≤ mc) (hs : slots + 6 ≤ ms) :
    W p l e R s m args below meth c H locs cells slots (vx_MQ below Qc XC args s mc ms free) (F0 m pc ls rest) := by
  intro T hT X
  have htr : e.platform.stackTraces = false := (show e.platform.stackTraces = l.stackTraces by rw [X.admits.platform]).trans hl
  have Y := vx_rebase X (R' := { frames := R.frames, locals := R.locals, cells := 1, slots := 6 }) (Nat.le_refl _) (Nat.le_refl _) hRcells hRslots
  obtain ⟨s', hA⟩ : ∃ z, z = (T.setVm s.vm).setFrames (.invoking m args :: below) := ⟨_, rfl⟩
  rw [← hA] at Y
  have hvm : s'.vm = s.vm := by rw [hA]; rfl
  have hhp : s'.heap = H := by rw [hA]; exact hT
  have hW0 : s.WarmedH s'.vm := by rw [hvm]; exact State.WarmedH.refl s
  have hat' : ∀ w ∈ vx_at0 own ic cls names, w.before args s' = true := fun w hw => vx_ot_at hW0 hvm.symm (hgood w (List.mem_cons_of_mem _ (List.mem_cons_of_mem _ hw))) (hat w hw)
  have hk' : (Cond.classLink own ik cls).before args s' = true := vx_ot_at hW0 hvm.symm (hgood _ List.mem_cons_self) hk
  have hini' : (Cond.initialized cls).before args s' = true := vx_ot_at hW0 hvm.symm (hgood _ (List.mem_cons_of_mem _ List.mem_cons_self)) hini
  have hU' : vx_Zq Bundle.tN "UNASSIGNED_STACK" Bundle.steD A s' s'.heap := by rw [hhp]; exact vx_Zq.moved hW0.alike (hU.kept hS.2.1)
  have hN' : vx_Zq Bundle.tN "SUPPRESSED_SENTINEL" Bundle.listD A s' s'.heap := by rw [hhp]; exact vx_Zq.moved hW0.alike (hN.kept hS.2.1)
  have h : ∀ w ∈ Bundle.ownAtoms0 own ic cls names, w.before args s' = true := vx_own hat' (vx_isRefq hU'.1) (vx_isRefq hN'.1) hU'.2.word hN'.2.word
  have hown' : s'.vm.findClass own = some m.cls := by rw [hvm]; exact hown
  have hins : (Cond.instantiable cls 6).before args s' = true := h _ (by simp [Bundle.ownAtoms0])
  obtain ⟨vm₁, cX, kX, hfX, hkX, -, -, X₁, st1⟩ := Y.newCold hexec (own := own) (C := cls) (index := ik) (n := 6) hown' hk' hins hini'
    (g := F0 m pc ls rest) rfl (by rw [hb]; exact d0) (Nat.le_refl _) (Nat.le_refl _)
  generalize hT1 : (T.setVm vm₁).pushCell { cls := cX, slots := kX.instanceTypes.map defaultValue, vm := .none } = T1 at X₁ st1
  have hcat : (Value.ref T.heap.size).category = 1 := rfl
  have hcellA : T1.heap[T.heap.size]? = some (freshCell cX kX) := by rw [← hT1]; exact State.heap_pushCell_size _ _
  have d3' : decode c.code (pc + 3) = .ok (.dup, 1) := by rw [hb]; exact d3
  obtain ⟨U, hsteps, hrun, hend, hW, hsame, ce, hce, hO⟩ := X₁.ctorThrow0 hexec htr (own := own) (cls := cls) (names := names) (ic := ic) hown' hcls hnames h (fun x hx => nomatch hx) hfX hkX hcellA (by rw [hhp, hT]; exact Nat.le_refl _)
    (g := { method := m, pc := pc + 4, locals := ls, stack := .ref T.heap.size :: .ref T.heap.size :: rest, locked := none }) rfl hsize rfl rfl (rest := rest) rfl
    (by rw [hb]; exact d4) (by rw [hb]; exact d7) hout hRframes (by simp only [List.map_cons, List.sum_cons, hcat]; omega) hlocks
  obtain ⟨f1, f2⟩ := vx_frame hsame
  rw [hhp] at f1 f2
  have hWs : s.WarmedH U.vm := State.WarmedH.trans hW0 hW
  have hcl : s.vm.findClass cls = some ce.cls := by
    have h9 := hO.cls
    rw [hvm] at h9
    exact h9
  have hall : s.sameButNew ({ U with vm := s.vm } : State) locs mc ms := by
    subst hA
    obtain ⟨e1, e2⟩ := hsame
    rw [State.setFrames_setFrames] at e1
    have h2 : (T.setVm s.vm).sameButNew ({ U with vm := s.vm } : State) [] (0 + 1) (0 + 6) := ⟨e1, e2⟩
    have h3 := X.same.trans h2
    rw [List.append_nil] at h3
    exact h3.mono hc hs
  refine ⟨U, ?_, .threw T.heap.size, hrun, hend, Or.inr ⟨T.heap.size, rfl, cls, ce, locs, hx U hWs.alike f1 (fun q hq => f2 q hq (fun z hz => nomatch hz)), hce, hO.vm, hcl, hWs, hall, hf⟩⟩
  refine st1 _ ?_
  show Steps p.tables e below (T1.setTop { method := m, pc := pc + 3, locals := ls, stack := .ref T.heap.size :: rest, locked := none }) _
  jvm_step X₁.here [X₁.here.top, hexec, d3', Value.category]
  exact hsteps
/-- 'throw new E("text")': new; dup; ldc; invokespecial; athrow -/
theorem vx_throwS {cc : ByteArray} {pc : Nat} (hexec : p.tables.exec = Jvm.exec) (hb : c.code = cc) (hl : l.stackTraces = false) {own cls text : String} {names : List String} {ik is ic mc ms sa : Nat} {A : Nat → Prop}
    (hown : s.vm.findClass own = some m.cls) (hcls : Bundle.fit cls = true) (hnames : ∀ n ∈ names, Bundle.fit n = true)
    (hk : (Cond.classLink own ik cls).before args s = true) (hini : (Cond.initialized cls).before args s = true) (hstr : vk_R own is text sa s) (hat : ∀ w ∈ vx_atS own ic cls names, w.before args s = true)
    (hgood : ∀ w ∈ Cond.classLink own ik cls :: Cond.initialized cls :: vx_atS own ic cls names, vx_ot w = true)
    (hU : vx_Zq Bundle.tN "UNASSIGNED_STACK" Bundle.steD A s s.heap) (hN : vx_Zq Bundle.tN "SUPPRESSED_SENTINEL" Bundle.listD A s s.heap) (hS : va_S A s.heap H locs) (hsize : ls.size = c.maxLocals)
    (d0 : decode cc pc = .ok (.new ik, 3)) (d3 : decode cc (pc + 3) = .ok (.dup, 1)) (d4 : decode cc (pc + 4) = .ok (.ldc is, 2)) (d6 : decode cc (pc + 6) = .ok (.invokespecial ic, 3)) (d9 : decode cc (pc + 9) = .ok (.athrow, 1))
    (hout : ∀ x ∈ c.exceptionTable.toList, covers x (pc + 9) = false)
    (hRframes : names.length + 3 < R.frames) (hRlocals : (rest.map fun v => v.category).sum + (13 * (names.length + 1) + 43) ≤ R.locals) (hRcells : cells + 1 ≤ R.cells) (hRslots : slots + 6 ≤ R.slots) (hlocks : meth.locks = false)
    (hx : ∀ t : State, s.vm.Alike t.vm → H.size ≤ t.heap.size → (∀ q : Nat, q < H.size → t.heap[q]? = H[q]?) → XC cls s t)
    (hf : ∀ z ∈ locs, free z.base) (hc : cells + 1 ≤ mc) (hs : slots + 6 ≤ ms) :
    W p l e R s m args below meth c H locs cells slots (vx_MQ below Qc XC args s mc ms free) (F0 m pc ls rest) := by
  intro T hT X
  have htr : e.platform.stackTraces = false := (show e.platform.stackTraces = l.stackTraces by rw [X.admits.platform]).trans hl
  have Y := vx_rebase X (R' := { frames := R.frames, locals := R.locals, cells := 1, slots := 6 }) (Nat.le_refl _) (Nat.le_refl _) hRcells hRslots
  obtain ⟨s', hA⟩ : ∃ z, z = (T.setVm s.vm).setFrames (.invoking m args :: below) := ⟨_, rfl⟩
  rw [← hA] at Y
  have hvm : s'.vm = s.vm := by rw [hA]; rfl
  have hhp : s'.heap = H := by rw [hA]; exact hT
  have hW0 : s.WarmedH s'.vm := by rw [hvm]; exact State.WarmedH.refl s
  have hat' : ∀ w ∈ vx_atS own ic cls names, w.before args s' = true := fun w hw => vx_ot_at hW0 hvm.symm (hgood w (List.mem_cons_of_mem _ (List.mem_cons_of_mem _ hw))) (hat w hw)
  have hk' : (Cond.classLink own ik cls).before args s' = true := vx_ot_at hW0 hvm.symm (hgood _ List.mem_cons_self) hk
  have hini' : (Cond.initialized cls).before args s' = true := vx_ot_at hW0 hvm.symm (hgood _ (List.mem_cons_of_mem _ List.mem_cons_self)) hini
  have hU' : vx_Zq Bundle.tN "UNASSIGNED_STACK" Bundle.steD A s' s'.heap := by rw [hhp]; exact vx_Zq.moved hW0.alike (hU.kept hS.2.1)
  have hN' : vx_Zq Bundle.tN "SUPPRESSED_SENTINEL" Bundle.listD A s' s'.heap := by rw [hhp]; exact vx_Zq.moved hW0.alike (hN.kept hS.2.1)
  have h : ∀ w ∈ Bundle.ownAtoms own ic cls names, w.before args s' = true := vx_own hat' (vx_isRefq hU'.1) (vx_isRefq hN'.1) hU'.2.word hN'.2.word
  have hown' : s'.vm.findClass own = some m.cls := by rw [hvm]; exact hown
  have hins : (Cond.instantiable cls 6).before args s' = true := h _ (by simp [Bundle.ownAtoms])
  obtain ⟨vm₁, cX, kX, hfX, hkX, -, -, X₁, st1⟩ := Y.newCold hexec (own := own) (C := cls) (index := ik) (n := 6) hown' hk' hins hini'
    (g := F0 m pc ls rest) rfl (by rw [hb]; exact d0) (Nat.le_refl _) (Nat.le_refl _)
  generalize hT1 : (T.setVm vm₁).pushCell { cls := cX, slots := kX.instanceTypes.map defaultValue, vm := .none } = T1 at X₁ st1
  have hcat : (Value.ref T.heap.size).category = 1 := rfl
  have hcellA : T1.heap[T.heap.size]? = some (freshCell cX kX) := by rw [← hT1]; exact State.heap_pushCell_size _ _
  have d3' : decode c.code (pc + 3) = .ok (.dup, 1) := by rw [hb]; exact d3
  have d4' : decode c.code (pc + 4) = .ok (.ldc is, 2) := by rw [hb]; exact d4
  have hstr' : vk_R own is text sa s' := vk_R.warm hW0 hstr
  obtain ⟨U, hsteps, hrun, hend, hW, hsame, ce, hce, hO⟩ := X₁.ctorThrowS hexec htr (own := own) (cls := cls) (names := names) (ic := ic) hown' hcls hnames h (fun x hx => nomatch hx) hfX hkX hcellA (by rw [hhp, hT]; exact Nat.le_refl _) (msg := .ref sa) rfl
    (g := { method := m, pc := pc + 6, locals := ls, stack := .ref sa :: .ref T.heap.size :: .ref T.heap.size :: rest, locked := none }) rfl hsize rfl rfl (rest := rest) rfl
    (by rw [hb]; exact d6) (by rw [hb]; exact d9) hout hRframes (by simp only [List.map_cons, List.sum_cons, hcat]; omega) hlocks
  obtain ⟨f1, f2⟩ := vx_frame hsame
  rw [hhp] at f1 f2
  have hWs : s.WarmedH U.vm := State.WarmedH.trans hW0 hW
  have hcl : s.vm.findClass cls = some ce.cls := by
    have h9 := hO.cls
    rw [hvm] at h9
    exact h9
  have hall : s.sameButNew ({ U with vm := s.vm } : State) locs mc ms := by
    subst hA
    obtain ⟨e1, e2⟩ := hsame
    rw [State.setFrames_setFrames] at e1
    have h2 : (T.setVm s.vm).sameButNew ({ U with vm := s.vm } : State) [] (0 + 1) (0 + 6) := ⟨e1, e2⟩
    have h3 := X.same.trans h2
    rw [List.append_nil] at h3
    exact h3.mono hc hs
  refine ⟨U, ?_, .threw T.heap.size, hrun, hend, Or.inr ⟨T.heap.size, rfl, cls, ce, locs, hx U hWs.alike f1 (fun q hq => f2 q hq (fun z hz => nomatch hz)), hce, hO.vm, hcl, hWs, hall, hf⟩⟩
  refine st1 _ ?_
  show Steps p.tables e below (T1.setTop { method := m, pc := pc + 3, locals := ls, stack := .ref T.heap.size :: rest, locked := none }) _
  jvm_step X₁.here [X₁.here.top, hexec, d3', Value.category]
  exact X₁.ldcString hexec (own := own) (text := text) (index := is) (a := sa) hown' hstr'.1 hstr'.2
    (g := { method := m, pc := pc + 4, locals := ls, stack := .ref T.heap.size :: .ref T.heap.size :: rest, locked := none }) rfl d4' _ hsteps
/-- 'throw new E("text")', the text by a wide index -/
theorem vx_throwSW {cc : ByteArray} {pc : Nat} (hexec : p.tables.exec = Jvm.exec) (hb : c.code = cc) (hl : l.stackTraces = false) {own cls text : String} {names : List String} {ik is ic mc ms sa : Nat} {A : Nat → Prop}
    (hown : s.vm.findClass own = some m.cls) (hcls : Bundle.fit cls = true) (hnames : ∀ n ∈ names, Bundle.fit n = true)
    (hk : (Cond.classLink own ik cls).before args s = true) (hini : (Cond.initialized cls).before args s = true) (hstr : vk_R own is text sa s) (hat : ∀ w ∈ vx_atS own ic cls names, w.before args s = true)
    (hgood : ∀ w ∈ Cond.classLink own ik cls :: Cond.initialized cls :: vx_atS own ic cls names, vx_ot w = true)
    (hU : vx_Zq Bundle.tN "UNASSIGNED_STACK" Bundle.steD A s s.heap) (hN : vx_Zq Bundle.tN "SUPPRESSED_SENTINEL" Bundle.listD A s s.heap) (hS : va_S A s.heap H locs) (hsize : ls.size = c.maxLocals)
    (d0 : decode cc pc = .ok (.new ik, 3)) (d3 : decode cc (pc + 3) = .ok (.dup, 1)) (d4 : decode cc (pc + 4) = .ok (.ldc_w is, 3)) (d7 : decode cc (pc + 7) = .ok (.invokespecial ic, 3)) (d10 : decode cc (pc + 10) = .ok (.athrow, 1))
    (hout : ∀ x ∈ c.exceptionTable.toList, covers x (pc + 10) = false)
    (hRframes : names.length + 3 < R.frames) (hRlocals : (rest.map fun v => v.category).sum + (13 * (names.length + 1) + 43) ≤ R.locals) (hRcells : cells + 1 ≤ R.cells) (hRslots : slots + 6 ≤ R.slots) (hlocks : meth.locks = false)
    (hx : ∀ t : State, s.vm.Alike t.vm → H.size ≤ t.heap.size → (∀ q : Nat, q < H.size → t.heap[q]? = H[q]?) → XC cls s t)
    (hf : ∀ z ∈ locs, free z.base) (hc : cells + 1 ≤ mc) (hs : slots + 6 ≤ ms) :
    W p l e R s m args below meth c H locs cells slots (vx_MQ below Qc XC args s mc ms free) (F0 m pc ls rest) := by
  intro T hT X
  have htr : e.platform.stackTraces = false := (show e.platform.stackTraces = l.stackTraces by rw [X.admits.platform]).trans hl
  have Y := vx_rebase X (R' := { frames := R.frames, locals := R.locals, cells := 1, slots := 6 }) (Nat.le_refl _) (Nat.le_refl _) hRcells hRslots
  obtain ⟨s', hA⟩ : ∃ z, z = (T.setVm s.vm).setFrames (.invoking m args :: below) := ⟨_, rfl⟩
  rw [← hA] at Y
  have hvm : s'.vm = s.vm := by rw [hA]; rfl
  have hhp : s'.heap = H := by rw [hA]; exact hT
  have hW0 : s.WarmedH s'.vm := by rw [hvm]; exact State.WarmedH.refl s
  have hat' : ∀ w ∈ vx_atS own ic cls names, w.before args s' = true := fun w hw => vx_ot_at hW0 hvm.symm (hgood w (List.mem_cons_of_mem _ (List.mem_cons_of_mem _ hw))) (hat w hw)
  have hk' : (Cond.classLink own ik cls).before args s' = true := vx_ot_at hW0 hvm.symm (hgood _ List.mem_cons_self) hk
  have hini' : (Cond.initialized cls).before args s' = true := vx_ot_at hW0 hvm.symm (hgood _ (List.mem_cons_of_mem _ List.mem_cons_self)) hini
  have hU' : vx_Zq Bundle.tN "UNASSIGNED_STACK" Bundle.steD A s' s'.heap := by rw [hhp]; exact vx_Zq.moved hW0.alike (hU.kept hS.2.1)
  have hN' : vx_Zq Bundle.tN "SUPPRESSED_SENTINEL" Bundle.listD A s' s'.heap := by rw [hhp]; exact vx_Zq.moved hW0.alike (hN.kept hS.2.1)
  have h : ∀ w ∈ Bundle.ownAtoms own ic cls names, w.before args s' = true := vx_own hat' (vx_isRefq hU'.1) (vx_isRefq hN'.1) hU'.2.word hN'.2.word
  have hown' : s'.vm.findClass own = some m.cls := by rw [hvm]; exact hown
  have hins : (Cond.instantiable cls 6).before args s' = true := h _ (by simp [Bundle.ownAtoms])
  obtain ⟨vm₁, cX, kX, hfX, hkX, -, -, X₁, st1⟩ := Y.newCold hexec (own := own) (C := cls) (index := ik) (n := 6) hown' hk' hins hini'
    (g := F0 m pc ls rest) rfl (by rw [hb]; exact d0) (Nat.le_refl _) (Nat.le_refl _)
  generalize hT1 : (T.setVm vm₁).pushCell { cls := cX, slots := kX.instanceTypes.map defaultValue, vm := .none } = T1 at X₁ st1
  have hcat : (Value.ref T.heap.size).category = 1 := rfl
  have hcellA : T1.heap[T.heap.size]? = some (freshCell cX kX) := by rw [← hT1]; exact State.heap_pushCell_size _ _
  have d3' : decode c.code (pc + 3) = .ok (.dup, 1) := by rw [hb]; exact d3
  have d4' : decode c.code (pc + 4) = .ok (.ldc_w is, 3) := by rw [hb]; exact d4
  have hstr' : vk_R own is text sa s' := vk_R.warm hW0 hstr
  obtain ⟨U, hsteps, hrun, hend, hW, hsame, ce, hce, hO⟩ := X₁.ctorThrowS hexec htr (own := own) (cls := cls) (names := names) (ic := ic) hown' hcls hnames h (fun x hx => nomatch hx) hfX hkX hcellA (by rw [hhp, hT]; exact Nat.le_refl _) (msg := .ref sa) rfl
    (g := { method := m, pc := pc + 7, locals := ls, stack := .ref sa :: .ref T.heap.size :: .ref T.heap.size :: rest, locked := none }) rfl hsize rfl rfl (rest := rest) rfl
    (by rw [hb]; exact d7) (by rw [hb]; exact d10) hout hRframes (by simp only [List.map_cons, List.sum_cons, hcat]; omega) hlocks
  obtain ⟨f1, f2⟩ := vx_frame hsame
  rw [hhp] at f1 f2
  have hWs : s.WarmedH U.vm := State.WarmedH.trans hW0 hW
  have hcl : s.vm.findClass cls = some ce.cls := by
    have h9 := hO.cls
    rw [hvm] at h9
    exact h9
  have hall : s.sameButNew ({ U with vm := s.vm } : State) locs mc ms := by
    subst hA
    obtain ⟨e1, e2⟩ := hsame
    rw [State.setFrames_setFrames] at e1
    have h2 : (T.setVm s.vm).sameButNew ({ U with vm := s.vm } : State) [] (0 + 1) (0 + 6) := ⟨e1, e2⟩
    have h3 := X.same.trans h2
    rw [List.append_nil] at h3
    exact h3.mono hc hs
  refine ⟨U, ?_, .threw T.heap.size, hrun, hend, Or.inr ⟨T.heap.size, rfl, cls, ce, locs, hx U hWs.alike f1 (fun q hq => f2 q hq (fun z hz => nomatch hz)), hce, hO.vm, hcl, hWs, hall, hf⟩⟩
  refine st1 _ ?_
  show Steps p.tables e below (T1.setTop { method := m, pc := pc + 3, locals := ls, stack := .ref T.heap.size :: rest, locked := none }) _
  jvm_step X₁.here [X₁.here.top, hexec, d3', Value.category]
  exact X₁.ldcStringW hexec (own := own) (text := text) (index := is) (a := sa) hown' hstr'.1 hstr'.2
    (g := { method := m, pc := pc + 4, locals := ls, stack := .ref T.heap.size :: .ref T.heap.size :: rest, locked := none }) rfl d4' _ hsteps
end Ends
section Bodies
variable {l : Launch}
theorem vx_ofW {y : MethodName} {ws ws' : List Cond} {rm : Room} {Pc : Array Value → State → Prop} {Qc : Array Value → State → Outcome → State → Prop} {XC : String → State → State → Prop} {mc ms : Nat} {free : Addr → Prop} {cc : ByteArray} {maxL : Nat} {ret : Option FieldType}
    (hy : plainName y.cls = true) (hw : ws = Cond.code y cc maxL ret :: ws')
    (body : ∀ p e s m args below meth c s₁, BodyLoose p l y (headSpec ws rm) cc maxL ret e s m args below meth c s₁ → c.maxLocals = maxL → (∀ x ∈ c.exceptionTable.toList, False) → Pc args s →
      W p l e (headSpec ws rm).room s m args below meth c s.heap [] 0 0 (vx_MQ below Qc XC args s mc ms free) (entryFrame m args maxL)) : vx_Met l y ws rm Pc Qc XC mc ms free := by
  refine MetFree.of_bodyS (code := cc) (maxLocals := maxL) (ret := ret) hy ?_ ?_
  · intro args s m h hn
    obtain ⟨meth, c, h1, h2, h3, h4, h5, h6, -, -⟩ := Cond.code_spec hn (atoms_spec (ws := ws) h _ (by rw [hw]; exact List.mem_cons_self))
    exact ⟨meth, c, h1, h2, h3, h4, h5, h6⟩
  · intro p e s m args below meth c s₁ B hml hP _
    have hh0 : s₁.heap = s.heap := by rw [B.state]; rfl
    have ht : ∀ x ∈ c.exceptionTable.toList, False := by
      obtain ⟨meth9, c9, h1, h2, -, -, -, -, h7, -⟩ := Cond.code_spec B.named (atoms_spec (ws := ws) B.pre _ (by rw [hw]; exact List.mem_cons_self))
      cases Option.some.inj (h1.symm.trans B.method)
      cases Option.some.inj (h2.symm.trans (Stand.of_body B).code)
      intro x hx
      rw [Array.isEmpty_iff.mp h7] at hx
      cases hx
    obtain ⟨t, a1, o, b1, b2, b3⟩ := body p e s m args below meth c s₁ B hml ht hP s₁ hh0 (Stand.of_body B)
    exact ⟨t, o, a1, b1, b2, b3⟩
/-- the table of a body with handlers -/
theorem vx_table {p : Program} {x y : MethodName} {S : Spec} {cc bytes : ByteArray} {maxL maxL' : Nat} {ret ret' : Option FieldType} {e : Env} {s s₁ : State} {m : MethodId} {args : Array Value} {below : List Frame} {meth : Method} {c : Code} {hh : List (Nat × Nat × Nat × Nat)}
    (B : BodyLoose p l y S cc maxL ret e s m args below meth c s₁) (h : (Cond.codeWith y bytes maxL' ret' hh).before args s = true) : c.exceptionTable.toList = tableOf hh := by
  obtain ⟨m9, meth9, c9, hn9, h1, h2, -, -, h6, -⟩ := Cond.codeWith_spec h
  cases Option.some.inj (hn9.symm.trans B.named)
  cases Option.some.inj (h1.symm.trans B.method)
  cases Option.some.inj (h2.symm.trans (Stand.of_body B).code)
  rw [← h6, table_eq]
end Bodies
end VXA
/-! ===== END ===== -/
/-! ===== BEGIN a static call of a method with an exception table ===== -/
section VXS
variable {p : Program} {l : Launch} {e : Env} {R : Room} {s : State} {m : MethodId} {args : Array Value} {below : List Frame} {meth : Method} {c : Code} {T : State} {H : Heap} {locs : List Loc} {cells slots : Nat}
abbrev vx_CSW (R : Room) (s : State) (args : Array Value) (own : String) (index : Nat) (y : MethodName) (bytes : ByteArray) (maxL : Nat) (ret : Option FieldType) (hh : List (Nat × Nat × Nat × Nat)) (ws : List Cond) (rm : Room) (mc ms n : Nat) : Prop :=
  (rm.cells = mc ∧ rm.slots = ms ∧ rm.frames + 1 ≤ R.frames ∧ 8 + (maxL + 11) + rm.locals ≤ R.locals ∧ (∀ w ∈ ws, ∀ (a' : Array Value) (U : State), s.WarmedH U.vm → w.before a' U = true) ∧ Cond.codeWith y bytes maxL ret hh ∈ ws) ∧
  (Cond.codeWith y bytes maxL ret hh).before args s = true ∧ (Cond.initialized y.cls).before args s = true ∧ (y.cls ≠ "java/lang/invoke/MethodHandle" ∧ y.cls ≠ "java/lang/invoke/VarHandle") ∧
  (∀ sig, parseMethodDescriptor y.desc = some sig → n = sig.parameters.length) ∧ (Cond.methodLink own index y).before args s = true ∧ (Cond.static y).before args s = true
theorem vx_cwSW {own : String} {index maxL mc ms : Nat} {y : MethodName} {bytes : ByteArray} {ret : Option FieldType} {hh : List (Nat × Nat × Nat × Nat)} {Ts ws ws' : List Cond} {rm : Room} (n : Nat) (ht : ∀ w ∈ Ts, w.before args s = true) (hT : GoodIn Ts (va_wsS own index y ws)) (hw : ws = Cond.codeWith y bytes maxL ret hh :: ws') (hrc : rm.cells = mc) (hrs : rm.slots = ms)
    (hd : y.cls ≠ "java/lang/invoke/MethodHandle" ∧ y.cls ≠ "java/lang/invoke/VarHandle" ∧ (parseMethodDescriptor y.desc).map (fun d => d.parameters.length) = some n) (hR : rm.frames + 1 ≤ R.frames ∧ 8 + (maxL + 11) + rm.locals ≤ R.locals) :
    vx_CSW R s args own index y bytes maxL ret hh ws rm mc ms n := by
  have ok : ∀ w ∈ va_wsS own index y ws, w.before args s = true := fun w h => ht w (hT w h).1
  have hG : GoodIn Ts ws := fun w h => hT w (by unfold va_wsS; exact List.mem_append_right _ h)
  have hc : Cond.codeWith y bytes maxL ret hh ∈ ws := by rw [hw]; exact List.mem_cons_self
  refine ⟨⟨hrc, hrs, hR.1, hR.2, pay_in ht hG, hc⟩, ht _ (hG _ hc).1, ok _ (by simp [va_wsS]), ⟨hd.1, hd.2.1⟩, fun sig h => ?_, ok _ (by simp [va_wsS]), ok _ (by simp [va_wsS])⟩
  have h2 := hd.2.2
  rw [h] at h2
  exact (Option.some.inj h2).symm
theorem vx_callSW (X : Stand p l e R s m args below meth c T locs cells slots) (hexec : p.tables.exec = Jvm.exec) {own : String} {index : Nat} {y : MethodName} {bytes : ByteArray} {maxL : Nat} {ret : Option FieldType} {hh : List (Nat × Nat × Nat × Nat)}
    (hown : s.vm.findClass own = some m.cls) (hlink : (Cond.methodLink own index y).before args s = true) (hstat : (Cond.static y).before args s = true) (hinit : (Cond.initialized y.cls).before args s = true)
    (hcode : (Cond.codeWith y bytes maxL ret hh).before args s = true) (hy : y.cls ≠ "java/lang/invoke/MethodHandle" ∧ y.cls ≠ "java/lang/invoke/VarHandle")
    {W9 : Nat} {Pre : Pt → Array Value → Prop} {Post : Pt → Array Value → Option Value → Pt → Prop} (hK : Back l R p e below s args y 3 W9 Pre Post)
    {g : JFrame} (hg : g.method = m) (hsize : g.locals.size = c.maxLocals) {argsL rest : List Value} (hlen : ∀ sig, parseMethodDescriptor y.desc = some sig → argsL.length = sig.parameters.length)
    (hstack : g.stack = argsL.reverse ++ rest) (hW : 2 * g.monitorRoom + (rest.map fun v => v.category).sum ≤ W9) (hdg : decode c.code g.pc = .ok (.invokestatic index, 3))
    (hpre : ∀ vm₁, s.WarmedH vm₁ → Pre ⟨T.setVm vm₁, locs, cells, slots⟩ argsL.toArray) :
    ∃ (v : Option Value) (vm₁ : Vm) (B : Pt), s.WarmedH vm₁ ∧ Stand p l e R s m args below meth c B.U B.locs B.cells B.slots ∧ Post ⟨T.setVm vm₁, locs, cells, slots⟩ argsL.toArray v B ∧
      ∀ target, Steps p.tables e below (B.U.setTop { g with pc := g.pc + 3, stack := v.toList ++ rest }) target → Steps p.tables e below (T.setTop g) target := by
  obtain ⟨mk, methM, cM, hnamed, hmethM, -, -, -, -, -, -, hsigM⟩ := Cond.codeWith_spec hcode
  have hstatic : methM.isStatic = true := Cond.static_spec hnamed hmethM hstat
  obtain ⟨kP, hkP, -⟩ := className_of_methodNamed hnamed
  have hinitP : kP.init = .initialized := Cond.initialized_spec (findClass_of_methodNamed hnamed) hkP hinit
  obtain ⟨vm₁, X₁, hstep₁⟩ := X.invokestatic hexec hown hlink hnamed hmethM hstatic hkP hinitP hy (g := g) hg (argsL := argsL) (rest := rest) (hlen _ hsigM) hstack hdg
  obtain ⟨v, B, X', hpost, hsteps⟩ := hK m meth c ⟨T.setVm vm₁, locs, cells, slots⟩ { g with stack := rest } (.invokestatic index) mk argsL.toArray X₁ hg hsize hdg hW (X₁.named hnamed) (hpre vm₁ X₁.warmed)
  exact ⟨v, vm₁, B, X₁.warmed, X', hpost, fun target h => hstep₁ _ fun acts => by rw [doInvoke_state]; exact hsteps.trans h⟩
theorem vx_runSW {y : MethodName} {bytes cc : ByteArray} {maxL nL mc ms n index : Nat} {ret : Option FieldType} {hh : List (Nat × Nat × Nat × Nat)} {ws : List Cond} {rm : Room} {Pc : Array Value → State → Prop} {Qc : Array Value → State → Outcome → State → Prop} {free : Addr → Prop} {Ts : List Cond} {own : String} {As rest : List Value} {g : JFrame}
    (S : CallFix p m c cc nL s args Ts own) (hM : Met l y ws rm Pc Qc mc ms free) (cw : vx_CSW R s args own index y bytes maxL ret hh ws rm mc ms n) (hp : PreS s H Pc As)
    (hg : g.method = m) (hn : As.length = n) (hsize : g.locals.size = nL) (hstack : g.stack = As.reverse ++ rest) (hW : 2 * g.monitorRoom + (rest.map fun v => v.category).sum ≤ 8) (hdg : decode cc g.pc = .ok (.invokestatic index, 3)) (hf : cells + mc ≤ R.cells ∧ slots + ms ≤ R.slots) :
    va_Run p l e R s m args below meth c H locs cells slots mc ms g rest (Qc As.toArray) (free) := by
  obtain ⟨⟨hrc, hrs, hfr, hlo, hws, hcw⟩, hcode, hini, hy, hlen, hl, hstt⟩ := cw
  have hK : Back l R p e below s args y 3 8 (PreOf R mc ms Pc) (PostOf Qc mc ms free) := va_backW (hh := hh) (bytes := bytes) (maxL := maxL) (ret := ret) hM hp.1 hrc hrs hfr hlo hws hcw (fun a' U hW => word_at hW (Or.inl (by first | rfl | simp [Cond.onTables, Cond.keeps, Cond.steady])) hini)
  obtain ⟨hx, hb, hml, ho, -⟩ := S
  intro T hT X
  obtain ⟨v, vm₁, ⟨U', l2, c2, s2⟩, hW₁, X', ⟨g', mk, t, L, e1, e2, hq, h1, hL, h2, h3⟩, st⟩ := vx_callSW X hx (hh := hh) (bytes := bytes) (maxL := maxL) (ret := ret) ho hl hstt hini hcode hy hK hg (hsize.trans hml.symm) (argsL := As) (rest := rest) (fun sig h => hn.trans (hlen sig h)) hstack hW (by rw [hb]; exact hdg)
    (fun vm₁ hW₁ => ⟨hf.1, hf.2, hp.2 (T.setVm vm₁) hT hW₁⟩)
  dsimp only [Pt.U, Pt.locs, Pt.cells, Pt.slots] at X' e1 e2 h1 h2 h3 st
  subst h1; subst h2; subst h3
  exact ⟨v, (T.setVm vm₁).calling g' mk As.toArray, t, U', L, hT, X', hL, e1, e2, hq, st⟩
/-- not caught here, past rows that name other classes: it goes on to the caller -/
theorem vx_outP {p : Program} {l : Launch} {e : Env} {R : Room} {s : State} {m : MethodId} {args : Array Value} {below : List Frame} {meth : Method} {c : Code} {H : Heap} {locs : List Loc} {cells slots : Nat} {free : Addr → Prop} {ls : Array Slot} {rest : List Value} {Qc : Array Value → State → Outcome → State → Prop} {XC : String → State → State → Prop}
    {pc : Nat} {own E : String} {ce : Cell} {q : Addr} {mc ms : Nat} (hown : s.vm.findClass own = some m.cls) (hlocks : meth.locks = false)
    (hpass : ∀ z ∈ c.exceptionTable.toList, covers z pc = false ∨ (z.catchType ≠ 0 ∧ ∃ nm : String, (Cond.classLink own z.catchType nm).before args s = true ∧ va_Nc E nm s)) (hcell : H[q]? = some ce) (hv : ce.vm = .none) (hcl : s.vm.findClass E = some ce.cls)
    (hx : ∀ t : State, t.heap = H → s.vm.Alike t.vm → XC E s t) (hf : ∀ z ∈ locs, free z.base) (hc : cells ≤ mc) (hs : slots ≤ ms) :
    vx_W p l e R s m args below meth c H locs cells slots (vx_MQ below Qc XC args s mc ms free) (F0 m pc ls rest) q := by
  intro T hT X
  have hpl : e.platform.magicAccessors = ({} : Platform).magicAccessors := by rw [X.admits.platform]
  obtain ⟨vm', hW', X', st⟩ := Stand.outThrough X hlocks q (g := F0 m pc ls rest) rfl rfl rfl (cell := ce) (by rw [hT]; exact hcell) (by rw [hv]; rfl)
    (by obtain ⟨k9, h9, -⟩ := Vm.findClass_spec hcl; exact ⟨k9, h9⟩) (fun z hz => by
      rcases hpass z hz with h | ⟨hz0, nm, hl1, hn1⟩
      · exact Or.inl h
      · obtain ⟨c6, hc6, hcl6⟩ := Cond.classLink_spec hown hl1 e.platform hpl
        obtain ⟨a8, b8, h1, h2, h3⟩ := hn1
        cases Option.some.inj (h1.symm.trans hcl)
        cases Option.some.inj (h2.symm.trans hc6)
        exact Or.inr ⟨hz0, _, hcl6, h3⟩)
  obtain ⟨g₀, hfr⟩ := X'.frames_eq
  have hcell9 : ((T.setVm vm').setFrames (.throwing q :: below)).heap[q]? = some ce := by
    show T.heap[q]? = some ce
    rw [hT]; exact hcell
  have hend : Ended ((T.setVm vm').setFrames (.throwing q :: below)) below (.threw q) := State.frames_setFrames _ (State.cur_lt_of_frames hfr)
  refine ⟨(T.setVm vm').setFrames (.throwing q :: below), ?_, .threw q, X'.here.running, hend, Or.inr ⟨q, rfl, E, ce, locs, hx _ hT (X'.ends _).1.alike, hcell9, hv, hcl, (X'.ends _).1, (X'.ends _).2.mono hc hs, hf⟩⟩
  rw [X.pushThrowing_eq]
  exact st
/-- a thing of a world lies in the heap -/
theorem vx_lt {D : va_G} {cl : List vw_C} {ws : va_W} {H1 : Heap} (h : va_P D cl ws H1) {k : Nat} {q : Nat × va_E} (hk : ws[k]? = some q) : q.1 < H1.size := (h k q hk).lt
end VXS
/-! ===== END ===== -/
/-! ===== BEGIN methods with a table of their own: called by a name, returning or throwing ===== -/
section VXH
/-! vx_backW, vx_callVX, vx_callSX, vx_callVW, vx_runVW, vx_runVX, vx_runSX, vx_ofWH follow the same proofs as their sisters above (Free/Laws.lean, Shelf42/LK1.lean); vx_outP calls Shelf42/NT130.lean (outThrough). -/
section
variable {l : Launch} {R : Room} {p : Program} {e : Env} {below : List Frame} {s : State} {sargs : Array Value} {y : MethodName} {len W9 : Nat}
theorem vx_backW {ws : List Cond} {rm : Room} {Pc : Array Value → State → Prop} {Qc : Array Value → State → Outcome → State → Prop} {XC : String → State → State → Prop} {mc ms : Nat} {free : Addr → Prop} {bytes : ByteArray} {maxL : Nat} {ret : Option FieldType} {hh : List (Nat × Nat × Nat × Nat)}
    (hM : vx_Met l y ws rm Pc Qc XC mc ms free) (hblind : FrameBlind Pc) (hrc : rm.cells = mc) (hrs : rm.slots = ms)
    (hframes : rm.frames + 1 ≤ R.frames) (hlocals : W9 + (maxL + 11) + rm.locals ≤ R.locals)
    (hws : ∀ w ∈ ws, ∀ a' U, s.WarmedH U.vm → w.before a' U = true) (hcode : Cond.codeWith y bytes maxL ret hh ∈ ws) (hinit : ∀ a' U, s.WarmedH U.vm → (Cond.initialized y.cls).before a' U = true) :
    vx_Back l R p e below s sargs y len W9 (PreOf R mc ms Pc) (PostOf Qc mc ms free) (vx_Post XC mc ms free) := by
  intro m meth c A g ig mk a X hg hsize hdg hW hn hp
  have h1 : (headSpec ws rm).pre.before a A.U = true := atoms_intro fun w hw => hws w hw _ _ X.warmed
  have h2 : (Cond.codeWith y bytes maxL ret hh).before a A.U = true := hws _ hcode _ _ X.warmed
  have h3 : (Cond.initialized y.cls).before a A.U = true := hinit _ _ X.warmed
  have h4 : A.cells + (headSpec ws rm).room.cells ≤ R.cells := by rw [show (headSpec ws rm).room.cells = mc from hrc]; exact hp.1
  have h5 : A.slots + (headSpec ws rm).room.slots ≤ R.slots := by rw [show (headSpec ws rm).room.slots = ms from hrs]; exact hp.2.1
  have hPc : Pc a (A.U.calling g mk a) := hblind _ _ _ _ hp.2.2
  obtain ⟨U, Ls, c0, s0⟩ := A
  dsimp only [Pt.U, Pt.locs, Pt.cells, Pt.slots] at h1 h2 h3 h4 h5 X hn hPc ⊢
  obtain ⟨m9, methY, cY, hn9, hmY, hcY, -, hlY, -⟩ := Cond.codeWith_spec h2
  cases Option.some.inj (hn9.symm.trans hn)
  obtain ⟨kY, hkY, -⟩ := className_of_methodNamed hn
  have hinitY : kY.init = .initialized := Cond.initialized_spec (findClass_of_methodNamed hn) hkY h3
  have h : At U g.method c below := by rw [hg]; exact X.here
  have hlocals9 : W9 + (maxL + 11) + (headSpec ws rm).room.locals ≤ R.locals := hlocals
  have happ : (headSpec ws rm).appliesLoose y e.platform (U.calling g mk a) = true :=
    Spec.appliesLoose_calling (g := g) h hdg hn hkY hinitY
      (X.room_calling (g := g) (R' := (headSpec ws rm).room) hsize hmY hcY hframes (by rw [hlY]; omega) h4 h5) h1
  obtain ⟨mid, hmid⟩ := h.above
  have hfr : (U.setTop g).frames = (.java g :: mid) ++ below := by rw [State.frames_setTop' g h.top, hmid]; rfl
  obtain ⟨o, s₂, hsteps, -, hend, hq⟩ := Steps.callFree hM p X.admits X.cas X.clock (acts := []) hfr happ hPc trivial
  have hq' : vx_Q Qc XC mc ms free a (U.calling g mk a) o s₂ := hq
  rw [State.frames_setTop' g h.top] at hend
  obtain ⟨g₀, hg0⟩ := Option.isSome_iff_exists.mp h.top
  obtain ⟨r, hr⟩ := State.topJava?_eq_some.mp hg0
  have hr' : (({ U with heap := s₂.heap, slotsUsed := s₂.slotsUsed } : State).setVm s₂.vm).frames = .java g₀ :: r := hr
  rcases hq' with ⟨hqc, L, hfe, hL⟩ | ⟨q, rfl, E, ce, L, hx, hce, hcv, hcl, hW₂, hsm, hL⟩
  · obtain ⟨⟨v, rfl⟩, hW₂, e2, q2, q3, q4, q5, q6⟩ := id hfe
    have e3 : s₂ = ({ (U.calling g mk a).setFrames s₂.frames with heap := s₂.heap, slotsUsed := s₂.slotsUsed } : State).setVm s₂.vm := by
      have : s₂ = ({ s₂ with vm := (U.calling g mk a).vm } : State).setVm s₂.vm := rfl
      rw [e2] at this
      exact this
    obtain ⟨c₂, i₂, len₂, hc₂, hd₂, hf₂⟩ := hend
    have hW' : U.WarmedH s₂.vm := hW₂
    have hcc : c₂ = c := by
      have h1 : s₂.code? g.method = U.code? g.method := by
        rw [State.code?_eq, State.code?_eq, hW'.alike.method?]
      exact Option.some.inj (hc₂.symm.trans (h1.trans h.code))
    subst hcc
    have hlen : len₂ = len := by rw [hdg] at hd₂; cases hd₂; rfl
    subst hlen
    have hs₂ : s₂ = (({ U with heap := s₂.heap, slotsUsed := s₂.slotsUsed } : State).setVm s₂.vm).setTop { g with pc := g.pc + len₂, stack := v.toList ++ g.stack } := by
      refine e3.trans ?_
      rw [hf₂, State.calling_eq h.top, State.setFrames_setFrames, State.setTop_of_frames _ hr', hr]
      rfl
    have hsame : U.sameButNew ({ U with heap := s₂.heap, slotsUsed := s₂.slotsUsed } : State) L mc ms := by
      refine ⟨?_, q2, q3, q4, q5, q6⟩
      obtain ⟨t, ht, -⟩ := State.frames_cons hr
      show ({ U with heap := s₂.heap, slotsUsed := s₂.slotsUsed } : State) = { U.setFrames U.frames with heap := s₂.heap, slotsUsed := s₂.slotsUsed }
      rw [State.setFrames_self ht]
    subst hg
    refine Or.inl ⟨v, ⟨(({ U with heap := s₂.heap, slotsUsed := s₂.slotsUsed } : State).setVm s₂.vm), Ls ++ L, c0 + mc, s0 + ms⟩,
      ⟨X.admits, X.cas, X.clock, X.frames, X.room, X.hears, X.method, X.code, (X.here.setHeapUsed s₂.heap s₂.slotsUsed).setVm hW'.alike, X.tail, State.WarmedH.trans X.warmed hW', X.limits, X.bytes, X.same.trans (hsame.setVm s.vm)⟩,
      ⟨g, mk, s₂, L, rfl, rfl, hqc, rfl, hL, rfl, rfl⟩, ?_⟩
    show Steps p.tables e below _ ((({ U with heap := s₂.heap, slotsUsed := s₂.slotsUsed } : State).setVm s₂.vm).setTop { g with pc := g.pc + len₂, stack := v.toList ++ g.stack })
    rw [← hs₂]
    exact hsteps
  · obtain ⟨e2, q2, q3, q4, q5, q6⟩ := id hsm
    have e3 : s₂ = ({ (U.calling g mk a).setFrames s₂.frames with heap := s₂.heap, slotsUsed := s₂.slotsUsed } : State).setVm s₂.vm := by
      have : s₂ = ({ s₂ with vm := (U.calling g mk a).vm } : State).setVm s₂.vm := rfl
      rw [e2] at this
      exact this
    have hf₂ : s₂.frames = .throwing q :: .java g :: U.frames.tail := hend
    have hW' : U.WarmedH s₂.vm := hW₂
    have hs₂ : s₂ = ((({ U with heap := s₂.heap, slotsUsed := s₂.slotsUsed } : State).setVm s₂.vm).setTop g).pushFrame (.throwing q) := by
      refine e3.trans ?_
      rw [hf₂, State.calling_eq h.top, State.setFrames_setFrames, State.pushFrame, State.frames_setTop _ hr', State.setTop_of_frames _ hr', State.setFrames_setFrames, hr]
      rfl
    have hsame : U.sameButNew ({ U with heap := s₂.heap, slotsUsed := s₂.slotsUsed } : State) L mc ms := by
      refine ⟨?_, q2, q3, q4, q5, q6⟩
      obtain ⟨t, ht, -⟩ := State.frames_cons hr
      show ({ U with heap := s₂.heap, slotsUsed := s₂.slotsUsed } : State) = { U.setFrames U.frames with heap := s₂.heap, slotsUsed := s₂.slotsUsed }
      rw [State.setFrames_self ht]
    subst hg
    refine Or.inr ⟨q, ⟨(({ U with heap := s₂.heap, slotsUsed := s₂.slotsUsed } : State).setVm s₂.vm), Ls ++ L, c0 + mc, s0 + ms⟩,
      ⟨X.admits, X.cas, X.clock, X.frames, X.room, X.hears, X.method, X.code, (X.here.setHeapUsed s₂.heap s₂.slotsUsed).setVm hW'.alike, X.tail, State.WarmedH.trans X.warmed hW', X.limits, X.bytes, X.same.trans (hsame.setVm s.vm)⟩,
      ⟨g, mk, s₂, L, E, ce, rfl, rfl, hx, hce, hcv, hcl, rfl, hL, rfl, rfl⟩, ?_⟩
    show Steps p.tables e below _ (((({ U with heap := s₂.heap, slotsUsed := s₂.slotsUsed } : State).setVm s₂.vm).setTop g).pushFrame (.throwing q))
    rw [← hs₂]
    exact hsteps
end
variable {p : Program} {l : Launch} {e : Env} {R : Room} {s : State} {m : MethodId} {args : Array Value} {below : List Frame} {meth : Method} {c : Code} {T : State} {H : Heap} {locs : List Loc} {cells slots : Nat}
theorem vx_callVX (X : Stand p l e R s m args below meth c T locs cells slots) (hexec : p.tables.exec = Jvm.exec) {own C : String} {index : Nat} {y : MethodName} {bytes : ByteArray} {maxL : Nat} {ret : Option FieldType} {hh : List (Nat × Nat × Nat × Nat)}
    (hown : s.vm.findClass own = some m.cls) (hlink : (Cond.methodLink own index y).before args s = true) (hinst : (Cond.instanceMethod y).before args s = true) (hsel : (Cond.selects C y y).before args s = true)
    (hcode : (Cond.codeWith y bytes maxL ret hh).before args s = true) (hy : y.cls ≠ "java/lang/invoke/MethodHandle" ∧ y.cls ≠ "java/lang/invoke/VarHandle")
    {W9 : Nat} {Pre : Pt → Array Value → Prop} {Post : Pt → Array Value → Option Value → Pt → Prop} {PostX : Pt → Array Value → Addr → Pt → Prop} (hK : vx_Back l R p e below s args y 3 W9 Pre Post PostX)
    {b : Addr} {cellB : Cell} (hcell : T.heap[b]? = some cellB) (hobj : cellB.vm.isStatics = false) (hcls : s.vm.findClass C = some cellB.cls)
    {g : JFrame} (hg : g.method = m) (hsize : g.locals.size = c.maxLocals) {argsL rest : List Value} (hlen : ∀ sig, parseMethodDescriptor y.desc = some sig → argsL.length = sig.parameters.length)
    (hstack : g.stack = argsL.reverse ++ .ref b :: rest) (hW : 2 * g.monitorRoom + (rest.map fun v => v.category).sum ≤ W9) (hdg : decode c.code g.pc = .ok (.invokevirtual index, 3))
    (hpre : ∀ vm₁, s.WarmedH vm₁ → Pre ⟨T.setVm vm₁, locs, cells, slots⟩ (Value.ref b :: argsL).toArray) :
    (∃ (v : Option Value) (vm₁ : Vm) (B : Pt), s.WarmedH vm₁ ∧ Stand p l e R s m args below meth c B.U B.locs B.cells B.slots ∧ Post ⟨T.setVm vm₁, locs, cells, slots⟩ (Value.ref b :: argsL).toArray v B ∧
      ∀ target, Steps p.tables e below (B.U.setTop { g with pc := g.pc + 3, stack := v.toList ++ rest }) target → Steps p.tables e below (T.setTop g) target) ∨
    (∃ (q : Addr) (vm₁ : Vm) (B : Pt), s.WarmedH vm₁ ∧ Stand p l e R s m args below meth c B.U B.locs B.cells B.slots ∧ PostX ⟨T.setVm vm₁, locs, cells, slots⟩ (Value.ref b :: argsL).toArray q B ∧
      Steps p.tables e below (T.setTop g) ((B.U.setTop { g with stack := rest }).pushFrame (.throwing q))) := by
  obtain ⟨mk, methM, hnamed, hmethM, hstM, habM⟩ := Cond.instanceMethod_spec hinst
  obtain ⟨m8, methM', cM, hn8, hmethM', -, -, -, -, -, -, hsigM⟩ := Cond.codeWith_spec hcode
  cases Option.some.inj (hn8.symm.trans hnamed)
  cases hmethM.symm.trans hmethM'
  obtain ⟨c2, r2, m2, q1, q2, q3, q4, kP, hkP, hkPi⟩ := Cond.selects_spec hsel
  cases hcls.symm.trans q1
  cases (State.methodFound?_of_named hnamed hy).symm.trans q2
  cases hnamed.symm.trans q3
  have hselP : selectMethod e.platform s.vm cellB.cls mk = .method mk := by rw [Launch.admits_selectMethod X.admits]; exact q4
  obtain ⟨vm₁, X₁, hstep₁⟩ := X.invokevirtual hexec hown hlink hnamed hmethM hstM hkP hkPi hy (a := b) (cell := cellB) hcell
    (fun z h => by rw [h] at hobj; cases hobj) hselP hmethM habM hkP hkPi (g := g) hg (argsL := argsL) (rest := rest) (hlen _ hsigM) hstack hdg
  rcases hK m meth c ⟨T.setVm vm₁, locs, cells, slots⟩ { g with stack := rest } (.invokevirtual index) mk (Value.ref b :: argsL).toArray X₁ hg hsize hdg hW (X₁.named hnamed) (hpre vm₁ X₁.warmed) with ⟨v, B, X', hpost, hsteps⟩ | ⟨q, B, X', hpost, hsteps⟩
  · exact Or.inl ⟨v, vm₁, B, X₁.warmed, X', hpost, fun target h => hstep₁ _ fun acts => by rw [doInvoke_state]; exact hsteps.trans h⟩
  · exact Or.inr ⟨q, vm₁, B, X₁.warmed, X', hpost, hstep₁ _ fun acts => by rw [doInvoke_state]; exact hsteps⟩
theorem vx_callSX (X : Stand p l e R s m args below meth c T locs cells slots) (hexec : p.tables.exec = Jvm.exec) {own : String} {index : Nat} {y : MethodName} {bytes : ByteArray} {maxL : Nat} {ret : Option FieldType} {hh : List (Nat × Nat × Nat × Nat)}
    (hown : s.vm.findClass own = some m.cls) (hlink : (Cond.methodLink own index y).before args s = true) (hstat : (Cond.static y).before args s = true) (hinit : (Cond.initialized y.cls).before args s = true)
    (hcode : (Cond.codeWith y bytes maxL ret hh).before args s = true) (hy : y.cls ≠ "java/lang/invoke/MethodHandle" ∧ y.cls ≠ "java/lang/invoke/VarHandle")
    {W9 : Nat} {Pre : Pt → Array Value → Prop} {Post : Pt → Array Value → Option Value → Pt → Prop} {PostX : Pt → Array Value → Addr → Pt → Prop} (hK : vx_Back l R p e below s args y 3 W9 Pre Post PostX)
    {g : JFrame} (hg : g.method = m) (hsize : g.locals.size = c.maxLocals) {argsL rest : List Value} (hlen : ∀ sig, parseMethodDescriptor y.desc = some sig → argsL.length = sig.parameters.length)
    (hstack : g.stack = argsL.reverse ++ rest) (hW : 2 * g.monitorRoom + (rest.map fun v => v.category).sum ≤ W9) (hdg : decode c.code g.pc = .ok (.invokestatic index, 3))
    (hpre : ∀ vm₁, s.WarmedH vm₁ → Pre ⟨T.setVm vm₁, locs, cells, slots⟩ argsL.toArray) :
    (∃ (v : Option Value) (vm₁ : Vm) (B : Pt), s.WarmedH vm₁ ∧ Stand p l e R s m args below meth c B.U B.locs B.cells B.slots ∧ Post ⟨T.setVm vm₁, locs, cells, slots⟩ argsL.toArray v B ∧
      ∀ target, Steps p.tables e below (B.U.setTop { g with pc := g.pc + 3, stack := v.toList ++ rest }) target → Steps p.tables e below (T.setTop g) target) ∨
    (∃ (q : Addr) (vm₁ : Vm) (B : Pt), s.WarmedH vm₁ ∧ Stand p l e R s m args below meth c B.U B.locs B.cells B.slots ∧ PostX ⟨T.setVm vm₁, locs, cells, slots⟩ argsL.toArray q B ∧
      Steps p.tables e below (T.setTop g) ((B.U.setTop { g with stack := rest }).pushFrame (.throwing q))) := by
  obtain ⟨mk, methM, cM, hnamed, hmethM, -, -, -, -, -, -, hsigM⟩ := Cond.codeWith_spec hcode
  have hstatic : methM.isStatic = true := Cond.static_spec hnamed hmethM hstat
  obtain ⟨kP, hkP, -⟩ := className_of_methodNamed hnamed
  have hinitP : kP.init = .initialized := Cond.initialized_spec (findClass_of_methodNamed hnamed) hkP hinit
  obtain ⟨vm₁, X₁, hstep₁⟩ := X.invokestatic hexec hown hlink hnamed hmethM hstatic hkP hinitP hy (g := g) hg (argsL := argsL) (rest := rest) (hlen _ hsigM) hstack hdg
  rcases hK m meth c ⟨T.setVm vm₁, locs, cells, slots⟩ { g with stack := rest } (.invokestatic index) mk argsL.toArray X₁ hg hsize hdg hW (X₁.named hnamed) (hpre vm₁ X₁.warmed) with ⟨v, B, X', hpost, hsteps⟩ | ⟨q, B, X', hpost, hsteps⟩
  · exact Or.inl ⟨v, vm₁, B, X₁.warmed, X', hpost, fun target h => hstep₁ _ fun acts => by rw [doInvoke_state]; exact hsteps.trans h⟩
  · exact Or.inr ⟨q, vm₁, B, X₁.warmed, X', hpost, hstep₁ _ fun acts => by rw [doInvoke_state]; exact hsteps⟩
theorem vx_callVW (X : Stand p l e R s m args below meth c T locs cells slots) (hexec : p.tables.exec = Jvm.exec) {own C : String} {index : Nat} {y : MethodName} {bytes : ByteArray} {maxL : Nat} {ret : Option FieldType} {hh : List (Nat × Nat × Nat × Nat)}
    (hown : s.vm.findClass own = some m.cls) (hlink : (Cond.methodLink own index y).before args s = true) (hinst : (Cond.instanceMethod y).before args s = true) (hsel : (Cond.selects C y y).before args s = true)
    (hcode : (Cond.codeWith y bytes maxL ret hh).before args s = true) (hy : y.cls ≠ "java/lang/invoke/MethodHandle" ∧ y.cls ≠ "java/lang/invoke/VarHandle")
    {W9 : Nat} {Pre : Pt → Array Value → Prop} {Post : Pt → Array Value → Option Value → Pt → Prop} (hK : Back l R p e below s args y 3 W9 Pre Post)
    {b : Addr} {cellB : Cell} (hcell : T.heap[b]? = some cellB) (hobj : cellB.vm.isStatics = false) (hcls : s.vm.findClass C = some cellB.cls)
    {g : JFrame} (hg : g.method = m) (hsize : g.locals.size = c.maxLocals) {argsL rest : List Value} (hlen : ∀ sig, parseMethodDescriptor y.desc = some sig → argsL.length = sig.parameters.length)
    (hstack : g.stack = argsL.reverse ++ .ref b :: rest) (hW : 2 * g.monitorRoom + (rest.map fun v => v.category).sum ≤ W9) (hdg : decode c.code g.pc = .ok (.invokevirtual index, 3))
    (hpre : ∀ vm₁, s.WarmedH vm₁ → Pre ⟨T.setVm vm₁, locs, cells, slots⟩ (Value.ref b :: argsL).toArray) :
    ∃ (v : Option Value) (vm₁ : Vm) (B : Pt), s.WarmedH vm₁ ∧ Stand p l e R s m args below meth c B.U B.locs B.cells B.slots ∧ Post ⟨T.setVm vm₁, locs, cells, slots⟩ (Value.ref b :: argsL).toArray v B ∧
      ∀ target, Steps p.tables e below (B.U.setTop { g with pc := g.pc + 3, stack := v.toList ++ rest }) target → Steps p.tables e below (T.setTop g) target := by
  obtain ⟨mk, methM, hnamed, hmethM, hstM, habM⟩ := Cond.instanceMethod_spec hinst
  obtain ⟨m8, methM', cM, hn8, hmethM', -, -, -, -, -, -, hsigM⟩ := Cond.codeWith_spec hcode
  cases Option.some.inj (hn8.symm.trans hnamed)
  cases hmethM.symm.trans hmethM'
  obtain ⟨c2, r2, m2, q1, q2, q3, q4, kP, hkP, hkPi⟩ := Cond.selects_spec hsel
  cases hcls.symm.trans q1
  cases (State.methodFound?_of_named hnamed hy).symm.trans q2
  cases hnamed.symm.trans q3
  have hselP : selectMethod e.platform s.vm cellB.cls mk = .method mk := by rw [Launch.admits_selectMethod X.admits]; exact q4
  obtain ⟨vm₁, X₁, hstep₁⟩ := X.invokevirtual hexec hown hlink hnamed hmethM hstM hkP hkPi hy (a := b) (cell := cellB) hcell
    (fun z h => by rw [h] at hobj; cases hobj) hselP hmethM habM hkP hkPi (g := g) hg (argsL := argsL) (rest := rest) (hlen _ hsigM) hstack hdg
  obtain ⟨v, B, X', hpost, hsteps⟩ := hK m meth c ⟨T.setVm vm₁, locs, cells, slots⟩ { g with stack := rest } (.invokevirtual index) mk (Value.ref b :: argsL).toArray X₁ hg hsize hdg hW (X₁.named hnamed) (hpre vm₁ X₁.warmed)
  exact ⟨v, vm₁, B, X₁.warmed, X', hpost, fun target h => hstep₁ _ fun acts => by rw [doInvoke_state]; exact hsteps.trans h⟩
abbrev vx_CVW (R : Room) (s : State) (args : Array Value) (own C : String) (index : Nat) (y : MethodName) (bytes : ByteArray) (maxL : Nat) (ret : Option FieldType) (hh : List (Nat × Nat × Nat × Nat)) (ws : List Cond) (rm : Room) (mc ms n : Nat) : Prop :=
  (rm.cells = mc ∧ rm.slots = ms ∧ rm.frames + 1 ≤ R.frames ∧ 8 + (maxL + 11) + rm.locals ≤ R.locals ∧ (∀ w ∈ ws, ∀ (a' : Array Value) (U : State), s.WarmedH U.vm → w.before a' U = true) ∧ Cond.codeWith y bytes maxL ret hh ∈ ws) ∧
  (Cond.codeWith y bytes maxL ret hh).before args s = true ∧ (Cond.initialized y.cls).before args s = true ∧ (y.cls ≠ "java/lang/invoke/MethodHandle" ∧ y.cls ≠ "java/lang/invoke/VarHandle") ∧
  (∀ sig, parseMethodDescriptor y.desc = some sig → n = sig.parameters.length) ∧ (Cond.methodLink own index y).before args s = true ∧ (Cond.instanceMethod y).before args s = true ∧ (Cond.selects C y y).before args s = true
theorem vx_cwVW {own C : String} {index maxL mc ms : Nat} {y : MethodName} {bytes : ByteArray} {ret : Option FieldType} {hh : List (Nat × Nat × Nat × Nat)} {Ts ws ws' : List Cond} {rm : Room} (n : Nat) (ht : ∀ w ∈ Ts, w.before args s = true) (hT : GoodIn Ts (wsV own index C y ws)) (hw : ws = Cond.codeWith y bytes maxL ret hh :: ws') (hrc : rm.cells = mc) (hrs : rm.slots = ms)
    (hd : y.cls = C ∧ y.cls ≠ "java/lang/invoke/MethodHandle" ∧ y.cls ≠ "java/lang/invoke/VarHandle" ∧ (parseMethodDescriptor y.desc).map (fun d => d.parameters.length) = some n) (hR : rm.frames + 1 ≤ R.frames ∧ 8 + (maxL + 11) + rm.locals ≤ R.locals) :
    vx_CVW R s args own C index y bytes maxL ret hh ws rm mc ms n := by
  obtain ⟨hC, hd⟩ := hd
  subst hC
  have ok : ∀ w ∈ wsV own index y.cls y ws, w.before args s = true := fun w h => ht w (hT w h).1
  have hG : GoodIn Ts ws := fun w h => hT w (by unfold wsV; exact List.mem_append_right _ h)
  have hc : Cond.codeWith y bytes maxL ret hh ∈ ws := by rw [hw]; exact List.mem_cons_self
  refine ⟨⟨hrc, hrs, hR.1, hR.2, pay_in ht hG, hc⟩, ht _ (hG _ hc).1, ok _ (by simp [wsV]), ⟨hd.1, hd.2.1⟩, fun sig h => ?_, ok _ (by simp [wsV]), ok _ (by simp [wsV]), ok _ (by simp [wsV])⟩
  have h2 := hd.2.2
  rw [h] at h2
  exact (Option.some.inj h2).symm
theorem vx_runVW {y : MethodName} {bytes cc : ByteArray} {maxL nL mc ms n index : Nat} {ret : Option FieldType} {hh : List (Nat × Nat × Nat × Nat)} {ws : List Cond} {rm : Room} {Pc : Array Value → State → Prop} {Qc : Array Value → State → Outcome → State → Prop} {free : Addr → Prop} {Ts : List Cond} {own C : String} {b : Addr} {As rest : List Value} {g : JFrame}
    (S : CallFix p m c cc nL s args Ts own) (hM : Met l y ws rm Pc Qc mc ms free) (cw : vx_CVW R s args own C index y bytes maxL ret hh ws rm mc ms n) (hp : PreV s H C b Pc As)
    (hg : g.method = m) (hn : As.length = n) (hsize : g.locals.size = nL) (hstack : g.stack = As.reverse ++ .ref b :: rest) (hW : 2 * g.monitorRoom + (rest.map fun v => v.category).sum ≤ 8) (hdg : decode cc g.pc = .ok (.invokevirtual index, 3)) (hf : cells + mc ≤ R.cells ∧ slots + ms ≤ R.slots) :
    va_Run p l e R s m args below meth c H locs cells slots mc ms g rest (Qc (Value.ref b :: As).toArray) free := by
  obtain ⟨⟨hrc, hrs, hfr, hlo, hws, hcw⟩, hcode, hini, hy, hlen, hl, hin, hse⟩ := cw
  have hK : Back l R p e below s args y 3 8 (PreOf R mc ms Pc) (PostOf Qc mc ms free) := va_backW (hh := hh) (bytes := bytes) (maxL := maxL) (ret := ret) hM hp.1 hrc hrs hfr hlo hws hcw (fun a' U hW => word_at hW (Or.inl (by first | rfl | simp [Cond.onTables, Cond.keeps, Cond.steady])) hini)
  obtain ⟨hx, hb, hml, ho, -⟩ := S
  obtain ⟨-, ⟨cellB, hcB, hoB, hclB⟩, hPc⟩ := hp
  intro T hT X
  obtain ⟨v, vm₁, ⟨U', l2, c2, s2⟩, hW₁, X', ⟨g', mk, t, L, e1, e2, hq, h1, hL, h2, h3⟩, st⟩ := vx_callVW X hx (C := C) (hh := hh) (bytes := bytes) (maxL := maxL) (ret := ret) ho hl hin hse hcode hy hK (by rw [hT]; exact hcB) hoB hclB hg (hsize.trans hml.symm) (argsL := As) (rest := rest) (fun sig h => hn.trans (hlen sig h)) hstack hW (by rw [hb]; exact hdg)
    (fun vm₁ hW₁ => ⟨hf.1, hf.2, hPc (T.setVm vm₁) hT hW₁⟩)
  dsimp only [Pt.U, Pt.locs, Pt.cells, Pt.slots] at X' e1 e2 h1 h2 h3 st
  subst h1; subst h2; subst h3
  exact ⟨v, (T.setVm vm₁).calling g' mk (Value.ref b :: As).toArray, t, U', L, hT, X', hL, e1, e2, hq, st⟩
section
variable {y : MethodName} {bytes cc : ByteArray} {maxL nL mc ms n index : Nat} {ret : Option FieldType} {ws : List Cond} {rm : Room} {Pc : Array Value → State → Prop} {Qc : Array Value → State → Outcome → State → Prop} {XC : String → State → State → Prop} {free : Addr → Prop} {Ts : List Cond} {own C : String} {b : Addr} {As rest : List Value} {g : JFrame}
theorem vx_runVX {hh : List (Nat × Nat × Nat × Nat)} (S : CallFix p m c cc nL s args Ts own) (hM : vx_Met l y ws rm Pc Qc XC mc ms free) (cw : vx_CVW R s args own C index y bytes maxL ret hh ws rm mc ms n) (hp : PreV s H C b Pc As)
    (hg : g.method = m) (hn : As.length = n) (hsize : g.locals.size = nL) (hstack : g.stack = As.reverse ++ .ref b :: rest) (hW : 2 * g.monitorRoom + (rest.map fun v => v.category).sum ≤ 8) (hdg : decode cc g.pc = .ok (.invokevirtual index, 3)) (hf : cells + mc ≤ R.cells ∧ slots + ms ≤ R.slots) :
    vx_Run p l e R s m args below meth c H locs cells slots mc ms g rest (Qc (Value.ref b :: As).toArray) XC free := by
  obtain ⟨⟨hrc, hrs, hfr, hlo, hws, hcw⟩, hcode, hini, hy, hlen, hl, hin, hse⟩ := cw
  have hK : vx_Back l R p e below s args y 3 8 (PreOf R mc ms Pc) (PostOf Qc mc ms free) (vx_Post XC mc ms free) := vx_backW (hh := hh) (bytes := bytes) (maxL := maxL) (ret := ret) hM hp.1 hrc hrs hfr hlo hws hcw (fun a' U hW => word_at hW (Or.inl (by first | rfl | simp [Cond.onTables, Cond.keeps, Cond.steady])) hini)
  obtain ⟨hx, hb, hml, ho, -⟩ := S
  obtain ⟨-, ⟨cellB, hcB, hoB, hclB⟩, hPc⟩ := hp
  intro T hT X
  rcases vx_callVX X hx (C := C) (hh := hh) (bytes := bytes) (maxL := maxL) (ret := ret) ho hl hin hse hcode hy hK (by rw [hT]; exact hcB) hoB hclB hg (hsize.trans hml.symm) (argsL := As) (rest := rest) (fun sig h => hn.trans (hlen sig h)) hstack hW (by rw [hb]; exact hdg)
    (fun vm₁ hW₁ => ⟨hf.1, hf.2, hPc (T.setVm vm₁) hT hW₁⟩) with ⟨v, vm₁, ⟨U', l2, c2, s2⟩, hW₁, X', ⟨g', mk, t, L, e1, e2, hq, h1, hL, h2, h3⟩, st⟩ | ⟨q, vm₁, ⟨U', l2, c2, s2⟩, hW₁, X', ⟨g', mk, t, L, E, ce, e1, e2, hq, hce, hcv, hcl, h1, hL, h2, h3⟩, st⟩
  · dsimp only [Pt.U, Pt.locs, Pt.cells, Pt.slots] at X' e1 e2 h1 h2 h3 st
    subst h1; subst h2; subst h3
    exact Or.inl ⟨v, (T.setVm vm₁).calling g' mk (Value.ref b :: As).toArray, t, U', L, hT, X', hL, e1, e2, hq, st⟩
  · dsimp only [Pt.U, Pt.locs, Pt.cells, Pt.slots] at X' e1 e2 h1 h2 h3 st hcl
    subst h1; subst h2; subst h3
    exact Or.inr ⟨q, (T.setVm vm₁).calling g' mk (Value.ref b :: As).toArray, t, U', L, E, ce, hT, X', hL, e1, e2, hq, hce, hcv, vx_cls hW₁ hcl, st⟩
theorem vx_runSX {hh : List (Nat × Nat × Nat × Nat)} (S : CallFix p m c cc nL s args Ts own) (hM : vx_Met l y ws rm Pc Qc XC mc ms free) (cw : vx_CSW R s args own index y bytes maxL ret hh ws rm mc ms n) (hp : PreS s H Pc As)
    (hg : g.method = m) (hn : As.length = n) (hsize : g.locals.size = nL) (hstack : g.stack = As.reverse ++ rest) (hW : 2 * g.monitorRoom + (rest.map fun v => v.category).sum ≤ 8) (hdg : decode cc g.pc = .ok (.invokestatic index, 3)) (hf : cells + mc ≤ R.cells ∧ slots + ms ≤ R.slots) :
    vx_Run p l e R s m args below meth c H locs cells slots mc ms g rest (Qc As.toArray) XC free := by
  obtain ⟨⟨hrc, hrs, hfr, hlo, hws, hcw⟩, hcode, hini, hy, hlen, hl, hstt⟩ := cw
  have hK : vx_Back l R p e below s args y 3 8 (PreOf R mc ms Pc) (PostOf Qc mc ms free) (vx_Post XC mc ms free) := vx_backW (hh := hh) (bytes := bytes) (maxL := maxL) (ret := ret) hM hp.1 hrc hrs hfr hlo hws hcw (fun a' U hW => word_at hW (Or.inl (by first | rfl | simp [Cond.onTables, Cond.keeps, Cond.steady])) hini)
  obtain ⟨hx, hb, hml, ho, -⟩ := S
  intro T hT X
  rcases vx_callSX X hx (hh := hh) (bytes := bytes) (maxL := maxL) (ret := ret) ho hl hstt hini hcode hy hK hg (hsize.trans hml.symm) (argsL := As) (rest := rest) (fun sig h => hn.trans (hlen sig h)) hstack hW (by rw [hb]; exact hdg)
    (fun vm₁ hW₁ => ⟨hf.1, hf.2, hp.2 (T.setVm vm₁) hT hW₁⟩) with ⟨v, vm₁, ⟨U', l2, c2, s2⟩, hW₁, X', ⟨g', mk, t, L, e1, e2, hq, h1, hL, h2, h3⟩, st⟩ | ⟨q, vm₁, ⟨U', l2, c2, s2⟩, hW₁, X', ⟨g', mk, t, L, E, ce, e1, e2, hq, hce, hcv, hcl, h1, hL, h2, h3⟩, st⟩
  · dsimp only [Pt.U, Pt.locs, Pt.cells, Pt.slots] at X' e1 e2 h1 h2 h3 st
    subst h1; subst h2; subst h3
    exact Or.inl ⟨v, (T.setVm vm₁).calling g' mk As.toArray, t, U', L, hT, X', hL, e1, e2, hq, st⟩
  · dsimp only [Pt.U, Pt.locs, Pt.cells, Pt.slots] at X' e1 e2 h1 h2 h3 st hcl
    subst h1; subst h2; subst h3
    exact Or.inr ⟨q, (T.setVm vm₁).calling g' mk As.toArray, t, U', L, E, ce, hT, X', hL, e1, e2, hq, hce, hcv, vx_cls hW₁ hcl, st⟩
end
end VXH
theorem vx_ofWH {l : Launch} {y : MethodName} {ws ws' : List Cond} {rm : Room} {Pc : Array Value → State → Prop} {Qc : Array Value → State → Outcome → State → Prop} {XC : String → State → State → Prop} {mc ms : Nat} {free : Addr → Prop} {cc : ByteArray} {maxL : Nat} {ret : Option FieldType} {hh : List (Nat × Nat × Nat × Nat)}
    (hy : plainName y.cls = true) (hw : ws = Cond.codeWith y cc maxL ret hh :: ws')
    (body : ∀ p e s m args below meth c s₁, BodyLoose p l y (headSpec ws rm) cc maxL ret e s m args below meth c s₁ → c.maxLocals = maxL → Pc args s →
      W p l e (headSpec ws rm).room s m args below meth c s.heap [] 0 0 (vx_MQ below Qc XC args s mc ms free) (entryFrame m args maxL)) : vx_Met l y ws rm Pc Qc XC mc ms free := by
  refine MetFree.of_bodyS (code := cc) (maxLocals := maxL) (ret := ret) hy ?_ ?_
  · intro args s m h hn
    obtain ⟨m9, meth, c, hn9, h1, h2, h3, h4, -, h5, h6, -⟩ := Cond.codeWith_spec (atoms_spec (ws := ws) h _ (by rw [hw]; exact List.mem_cons_self))
    cases hn.symm.trans hn9
    exact ⟨meth, c, h1, h2, h3, h4, h5, h6⟩
  · intro p e s m args below meth c s₁ B hml hP _
    have hh0 : s₁.heap = s.heap := by rw [B.state]; rfl
    obtain ⟨t, a1, o, b1, b2, b3⟩ := body p e s m args below meth c s₁ B hml hP s₁ hh0 (Stand.of_body B)
    exact ⟨t, o, a1, b1, b2, b3⟩
/-! ===== END ===== -/
end
section
def RX0 : String := "WeighOff$Course"
def TX0 : u_T := fun k => match k with
  | 0 => ("WeighOff$Course", "sheet", "LWeighOff$Sheet;", true)
  | 1 => ("WeighOff$Course", "day", "I", false)
  | 2 => ("WeighOff$Course", "line", "[I", true)
  | 3 => ("WeighOff$Course", "lineLength", "I", false)
  | 4 => ("WeighOff$Course", "position", "I", false)
  | 5 => ("WeighOff$Course", "left", "[Z", true)
  | 6 => ("WeighOff$Course", "leftCount", "I", false)
  | 7 => ("WeighOff$Course", "throughCut", "[Z", true)
  | _ => ("WeighOff$Course", "takenPlaces", "[I", true)
def tyX0 : Nat → FieldType := fun k => match k with
  | 0 => .object "WeighOff$Sheet"
  | 1 => .int
  | 2 => .array .int
  | 3 => .int
  | 4 => .int
  | 5 => .array .boolean
  | 6 => .int
  | 7 => .array .boolean
  | _ => .array .int
abbrev wsX00 : List Cond := u_ws RX0 TX0 9
theorem nmX0 : ∀ a, a < 9 → ∀ b, b < 9 → a ≠ b → (TX0 a).2.1 ≠ (TX0 b).2.1 := by decide +kernel
theorem tyX0_ok : ∀ k, k < 9 → parseFieldDescriptor (TX0 k).2.2.1 = some (tyX0 k) := by decide +kernel
abbrev cX0_init : ByteArray := prog_2_method_1_code
def yX0_init : MethodName := ⟨RX0, "<init>", "(LWeighOff$Sheet;)V"⟩
abbrev cX0_restart : ByteArray := prog_2_method_2_code
def yX0_restart : MethodName := ⟨RX0, "restart", "()V"⟩
abbrev cX0_today : ByteArray := prog_2_method_3_code
def yX0_today : MethodName := ⟨RX0, "today", "()I"⟩
abbrev cX0_whoseTurn : ByteArray := prog_2_method_4_code
def yX0_whoseTurn : MethodName := ⟨RX0, "whoseTurn", "()I"⟩
abbrev cX0_hasLeft : ByteArray := prog_2_method_5_code
def yX0_hasLeft : MethodName := ⟨RX0, "hasLeft", "(I)Z"⟩
abbrev cX0_howManyLeft : ByteArray := prog_2_method_6_code
def yX0_howManyLeft : MethodName := ⟨RX0, "howManyLeft", "()I"⟩
abbrev cX0_dismiss : ByteArray := prog_2_method_7_code
def yX0_dismiss : MethodName := ⟨RX0, "dismiss", "(I)V"⟩
abbrev cX0_goOn : ByteArray := prog_2_method_8_code
def yX0_goOn : MethodName := ⟨RX0, "goOn", "()V"⟩
abbrev cX0_endDay : ByteArray := prog_2_method_9_code
def yX0_endDay : MethodName := ⟨RX0, "endDay", "()V"⟩
abbrev cX0_takePlaces : ByteArray := prog_2_method_10_code
def yX0_takePlaces : MethodName := ⟨RX0, "takePlaces", "()V"⟩
abbrev cX0_makeCut : ByteArray := prog_2_method_11_code
def yX0_makeCut : MethodName := ⟨RX0, "makeCut", "()V"⟩
abbrev cX0_lineUp : ByteArray := prog_2_method_12_code
def yX0_lineUp : MethodName := ⟨RX0, "lineUp", "()V"⟩
abbrev cX0_lineUpByNumber : ByteArray := prog_2_method_13_code
def yX0_lineUpByNumber : MethodName := ⟨RX0, "lineUpByNumber", "()V"⟩
abbrev cX0_lineUpByPlace : ByteArray := prog_2_method_14_code
def yX0_lineUpByPlace : MethodName := ⟨RX0, "lineUpByPlace", "()V"⟩
abbrev cX0_putInLine : ByteArray := prog_2_method_15_code
def yX0_putInLine : MethodName := ⟨RX0, "putInLine", "(I)V"⟩
def RX1 : String := "WeighOff$Sheet"
def TX1 : u_T := fun k => match k with
  | 0 => ("WeighOff$Sheet", "growers", "I", false)
  | 1 => ("WeighOff$Sheet", "entries", "I", false)
  | 2 => ("WeighOff$Sheet", "marks", "[I", true)
  | 3 => ("WeighOff$Sheet", "tilts", "[I", true)
  | 4 => ("WeighOff$Sheet", "measured", "[I", true)
  | _ => ("WeighOff$Sheet", "ranked", "[I", true)
def tyX1 : Nat → FieldType := fun k => match k with
  | 0 => .int
  | 1 => .int
  | 2 => .array .int
  | 3 => .array .int
  | 4 => .array .int
  | _ => .array .int
abbrev wsX10 : List Cond := u_ws RX1 TX1 6
theorem nmX1 : ∀ a, a < 6 → ∀ b, b < 6 → a ≠ b → (TX1 a).2.1 ≠ (TX1 b).2.1 := by decide +kernel
theorem tyX1_ok : ∀ k, k < 6 → parseFieldDescriptor (TX1 k).2.2.1 = some (tyX1 k) := by decide +kernel
abbrev cX1_init : ByteArray := prog_3_method_1_code
def yX1_init : MethodName := ⟨RX1, "<init>", "()V"⟩
abbrev cX1_clearFor : ByteArray := prog_3_method_2_code
def yX1_clearFor : MethodName := ⟨RX1, "clearFor", "(I)V"⟩
abbrev cX1_enter : ByteArray := prog_3_method_3_code
def yX1_enter : MethodName := ⟨RX1, "enter", "(IIIII)V"⟩
abbrev cX1_isMeasuredCrack : ByteArray := prog_3_method_4_code
def yX1_isMeasuredCrack : MethodName := ⟨RX1, "isMeasuredCrack", "(II)Z"⟩
abbrev cX1_makeSound : ByteArray := prog_3_method_5_code
def yX1_makeSound : MethodName := ⟨RX1, "makeSound", "(II)I"⟩
abbrev cX1_howManyGrowers : ByteArray := prog_3_method_6_code
def yX1_howManyGrowers : MethodName := ⟨RX1, "howManyGrowers", "()I"⟩
abbrev cX1_howManyEntries : ByteArray := prog_3_method_7_code
def yX1_howManyEntries : MethodName := ⟨RX1, "howManyEntries", "()I"⟩
abbrev cX1_hasEntry : ByteArray := prog_3_method_8_code
def yX1_hasEntry : MethodName := ⟨RX1, "hasEntry", "(II)Z"⟩
abbrev cX1_markOn : ByteArray := prog_3_method_9_code
def yX1_markOn : MethodName := ⟨RX1, "markOn", "(II)I"⟩
abbrev cX1_tiltOn : ByteArray := prog_3_method_10_code
def yX1_tiltOn : MethodName := ⟨RX1, "tiltOn", "(II)I"⟩
abbrev cX1_valueOn : ByteArray := prog_3_method_11_code
def yX1_valueOn : MethodName := ⟨RX1, "valueOn", "(III)I"⟩
abbrev cX1_latestDayOf : ByteArray := prog_3_method_12_code
def yX1_latestDayOf : MethodName := ⟨RX1, "latestDayOf", "(I)I"⟩
abbrev cX1_latestTiltOf : ByteArray := prog_3_method_13_code
def yX1_latestTiltOf : MethodName := ⟨RX1, "latestTiltOf", "(I)I"⟩
abbrev cX1_bestOf : ByteArray := prog_3_method_14_code
def yX1_bestOf : MethodName := ⟨RX1, "bestOf", "(I)I"⟩
abbrev cX1_placeOf : ByteArray := prog_3_method_15_code
def yX1_placeOf : MethodName := ⟨RX1, "placeOf", "(I)I"⟩
abbrev cX1_isBefore : ByteArray := prog_3_method_16_code
def yX1_isBefore : MethodName := ⟨RX1, "isBefore", "(II)Z"⟩
abbrev cX1_rank : ByteArray := prog_3_method_17_code
def yX1_rank : MethodName := ⟨RX1, "rank", "(II)V"⟩
abbrev cX1_isWeight : ByteArray := prog_3_method_18_code
def yX1_isWeight : MethodName := ⟨RX1, "isWeight", "(I)Z"⟩
abbrev cX1_slot : ByteArray := prog_3_method_19_code
def yX1_slot : MethodName := ⟨RX1, "slot", "(II)I"⟩
def RX2 : String := "WeighOff"
def TX2 : u_T := fun k => match k with
  | 0 => ("WeighOff", "sheet", "LWeighOff$Sheet;", true)
  | 1 => ("WeighOff", "course", "LWeighOff$Course;", true)
  | 2 => ("WeighOff", "levelOn", "Z", false)
  | 3 => ("WeighOff", "recordPounds", "I", false)
  | 4 => ("WeighOff", "recordCount", "I", false)
  | _ => ("WeighOff", "prizePounds", "I", false)
def tyX2 : Nat → FieldType := fun k => match k with
  | 0 => .object "WeighOff$Sheet"
  | 1 => .object "WeighOff$Course"
  | 2 => .boolean
  | 3 => .int
  | 4 => .int
  | _ => .int
abbrev wsX20 : List Cond := u_ws RX2 TX2 6
theorem nmX2 : ∀ a, a < 6 → ∀ b, b < 6 → a ≠ b → (TX2 a).2.1 ≠ (TX2 b).2.1 := by decide +kernel
theorem tyX2_ok : ∀ k, k < 6 → parseFieldDescriptor (TX2 k).2.2.1 = some (tyX2 k) := by decide +kernel
abbrev cX2_init : ByteArray := prog_1_method_1_code
def yX2_init : MethodName := ⟨RX2, "<init>", "(I)V"⟩
abbrev cX2_open : ByteArray := prog_1_method_2_code
def yX2_open : MethodName := ⟨RX2, "open", "(I)V"⟩
abbrev cX2_weigh : ByteArray := prog_1_method_3_code
def yX2_weigh : MethodName := ⟨RX2, "weigh", "(II)I"⟩
abbrev cX2_crack : ByteArray := prog_1_method_4_code
def yX2_crack : MethodName := ⟨RX2, "crack", "(II)V"⟩
abbrev cX2_pass : ByteArray := prog_1_method_5_code
def yX2_pass : MethodName := ⟨RX2, "pass", "()V"⟩
abbrev cX2_leave : ByteArray := prog_1_method_6_code
def yX2_leave : MethodName := ⟨RX2, "leave", "(I)V"⟩
abbrev cX2_appeal : ByteArray := prog_1_method_7_code
def yX2_appeal : MethodName := ⟨RX2, "appeal", "(II)I"⟩
abbrev cX2_level : ByteArray := prog_1_method_8_code
def yX2_level : MethodName := ⟨RX2, "level", "(Z)Z"⟩
abbrev cX2_record : ByteArray := prog_1_method_9_code
def yX2_record : MethodName := ⟨RX2, "record", "(I)V"⟩
abbrev cX2_prize : ByteArray := prog_1_method_10_code
def yX2_prize : MethodName := ⟨RX2, "prize", "(I)V"⟩
abbrev cX2_turn : ByteArray := prog_1_method_11_code
def yX2_turn : MethodName := ⟨RX2, "turn", "()I"⟩
abbrev cX2_day : ByteArray := prog_1_method_12_code
def yX2_day : MethodName := ⟨RX2, "day", "()I"⟩
abbrev cX2_weight : ByteArray := prog_1_method_13_code
def yX2_weight : MethodName := ⟨RX2, "weight", "(II)I"⟩
abbrev cX2_tilt : ByteArray := prog_1_method_14_code
def yX2_tilt : MethodName := ⟨RX2, "tilt", "(II)I"⟩
abbrev cX2_best : ByteArray := prog_1_method_15_code
def yX2_best : MethodName := ⟨RX2, "best", "(I)I"⟩
abbrev cX2_place : ByteArray := prog_1_method_16_code
def yX2_place : MethodName := ⟨RX2, "place", "(I)I"⟩
abbrev cX2_wins : ByteArray := prog_1_method_17_code
def yX2_wins : MethodName := ⟨RX2, "wins", "(I)Z"⟩
abbrev cX2_count : ByteArray := prog_1_method_18_code
def yX2_count : MethodName := ⟨RX2, "count", "(III)I"⟩
abbrev cX2_first : ByteArray := prog_1_method_19_code
def yX2_first : MethodName := ⟨RX2, "first", "(III)I"⟩
abbrev cX2_lamps : ByteArray := prog_1_method_20_code
def yX2_lamps : MethodName := ⟨RX2, "lamps", "(III)I"⟩
abbrev cX2_stands : ByteArray := prog_1_method_21_code
def yX2_stands : MethodName := ⟨RX2, "stands", "(III)I"⟩
abbrev cX2_lean : ByteArray := prog_1_method_22_code
def yX2_lean : MethodName := ⟨RX2, "lean", "(IZ)I"⟩
abbrev cX2_look : ByteArray := prog_1_method_23_code
def yX2_look : MethodName := ⟨RX2, "look", "(I)I"⟩
abbrev cX2_begin : ByteArray := prog_1_method_24_code
def yX2_begin : MethodName := ⟨RX2, "begin", "(I)V"⟩
abbrev cX2_tiltIfLevel : ByteArray := prog_1_method_25_code
def yX2_tiltIfLevel : MethodName := ⟨RX2, "tiltIfLevel", "(I)I"⟩
abbrev cX2_noteRecord : ByteArray := prog_1_method_26_code
def yX2_noteRecord : MethodName := ⟨RX2, "noteRecord", "(II)V"⟩
abbrev cX2_bestOrLatestTilt : ByteArray := prog_1_method_27_code
def yX2_bestOrLatestTilt : MethodName := ⟨RX2, "bestOrLatestTilt", "(II)I"⟩
abbrev cX2_requireTurn : ByteArray := prog_1_method_28_code
def yX2_requireTurn : MethodName := ⟨RX2, "requireTurn", "()I"⟩
abbrev cX2_requireGrower : ByteArray := prog_1_method_29_code
def yX2_requireGrower : MethodName := ⟨RX2, "requireGrower", "(I)V"⟩
abbrev cX2_requireDay : ByteArray := prog_1_method_30_code
def yX2_requireDay : MethodName := ⟨RX2, "requireDay", "(I)V"⟩
abbrev cX2_requireTenthPounds : ByteArray := prog_1_method_31_code
def yX2_requireTenthPounds : MethodName := ⟨RX2, "requireTenthPounds", "(I)V"⟩
abbrev cX2_requireTenths : ByteArray := prog_1_method_32_code
def yX2_requireTenths : MethodName := ⟨RX2, "requireTenths", "(I)V"⟩
abbrev cX2_requirePounds : ByteArray := prog_1_method_33_code
def yX2_requirePounds : MethodName := ⟨RX2, "requirePounds", "(I)V"⟩
abbrev cX2_requireWhat : ByteArray := prog_1_method_34_code
def yX2_requireWhat : MethodName := ⟨RX2, "requireWhat", "(I)V"⟩
abbrev cX2_requireSign : ByteArray := prog_1_method_35_code
def yX2_requireSign : MethodName := ⟨RX2, "requireSign", "(I)V"⟩
abbrev cX2_mayTakePart : ByteArray := prog_1_method_36_code
def yX2_mayTakePart : MethodName := ⟨RX2, "mayTakePart", "(I)Z"⟩
abbrev cX2_poundsOrNone : ByteArray := prog_1_method_37_code
def yX2_poundsOrNone : MethodName := ⟨RX2, "poundsOrNone", "(I)I"⟩
abbrev cX2_holds : ByteArray := prog_1_method_38_code
def yX2_holds : MethodName := ⟨RX2, "holds", "(III)Z"⟩
def RX3 : String := "WeighOffModel"
def TX3 : u_T := fun k => match k with
  | 0 => ("WeighOffModel", "code", "I", false)
  | 1 => ("WeighOffModel", "growers", "I", false)
  | 2 => ("WeighOffModel", "day", "I", false)
  | 3 => ("WeighOffModel", "kind", "[I", true)
  | 4 => ("WeighOffModel", "worth", "[I", true)
  | 5 => ("WeighOffModel", "measured", "[Z", true)
  | 6 => ("WeighOffModel", "tilt", "[I", true)
  | 7 => ("WeighOffModel", "tilted", "[Z", true)
  | 8 => ("WeighOffModel", "latest", "[I", true)
  | 9 => ("WeighOffModel", "gone", "[Z", true)
  | 10 => ("WeighOffModel", "kept", "[Z", true)
  | 11 => ("WeighOffModel", "order", "[I", true)
  | 12 => ("WeighOffModel", "ordered", "I", false)
  | 13 => ("WeighOffModel", "at", "I", false)
  | 14 => ("WeighOffModel", "level", "Z", false)
  | 15 => ("WeighOffModel", "hasRecord", "Z", false)
  | 16 => ("WeighOffModel", "record", "I", false)
  | 17 => ("WeighOffModel", "records", "I", false)
  | 18 => ("WeighOffModel", "hasPrize", "Z", false)
  | 19 => ("WeighOffModel", "prize", "I", false)
  | 20 => ("WeighOffModel", "one", "[I", true)
  | _ => ("WeighOffModel", "two", "[I", true)
def tyX3 : Nat → FieldType := fun k => match k with
  | 0 => .int
  | 1 => .int
  | 2 => .int
  | 3 => .array .int
  | 4 => .array .int
  | 5 => .array .boolean
  | 6 => .array .int
  | 7 => .array .boolean
  | 8 => .array .int
  | 9 => .array .boolean
  | 10 => .array .boolean
  | 11 => .array .int
  | 12 => .int
  | 13 => .int
  | 14 => .boolean
  | 15 => .boolean
  | 16 => .int
  | 17 => .int
  | 18 => .boolean
  | 19 => .int
  | 20 => .array .int
  | _ => .array .int
abbrev wsX30 : List Cond := u_ws RX3 TX3 22
theorem nmX3 : ∀ a, a < 22 → ∀ b, b < 22 → a ≠ b → (TX3 a).2.1 ≠ (TX3 b).2.1 := by decide +kernel
theorem tyX3_ok : ∀ k, k < 22 → parseFieldDescriptor (TX3 k).2.2.1 = some (tyX3 k) := by decide +kernel
abbrev cX3_init : ByteArray := prog_5_method_1_code
def yX3_init : MethodName := ⟨RX3, "<init>", "(I)V"⟩
abbrev cX3_thrown : ByteArray := prog_5_method_2_code
def yX3_thrown : MethodName := ⟨RX3, "thrown", "()I"⟩
abbrev cX3_in : ByteArray := prog_5_method_3_code
def yX3_in : MethodName := ⟨RX3, "in", "(III)Z"⟩
abbrev cX3_begin : ByteArray := prog_5_method_4_code
def yX3_begin : MethodName := ⟨RX3, "begin", "(I)V"⟩
abbrev cX3_open : ByteArray := prog_5_method_5_code
def yX3_open : MethodName := ⟨RX3, "open", "(I)V"⟩
abbrev cX3_isIn : ByteArray := prog_5_method_6_code
def yX3_isIn : MethodName := ⟨RX3, "isIn", "(I)Z"⟩
abbrev cX3_nextDay : ByteArray := prog_5_method_7_code
def yX3_nextDay : MethodName := ⟨RX3, "nextDay", "()V"⟩
abbrev cX3_byPlaces : ByteArray := prog_5_method_8_code
def yX3_byPlaces : MethodName := ⟨RX3, "byPlaces", "()V"⟩
abbrev cX3_forward : ByteArray := prog_5_method_9_code
def yX3_forward : MethodName := ⟨RX3, "forward", "()V"⟩
abbrev cX3_passOn : ByteArray := prog_5_method_10_code
def yX3_passOn : MethodName := ⟨RX3, "passOn", "()V"⟩
abbrev cX3_entry : ByteArray := prog_5_method_11_code
def yX3_entry : MethodName := ⟨RX3, "entry", "(I)I"⟩
abbrev cX3_weigh : ByteArray := prog_5_method_12_code
def yX3_weigh : MethodName := ⟨RX3, "weigh", "(II)I"⟩
abbrev cX3_asRecord : ByteArray := prog_5_method_13_code
def yX3_asRecord : MethodName := ⟨RX3, "asRecord", "(I)V"⟩
abbrev cX3_crack : ByteArray := prog_5_method_14_code
def yX3_crack : MethodName := ⟨RX3, "crack", "(II)V"⟩
abbrev cX3_pass : ByteArray := prog_5_method_15_code
def yX3_pass : MethodName := ⟨RX3, "pass", "()V"⟩
abbrev cX3_leave : ByteArray := prog_5_method_16_code
def yX3_leave : MethodName := ⟨RX3, "leave", "(I)V"⟩
abbrev cX3_isEntry : ByteArray := prog_5_method_17_code
def yX3_isEntry : MethodName := ⟨RX3, "isEntry", "(II)Z"⟩
abbrev cX3_appeal : ByteArray := prog_5_method_18_code
def yX3_appeal : MethodName := ⟨RX3, "appeal", "(II)I"⟩
abbrev cX3_level : ByteArray := prog_5_method_19_code
def yX3_level : MethodName := ⟨RX3, "level", "(Z)Z"⟩
abbrev cX3_record : ByteArray := prog_5_method_20_code
def yX3_record : MethodName := ⟨RX3, "record", "(I)V"⟩
abbrev cX3_prize : ByteArray := prog_5_method_21_code
def yX3_prize : MethodName := ⟨RX3, "prize", "(I)V"⟩
abbrev cX3_weightsOf : ByteArray := prog_5_method_22_code
def yX3_weightsOf : MethodName := ⟨RX3, "weightsOf", "(I[I)I"⟩
abbrev cX3_isBefore : ByteArray := prog_5_method_23_code
def yX3_isBefore : MethodName := ⟨RX3, "isBefore", "(II)Z"⟩
abbrev cX3_placeOf : ByteArray := prog_5_method_24_code
def yX3_placeOf : MethodName := ⟨RX3, "placeOf", "(I)I"⟩
abbrev cX3_turn : ByteArray := prog_5_method_25_code
def yX3_turn : MethodName := ⟨RX3, "turn", "()I"⟩
abbrev cX3_day : ByteArray := prog_5_method_26_code
def yX3_day : MethodName := ⟨RX3, "day", "()I"⟩
abbrev cX3_weight : ByteArray := prog_5_method_27_code
def yX3_weight : MethodName := ⟨RX3, "weight", "(II)I"⟩
abbrev cX3_tilt : ByteArray := prog_5_method_28_code
def yX3_tilt : MethodName := ⟨RX3, "tilt", "(II)I"⟩
abbrev cX3_best : ByteArray := prog_5_method_29_code
def yX3_best : MethodName := ⟨RX3, "best", "(I)I"⟩
abbrev cX3_place : ByteArray := prog_5_method_30_code
def yX3_place : MethodName := ⟨RX3, "place", "(I)I"⟩
abbrev cX3_wins : ByteArray := prog_5_method_31_code
def yX3_wins : MethodName := ⟨RX3, "wins", "(I)Z"⟩
abbrev cX3_stand : ByteArray := prog_5_method_32_code
def yX3_stand : MethodName := ⟨RX3, "stand", "(ZIZII)Z"⟩
abbrev cX3_entryStands : ByteArray := prog_5_method_33_code
def yX3_entryStands : MethodName := ⟨RX3, "entryStands", "(IIII)Z"⟩
abbrev cX3_isAsked : ByteArray := prog_5_method_34_code
def yX3_isAsked : MethodName := ⟨RX3, "isAsked", "(II)Z"⟩
abbrev cX3_count : ByteArray := prog_5_method_35_code
def yX3_count : MethodName := ⟨RX3, "count", "(III)I"⟩
abbrev cX3_first : ByteArray := prog_5_method_36_code
def yX3_first : MethodName := ⟨RX3, "first", "(III)I"⟩
abbrev cX3_has : ByteArray := prog_5_method_37_code
def yX3_has : MethodName := ⟨RX3, "has", "(II)Z"⟩
abbrev cX3_told : ByteArray := prog_5_method_38_code
def yX3_told : MethodName := ⟨RX3, "told", "(II)I"⟩
abbrev cX3_lamps : ByteArray := prog_5_method_39_code
def yX3_lamps : MethodName := ⟨RX3, "lamps", "(III)I"⟩
abbrev cX3_stands : ByteArray := prog_5_method_40_code
def yX3_stands : MethodName := ⟨RX3, "stands", "(III)I"⟩
abbrev cX3_lean : ByteArray := prog_5_method_41_code
def yX3_lean : MethodName := ⟨RX3, "lean", "(IZ)I"⟩
abbrev cX3_look : ByteArray := prog_5_method_42_code
def yX3_look : MethodName := ⟨RX3, "look", "(I)I"⟩
def RJ0 : String := "java/lang/String"
def TJ0 : u_T := fun k => match k with
  | _ => ("", "", "", false)
def tyJ0 : Nat → FieldType := fun k => match k with
  | _ => .int
abbrev wsJ00 : List Cond := u_ws RJ0 TJ0 0
theorem nmJ0 : ∀ a, a < 0 → ∀ b, b < 0 → a ≠ b → (TJ0 a).2.1 ≠ (TJ0 b).2.1 := by decide +kernel
theorem tyJ0_ok : ∀ k, k < 0 → parseFieldDescriptor (TJ0 k).2.2.1 = some (tyJ0 k) := by decide +kernel
def RL : String := "WeighOffLaw"
abbrev cL_cell : ByteArray := method_2_code
def yL_cell : MethodName := ⟨RL, "cell", "([II)I"⟩
abbrev cL_open : ByteArray := method_3_code
def yL_open : MethodName := ⟨RL, "open", "(LWeighOff;I)I"⟩
abbrev cL_weigh : ByteArray := method_4_code
def yL_weigh : MethodName := ⟨RL, "weigh", "(LWeighOff;II[J)I"⟩
abbrev cL_crack : ByteArray := method_5_code
def yL_crack : MethodName := ⟨RL, "crack", "(LWeighOff;II)I"⟩
abbrev cL_pass : ByteArray := method_6_code
def yL_pass : MethodName := ⟨RL, "pass", "(LWeighOff;)I"⟩
abbrev cL_leave : ByteArray := method_7_code
def yL_leave : MethodName := ⟨RL, "leave", "(LWeighOff;I)I"⟩
abbrev cL_appeal : ByteArray := method_8_code
def yL_appeal : MethodName := ⟨RL, "appeal", "(LWeighOff;II[J)I"⟩
abbrev cL_record : ByteArray := method_9_code
def yL_record : MethodName := ⟨RL, "record", "(LWeighOff;I)I"⟩
abbrev cL_prize : ByteArray := method_10_code
def yL_prize : MethodName := ⟨RL, "prize", "(LWeighOff;I)I"⟩
abbrev cL_weight : ByteArray := method_11_code
def yL_weight : MethodName := ⟨RL, "weight", "(LWeighOff;II[J)I"⟩
abbrev cL_tilt : ByteArray := method_12_code
def yL_tilt : MethodName := ⟨RL, "tilt", "(LWeighOff;II[J)I"⟩
abbrev cL_best : ByteArray := method_13_code
def yL_best : MethodName := ⟨RL, "best", "(LWeighOff;I[J)I"⟩
abbrev cL_place : ByteArray := method_14_code
def yL_place : MethodName := ⟨RL, "place", "(LWeighOff;I[J)I"⟩
abbrev cL_wins : ByteArray := method_15_code
def yL_wins : MethodName := ⟨RL, "wins", "(LWeighOff;I[J)I"⟩
abbrev cL_count : ByteArray := method_16_code
def yL_count : MethodName := ⟨RL, "count", "(LWeighOff;III[J)I"⟩
abbrev cL_first : ByteArray := method_17_code
def yL_first : MethodName := ⟨RL, "first", "(LWeighOff;III[J)I"⟩
abbrev cL_lamps : ByteArray := method_18_code
def yL_lamps : MethodName := ⟨RL, "lamps", "(LWeighOff;III[J)I"⟩
abbrev cL_stands : ByteArray := method_19_code
def yL_stands : MethodName := ⟨RL, "stands", "(LWeighOff;III[J)I"⟩
abbrev cL_lean : ByteArray := method_20_code
def yL_lean : MethodName := ⟨RL, "lean", "(LWeighOff;IZ[J)I"⟩
abbrev cL_look : ByteArray := method_21_code
def yL_look : MethodName := ⟨RL, "look", "(LWeighOff;I[J)I"⟩
abbrev cL_law : ByteArray := code
def yL_law : MethodName := ⟨RL, "law", "([I)Z"⟩
abbrev vwCl : List vw_C := [(RX0, TX0, 9), (RX1, TX1, 6), (RX2, TX2, 6), (RX3, TX3, 22)]
end
section
theorem dX0_init_0 : decode cX0_init 0 = .ok (.aload_n 0, 1) := by decide +kernel
theorem dX0_init_1 : decode cX0_init 1 = .ok (.invokespecial 3, 3) := by decide +kernel
theorem dX0_init_4 : decode cX0_init 4 = .ok (.aload_n 0, 1) := by decide +kernel
theorem dX0_init_5 : decode cX0_init 5 = .ok (.aload_n 1, 1) := by decide +kernel
theorem dX0_init_6 : decode cX0_init 6 = .ok (.putfield 9, 3) := by decide +kernel
theorem dX0_init_9 : decode cX0_init 9 = .ok (.aload_n 0, 1) := by decide +kernel
theorem dX0_init_10 : decode cX0_init 10 = .ok (.bipush 12, 2) := by decide +kernel
theorem dX0_init_12 : decode cX0_init 12 = .ok (.newarray .int, 2) := by decide +kernel
theorem dX0_init_14 : decode cX0_init 14 = .ok (.putfield 15, 3) := by decide +kernel
theorem dX0_init_17 : decode cX0_init 17 = .ok (.aload_n 0, 1) := by decide +kernel
theorem dX0_init_18 : decode cX0_init 18 = .ok (.bipush 12, 2) := by decide +kernel
theorem dX0_init_20 : decode cX0_init 20 = .ok (.newarray .boolean, 2) := by decide +kernel
theorem dX0_init_22 : decode cX0_init 22 = .ok (.putfield 19, 3) := by decide +kernel
theorem dX0_init_25 : decode cX0_init 25 = .ok (.aload_n 0, 1) := by decide +kernel
theorem dX0_init_26 : decode cX0_init 26 = .ok (.bipush 12, 2) := by decide +kernel
theorem dX0_init_28 : decode cX0_init 28 = .ok (.newarray .boolean, 2) := by decide +kernel
theorem dX0_init_30 : decode cX0_init 30 = .ok (.putfield 23, 3) := by decide +kernel
theorem dX0_init_33 : decode cX0_init 33 = .ok (.aload_n 0, 1) := by decide +kernel
theorem dX0_init_34 : decode cX0_init 34 = .ok (.bipush 12, 2) := by decide +kernel
theorem dX0_init_36 : decode cX0_init 36 = .ok (.newarray .int, 2) := by decide +kernel
theorem dX0_init_38 : decode cX0_init 38 = .ok (.putfield 26, 3) := by decide +kernel
theorem dX0_init_41 : decode cX0_init 41 = .ok (.return_, 1) := by decide +kernel
theorem dX0_restart_0 : decode cX0_restart 0 = .ok (.iconst 0, 1) := by decide +kernel
theorem dX0_restart_1 : decode cX0_restart 1 = .ok (.istore_n 1, 1) := by decide +kernel
theorem dX0_restart_2 : decode cX0_restart 2 = .ok (.iload_n 1, 1) := by decide +kernel
theorem dX0_restart_3 : decode cX0_restart 3 = .ok (.bipush 12, 2) := by decide +kernel
theorem dX0_restart_5 : decode cX0_restart 5 = .ok (.if_icmp .ge 30, 3) := by decide +kernel
theorem dX0_restart_8 : decode cX0_restart 8 = .ok (.aload_n 0, 1) := by decide +kernel
theorem dX0_restart_9 : decode cX0_restart 9 = .ok (.getfield 19, 3) := by decide +kernel
theorem dX0_restart_12 : decode cX0_restart 12 = .ok (.iload_n 1, 1) := by decide +kernel
theorem dX0_restart_13 : decode cX0_restart 13 = .ok (.iconst 0, 1) := by decide +kernel
theorem dX0_restart_14 : decode cX0_restart 14 = .ok (.bastore, 1) := by decide +kernel
theorem dX0_restart_15 : decode cX0_restart 15 = .ok (.aload_n 0, 1) := by decide +kernel
theorem dX0_restart_16 : decode cX0_restart 16 = .ok (.getfield 23, 3) := by decide +kernel
theorem dX0_restart_19 : decode cX0_restart 19 = .ok (.iload_n 1, 1) := by decide +kernel
theorem dX0_restart_20 : decode cX0_restart 20 = .ok (.iconst 0, 1) := by decide +kernel
theorem dX0_restart_21 : decode cX0_restart 21 = .ok (.bastore, 1) := by decide +kernel
theorem dX0_restart_22 : decode cX0_restart 22 = .ok (.aload_n 0, 1) := by decide +kernel
theorem dX0_restart_23 : decode cX0_restart 23 = .ok (.getfield 26, 3) := by decide +kernel
theorem dX0_restart_26 : decode cX0_restart 26 = .ok (.iload_n 1, 1) := by decide +kernel
theorem dX0_restart_27 : decode cX0_restart 27 = .ok (.iconst 0, 1) := by decide +kernel
theorem dX0_restart_28 : decode cX0_restart 28 = .ok (.iastore, 1) := by decide +kernel
theorem dX0_restart_29 : decode cX0_restart 29 = .ok (.iinc 1 1, 3) := by decide +kernel
theorem dX0_restart_32 : decode cX0_restart 32 = .ok (.goto (-30), 3) := by decide +kernel
theorem dX0_restart_35 : decode cX0_restart 35 = .ok (.aload_n 0, 1) := by decide +kernel
theorem dX0_restart_36 : decode cX0_restart 36 = .ok (.iconst 0, 1) := by decide +kernel
theorem dX0_restart_37 : decode cX0_restart 37 = .ok (.putfield 29, 3) := by decide +kernel
theorem dX0_restart_40 : decode cX0_restart 40 = .ok (.aload_n 0, 1) := by decide +kernel
theorem dX0_restart_41 : decode cX0_restart 41 = .ok (.iconst 1, 1) := by decide +kernel
theorem dX0_restart_42 : decode cX0_restart 42 = .ok (.putfield 33, 3) := by decide +kernel
theorem dX0_restart_45 : decode cX0_restart 45 = .ok (.aload_n 0, 1) := by decide +kernel
theorem dX0_restart_46 : decode cX0_restart 46 = .ok (.invokevirtual 36, 3) := by decide +kernel
theorem dX0_restart_49 : decode cX0_restart 49 = .ok (.return_, 1) := by decide +kernel
theorem dX0_today_0 : decode cX0_today 0 = .ok (.aload_n 0, 1) := by decide +kernel
theorem dX0_today_1 : decode cX0_today 1 = .ok (.getfield 33, 3) := by decide +kernel
theorem dX0_today_4 : decode cX0_today 4 = .ok (.ireturn, 1) := by decide +kernel
theorem dX0_whoseTurn_0 : decode cX0_whoseTurn 0 = .ok (.aload_n 0, 1) := by decide +kernel
theorem dX0_whoseTurn_1 : decode cX0_whoseTurn 1 = .ok (.getfield 39, 3) := by decide +kernel
theorem dX0_whoseTurn_4 : decode cX0_whoseTurn 4 = .ok (.aload_n 0, 1) := by decide +kernel
theorem dX0_whoseTurn_5 : decode cX0_whoseTurn 5 = .ok (.getfield 42, 3) := by decide +kernel
theorem dX0_whoseTurn_8 : decode cX0_whoseTurn 8 = .ok (.if_icmp .ge 15, 3) := by decide +kernel
theorem dX0_whoseTurn_11 : decode cX0_whoseTurn 11 = .ok (.aload_n 0, 1) := by decide +kernel
theorem dX0_whoseTurn_12 : decode cX0_whoseTurn 12 = .ok (.getfield 15, 3) := by decide +kernel
theorem dX0_whoseTurn_15 : decode cX0_whoseTurn 15 = .ok (.aload_n 0, 1) := by decide +kernel
theorem dX0_whoseTurn_16 : decode cX0_whoseTurn 16 = .ok (.getfield 39, 3) := by decide +kernel
theorem dX0_whoseTurn_19 : decode cX0_whoseTurn 19 = .ok (.iaload, 1) := by decide +kernel
theorem dX0_whoseTurn_20 : decode cX0_whoseTurn 20 = .ok (.goto 5, 3) := by decide +kernel
theorem dX0_whoseTurn_23 : decode cX0_whoseTurn 23 = .ok (.ldc 45, 2) := by decide +kernel
theorem dX0_whoseTurn_25 : decode cX0_whoseTurn 25 = .ok (.ireturn, 1) := by decide +kernel
theorem dX0_hasLeft_0 : decode cX0_hasLeft 0 = .ok (.aload_n 0, 1) := by decide +kernel
theorem dX0_hasLeft_1 : decode cX0_hasLeft 1 = .ok (.getfield 19, 3) := by decide +kernel
theorem dX0_hasLeft_4 : decode cX0_hasLeft 4 = .ok (.iload_n 1, 1) := by decide +kernel
theorem dX0_hasLeft_5 : decode cX0_hasLeft 5 = .ok (.baload, 1) := by decide +kernel
theorem dX0_hasLeft_6 : decode cX0_hasLeft 6 = .ok (.ireturn, 1) := by decide +kernel
theorem dX0_howManyLeft_0 : decode cX0_howManyLeft 0 = .ok (.aload_n 0, 1) := by decide +kernel
theorem dX0_howManyLeft_1 : decode cX0_howManyLeft 1 = .ok (.getfield 29, 3) := by decide +kernel
theorem dX0_howManyLeft_4 : decode cX0_howManyLeft 4 = .ok (.ireturn, 1) := by decide +kernel
theorem dX0_dismiss_0 : decode cX0_dismiss 0 = .ok (.aload_n 0, 1) := by decide +kernel
theorem dX0_dismiss_1 : decode cX0_dismiss 1 = .ok (.getfield 19, 3) := by decide +kernel
theorem dX0_dismiss_4 : decode cX0_dismiss 4 = .ok (.iload_n 1, 1) := by decide +kernel
theorem dX0_dismiss_5 : decode cX0_dismiss 5 = .ok (.iconst 1, 1) := by decide +kernel
theorem dX0_dismiss_6 : decode cX0_dismiss 6 = .ok (.bastore, 1) := by decide +kernel
theorem dX0_dismiss_7 : decode cX0_dismiss 7 = .ok (.aload_n 0, 1) := by decide +kernel
theorem dX0_dismiss_8 : decode cX0_dismiss 8 = .ok (.dup, 1) := by decide +kernel
theorem dX0_dismiss_9 : decode cX0_dismiss 9 = .ok (.getfield 29, 3) := by decide +kernel
theorem dX0_dismiss_12 : decode cX0_dismiss 12 = .ok (.iconst 1, 1) := by decide +kernel
theorem dX0_dismiss_13 : decode cX0_dismiss 13 = .ok (.iadd, 1) := by decide +kernel
theorem dX0_dismiss_14 : decode cX0_dismiss 14 = .ok (.putfield 29, 3) := by decide +kernel
theorem dX0_dismiss_17 : decode cX0_dismiss 17 = .ok (.aload_n 0, 1) := by decide +kernel
theorem dX0_dismiss_18 : decode cX0_dismiss 18 = .ok (.invokevirtual 46, 3) := by decide +kernel
theorem dX0_dismiss_21 : decode cX0_dismiss 21 = .ok (.iload_n 1, 1) := by decide +kernel
theorem dX0_dismiss_22 : decode cX0_dismiss 22 = .ok (.if_icmp .ne 7, 3) := by decide +kernel
theorem dX0_dismiss_25 : decode cX0_dismiss 25 = .ok (.aload_n 0, 1) := by decide +kernel
theorem dX0_dismiss_26 : decode cX0_dismiss 26 = .ok (.invokevirtual 50, 3) := by decide +kernel
theorem dX0_dismiss_29 : decode cX0_dismiss 29 = .ok (.return_, 1) := by decide +kernel
theorem dX0_goOn_0 : decode cX0_goOn 0 = .ok (.aload_n 0, 1) := by decide +kernel
theorem dX0_goOn_1 : decode cX0_goOn 1 = .ok (.dup, 1) := by decide +kernel
theorem dX0_goOn_2 : decode cX0_goOn 2 = .ok (.getfield 39, 3) := by decide +kernel
theorem dX0_goOn_5 : decode cX0_goOn 5 = .ok (.iconst 1, 1) := by decide +kernel
theorem dX0_goOn_6 : decode cX0_goOn 6 = .ok (.iadd, 1) := by decide +kernel
theorem dX0_goOn_7 : decode cX0_goOn 7 = .ok (.putfield 39, 3) := by decide +kernel
theorem dX0_goOn_10 : decode cX0_goOn 10 = .ok (.aload_n 0, 1) := by decide +kernel
theorem dX0_goOn_11 : decode cX0_goOn 11 = .ok (.getfield 39, 3) := by decide +kernel
theorem dX0_goOn_14 : decode cX0_goOn 14 = .ok (.aload_n 0, 1) := by decide +kernel
theorem dX0_goOn_15 : decode cX0_goOn 15 = .ok (.getfield 42, 3) := by decide +kernel
theorem dX0_goOn_18 : decode cX0_goOn 18 = .ok (.if_icmp .ge 33, 3) := by decide +kernel
theorem dX0_goOn_21 : decode cX0_goOn 21 = .ok (.aload_n 0, 1) := by decide +kernel
theorem dX0_goOn_22 : decode cX0_goOn 22 = .ok (.getfield 19, 3) := by decide +kernel
theorem dX0_goOn_25 : decode cX0_goOn 25 = .ok (.aload_n 0, 1) := by decide +kernel
theorem dX0_goOn_26 : decode cX0_goOn 26 = .ok (.getfield 15, 3) := by decide +kernel
theorem dX0_goOn_29 : decode cX0_goOn 29 = .ok (.aload_n 0, 1) := by decide +kernel
theorem dX0_goOn_30 : decode cX0_goOn 30 = .ok (.getfield 39, 3) := by decide +kernel
theorem dX0_goOn_33 : decode cX0_goOn 33 = .ok (.iaload, 1) := by decide +kernel
theorem dX0_goOn_34 : decode cX0_goOn 34 = .ok (.baload, 1) := by decide +kernel
theorem dX0_goOn_35 : decode cX0_goOn 35 = .ok (.ifCond .eq 16, 3) := by decide +kernel
theorem dX0_goOn_38 : decode cX0_goOn 38 = .ok (.aload_n 0, 1) := by decide +kernel
theorem dX0_goOn_39 : decode cX0_goOn 39 = .ok (.dup, 1) := by decide +kernel
theorem dX0_goOn_40 : decode cX0_goOn 40 = .ok (.getfield 39, 3) := by decide +kernel
theorem dX0_goOn_43 : decode cX0_goOn 43 = .ok (.iconst 1, 1) := by decide +kernel
theorem dX0_goOn_44 : decode cX0_goOn 44 = .ok (.iadd, 1) := by decide +kernel
theorem dX0_goOn_45 : decode cX0_goOn 45 = .ok (.putfield 39, 3) := by decide +kernel
theorem dX0_goOn_48 : decode cX0_goOn 48 = .ok (.goto (-38), 3) := by decide +kernel
theorem dX0_goOn_51 : decode cX0_goOn 51 = .ok (.aload_n 0, 1) := by decide +kernel
theorem dX0_goOn_52 : decode cX0_goOn 52 = .ok (.getfield 39, 3) := by decide +kernel
theorem dX0_goOn_55 : decode cX0_goOn 55 = .ok (.aload_n 0, 1) := by decide +kernel
theorem dX0_goOn_56 : decode cX0_goOn 56 = .ok (.getfield 42, 3) := by decide +kernel
theorem dX0_goOn_59 : decode cX0_goOn 59 = .ok (.if_icmp .lt 7, 3) := by decide +kernel
theorem dX0_goOn_62 : decode cX0_goOn 62 = .ok (.aload_n 0, 1) := by decide +kernel
theorem dX0_goOn_63 : decode cX0_goOn 63 = .ok (.invokevirtual 53, 3) := by decide +kernel
theorem dX0_goOn_66 : decode cX0_goOn 66 = .ok (.return_, 1) := by decide +kernel
theorem dX0_endDay_0 : decode cX0_endDay 0 = .ok (.aload_n 0, 1) := by decide +kernel
theorem dX0_endDay_1 : decode cX0_endDay 1 = .ok (.getfield 33, 3) := by decide +kernel
theorem dX0_endDay_4 : decode cX0_endDay 4 = .ok (.iconst 3, 1) := by decide +kernel
theorem dX0_endDay_5 : decode cX0_endDay 5 = .ok (.if_icmp .ne 11, 3) := by decide +kernel
theorem dX0_endDay_8 : decode cX0_endDay 8 = .ok (.aload_n 0, 1) := by decide +kernel
theorem dX0_endDay_9 : decode cX0_endDay 9 = .ok (.invokevirtual 56, 3) := by decide +kernel
theorem dX0_endDay_12 : decode cX0_endDay 12 = .ok (.aload_n 0, 1) := by decide +kernel
theorem dX0_endDay_13 : decode cX0_endDay 13 = .ok (.invokevirtual 59, 3) := by decide +kernel
theorem dX0_endDay_16 : decode cX0_endDay 16 = .ok (.aload_n 0, 1) := by decide +kernel
theorem dX0_endDay_17 : decode cX0_endDay 17 = .ok (.getfield 33, 3) := by decide +kernel
theorem dX0_endDay_20 : decode cX0_endDay 20 = .ok (.iconst 5, 1) := by decide +kernel
theorem dX0_endDay_21 : decode cX0_endDay 21 = .ok (.if_icmp .ne 7, 3) := by decide +kernel
theorem dX0_endDay_24 : decode cX0_endDay 24 = .ok (.aload_n 0, 1) := by decide +kernel
theorem dX0_endDay_25 : decode cX0_endDay 25 = .ok (.invokevirtual 56, 3) := by decide +kernel
theorem dX0_endDay_28 : decode cX0_endDay 28 = .ok (.aload_n 0, 1) := by decide +kernel
theorem dX0_endDay_29 : decode cX0_endDay 29 = .ok (.dup, 1) := by decide +kernel
theorem dX0_endDay_30 : decode cX0_endDay 30 = .ok (.getfield 33, 3) := by decide +kernel
theorem dX0_endDay_33 : decode cX0_endDay 33 = .ok (.iconst 1, 1) := by decide +kernel
theorem dX0_endDay_34 : decode cX0_endDay 34 = .ok (.iadd, 1) := by decide +kernel
theorem dX0_endDay_35 : decode cX0_endDay 35 = .ok (.putfield 33, 3) := by decide +kernel
theorem dX0_endDay_38 : decode cX0_endDay 38 = .ok (.aload_n 0, 1) := by decide +kernel
theorem dX0_endDay_39 : decode cX0_endDay 39 = .ok (.invokevirtual 36, 3) := by decide +kernel
theorem dX0_endDay_42 : decode cX0_endDay 42 = .ok (.return_, 1) := by decide +kernel
theorem dX0_takePlaces_0 : decode cX0_takePlaces 0 = .ok (.iconst 0, 1) := by decide +kernel
theorem dX0_takePlaces_1 : decode cX0_takePlaces 1 = .ok (.istore_n 1, 1) := by decide +kernel
theorem dX0_takePlaces_2 : decode cX0_takePlaces 2 = .ok (.iload_n 1, 1) := by decide +kernel
theorem dX0_takePlaces_3 : decode cX0_takePlaces 3 = .ok (.aload_n 0, 1) := by decide +kernel
theorem dX0_takePlaces_4 : decode cX0_takePlaces 4 = .ok (.getfield 9, 3) := by decide +kernel
theorem dX0_takePlaces_7 : decode cX0_takePlaces 7 = .ok (.invokevirtual 62, 3) := by decide +kernel
theorem dX0_takePlaces_10 : decode cX0_takePlaces 10 = .ok (.if_icmp .ge 23, 3) := by decide +kernel
theorem dX0_takePlaces_13 : decode cX0_takePlaces 13 = .ok (.aload_n 0, 1) := by decide +kernel
theorem dX0_takePlaces_14 : decode cX0_takePlaces 14 = .ok (.getfield 26, 3) := by decide +kernel
theorem dX0_takePlaces_17 : decode cX0_takePlaces 17 = .ok (.iload_n 1, 1) := by decide +kernel
theorem dX0_takePlaces_18 : decode cX0_takePlaces 18 = .ok (.aload_n 0, 1) := by decide +kernel
theorem dX0_takePlaces_19 : decode cX0_takePlaces 19 = .ok (.getfield 9, 3) := by decide +kernel
theorem dX0_takePlaces_22 : decode cX0_takePlaces 22 = .ok (.iload_n 1, 1) := by decide +kernel
theorem dX0_takePlaces_23 : decode cX0_takePlaces 23 = .ok (.invokevirtual 67, 3) := by decide +kernel
theorem dX0_takePlaces_26 : decode cX0_takePlaces 26 = .ok (.iastore, 1) := by decide +kernel
theorem dX0_takePlaces_27 : decode cX0_takePlaces 27 = .ok (.iinc 1 1, 3) := by decide +kernel
theorem dX0_takePlaces_30 : decode cX0_takePlaces 30 = .ok (.goto (-28), 3) := by decide +kernel
theorem dX0_takePlaces_33 : decode cX0_takePlaces 33 = .ok (.return_, 1) := by decide +kernel
theorem dX0_makeCut_0 : decode cX0_makeCut 0 = .ok (.iconst 0, 1) := by decide +kernel
theorem dX0_makeCut_1 : decode cX0_makeCut 1 = .ok (.istore_n 1, 1) := by decide +kernel
theorem dX0_makeCut_2 : decode cX0_makeCut 2 = .ok (.iload_n 1, 1) := by decide +kernel
theorem dX0_makeCut_3 : decode cX0_makeCut 3 = .ok (.aload_n 0, 1) := by decide +kernel
theorem dX0_makeCut_4 : decode cX0_makeCut 4 = .ok (.getfield 9, 3) := by decide +kernel
theorem dX0_makeCut_7 : decode cX0_makeCut 7 = .ok (.invokevirtual 62, 3) := by decide +kernel
theorem dX0_makeCut_10 : decode cX0_makeCut 10 = .ok (.if_icmp .ge 44, 3) := by decide +kernel
theorem dX0_makeCut_13 : decode cX0_makeCut 13 = .ok (.aload_n 0, 1) := by decide +kernel
theorem dX0_makeCut_14 : decode cX0_makeCut 14 = .ok (.getfield 23, 3) := by decide +kernel
theorem dX0_makeCut_17 : decode cX0_makeCut 17 = .ok (.iload_n 1, 1) := by decide +kernel
theorem dX0_makeCut_18 : decode cX0_makeCut 18 = .ok (.aload_n 0, 1) := by decide +kernel
theorem dX0_makeCut_19 : decode cX0_makeCut 19 = .ok (.getfield 9, 3) := by decide +kernel
theorem dX0_makeCut_22 : decode cX0_makeCut 22 = .ok (.iload_n 1, 1) := by decide +kernel
theorem dX0_makeCut_23 : decode cX0_makeCut 23 = .ok (.invokevirtual 71, 3) := by decide +kernel
theorem dX0_makeCut_26 : decode cX0_makeCut 26 = .ok (.ldc 45, 2) := by decide +kernel
theorem dX0_makeCut_28 : decode cX0_makeCut 28 = .ok (.if_icmp .eq 18, 3) := by decide +kernel
theorem dX0_makeCut_31 : decode cX0_makeCut 31 = .ok (.aload_n 0, 1) := by decide +kernel
theorem dX0_makeCut_32 : decode cX0_makeCut 32 = .ok (.getfield 26, 3) := by decide +kernel
theorem dX0_makeCut_35 : decode cX0_makeCut 35 = .ok (.iload_n 1, 1) := by decide +kernel
theorem dX0_makeCut_36 : decode cX0_makeCut 36 = .ok (.iaload, 1) := by decide +kernel
theorem dX0_makeCut_37 : decode cX0_makeCut 37 = .ok (.bipush 8, 2) := by decide +kernel
theorem dX0_makeCut_39 : decode cX0_makeCut 39 = .ok (.if_icmp .gt 7, 3) := by decide +kernel
theorem dX0_makeCut_42 : decode cX0_makeCut 42 = .ok (.iconst 1, 1) := by decide +kernel
theorem dX0_makeCut_43 : decode cX0_makeCut 43 = .ok (.goto 4, 3) := by decide +kernel
theorem dX0_makeCut_46 : decode cX0_makeCut 46 = .ok (.iconst 0, 1) := by decide +kernel
theorem dX0_makeCut_47 : decode cX0_makeCut 47 = .ok (.bastore, 1) := by decide +kernel
theorem dX0_makeCut_48 : decode cX0_makeCut 48 = .ok (.iinc 1 1, 3) := by decide +kernel
theorem dX0_makeCut_51 : decode cX0_makeCut 51 = .ok (.goto (-49), 3) := by decide +kernel
theorem dX0_makeCut_54 : decode cX0_makeCut 54 = .ok (.return_, 1) := by decide +kernel
theorem dX0_lineUp_0 : decode cX0_lineUp 0 = .ok (.aload_n 0, 1) := by decide +kernel
theorem dX0_lineUp_1 : decode cX0_lineUp 1 = .ok (.iconst 0, 1) := by decide +kernel
theorem dX0_lineUp_2 : decode cX0_lineUp 2 = .ok (.putfield 39, 3) := by decide +kernel
theorem dX0_lineUp_5 : decode cX0_lineUp 5 = .ok (.aload_n 0, 1) := by decide +kernel
theorem dX0_lineUp_6 : decode cX0_lineUp 6 = .ok (.iconst 0, 1) := by decide +kernel
theorem dX0_lineUp_7 : decode cX0_lineUp 7 = .ok (.putfield 42, 3) := by decide +kernel
theorem dX0_lineUp_10 : decode cX0_lineUp 10 = .ok (.aload_n 0, 1) := by decide +kernel
theorem dX0_lineUp_11 : decode cX0_lineUp 11 = .ok (.getfield 33, 3) := by decide +kernel
theorem dX0_lineUp_14 : decode cX0_lineUp 14 = .ok (.iconst 3, 1) := by decide +kernel
theorem dX0_lineUp_15 : decode cX0_lineUp 15 = .ok (.if_icmp .gt 10, 3) := by decide +kernel
theorem dX0_lineUp_18 : decode cX0_lineUp 18 = .ok (.aload_n 0, 1) := by decide +kernel
theorem dX0_lineUp_19 : decode cX0_lineUp 19 = .ok (.invokevirtual 74, 3) := by decide +kernel
theorem dX0_lineUp_22 : decode cX0_lineUp 22 = .ok (.goto 16, 3) := by decide +kernel
theorem dX0_lineUp_25 : decode cX0_lineUp 25 = .ok (.aload_n 0, 1) := by decide +kernel
theorem dX0_lineUp_26 : decode cX0_lineUp 26 = .ok (.getfield 33, 3) := by decide +kernel
theorem dX0_lineUp_29 : decode cX0_lineUp 29 = .ok (.bipush 6, 2) := by decide +kernel
theorem dX0_lineUp_31 : decode cX0_lineUp 31 = .ok (.if_icmp .gt 7, 3) := by decide +kernel
theorem dX0_lineUp_34 : decode cX0_lineUp 34 = .ok (.aload_n 0, 1) := by decide +kernel
theorem dX0_lineUp_35 : decode cX0_lineUp 35 = .ok (.invokevirtual 77, 3) := by decide +kernel
theorem dX0_lineUp_38 : decode cX0_lineUp 38 = .ok (.aload_n 0, 1) := by decide +kernel
theorem dX0_lineUp_39 : decode cX0_lineUp 39 = .ok (.getfield 42, 3) := by decide +kernel
theorem dX0_lineUp_42 : decode cX0_lineUp 42 = .ok (.ifCond .ne 9, 3) := by decide +kernel
theorem dX0_lineUp_45 : decode cX0_lineUp 45 = .ok (.aload_n 0, 1) := by decide +kernel
theorem dX0_lineUp_46 : decode cX0_lineUp 46 = .ok (.bipush 7, 2) := by decide +kernel
theorem dX0_lineUp_48 : decode cX0_lineUp 48 = .ok (.putfield 33, 3) := by decide +kernel
theorem dX0_lineUp_51 : decode cX0_lineUp 51 = .ok (.return_, 1) := by decide +kernel
theorem dX0_lineUpByNumber_0 : decode cX0_lineUpByNumber 0 = .ok (.iconst 0, 1) := by decide +kernel
theorem dX0_lineUpByNumber_1 : decode cX0_lineUpByNumber 1 = .ok (.istore_n 1, 1) := by decide +kernel
theorem dX0_lineUpByNumber_2 : decode cX0_lineUpByNumber 2 = .ok (.iload_n 1, 1) := by decide +kernel
theorem dX0_lineUpByNumber_3 : decode cX0_lineUpByNumber 3 = .ok (.aload_n 0, 1) := by decide +kernel
theorem dX0_lineUpByNumber_4 : decode cX0_lineUpByNumber 4 = .ok (.getfield 9, 3) := by decide +kernel
theorem dX0_lineUpByNumber_7 : decode cX0_lineUpByNumber 7 = .ok (.invokevirtual 62, 3) := by decide +kernel
theorem dX0_lineUpByNumber_10 : decode cX0_lineUpByNumber 10 = .ok (.if_icmp .ge 23, 3) := by decide +kernel
theorem dX0_lineUpByNumber_13 : decode cX0_lineUpByNumber 13 = .ok (.aload_n 0, 1) := by decide +kernel
theorem dX0_lineUpByNumber_14 : decode cX0_lineUpByNumber 14 = .ok (.getfield 19, 3) := by decide +kernel
theorem dX0_lineUpByNumber_17 : decode cX0_lineUpByNumber 17 = .ok (.iload_n 1, 1) := by decide +kernel
theorem dX0_lineUpByNumber_18 : decode cX0_lineUpByNumber 18 = .ok (.baload, 1) := by decide +kernel
theorem dX0_lineUpByNumber_19 : decode cX0_lineUpByNumber 19 = .ok (.ifCond .ne 8, 3) := by decide +kernel
theorem dX0_lineUpByNumber_22 : decode cX0_lineUpByNumber 22 = .ok (.aload_n 0, 1) := by decide +kernel
theorem dX0_lineUpByNumber_23 : decode cX0_lineUpByNumber 23 = .ok (.iload_n 1, 1) := by decide +kernel
theorem dX0_lineUpByNumber_24 : decode cX0_lineUpByNumber 24 = .ok (.invokevirtual 80, 3) := by decide +kernel
theorem dX0_lineUpByNumber_27 : decode cX0_lineUpByNumber 27 = .ok (.iinc 1 1, 3) := by decide +kernel
theorem dX0_lineUpByNumber_30 : decode cX0_lineUpByNumber 30 = .ok (.goto (-28), 3) := by decide +kernel
theorem dX0_lineUpByNumber_33 : decode cX0_lineUpByNumber 33 = .ok (.return_, 1) := by decide +kernel
theorem dX0_lineUpByPlace_0 : decode cX0_lineUpByPlace 0 = .ok (.aload_n 0, 1) := by decide +kernel
theorem dX0_lineUpByPlace_1 : decode cX0_lineUpByPlace 1 = .ok (.getfield 9, 3) := by decide +kernel
theorem dX0_lineUpByPlace_4 : decode cX0_lineUpByPlace 4 = .ok (.invokevirtual 62, 3) := by decide +kernel
theorem dX0_lineUpByPlace_7 : decode cX0_lineUpByPlace 7 = .ok (.istore_n 1, 1) := by decide +kernel
theorem dX0_lineUpByPlace_8 : decode cX0_lineUpByPlace 8 = .ok (.iload_n 1, 1) := by decide +kernel
theorem dX0_lineUpByPlace_9 : decode cX0_lineUpByPlace 9 = .ok (.iconst 1, 1) := by decide +kernel
theorem dX0_lineUpByPlace_10 : decode cX0_lineUpByPlace 10 = .ok (.if_icmp .lt 62, 3) := by decide +kernel
theorem dX0_lineUpByPlace_13 : decode cX0_lineUpByPlace 13 = .ok (.aload_n 0, 1) := by decide +kernel
theorem dX0_lineUpByPlace_14 : decode cX0_lineUpByPlace 14 = .ok (.getfield 9, 3) := by decide +kernel
theorem dX0_lineUpByPlace_17 : decode cX0_lineUpByPlace 17 = .ok (.invokevirtual 62, 3) := by decide +kernel
theorem dX0_lineUpByPlace_20 : decode cX0_lineUpByPlace 20 = .ok (.iconst 1, 1) := by decide +kernel
theorem dX0_lineUpByPlace_21 : decode cX0_lineUpByPlace 21 = .ok (.isub, 1) := by decide +kernel
theorem dX0_lineUpByPlace_22 : decode cX0_lineUpByPlace 22 = .ok (.istore_n 2, 1) := by decide +kernel
theorem dX0_lineUpByPlace_23 : decode cX0_lineUpByPlace 23 = .ok (.iload_n 2, 1) := by decide +kernel
theorem dX0_lineUpByPlace_24 : decode cX0_lineUpByPlace 24 = .ok (.ifCond .lt 42, 3) := by decide +kernel
theorem dX0_lineUpByPlace_27 : decode cX0_lineUpByPlace 27 = .ok (.aload_n 0, 1) := by decide +kernel
theorem dX0_lineUpByPlace_28 : decode cX0_lineUpByPlace 28 = .ok (.getfield 26, 3) := by decide +kernel
theorem dX0_lineUpByPlace_31 : decode cX0_lineUpByPlace 31 = .ok (.iload_n 2, 1) := by decide +kernel
theorem dX0_lineUpByPlace_32 : decode cX0_lineUpByPlace 32 = .ok (.iaload, 1) := by decide +kernel
theorem dX0_lineUpByPlace_33 : decode cX0_lineUpByPlace 33 = .ok (.iload_n 1, 1) := by decide +kernel
theorem dX0_lineUpByPlace_34 : decode cX0_lineUpByPlace 34 = .ok (.if_icmp .ne 26, 3) := by decide +kernel
theorem dX0_lineUpByPlace_37 : decode cX0_lineUpByPlace 37 = .ok (.aload_n 0, 1) := by decide +kernel
theorem dX0_lineUpByPlace_38 : decode cX0_lineUpByPlace 38 = .ok (.getfield 23, 3) := by decide +kernel
theorem dX0_lineUpByPlace_41 : decode cX0_lineUpByPlace 41 = .ok (.iload_n 2, 1) := by decide +kernel
theorem dX0_lineUpByPlace_42 : decode cX0_lineUpByPlace 42 = .ok (.baload, 1) := by decide +kernel
theorem dX0_lineUpByPlace_43 : decode cX0_lineUpByPlace 43 = .ok (.ifCond .eq 17, 3) := by decide +kernel
theorem dX0_lineUpByPlace_46 : decode cX0_lineUpByPlace 46 = .ok (.aload_n 0, 1) := by decide +kernel
theorem dX0_lineUpByPlace_47 : decode cX0_lineUpByPlace 47 = .ok (.getfield 19, 3) := by decide +kernel
theorem dX0_lineUpByPlace_50 : decode cX0_lineUpByPlace 50 = .ok (.iload_n 2, 1) := by decide +kernel
theorem dX0_lineUpByPlace_51 : decode cX0_lineUpByPlace 51 = .ok (.baload, 1) := by decide +kernel
theorem dX0_lineUpByPlace_52 : decode cX0_lineUpByPlace 52 = .ok (.ifCond .ne 8, 3) := by decide +kernel
theorem dX0_lineUpByPlace_55 : decode cX0_lineUpByPlace 55 = .ok (.aload_n 0, 1) := by decide +kernel
theorem dX0_lineUpByPlace_56 : decode cX0_lineUpByPlace 56 = .ok (.iload_n 2, 1) := by decide +kernel
theorem dX0_lineUpByPlace_57 : decode cX0_lineUpByPlace 57 = .ok (.invokevirtual 80, 3) := by decide +kernel
theorem dX0_lineUpByPlace_60 : decode cX0_lineUpByPlace 60 = .ok (.iinc 2 (-1), 3) := by decide +kernel
theorem dX0_lineUpByPlace_63 : decode cX0_lineUpByPlace 63 = .ok (.goto (-40), 3) := by decide +kernel
theorem dX0_lineUpByPlace_66 : decode cX0_lineUpByPlace 66 = .ok (.iinc 1 (-1), 3) := by decide +kernel
theorem dX0_lineUpByPlace_69 : decode cX0_lineUpByPlace 69 = .ok (.goto (-61), 3) := by decide +kernel
theorem dX0_lineUpByPlace_72 : decode cX0_lineUpByPlace 72 = .ok (.return_, 1) := by decide +kernel
theorem dX0_putInLine_0 : decode cX0_putInLine 0 = .ok (.aload_n 0, 1) := by decide +kernel
theorem dX0_putInLine_1 : decode cX0_putInLine 1 = .ok (.getfield 42, 3) := by decide +kernel
theorem dX0_putInLine_4 : decode cX0_putInLine 4 = .ok (.bipush 12, 2) := by decide +kernel
theorem dX0_putInLine_6 : decode cX0_putInLine 6 = .ok (.if_icmp .ge 23, 3) := by decide +kernel
theorem dX0_putInLine_9 : decode cX0_putInLine 9 = .ok (.aload_n 0, 1) := by decide +kernel
theorem dX0_putInLine_10 : decode cX0_putInLine 10 = .ok (.getfield 15, 3) := by decide +kernel
theorem dX0_putInLine_13 : decode cX0_putInLine 13 = .ok (.aload_n 0, 1) := by decide +kernel
theorem dX0_putInLine_14 : decode cX0_putInLine 14 = .ok (.getfield 42, 3) := by decide +kernel
theorem dX0_putInLine_17 : decode cX0_putInLine 17 = .ok (.iload_n 1, 1) := by decide +kernel
theorem dX0_putInLine_18 : decode cX0_putInLine 18 = .ok (.iastore, 1) := by decide +kernel
theorem dX0_putInLine_19 : decode cX0_putInLine 19 = .ok (.aload_n 0, 1) := by decide +kernel
theorem dX0_putInLine_20 : decode cX0_putInLine 20 = .ok (.dup, 1) := by decide +kernel
theorem dX0_putInLine_21 : decode cX0_putInLine 21 = .ok (.getfield 42, 3) := by decide +kernel
theorem dX0_putInLine_24 : decode cX0_putInLine 24 = .ok (.iconst 1, 1) := by decide +kernel
theorem dX0_putInLine_25 : decode cX0_putInLine 25 = .ok (.iadd, 1) := by decide +kernel
theorem dX0_putInLine_26 : decode cX0_putInLine 26 = .ok (.putfield 42, 3) := by decide +kernel
theorem dX0_putInLine_29 : decode cX0_putInLine 29 = .ok (.return_, 1) := by decide +kernel
end
section
theorem dX1_init_0 : decode cX1_init 0 = .ok (.aload_n 0, 1) := by decide +kernel
theorem dX1_init_1 : decode cX1_init 1 = .ok (.invokespecial 3, 3) := by decide +kernel
theorem dX1_init_4 : decode cX1_init 4 = .ok (.aload_n 0, 1) := by decide +kernel
theorem dX1_init_5 : decode cX1_init 5 = .ok (.bipush 72, 2) := by decide +kernel
theorem dX1_init_7 : decode cX1_init 7 = .ok (.newarray .int, 2) := by decide +kernel
theorem dX1_init_9 : decode cX1_init 9 = .ok (.putfield 9, 3) := by decide +kernel
theorem dX1_init_12 : decode cX1_init 12 = .ok (.aload_n 0, 1) := by decide +kernel
theorem dX1_init_13 : decode cX1_init 13 = .ok (.bipush 72, 2) := by decide +kernel
theorem dX1_init_15 : decode cX1_init 15 = .ok (.newarray .int, 2) := by decide +kernel
theorem dX1_init_17 : decode cX1_init 17 = .ok (.putfield 15, 3) := by decide +kernel
theorem dX1_init_20 : decode cX1_init 20 = .ok (.aload_n 0, 1) := by decide +kernel
theorem dX1_init_21 : decode cX1_init 21 = .ok (.bipush 72, 2) := by decide +kernel
theorem dX1_init_23 : decode cX1_init 23 = .ok (.newarray .int, 2) := by decide +kernel
theorem dX1_init_25 : decode cX1_init 25 = .ok (.putfield 18, 3) := by decide +kernel
theorem dX1_init_28 : decode cX1_init 28 = .ok (.aload_n 0, 1) := by decide +kernel
theorem dX1_init_29 : decode cX1_init 29 = .ok (.bipush 72, 2) := by decide +kernel
theorem dX1_init_31 : decode cX1_init 31 = .ok (.newarray .int, 2) := by decide +kernel
theorem dX1_init_33 : decode cX1_init 33 = .ok (.putfield 21, 3) := by decide +kernel
theorem dX1_init_36 : decode cX1_init 36 = .ok (.return_, 1) := by decide +kernel
theorem dX1_clearFor_0 : decode cX1_clearFor 0 = .ok (.aload_n 0, 1) := by decide +kernel
theorem dX1_clearFor_1 : decode cX1_clearFor 1 = .ok (.iload_n 1, 1) := by decide +kernel
theorem dX1_clearFor_2 : decode cX1_clearFor 2 = .ok (.putfield 24, 3) := by decide +kernel
theorem dX1_clearFor_5 : decode cX1_clearFor 5 = .ok (.aload_n 0, 1) := by decide +kernel
theorem dX1_clearFor_6 : decode cX1_clearFor 6 = .ok (.iconst 0, 1) := by decide +kernel
theorem dX1_clearFor_7 : decode cX1_clearFor 7 = .ok (.putfield 28, 3) := by decide +kernel
theorem dX1_clearFor_10 : decode cX1_clearFor 10 = .ok (.iconst 0, 1) := by decide +kernel
theorem dX1_clearFor_11 : decode cX1_clearFor 11 = .ok (.istore_n 2, 1) := by decide +kernel
theorem dX1_clearFor_12 : decode cX1_clearFor 12 = .ok (.iload_n 2, 1) := by decide +kernel
theorem dX1_clearFor_13 : decode cX1_clearFor 13 = .ok (.bipush 72, 2) := by decide +kernel
theorem dX1_clearFor_15 : decode cX1_clearFor 15 = .ok (.if_icmp .ge 40, 3) := by decide +kernel
theorem dX1_clearFor_18 : decode cX1_clearFor 18 = .ok (.aload_n 0, 1) := by decide +kernel
theorem dX1_clearFor_19 : decode cX1_clearFor 19 = .ok (.getfield 9, 3) := by decide +kernel
theorem dX1_clearFor_22 : decode cX1_clearFor 22 = .ok (.iload_n 2, 1) := by decide +kernel
theorem dX1_clearFor_23 : decode cX1_clearFor 23 = .ok (.ldc 31, 2) := by decide +kernel
theorem dX1_clearFor_25 : decode cX1_clearFor 25 = .ok (.iastore, 1) := by decide +kernel
theorem dX1_clearFor_26 : decode cX1_clearFor 26 = .ok (.aload_n 0, 1) := by decide +kernel
theorem dX1_clearFor_27 : decode cX1_clearFor 27 = .ok (.getfield 15, 3) := by decide +kernel
theorem dX1_clearFor_30 : decode cX1_clearFor 30 = .ok (.iload_n 2, 1) := by decide +kernel
theorem dX1_clearFor_31 : decode cX1_clearFor 31 = .ok (.ldc 31, 2) := by decide +kernel
theorem dX1_clearFor_33 : decode cX1_clearFor 33 = .ok (.iastore, 1) := by decide +kernel
theorem dX1_clearFor_34 : decode cX1_clearFor 34 = .ok (.aload_n 0, 1) := by decide +kernel
theorem dX1_clearFor_35 : decode cX1_clearFor 35 = .ok (.getfield 18, 3) := by decide +kernel
theorem dX1_clearFor_38 : decode cX1_clearFor 38 = .ok (.iload_n 2, 1) := by decide +kernel
theorem dX1_clearFor_39 : decode cX1_clearFor 39 = .ok (.iconst 0, 1) := by decide +kernel
theorem dX1_clearFor_40 : decode cX1_clearFor 40 = .ok (.iastore, 1) := by decide +kernel
theorem dX1_clearFor_41 : decode cX1_clearFor 41 = .ok (.aload_n 0, 1) := by decide +kernel
theorem dX1_clearFor_42 : decode cX1_clearFor 42 = .ok (.getfield 21, 3) := by decide +kernel
theorem dX1_clearFor_45 : decode cX1_clearFor 45 = .ok (.iload_n 2, 1) := by decide +kernel
theorem dX1_clearFor_46 : decode cX1_clearFor 46 = .ok (.ldc 31, 2) := by decide +kernel
theorem dX1_clearFor_48 : decode cX1_clearFor 48 = .ok (.iastore, 1) := by decide +kernel
theorem dX1_clearFor_49 : decode cX1_clearFor 49 = .ok (.iinc 2 1, 3) := by decide +kernel
theorem dX1_clearFor_52 : decode cX1_clearFor 52 = .ok (.goto (-40), 3) := by decide +kernel
theorem dX1_clearFor_55 : decode cX1_clearFor 55 = .ok (.return_, 1) := by decide +kernel
theorem dX1_enter_0 : decode cX1_enter 0 = .ok (.iload_n 1, 1) := by decide +kernel
theorem dX1_enter_1 : decode cX1_enter 1 = .ok (.iload_n 2, 1) := by decide +kernel
theorem dX1_enter_2 : decode cX1_enter 2 = .ok (.invokestatic 32, 3) := by decide +kernel
theorem dX1_enter_5 : decode cX1_enter 5 = .ok (.istore 6, 2) := by decide +kernel
theorem dX1_enter_7 : decode cX1_enter 7 = .ok (.aload_n 0, 1) := by decide +kernel
theorem dX1_enter_8 : decode cX1_enter 8 = .ok (.getfield 9, 3) := by decide +kernel
theorem dX1_enter_11 : decode cX1_enter 11 = .ok (.iload 6, 2) := by decide +kernel
theorem dX1_enter_13 : decode cX1_enter 13 = .ok (.iload_n 3, 1) := by decide +kernel
theorem dX1_enter_14 : decode cX1_enter 14 = .ok (.iastore, 1) := by decide +kernel
theorem dX1_enter_15 : decode cX1_enter 15 = .ok (.aload_n 0, 1) := by decide +kernel
theorem dX1_enter_16 : decode cX1_enter 16 = .ok (.getfield 15, 3) := by decide +kernel
theorem dX1_enter_19 : decode cX1_enter 19 = .ok (.iload 6, 2) := by decide +kernel
theorem dX1_enter_21 : decode cX1_enter 21 = .ok (.iload 4, 2) := by decide +kernel
theorem dX1_enter_23 : decode cX1_enter 23 = .ok (.iastore, 1) := by decide +kernel
theorem dX1_enter_24 : decode cX1_enter 24 = .ok (.aload_n 0, 1) := by decide +kernel
theorem dX1_enter_25 : decode cX1_enter 25 = .ok (.getfield 18, 3) := by decide +kernel
theorem dX1_enter_28 : decode cX1_enter 28 = .ok (.iload 6, 2) := by decide +kernel
theorem dX1_enter_30 : decode cX1_enter 30 = .ok (.iload 5, 2) := by decide +kernel
theorem dX1_enter_32 : decode cX1_enter 32 = .ok (.iastore, 1) := by decide +kernel
theorem dX1_enter_33 : decode cX1_enter 33 = .ok (.aload_n 0, 1) := by decide +kernel
theorem dX1_enter_34 : decode cX1_enter 34 = .ok (.dup, 1) := by decide +kernel
theorem dX1_enter_35 : decode cX1_enter 35 = .ok (.getfield 28, 3) := by decide +kernel
theorem dX1_enter_38 : decode cX1_enter 38 = .ok (.iconst 1, 1) := by decide +kernel
theorem dX1_enter_39 : decode cX1_enter 39 = .ok (.iadd, 1) := by decide +kernel
theorem dX1_enter_40 : decode cX1_enter 40 = .ok (.putfield 28, 3) := by decide +kernel
theorem dX1_enter_43 : decode cX1_enter 43 = .ok (.iload_n 3, 1) := by decide +kernel
theorem dX1_enter_44 : decode cX1_enter 44 = .ok (.invokestatic 36, 3) := by decide +kernel
theorem dX1_enter_47 : decode cX1_enter 47 = .ok (.ifCond .eq 9, 3) := by decide +kernel
theorem dX1_enter_50 : decode cX1_enter 50 = .ok (.aload_n 0, 1) := by decide +kernel
theorem dX1_enter_51 : decode cX1_enter 51 = .ok (.iload_n 1, 1) := by decide +kernel
theorem dX1_enter_52 : decode cX1_enter 52 = .ok (.iload_n 3, 1) := by decide +kernel
theorem dX1_enter_53 : decode cX1_enter 53 = .ok (.invokevirtual 40, 3) := by decide +kernel
theorem dX1_enter_56 : decode cX1_enter 56 = .ok (.return_, 1) := by decide +kernel
theorem dX1_isMeasuredCrack_0 : decode cX1_isMeasuredCrack 0 = .ok (.iload_n 1, 1) := by decide +kernel
theorem dX1_isMeasuredCrack_1 : decode cX1_isMeasuredCrack 1 = .ok (.iload_n 2, 1) := by decide +kernel
theorem dX1_isMeasuredCrack_2 : decode cX1_isMeasuredCrack 2 = .ok (.invokestatic 32, 3) := by decide +kernel
theorem dX1_isMeasuredCrack_5 : decode cX1_isMeasuredCrack 5 = .ok (.istore_n 3, 1) := by decide +kernel
theorem dX1_isMeasuredCrack_6 : decode cX1_isMeasuredCrack 6 = .ok (.aload_n 0, 1) := by decide +kernel
theorem dX1_isMeasuredCrack_7 : decode cX1_isMeasuredCrack 7 = .ok (.getfield 9, 3) := by decide +kernel
theorem dX1_isMeasuredCrack_10 : decode cX1_isMeasuredCrack 10 = .ok (.iload_n 3, 1) := by decide +kernel
theorem dX1_isMeasuredCrack_11 : decode cX1_isMeasuredCrack 11 = .ok (.iaload, 1) := by decide +kernel
theorem dX1_isMeasuredCrack_12 : decode cX1_isMeasuredCrack 12 = .ok (.iconst (-1), 1) := by decide +kernel
theorem dX1_isMeasuredCrack_13 : decode cX1_isMeasuredCrack 13 = .ok (.if_icmp .ne 16, 3) := by decide +kernel
theorem dX1_isMeasuredCrack_16 : decode cX1_isMeasuredCrack 16 = .ok (.aload_n 0, 1) := by decide +kernel
theorem dX1_isMeasuredCrack_17 : decode cX1_isMeasuredCrack 17 = .ok (.getfield 18, 3) := by decide +kernel
theorem dX1_isMeasuredCrack_20 : decode cX1_isMeasuredCrack 20 = .ok (.iload_n 3, 1) := by decide +kernel
theorem dX1_isMeasuredCrack_21 : decode cX1_isMeasuredCrack 21 = .ok (.iaload, 1) := by decide +kernel
theorem dX1_isMeasuredCrack_22 : decode cX1_isMeasuredCrack 22 = .ok (.ifCond .eq 7, 3) := by decide +kernel
theorem dX1_isMeasuredCrack_25 : decode cX1_isMeasuredCrack 25 = .ok (.iconst 1, 1) := by decide +kernel
theorem dX1_isMeasuredCrack_26 : decode cX1_isMeasuredCrack 26 = .ok (.goto 4, 3) := by decide +kernel
theorem dX1_isMeasuredCrack_29 : decode cX1_isMeasuredCrack 29 = .ok (.iconst 0, 1) := by decide +kernel
theorem dX1_isMeasuredCrack_30 : decode cX1_isMeasuredCrack 30 = .ok (.ireturn, 1) := by decide +kernel
theorem dX1_makeSound_0 : decode cX1_makeSound 0 = .ok (.iload_n 1, 1) := by decide +kernel
theorem dX1_makeSound_1 : decode cX1_makeSound 1 = .ok (.iload_n 2, 1) := by decide +kernel
theorem dX1_makeSound_2 : decode cX1_makeSound 2 = .ok (.invokestatic 32, 3) := by decide +kernel
theorem dX1_makeSound_5 : decode cX1_makeSound 5 = .ok (.istore_n 3, 1) := by decide +kernel
theorem dX1_makeSound_6 : decode cX1_makeSound 6 = .ok (.aload_n 0, 1) := by decide +kernel
theorem dX1_makeSound_7 : decode cX1_makeSound 7 = .ok (.getfield 9, 3) := by decide +kernel
theorem dX1_makeSound_10 : decode cX1_makeSound 10 = .ok (.iload_n 3, 1) := by decide +kernel
theorem dX1_makeSound_11 : decode cX1_makeSound 11 = .ok (.aload_n 0, 1) := by decide +kernel
theorem dX1_makeSound_12 : decode cX1_makeSound 12 = .ok (.getfield 18, 3) := by decide +kernel
theorem dX1_makeSound_15 : decode cX1_makeSound 15 = .ok (.iload_n 3, 1) := by decide +kernel
theorem dX1_makeSound_16 : decode cX1_makeSound 16 = .ok (.iaload, 1) := by decide +kernel
theorem dX1_makeSound_17 : decode cX1_makeSound 17 = .ok (.iastore, 1) := by decide +kernel
theorem dX1_makeSound_18 : decode cX1_makeSound 18 = .ok (.aload_n 0, 1) := by decide +kernel
theorem dX1_makeSound_19 : decode cX1_makeSound 19 = .ok (.iload_n 1, 1) := by decide +kernel
theorem dX1_makeSound_20 : decode cX1_makeSound 20 = .ok (.aload_n 0, 1) := by decide +kernel
theorem dX1_makeSound_21 : decode cX1_makeSound 21 = .ok (.getfield 9, 3) := by decide +kernel
theorem dX1_makeSound_24 : decode cX1_makeSound 24 = .ok (.iload_n 3, 1) := by decide +kernel
theorem dX1_makeSound_25 : decode cX1_makeSound 25 = .ok (.iaload, 1) := by decide +kernel
theorem dX1_makeSound_26 : decode cX1_makeSound 26 = .ok (.invokevirtual 40, 3) := by decide +kernel
theorem dX1_makeSound_29 : decode cX1_makeSound 29 = .ok (.aload_n 0, 1) := by decide +kernel
theorem dX1_makeSound_30 : decode cX1_makeSound 30 = .ok (.getfield 9, 3) := by decide +kernel
theorem dX1_makeSound_33 : decode cX1_makeSound 33 = .ok (.iload_n 3, 1) := by decide +kernel
theorem dX1_makeSound_34 : decode cX1_makeSound 34 = .ok (.iaload, 1) := by decide +kernel
theorem dX1_makeSound_35 : decode cX1_makeSound 35 = .ok (.ireturn, 1) := by decide +kernel
theorem dX1_howManyGrowers_0 : decode cX1_howManyGrowers 0 = .ok (.aload_n 0, 1) := by decide +kernel
theorem dX1_howManyGrowers_1 : decode cX1_howManyGrowers 1 = .ok (.getfield 24, 3) := by decide +kernel
theorem dX1_howManyGrowers_4 : decode cX1_howManyGrowers 4 = .ok (.ireturn, 1) := by decide +kernel
theorem dX1_howManyEntries_0 : decode cX1_howManyEntries 0 = .ok (.aload_n 0, 1) := by decide +kernel
theorem dX1_howManyEntries_1 : decode cX1_howManyEntries 1 = .ok (.getfield 28, 3) := by decide +kernel
theorem dX1_howManyEntries_4 : decode cX1_howManyEntries 4 = .ok (.ireturn, 1) := by decide +kernel
theorem dX1_hasEntry_0 : decode cX1_hasEntry 0 = .ok (.aload_n 0, 1) := by decide +kernel
theorem dX1_hasEntry_1 : decode cX1_hasEntry 1 = .ok (.getfield 9, 3) := by decide +kernel
theorem dX1_hasEntry_4 : decode cX1_hasEntry 4 = .ok (.iload_n 1, 1) := by decide +kernel
theorem dX1_hasEntry_5 : decode cX1_hasEntry 5 = .ok (.iload_n 2, 1) := by decide +kernel
theorem dX1_hasEntry_6 : decode cX1_hasEntry 6 = .ok (.invokestatic 32, 3) := by decide +kernel
theorem dX1_hasEntry_9 : decode cX1_hasEntry 9 = .ok (.iaload, 1) := by decide +kernel
theorem dX1_hasEntry_10 : decode cX1_hasEntry 10 = .ok (.ldc 31, 2) := by decide +kernel
theorem dX1_hasEntry_12 : decode cX1_hasEntry 12 = .ok (.if_icmp .eq 7, 3) := by decide +kernel
theorem dX1_hasEntry_15 : decode cX1_hasEntry 15 = .ok (.iconst 1, 1) := by decide +kernel
theorem dX1_hasEntry_16 : decode cX1_hasEntry 16 = .ok (.goto 4, 3) := by decide +kernel
theorem dX1_hasEntry_19 : decode cX1_hasEntry 19 = .ok (.iconst 0, 1) := by decide +kernel
theorem dX1_hasEntry_20 : decode cX1_hasEntry 20 = .ok (.ireturn, 1) := by decide +kernel
theorem dX1_markOn_0 : decode cX1_markOn 0 = .ok (.aload_n 0, 1) := by decide +kernel
theorem dX1_markOn_1 : decode cX1_markOn 1 = .ok (.getfield 9, 3) := by decide +kernel
theorem dX1_markOn_4 : decode cX1_markOn 4 = .ok (.iload_n 1, 1) := by decide +kernel
theorem dX1_markOn_5 : decode cX1_markOn 5 = .ok (.iload_n 2, 1) := by decide +kernel
theorem dX1_markOn_6 : decode cX1_markOn 6 = .ok (.invokestatic 32, 3) := by decide +kernel
theorem dX1_markOn_9 : decode cX1_markOn 9 = .ok (.iaload, 1) := by decide +kernel
theorem dX1_markOn_10 : decode cX1_markOn 10 = .ok (.ireturn, 1) := by decide +kernel
theorem dX1_tiltOn_0 : decode cX1_tiltOn 0 = .ok (.aload_n 0, 1) := by decide +kernel
theorem dX1_tiltOn_1 : decode cX1_tiltOn 1 = .ok (.getfield 15, 3) := by decide +kernel
theorem dX1_tiltOn_4 : decode cX1_tiltOn 4 = .ok (.iload_n 1, 1) := by decide +kernel
theorem dX1_tiltOn_5 : decode cX1_tiltOn 5 = .ok (.iload_n 2, 1) := by decide +kernel
theorem dX1_tiltOn_6 : decode cX1_tiltOn 6 = .ok (.invokestatic 32, 3) := by decide +kernel
theorem dX1_tiltOn_9 : decode cX1_tiltOn 9 = .ok (.iaload, 1) := by decide +kernel
theorem dX1_tiltOn_10 : decode cX1_tiltOn 10 = .ok (.ireturn, 1) := by decide +kernel
theorem dX1_valueOn_0 : decode cX1_valueOn 0 = .ok (.iload_n 1, 1) := by decide +kernel
theorem dX1_valueOn_1 : decode cX1_valueOn 1 = .ok (.iconst 1, 1) := by decide +kernel
theorem dX1_valueOn_2 : decode cX1_valueOn 2 = .ok (.if_icmp .ne 10, 3) := by decide +kernel
theorem dX1_valueOn_5 : decode cX1_valueOn 5 = .ok (.aload_n 0, 1) := by decide +kernel
theorem dX1_valueOn_6 : decode cX1_valueOn 6 = .ok (.iload_n 2, 1) := by decide +kernel
theorem dX1_valueOn_7 : decode cX1_valueOn 7 = .ok (.iload_n 3, 1) := by decide +kernel
theorem dX1_valueOn_8 : decode cX1_valueOn 8 = .ok (.invokevirtual 44, 3) := by decide +kernel
theorem dX1_valueOn_11 : decode cX1_valueOn 11 = .ok (.ireturn, 1) := by decide +kernel
theorem dX1_valueOn_12 : decode cX1_valueOn 12 = .ok (.aload_n 0, 1) := by decide +kernel
theorem dX1_valueOn_13 : decode cX1_valueOn 13 = .ok (.iload_n 2, 1) := by decide +kernel
theorem dX1_valueOn_14 : decode cX1_valueOn 14 = .ok (.iload_n 3, 1) := by decide +kernel
theorem dX1_valueOn_15 : decode cX1_valueOn 15 = .ok (.invokevirtual 47, 3) := by decide +kernel
theorem dX1_valueOn_18 : decode cX1_valueOn 18 = .ok (.istore 4, 2) := by decide +kernel
theorem dX1_valueOn_20 : decode cX1_valueOn 20 = .ok (.iload 4, 2) := by decide +kernel
theorem dX1_valueOn_22 : decode cX1_valueOn 22 = .ok (.invokestatic 36, 3) := by decide +kernel
theorem dX1_valueOn_25 : decode cX1_valueOn 25 = .ok (.ifCond .eq 8, 3) := by decide +kernel
theorem dX1_valueOn_28 : decode cX1_valueOn 28 = .ok (.iload 4, 2) := by decide +kernel
theorem dX1_valueOn_30 : decode cX1_valueOn 30 = .ok (.goto 5, 3) := by decide +kernel
theorem dX1_valueOn_33 : decode cX1_valueOn 33 = .ok (.ldc 31, 2) := by decide +kernel
theorem dX1_valueOn_35 : decode cX1_valueOn 35 = .ok (.ireturn, 1) := by decide +kernel
theorem dX1_latestDayOf_0 : decode cX1_latestDayOf 0 = .ok (.bipush 6, 2) := by decide +kernel
theorem dX1_latestDayOf_2 : decode cX1_latestDayOf 2 = .ok (.istore_n 2, 1) := by decide +kernel
theorem dX1_latestDayOf_3 : decode cX1_latestDayOf 3 = .ok (.iload_n 2, 1) := by decide +kernel
theorem dX1_latestDayOf_4 : decode cX1_latestDayOf 4 = .ok (.iconst 1, 1) := by decide +kernel
theorem dX1_latestDayOf_5 : decode cX1_latestDayOf 5 = .ok (.if_icmp .lt 20, 3) := by decide +kernel
theorem dX1_latestDayOf_8 : decode cX1_latestDayOf 8 = .ok (.aload_n 0, 1) := by decide +kernel
theorem dX1_latestDayOf_9 : decode cX1_latestDayOf 9 = .ok (.iload_n 1, 1) := by decide +kernel
theorem dX1_latestDayOf_10 : decode cX1_latestDayOf 10 = .ok (.iload_n 2, 1) := by decide +kernel
theorem dX1_latestDayOf_11 : decode cX1_latestDayOf 11 = .ok (.invokevirtual 50, 3) := by decide +kernel
theorem dX1_latestDayOf_14 : decode cX1_latestDayOf 14 = .ok (.ifCond .eq 5, 3) := by decide +kernel
theorem dX1_latestDayOf_17 : decode cX1_latestDayOf 17 = .ok (.iload_n 2, 1) := by decide +kernel
theorem dX1_latestDayOf_18 : decode cX1_latestDayOf 18 = .ok (.ireturn, 1) := by decide +kernel
theorem dX1_latestDayOf_19 : decode cX1_latestDayOf 19 = .ok (.iinc 2 (-1), 3) := by decide +kernel
theorem dX1_latestDayOf_22 : decode cX1_latestDayOf 22 = .ok (.goto (-19), 3) := by decide +kernel
theorem dX1_latestDayOf_25 : decode cX1_latestDayOf 25 = .ok (.ldc 31, 2) := by decide +kernel
theorem dX1_latestDayOf_27 : decode cX1_latestDayOf 27 = .ok (.ireturn, 1) := by decide +kernel
theorem dX1_latestTiltOf_0 : decode cX1_latestTiltOf 0 = .ok (.aload_n 0, 1) := by decide +kernel
theorem dX1_latestTiltOf_1 : decode cX1_latestTiltOf 1 = .ok (.iload_n 1, 1) := by decide +kernel
theorem dX1_latestTiltOf_2 : decode cX1_latestTiltOf 2 = .ok (.invokevirtual 54, 3) := by decide +kernel
theorem dX1_latestTiltOf_5 : decode cX1_latestTiltOf 5 = .ok (.istore_n 2, 1) := by decide +kernel
theorem dX1_latestTiltOf_6 : decode cX1_latestTiltOf 6 = .ok (.iload_n 2, 1) := by decide +kernel
theorem dX1_latestTiltOf_7 : decode cX1_latestTiltOf 7 = .ok (.ldc 31, 2) := by decide +kernel
theorem dX1_latestTiltOf_9 : decode cX1_latestTiltOf 9 = .ok (.if_icmp .ne 8, 3) := by decide +kernel
theorem dX1_latestTiltOf_12 : decode cX1_latestTiltOf 12 = .ok (.ldc 31, 2) := by decide +kernel
theorem dX1_latestTiltOf_14 : decode cX1_latestTiltOf 14 = .ok (.goto 9, 3) := by decide +kernel
theorem dX1_latestTiltOf_17 : decode cX1_latestTiltOf 17 = .ok (.aload_n 0, 1) := by decide +kernel
theorem dX1_latestTiltOf_18 : decode cX1_latestTiltOf 18 = .ok (.iload_n 1, 1) := by decide +kernel
theorem dX1_latestTiltOf_19 : decode cX1_latestTiltOf 19 = .ok (.iload_n 2, 1) := by decide +kernel
theorem dX1_latestTiltOf_20 : decode cX1_latestTiltOf 20 = .ok (.invokevirtual 44, 3) := by decide +kernel
theorem dX1_latestTiltOf_23 : decode cX1_latestTiltOf 23 = .ok (.ireturn, 1) := by decide +kernel
theorem dX1_bestOf_0 : decode cX1_bestOf 0 = .ok (.aload_n 0, 1) := by decide +kernel
theorem dX1_bestOf_1 : decode cX1_bestOf 1 = .ok (.getfield 21, 3) := by decide +kernel
theorem dX1_bestOf_4 : decode cX1_bestOf 4 = .ok (.iload_n 1, 1) := by decide +kernel
theorem dX1_bestOf_5 : decode cX1_bestOf 5 = .ok (.iconst 1, 1) := by decide +kernel
theorem dX1_bestOf_6 : decode cX1_bestOf 6 = .ok (.invokestatic 32, 3) := by decide +kernel
theorem dX1_bestOf_9 : decode cX1_bestOf 9 = .ok (.iaload, 1) := by decide +kernel
theorem dX1_bestOf_10 : decode cX1_bestOf 10 = .ok (.ireturn, 1) := by decide +kernel
theorem dX1_placeOf_0 : decode cX1_placeOf 0 = .ok (.iconst 0, 1) := by decide +kernel
theorem dX1_placeOf_1 : decode cX1_placeOf 1 = .ok (.istore_n 2, 1) := by decide +kernel
theorem dX1_placeOf_2 : decode cX1_placeOf 2 = .ok (.iconst 0, 1) := by decide +kernel
theorem dX1_placeOf_3 : decode cX1_placeOf 3 = .ok (.istore_n 3, 1) := by decide +kernel
theorem dX1_placeOf_4 : decode cX1_placeOf 4 = .ok (.iload_n 3, 1) := by decide +kernel
theorem dX1_placeOf_5 : decode cX1_placeOf 5 = .ok (.aload_n 0, 1) := by decide +kernel
theorem dX1_placeOf_6 : decode cX1_placeOf 6 = .ok (.getfield 24, 3) := by decide +kernel
theorem dX1_placeOf_9 : decode cX1_placeOf 9 = .ok (.if_icmp .ge 21, 3) := by decide +kernel
theorem dX1_placeOf_12 : decode cX1_placeOf 12 = .ok (.aload_n 0, 1) := by decide +kernel
theorem dX1_placeOf_13 : decode cX1_placeOf 13 = .ok (.iload_n 3, 1) := by decide +kernel
theorem dX1_placeOf_14 : decode cX1_placeOf 14 = .ok (.iload_n 1, 1) := by decide +kernel
theorem dX1_placeOf_15 : decode cX1_placeOf 15 = .ok (.invokevirtual 58, 3) := by decide +kernel
theorem dX1_placeOf_18 : decode cX1_placeOf 18 = .ok (.ifCond .eq 6, 3) := by decide +kernel
theorem dX1_placeOf_21 : decode cX1_placeOf 21 = .ok (.iinc 2 1, 3) := by decide +kernel
theorem dX1_placeOf_24 : decode cX1_placeOf 24 = .ok (.iinc 3 1, 3) := by decide +kernel
theorem dX1_placeOf_27 : decode cX1_placeOf 27 = .ok (.goto (-23), 3) := by decide +kernel
theorem dX1_placeOf_30 : decode cX1_placeOf 30 = .ok (.iconst 1, 1) := by decide +kernel
theorem dX1_placeOf_31 : decode cX1_placeOf 31 = .ok (.iload_n 2, 1) := by decide +kernel
theorem dX1_placeOf_32 : decode cX1_placeOf 32 = .ok (.iadd, 1) := by decide +kernel
theorem dX1_placeOf_33 : decode cX1_placeOf 33 = .ok (.ireturn, 1) := by decide +kernel
theorem dX1_isBefore_0 : decode cX1_isBefore 0 = .ok (.iconst 1, 1) := by decide +kernel
theorem dX1_isBefore_1 : decode cX1_isBefore 1 = .ok (.istore_n 3, 1) := by decide +kernel
theorem dX1_isBefore_2 : decode cX1_isBefore 2 = .ok (.iload_n 3, 1) := by decide +kernel
theorem dX1_isBefore_3 : decode cX1_isBefore 3 = .ok (.bipush 6, 2) := by decide +kernel
theorem dX1_isBefore_5 : decode cX1_isBefore 5 = .ok (.if_icmp .gt 53, 3) := by decide +kernel
theorem dX1_isBefore_8 : decode cX1_isBefore 8 = .ok (.aload_n 0, 1) := by decide +kernel
theorem dX1_isBefore_9 : decode cX1_isBefore 9 = .ok (.getfield 21, 3) := by decide +kernel
theorem dX1_isBefore_12 : decode cX1_isBefore 12 = .ok (.iload_n 1, 1) := by decide +kernel
theorem dX1_isBefore_13 : decode cX1_isBefore 13 = .ok (.iload_n 3, 1) := by decide +kernel
theorem dX1_isBefore_14 : decode cX1_isBefore 14 = .ok (.invokestatic 32, 3) := by decide +kernel
theorem dX1_isBefore_17 : decode cX1_isBefore 17 = .ok (.iaload, 1) := by decide +kernel
theorem dX1_isBefore_18 : decode cX1_isBefore 18 = .ok (.istore 4, 2) := by decide +kernel
theorem dX1_isBefore_20 : decode cX1_isBefore 20 = .ok (.aload_n 0, 1) := by decide +kernel
theorem dX1_isBefore_21 : decode cX1_isBefore 21 = .ok (.getfield 21, 3) := by decide +kernel
theorem dX1_isBefore_24 : decode cX1_isBefore 24 = .ok (.iload_n 2, 1) := by decide +kernel
theorem dX1_isBefore_25 : decode cX1_isBefore 25 = .ok (.iload_n 3, 1) := by decide +kernel
theorem dX1_isBefore_26 : decode cX1_isBefore 26 = .ok (.invokestatic 32, 3) := by decide +kernel
theorem dX1_isBefore_29 : decode cX1_isBefore 29 = .ok (.iaload, 1) := by decide +kernel
theorem dX1_isBefore_30 : decode cX1_isBefore 30 = .ok (.istore 5, 2) := by decide +kernel
theorem dX1_isBefore_32 : decode cX1_isBefore 32 = .ok (.iload 4, 2) := by decide +kernel
theorem dX1_isBefore_34 : decode cX1_isBefore 34 = .ok (.iload 5, 2) := by decide +kernel
theorem dX1_isBefore_36 : decode cX1_isBefore 36 = .ok (.if_icmp .eq 16, 3) := by decide +kernel
theorem dX1_isBefore_39 : decode cX1_isBefore 39 = .ok (.iload 4, 2) := by decide +kernel
theorem dX1_isBefore_41 : decode cX1_isBefore 41 = .ok (.iload 5, 2) := by decide +kernel
theorem dX1_isBefore_43 : decode cX1_isBefore 43 = .ok (.if_icmp .le 7, 3) := by decide +kernel
theorem dX1_isBefore_46 : decode cX1_isBefore 46 = .ok (.iconst 1, 1) := by decide +kernel
theorem dX1_isBefore_47 : decode cX1_isBefore 47 = .ok (.goto 4, 3) := by decide +kernel
theorem dX1_isBefore_50 : decode cX1_isBefore 50 = .ok (.iconst 0, 1) := by decide +kernel
theorem dX1_isBefore_51 : decode cX1_isBefore 51 = .ok (.ireturn, 1) := by decide +kernel
theorem dX1_isBefore_52 : decode cX1_isBefore 52 = .ok (.iinc 3 1, 3) := by decide +kernel
theorem dX1_isBefore_55 : decode cX1_isBefore 55 = .ok (.goto (-53), 3) := by decide +kernel
theorem dX1_isBefore_58 : decode cX1_isBefore 58 = .ok (.iconst 0, 1) := by decide +kernel
theorem dX1_isBefore_59 : decode cX1_isBefore 59 = .ok (.ireturn, 1) := by decide +kernel
theorem dX1_rank_0 : decode cX1_rank 0 = .ok (.iload_n 1, 1) := by decide +kernel
theorem dX1_rank_1 : decode cX1_rank 1 = .ok (.iconst 1, 1) := by decide +kernel
theorem dX1_rank_2 : decode cX1_rank 2 = .ok (.invokestatic 32, 3) := by decide +kernel
theorem dX1_rank_5 : decode cX1_rank 5 = .ok (.istore_n 3, 1) := by decide +kernel
theorem dX1_rank_6 : decode cX1_rank 6 = .ok (.iload_n 1, 1) := by decide +kernel
theorem dX1_rank_7 : decode cX1_rank 7 = .ok (.bipush 6, 2) := by decide +kernel
theorem dX1_rank_9 : decode cX1_rank 9 = .ok (.invokestatic 32, 3) := by decide +kernel
theorem dX1_rank_12 : decode cX1_rank 12 = .ok (.istore 4, 2) := by decide +kernel
theorem dX1_rank_14 : decode cX1_rank 14 = .ok (.iload 4, 2) := by decide +kernel
theorem dX1_rank_16 : decode cX1_rank 16 = .ok (.iload_n 3, 1) := by decide +kernel
theorem dX1_rank_17 : decode cX1_rank 17 = .ok (.if_icmp .le 38, 3) := by decide +kernel
theorem dX1_rank_20 : decode cX1_rank 20 = .ok (.aload_n 0, 1) := by decide +kernel
theorem dX1_rank_21 : decode cX1_rank 21 = .ok (.getfield 21, 3) := by decide +kernel
theorem dX1_rank_24 : decode cX1_rank 24 = .ok (.iload 4, 2) := by decide +kernel
theorem dX1_rank_26 : decode cX1_rank 26 = .ok (.iconst 1, 1) := by decide +kernel
theorem dX1_rank_27 : decode cX1_rank 27 = .ok (.isub, 1) := by decide +kernel
theorem dX1_rank_28 : decode cX1_rank 28 = .ok (.iaload, 1) := by decide +kernel
theorem dX1_rank_29 : decode cX1_rank 29 = .ok (.iload_n 2, 1) := by decide +kernel
theorem dX1_rank_30 : decode cX1_rank 30 = .ok (.if_icmp .ge 25, 3) := by decide +kernel
theorem dX1_rank_33 : decode cX1_rank 33 = .ok (.aload_n 0, 1) := by decide +kernel
theorem dX1_rank_34 : decode cX1_rank 34 = .ok (.getfield 21, 3) := by decide +kernel
theorem dX1_rank_37 : decode cX1_rank 37 = .ok (.iload 4, 2) := by decide +kernel
theorem dX1_rank_39 : decode cX1_rank 39 = .ok (.aload_n 0, 1) := by decide +kernel
theorem dX1_rank_40 : decode cX1_rank 40 = .ok (.getfield 21, 3) := by decide +kernel
theorem dX1_rank_43 : decode cX1_rank 43 = .ok (.iload 4, 2) := by decide +kernel
theorem dX1_rank_45 : decode cX1_rank 45 = .ok (.iconst 1, 1) := by decide +kernel
theorem dX1_rank_46 : decode cX1_rank 46 = .ok (.isub, 1) := by decide +kernel
theorem dX1_rank_47 : decode cX1_rank 47 = .ok (.iaload, 1) := by decide +kernel
theorem dX1_rank_48 : decode cX1_rank 48 = .ok (.iastore, 1) := by decide +kernel
theorem dX1_rank_49 : decode cX1_rank 49 = .ok (.iinc 4 (-1), 3) := by decide +kernel
theorem dX1_rank_52 : decode cX1_rank 52 = .ok (.goto (-38), 3) := by decide +kernel
theorem dX1_rank_55 : decode cX1_rank 55 = .ok (.aload_n 0, 1) := by decide +kernel
theorem dX1_rank_56 : decode cX1_rank 56 = .ok (.getfield 21, 3) := by decide +kernel
theorem dX1_rank_59 : decode cX1_rank 59 = .ok (.iload 4, 2) := by decide +kernel
theorem dX1_rank_61 : decode cX1_rank 61 = .ok (.iload_n 2, 1) := by decide +kernel
theorem dX1_rank_62 : decode cX1_rank 62 = .ok (.iastore, 1) := by decide +kernel
theorem dX1_rank_63 : decode cX1_rank 63 = .ok (.return_, 1) := by decide +kernel
theorem dX1_isWeight_0 : decode cX1_isWeight 0 = .ok (.iload_n 0, 1) := by decide +kernel
theorem dX1_isWeight_1 : decode cX1_isWeight 1 = .ok (.ifCond .le 7, 3) := by decide +kernel
theorem dX1_isWeight_4 : decode cX1_isWeight 4 = .ok (.iconst 1, 1) := by decide +kernel
theorem dX1_isWeight_5 : decode cX1_isWeight 5 = .ok (.goto 4, 3) := by decide +kernel
theorem dX1_isWeight_8 : decode cX1_isWeight 8 = .ok (.iconst 0, 1) := by decide +kernel
theorem dX1_isWeight_9 : decode cX1_isWeight 9 = .ok (.ireturn, 1) := by decide +kernel
theorem dX1_slot_0 : decode cX1_slot 0 = .ok (.iload_n 0, 1) := by decide +kernel
theorem dX1_slot_1 : decode cX1_slot 1 = .ok (.bipush 6, 2) := by decide +kernel
theorem dX1_slot_3 : decode cX1_slot 3 = .ok (.imul, 1) := by decide +kernel
theorem dX1_slot_4 : decode cX1_slot 4 = .ok (.iload_n 1, 1) := by decide +kernel
theorem dX1_slot_5 : decode cX1_slot 5 = .ok (.iadd, 1) := by decide +kernel
theorem dX1_slot_6 : decode cX1_slot 6 = .ok (.iconst 1, 1) := by decide +kernel
theorem dX1_slot_7 : decode cX1_slot 7 = .ok (.isub, 1) := by decide +kernel
theorem dX1_slot_8 : decode cX1_slot 8 = .ok (.ireturn, 1) := by decide +kernel
end
section
theorem dX2_init_0 : decode cX2_init 0 = .ok (.aload_n 0, 1) := by decide +kernel
theorem dX2_init_1 : decode cX2_init 1 = .ok (.invokespecial 1, 3) := by decide +kernel
theorem dX2_init_4 : decode cX2_init 4 = .ok (.aload_n 0, 1) := by decide +kernel
theorem dX2_init_5 : decode cX2_init 5 = .ok (.new 7, 3) := by decide +kernel
theorem dX2_init_8 : decode cX2_init 8 = .ok (.dup, 1) := by decide +kernel
theorem dX2_init_9 : decode cX2_init 9 = .ok (.invokespecial 9, 3) := by decide +kernel
theorem dX2_init_12 : decode cX2_init 12 = .ok (.putfield 10, 3) := by decide +kernel
theorem dX2_init_15 : decode cX2_init 15 = .ok (.aload_n 0, 1) := by decide +kernel
theorem dX2_init_16 : decode cX2_init 16 = .ok (.new 16, 3) := by decide +kernel
theorem dX2_init_19 : decode cX2_init 19 = .ok (.dup, 1) := by decide +kernel
theorem dX2_init_20 : decode cX2_init 20 = .ok (.aload_n 0, 1) := by decide +kernel
theorem dX2_init_21 : decode cX2_init 21 = .ok (.getfield 10, 3) := by decide +kernel
theorem dX2_init_24 : decode cX2_init 24 = .ok (.invokespecial 18, 3) := by decide +kernel
theorem dX2_init_27 : decode cX2_init 27 = .ok (.putfield 21, 3) := by decide +kernel
theorem dX2_init_30 : decode cX2_init 30 = .ok (.aload_n 0, 1) := by decide +kernel
theorem dX2_init_31 : decode cX2_init 31 = .ok (.iconst 1, 1) := by decide +kernel
theorem dX2_init_32 : decode cX2_init 32 = .ok (.putfield 25, 3) := by decide +kernel
theorem dX2_init_35 : decode cX2_init 35 = .ok (.aload_n 0, 1) := by decide +kernel
theorem dX2_init_36 : decode cX2_init 36 = .ok (.ldc 29, 2) := by decide +kernel
theorem dX2_init_38 : decode cX2_init 38 = .ok (.putfield 30, 3) := by decide +kernel
theorem dX2_init_41 : decode cX2_init 41 = .ok (.aload_n 0, 1) := by decide +kernel
theorem dX2_init_42 : decode cX2_init 42 = .ok (.iconst 0, 1) := by decide +kernel
theorem dX2_init_43 : decode cX2_init 43 = .ok (.putfield 34, 3) := by decide +kernel
theorem dX2_init_46 : decode cX2_init 46 = .ok (.aload_n 0, 1) := by decide +kernel
theorem dX2_init_47 : decode cX2_init 47 = .ok (.ldc 29, 2) := by decide +kernel
theorem dX2_init_49 : decode cX2_init 49 = .ok (.putfield 37, 3) := by decide +kernel
theorem dX2_init_52 : decode cX2_init 52 = .ok (.aload_n 0, 1) := by decide +kernel
theorem dX2_init_53 : decode cX2_init 53 = .ok (.iload_n 1, 1) := by decide +kernel
theorem dX2_init_54 : decode cX2_init 54 = .ok (.invokestatic 40, 3) := by decide +kernel
theorem dX2_init_57 : decode cX2_init 57 = .ok (.ifCond .eq 7, 3) := by decide +kernel
theorem dX2_init_60 : decode cX2_init 60 = .ok (.iload_n 1, 1) := by decide +kernel
theorem dX2_init_61 : decode cX2_init 61 = .ok (.goto 5, 3) := by decide +kernel
theorem dX2_init_64 : decode cX2_init 64 = .ok (.bipush 8, 2) := by decide +kernel
theorem dX2_init_66 : decode cX2_init 66 = .ok (.invokevirtual 44, 3) := by decide +kernel
theorem dX2_init_69 : decode cX2_init 69 = .ok (.return_, 1) := by decide +kernel
theorem dX2_open_0 : decode cX2_open 0 = .ok (.iload_n 1, 1) := by decide +kernel
theorem dX2_open_1 : decode cX2_open 1 = .ok (.invokestatic 40, 3) := by decide +kernel
theorem dX2_open_4 : decode cX2_open 4 = .ok (.ifCond .ne 13, 3) := by decide +kernel
theorem dX2_open_7 : decode cX2_open 7 = .ok (.new 48, 3) := by decide +kernel
theorem dX2_open_10 : decode cX2_open 10 = .ok (.dup, 1) := by decide +kernel
theorem dX2_open_11 : decode cX2_open 11 = .ok (.ldc 50, 2) := by decide +kernel
theorem dX2_open_13 : decode cX2_open 13 = .ok (.invokespecial 52, 3) := by decide +kernel
theorem dX2_open_16 : decode cX2_open 16 = .ok (.athrow, 1) := by decide +kernel
theorem dX2_open_17 : decode cX2_open 17 = .ok (.aload_n 0, 1) := by decide +kernel
theorem dX2_open_18 : decode cX2_open 18 = .ok (.iload_n 1, 1) := by decide +kernel
theorem dX2_open_19 : decode cX2_open 19 = .ok (.invokevirtual 44, 3) := by decide +kernel
theorem dX2_open_22 : decode cX2_open 22 = .ok (.return_, 1) := by decide +kernel
theorem dX2_weigh_0 : decode cX2_weigh 0 = .ok (.iload_n 1, 1) := by decide +kernel
theorem dX2_weigh_1 : decode cX2_weigh 1 = .ok (.invokestatic 55, 3) := by decide +kernel
theorem dX2_weigh_4 : decode cX2_weigh 4 = .ok (.iload_n 2, 1) := by decide +kernel
theorem dX2_weigh_5 : decode cX2_weigh 5 = .ok (.invokestatic 58, 3) := by decide +kernel
theorem dX2_weigh_8 : decode cX2_weigh 8 = .ok (.aload_n 0, 1) := by decide +kernel
theorem dX2_weigh_9 : decode cX2_weigh 9 = .ok (.invokevirtual 61, 3) := by decide +kernel
theorem dX2_weigh_12 : decode cX2_weigh 12 = .ok (.istore_n 3, 1) := by decide +kernel
theorem dX2_weigh_13 : decode cX2_weigh 13 = .ok (.iload_n 1, 1) := by decide +kernel
theorem dX2_weigh_14 : decode cX2_weigh 14 = .ok (.bipush 10, 2) := by decide +kernel
theorem dX2_weigh_16 : decode cX2_weigh 16 = .ok (.idiv, 1) := by decide +kernel
theorem dX2_weigh_17 : decode cX2_weigh 17 = .ok (.istore 4, 2) := by decide +kernel
theorem dX2_weigh_19 : decode cX2_weigh 19 = .ok (.aload_n 0, 1) := by decide +kernel
theorem dX2_weigh_20 : decode cX2_weigh 20 = .ok (.iload_n 2, 1) := by decide +kernel
theorem dX2_weigh_21 : decode cX2_weigh 21 = .ok (.invokevirtual 65, 3) := by decide +kernel
theorem dX2_weigh_24 : decode cX2_weigh 24 = .ok (.istore 5, 2) := by decide +kernel
theorem dX2_weigh_26 : decode cX2_weigh 26 = .ok (.aload_n 0, 1) := by decide +kernel
theorem dX2_weigh_27 : decode cX2_weigh 27 = .ok (.getfield 10, 3) := by decide +kernel
theorem dX2_weigh_30 : decode cX2_weigh 30 = .ok (.iload_n 3, 1) := by decide +kernel
theorem dX2_weigh_31 : decode cX2_weigh 31 = .ok (.aload_n 0, 1) := by decide +kernel
theorem dX2_weigh_32 : decode cX2_weigh 32 = .ok (.getfield 21, 3) := by decide +kernel
theorem dX2_weigh_35 : decode cX2_weigh 35 = .ok (.invokevirtual 69, 3) := by decide +kernel
theorem dX2_weigh_38 : decode cX2_weigh 38 = .ok (.iload 4, 2) := by decide +kernel
theorem dX2_weigh_40 : decode cX2_weigh 40 = .ok (.iload 5, 2) := by decide +kernel
theorem dX2_weigh_42 : decode cX2_weigh 42 = .ok (.iconst 0, 1) := by decide +kernel
theorem dX2_weigh_43 : decode cX2_weigh 43 = .ok (.invokevirtual 72, 3) := by decide +kernel
theorem dX2_weigh_46 : decode cX2_weigh 46 = .ok (.aload_n 0, 1) := by decide +kernel
theorem dX2_weigh_47 : decode cX2_weigh 47 = .ok (.iload 4, 2) := by decide +kernel
theorem dX2_weigh_49 : decode cX2_weigh 49 = .ok (.iload 5, 2) := by decide +kernel
theorem dX2_weigh_51 : decode cX2_weigh 51 = .ok (.invokevirtual 76, 3) := by decide +kernel
theorem dX2_weigh_54 : decode cX2_weigh 54 = .ok (.aload_n 0, 1) := by decide +kernel
theorem dX2_weigh_55 : decode cX2_weigh 55 = .ok (.getfield 21, 3) := by decide +kernel
theorem dX2_weigh_58 : decode cX2_weigh 58 = .ok (.invokevirtual 80, 3) := by decide +kernel
theorem dX2_weigh_61 : decode cX2_weigh 61 = .ok (.iload 4, 2) := by decide +kernel
theorem dX2_weigh_63 : decode cX2_weigh 63 = .ok (.ireturn, 1) := by decide +kernel
theorem dX2_crack_0 : decode cX2_crack 0 = .ok (.iload_n 1, 1) := by decide +kernel
theorem dX2_crack_1 : decode cX2_crack 1 = .ok (.ifCond .eq 7, 3) := by decide +kernel
theorem dX2_crack_4 : decode cX2_crack 4 = .ok (.iload_n 1, 1) := by decide +kernel
theorem dX2_crack_5 : decode cX2_crack 5 = .ok (.invokestatic 55, 3) := by decide +kernel
theorem dX2_crack_8 : decode cX2_crack 8 = .ok (.iload_n 2, 1) := by decide +kernel
theorem dX2_crack_9 : decode cX2_crack 9 = .ok (.invokestatic 58, 3) := by decide +kernel
theorem dX2_crack_12 : decode cX2_crack 12 = .ok (.aload_n 0, 1) := by decide +kernel
theorem dX2_crack_13 : decode cX2_crack 13 = .ok (.invokevirtual 61, 3) := by decide +kernel
theorem dX2_crack_16 : decode cX2_crack 16 = .ok (.istore_n 3, 1) := by decide +kernel
theorem dX2_crack_17 : decode cX2_crack 17 = .ok (.aload_n 0, 1) := by decide +kernel
theorem dX2_crack_18 : decode cX2_crack 18 = .ok (.getfield 10, 3) := by decide +kernel
theorem dX2_crack_21 : decode cX2_crack 21 = .ok (.iload_n 3, 1) := by decide +kernel
theorem dX2_crack_22 : decode cX2_crack 22 = .ok (.aload_n 0, 1) := by decide +kernel
theorem dX2_crack_23 : decode cX2_crack 23 = .ok (.getfield 21, 3) := by decide +kernel
theorem dX2_crack_26 : decode cX2_crack 26 = .ok (.invokevirtual 69, 3) := by decide +kernel
theorem dX2_crack_29 : decode cX2_crack 29 = .ok (.iconst (-1), 1) := by decide +kernel
theorem dX2_crack_30 : decode cX2_crack 30 = .ok (.aload_n 0, 1) := by decide +kernel
theorem dX2_crack_31 : decode cX2_crack 31 = .ok (.iload_n 2, 1) := by decide +kernel
theorem dX2_crack_32 : decode cX2_crack 32 = .ok (.invokevirtual 65, 3) := by decide +kernel
theorem dX2_crack_35 : decode cX2_crack 35 = .ok (.iload_n 1, 1) := by decide +kernel
theorem dX2_crack_36 : decode cX2_crack 36 = .ok (.bipush 10, 2) := by decide +kernel
theorem dX2_crack_38 : decode cX2_crack 38 = .ok (.idiv, 1) := by decide +kernel
theorem dX2_crack_39 : decode cX2_crack 39 = .ok (.invokevirtual 72, 3) := by decide +kernel
theorem dX2_crack_42 : decode cX2_crack 42 = .ok (.aload_n 0, 1) := by decide +kernel
theorem dX2_crack_43 : decode cX2_crack 43 = .ok (.getfield 21, 3) := by decide +kernel
theorem dX2_crack_46 : decode cX2_crack 46 = .ok (.invokevirtual 80, 3) := by decide +kernel
theorem dX2_crack_49 : decode cX2_crack 49 = .ok (.return_, 1) := by decide +kernel
theorem dX2_pass_0 : decode cX2_pass 0 = .ok (.aload_n 0, 1) := by decide +kernel
theorem dX2_pass_1 : decode cX2_pass 1 = .ok (.invokevirtual 61, 3) := by decide +kernel
theorem dX2_pass_4 : decode cX2_pass 4 = .ok (.istore_n 1, 1) := by decide +kernel
theorem dX2_pass_5 : decode cX2_pass 5 = .ok (.aload_n 0, 1) := by decide +kernel
theorem dX2_pass_6 : decode cX2_pass 6 = .ok (.getfield 10, 3) := by decide +kernel
theorem dX2_pass_9 : decode cX2_pass 9 = .ok (.iload_n 1, 1) := by decide +kernel
theorem dX2_pass_10 : decode cX2_pass 10 = .ok (.aload_n 0, 1) := by decide +kernel
theorem dX2_pass_11 : decode cX2_pass 11 = .ok (.getfield 21, 3) := by decide +kernel
theorem dX2_pass_14 : decode cX2_pass 14 = .ok (.invokevirtual 69, 3) := by decide +kernel
theorem dX2_pass_17 : decode cX2_pass 17 = .ok (.bipush (-2), 2) := by decide +kernel
theorem dX2_pass_19 : decode cX2_pass 19 = .ok (.ldc 29, 2) := by decide +kernel
theorem dX2_pass_21 : decode cX2_pass 21 = .ok (.iconst 0, 1) := by decide +kernel
theorem dX2_pass_22 : decode cX2_pass 22 = .ok (.invokevirtual 72, 3) := by decide +kernel
theorem dX2_pass_25 : decode cX2_pass 25 = .ok (.aload_n 0, 1) := by decide +kernel
theorem dX2_pass_26 : decode cX2_pass 26 = .ok (.getfield 21, 3) := by decide +kernel
theorem dX2_pass_29 : decode cX2_pass 29 = .ok (.invokevirtual 80, 3) := by decide +kernel
theorem dX2_pass_32 : decode cX2_pass 32 = .ok (.return_, 1) := by decide +kernel
theorem dX2_leave_0 : decode cX2_leave 0 = .ok (.aload_n 0, 1) := by decide +kernel
theorem dX2_leave_1 : decode cX2_leave 1 = .ok (.iload_n 1, 1) := by decide +kernel
theorem dX2_leave_2 : decode cX2_leave 2 = .ok (.invokevirtual 83, 3) := by decide +kernel
theorem dX2_leave_5 : decode cX2_leave 5 = .ok (.aload_n 0, 1) := by decide +kernel
theorem dX2_leave_6 : decode cX2_leave 6 = .ok (.getfield 21, 3) := by decide +kernel
theorem dX2_leave_9 : decode cX2_leave 9 = .ok (.iload_n 1, 1) := by decide +kernel
theorem dX2_leave_10 : decode cX2_leave 10 = .ok (.invokevirtual 86, 3) := by decide +kernel
theorem dX2_leave_13 : decode cX2_leave 13 = .ok (.ifCond .eq 13, 3) := by decide +kernel
theorem dX2_leave_16 : decode cX2_leave 16 = .ok (.new 89, 3) := by decide +kernel
theorem dX2_leave_19 : decode cX2_leave 19 = .ok (.dup, 1) := by decide +kernel
theorem dX2_leave_20 : decode cX2_leave 20 = .ok (.ldc 91, 2) := by decide +kernel
theorem dX2_leave_22 : decode cX2_leave 22 = .ok (.invokespecial 93, 3) := by decide +kernel
theorem dX2_leave_25 : decode cX2_leave 25 = .ok (.athrow, 1) := by decide +kernel
theorem dX2_leave_26 : decode cX2_leave 26 = .ok (.aload_n 0, 1) := by decide +kernel
theorem dX2_leave_27 : decode cX2_leave 27 = .ok (.getfield 21, 3) := by decide +kernel
theorem dX2_leave_30 : decode cX2_leave 30 = .ok (.iload_n 1, 1) := by decide +kernel
theorem dX2_leave_31 : decode cX2_leave 31 = .ok (.invokevirtual 94, 3) := by decide +kernel
theorem dX2_leave_34 : decode cX2_leave 34 = .ok (.return_, 1) := by decide +kernel
theorem dX2_appeal_0 : decode cX2_appeal 0 = .ok (.aload_n 0, 1) := by decide +kernel
theorem dX2_appeal_1 : decode cX2_appeal 1 = .ok (.iload_n 1, 1) := by decide +kernel
theorem dX2_appeal_2 : decode cX2_appeal 2 = .ok (.invokevirtual 83, 3) := by decide +kernel
theorem dX2_appeal_5 : decode cX2_appeal 5 = .ok (.iload_n 2, 1) := by decide +kernel
theorem dX2_appeal_6 : decode cX2_appeal 6 = .ok (.invokestatic 97, 3) := by decide +kernel
theorem dX2_appeal_9 : decode cX2_appeal 9 = .ok (.aload_n 0, 1) := by decide +kernel
theorem dX2_appeal_10 : decode cX2_appeal 10 = .ok (.getfield 10, 3) := by decide +kernel
theorem dX2_appeal_13 : decode cX2_appeal 13 = .ok (.iload_n 1, 1) := by decide +kernel
theorem dX2_appeal_14 : decode cX2_appeal 14 = .ok (.iload_n 2, 1) := by decide +kernel
theorem dX2_appeal_15 : decode cX2_appeal 15 = .ok (.invokevirtual 100, 3) := by decide +kernel
theorem dX2_appeal_18 : decode cX2_appeal 18 = .ok (.ifCond .ne 13, 3) := by decide +kernel
theorem dX2_appeal_21 : decode cX2_appeal 21 = .ok (.new 89, 3) := by decide +kernel
theorem dX2_appeal_24 : decode cX2_appeal 24 = .ok (.dup, 1) := by decide +kernel
theorem dX2_appeal_25 : decode cX2_appeal 25 = .ok (.ldc 104, 2) := by decide +kernel
theorem dX2_appeal_27 : decode cX2_appeal 27 = .ok (.invokespecial 93, 3) := by decide +kernel
theorem dX2_appeal_30 : decode cX2_appeal 30 = .ok (.athrow, 1) := by decide +kernel
theorem dX2_appeal_31 : decode cX2_appeal 31 = .ok (.aload_n 0, 1) := by decide +kernel
theorem dX2_appeal_32 : decode cX2_appeal 32 = .ok (.getfield 10, 3) := by decide +kernel
theorem dX2_appeal_35 : decode cX2_appeal 35 = .ok (.iload_n 1, 1) := by decide +kernel
theorem dX2_appeal_36 : decode cX2_appeal 36 = .ok (.iload_n 2, 1) := by decide +kernel
theorem dX2_appeal_37 : decode cX2_appeal 37 = .ok (.invokevirtual 106, 3) := by decide +kernel
theorem dX2_appeal_40 : decode cX2_appeal 40 = .ok (.istore_n 3, 1) := by decide +kernel
theorem dX2_appeal_41 : decode cX2_appeal 41 = .ok (.aload_n 0, 1) := by decide +kernel
theorem dX2_appeal_42 : decode cX2_appeal 42 = .ok (.iload_n 3, 1) := by decide +kernel
theorem dX2_appeal_43 : decode cX2_appeal 43 = .ok (.aload_n 0, 1) := by decide +kernel
theorem dX2_appeal_44 : decode cX2_appeal 44 = .ok (.getfield 10, 3) := by decide +kernel
theorem dX2_appeal_47 : decode cX2_appeal 47 = .ok (.iload_n 1, 1) := by decide +kernel
theorem dX2_appeal_48 : decode cX2_appeal 48 = .ok (.iload_n 2, 1) := by decide +kernel
theorem dX2_appeal_49 : decode cX2_appeal 49 = .ok (.invokevirtual 110, 3) := by decide +kernel
theorem dX2_appeal_52 : decode cX2_appeal 52 = .ok (.invokevirtual 76, 3) := by decide +kernel
theorem dX2_appeal_55 : decode cX2_appeal 55 = .ok (.iload_n 3, 1) := by decide +kernel
theorem dX2_appeal_56 : decode cX2_appeal 56 = .ok (.ireturn, 1) := by decide +kernel
theorem dX2_level_0 : decode cX2_level 0 = .ok (.iload_n 1, 1) := by decide +kernel
theorem dX2_level_1 : decode cX2_level 1 = .ok (.aload_n 0, 1) := by decide +kernel
theorem dX2_level_2 : decode cX2_level 2 = .ok (.getfield 25, 3) := by decide +kernel
theorem dX2_level_5 : decode cX2_level 5 = .ok (.if_icmp .eq 7, 3) := by decide +kernel
theorem dX2_level_8 : decode cX2_level 8 = .ok (.iconst 1, 1) := by decide +kernel
theorem dX2_level_9 : decode cX2_level 9 = .ok (.goto 4, 3) := by decide +kernel
theorem dX2_level_12 : decode cX2_level 12 = .ok (.iconst 0, 1) := by decide +kernel
theorem dX2_level_13 : decode cX2_level 13 = .ok (.istore_n 2, 1) := by decide +kernel
theorem dX2_level_14 : decode cX2_level 14 = .ok (.aload_n 0, 1) := by decide +kernel
theorem dX2_level_15 : decode cX2_level 15 = .ok (.iload_n 1, 1) := by decide +kernel
theorem dX2_level_16 : decode cX2_level 16 = .ok (.putfield 25, 3) := by decide +kernel
theorem dX2_level_19 : decode cX2_level 19 = .ok (.iload_n 2, 1) := by decide +kernel
theorem dX2_level_20 : decode cX2_level 20 = .ok (.ireturn, 1) := by decide +kernel
theorem dX2_record_0 : decode cX2_record 0 = .ok (.iload_n 1, 1) := by decide +kernel
theorem dX2_record_1 : decode cX2_record 1 = .ok (.invokestatic 113, 3) := by decide +kernel
theorem dX2_record_4 : decode cX2_record 4 = .ok (.aload_n 0, 1) := by decide +kernel
theorem dX2_record_5 : decode cX2_record 5 = .ok (.iload_n 1, 1) := by decide +kernel
theorem dX2_record_6 : decode cX2_record 6 = .ok (.invokestatic 116, 3) := by decide +kernel
theorem dX2_record_9 : decode cX2_record 9 = .ok (.putfield 30, 3) := by decide +kernel
theorem dX2_record_12 : decode cX2_record 12 = .ok (.return_, 1) := by decide +kernel
theorem dX2_prize_0 : decode cX2_prize 0 = .ok (.iload_n 1, 1) := by decide +kernel
theorem dX2_prize_1 : decode cX2_prize 1 = .ok (.invokestatic 113, 3) := by decide +kernel
theorem dX2_prize_4 : decode cX2_prize 4 = .ok (.aload_n 0, 1) := by decide +kernel
theorem dX2_prize_5 : decode cX2_prize 5 = .ok (.iload_n 1, 1) := by decide +kernel
theorem dX2_prize_6 : decode cX2_prize 6 = .ok (.invokestatic 116, 3) := by decide +kernel
theorem dX2_prize_9 : decode cX2_prize 9 = .ok (.putfield 37, 3) := by decide +kernel
theorem dX2_prize_12 : decode cX2_prize 12 = .ok (.return_, 1) := by decide +kernel
theorem dX2_turn_0 : decode cX2_turn 0 = .ok (.aload_n 0, 1) := by decide +kernel
theorem dX2_turn_1 : decode cX2_turn 1 = .ok (.getfield 21, 3) := by decide +kernel
theorem dX2_turn_4 : decode cX2_turn 4 = .ok (.invokevirtual 119, 3) := by decide +kernel
theorem dX2_turn_7 : decode cX2_turn 7 = .ok (.ireturn, 1) := by decide +kernel
theorem dX2_day_0 : decode cX2_day 0 = .ok (.aload_n 0, 1) := by decide +kernel
theorem dX2_day_1 : decode cX2_day 1 = .ok (.getfield 21, 3) := by decide +kernel
theorem dX2_day_4 : decode cX2_day 4 = .ok (.invokevirtual 69, 3) := by decide +kernel
theorem dX2_day_7 : decode cX2_day 7 = .ok (.ireturn, 1) := by decide +kernel
theorem dX2_weight_0 : decode cX2_weight 0 = .ok (.aload_n 0, 1) := by decide +kernel
theorem dX2_weight_1 : decode cX2_weight 1 = .ok (.iload_n 1, 1) := by decide +kernel
theorem dX2_weight_2 : decode cX2_weight 2 = .ok (.invokevirtual 83, 3) := by decide +kernel
theorem dX2_weight_5 : decode cX2_weight 5 = .ok (.iload_n 2, 1) := by decide +kernel
theorem dX2_weight_6 : decode cX2_weight 6 = .ok (.invokestatic 97, 3) := by decide +kernel
theorem dX2_weight_9 : decode cX2_weight 9 = .ok (.aload_n 0, 1) := by decide +kernel
theorem dX2_weight_10 : decode cX2_weight 10 = .ok (.getfield 10, 3) := by decide +kernel
theorem dX2_weight_13 : decode cX2_weight 13 = .ok (.iload_n 1, 1) := by decide +kernel
theorem dX2_weight_14 : decode cX2_weight 14 = .ok (.iload_n 2, 1) := by decide +kernel
theorem dX2_weight_15 : decode cX2_weight 15 = .ok (.invokevirtual 122, 3) := by decide +kernel
theorem dX2_weight_18 : decode cX2_weight 18 = .ok (.ireturn, 1) := by decide +kernel
theorem dX2_tilt_0 : decode cX2_tilt 0 = .ok (.aload_n 0, 1) := by decide +kernel
theorem dX2_tilt_1 : decode cX2_tilt 1 = .ok (.iload_n 1, 1) := by decide +kernel
theorem dX2_tilt_2 : decode cX2_tilt 2 = .ok (.invokevirtual 83, 3) := by decide +kernel
theorem dX2_tilt_5 : decode cX2_tilt 5 = .ok (.iload_n 2, 1) := by decide +kernel
theorem dX2_tilt_6 : decode cX2_tilt 6 = .ok (.invokestatic 97, 3) := by decide +kernel
theorem dX2_tilt_9 : decode cX2_tilt 9 = .ok (.aload_n 0, 1) := by decide +kernel
theorem dX2_tilt_10 : decode cX2_tilt 10 = .ok (.getfield 10, 3) := by decide +kernel
theorem dX2_tilt_13 : decode cX2_tilt 13 = .ok (.iload_n 1, 1) := by decide +kernel
theorem dX2_tilt_14 : decode cX2_tilt 14 = .ok (.iload_n 2, 1) := by decide +kernel
theorem dX2_tilt_15 : decode cX2_tilt 15 = .ok (.invokevirtual 110, 3) := by decide +kernel
theorem dX2_tilt_18 : decode cX2_tilt 18 = .ok (.ireturn, 1) := by decide +kernel
theorem dX2_best_0 : decode cX2_best 0 = .ok (.aload_n 0, 1) := by decide +kernel
theorem dX2_best_1 : decode cX2_best 1 = .ok (.iload_n 1, 1) := by decide +kernel
theorem dX2_best_2 : decode cX2_best 2 = .ok (.invokevirtual 83, 3) := by decide +kernel
theorem dX2_best_5 : decode cX2_best 5 = .ok (.aload_n 0, 1) := by decide +kernel
theorem dX2_best_6 : decode cX2_best 6 = .ok (.getfield 10, 3) := by decide +kernel
theorem dX2_best_9 : decode cX2_best 9 = .ok (.iload_n 1, 1) := by decide +kernel
theorem dX2_best_10 : decode cX2_best 10 = .ok (.invokevirtual 125, 3) := by decide +kernel
theorem dX2_best_13 : decode cX2_best 13 = .ok (.ireturn, 1) := by decide +kernel
theorem dX2_place_0 : decode cX2_place 0 = .ok (.aload_n 0, 1) := by decide +kernel
theorem dX2_place_1 : decode cX2_place 1 = .ok (.iload_n 1, 1) := by decide +kernel
theorem dX2_place_2 : decode cX2_place 2 = .ok (.invokevirtual 83, 3) := by decide +kernel
theorem dX2_place_5 : decode cX2_place 5 = .ok (.aload_n 0, 1) := by decide +kernel
theorem dX2_place_6 : decode cX2_place 6 = .ok (.getfield 10, 3) := by decide +kernel
theorem dX2_place_9 : decode cX2_place 9 = .ok (.iload_n 1, 1) := by decide +kernel
theorem dX2_place_10 : decode cX2_place 10 = .ok (.invokevirtual 128, 3) := by decide +kernel
theorem dX2_place_13 : decode cX2_place 13 = .ok (.ireturn, 1) := by decide +kernel
theorem dX2_wins_0 : decode cX2_wins 0 = .ok (.aload_n 0, 1) := by decide +kernel
theorem dX2_wins_1 : decode cX2_wins 1 = .ok (.iload_n 1, 1) := by decide +kernel
theorem dX2_wins_2 : decode cX2_wins 2 = .ok (.invokevirtual 83, 3) := by decide +kernel
theorem dX2_wins_5 : decode cX2_wins 5 = .ok (.aload_n 0, 1) := by decide +kernel
theorem dX2_wins_6 : decode cX2_wins 6 = .ok (.getfield 10, 3) := by decide +kernel
theorem dX2_wins_9 : decode cX2_wins 9 = .ok (.iload_n 1, 1) := by decide +kernel
theorem dX2_wins_10 : decode cX2_wins 10 = .ok (.invokevirtual 125, 3) := by decide +kernel
theorem dX2_wins_13 : decode cX2_wins 13 = .ok (.istore_n 2, 1) := by decide +kernel
theorem dX2_wins_14 : decode cX2_wins 14 = .ok (.aload_n 0, 1) := by decide +kernel
theorem dX2_wins_15 : decode cX2_wins 15 = .ok (.getfield 37, 3) := by decide +kernel
theorem dX2_wins_18 : decode cX2_wins 18 = .ok (.ldc 29, 2) := by decide +kernel
theorem dX2_wins_20 : decode cX2_wins 20 = .ok (.if_icmp .eq 21, 3) := by decide +kernel
theorem dX2_wins_23 : decode cX2_wins 23 = .ok (.iload_n 2, 1) := by decide +kernel
theorem dX2_wins_24 : decode cX2_wins 24 = .ok (.ldc 29, 2) := by decide +kernel
theorem dX2_wins_26 : decode cX2_wins 26 = .ok (.if_icmp .eq 15, 3) := by decide +kernel
theorem dX2_wins_29 : decode cX2_wins 29 = .ok (.iload_n 2, 1) := by decide +kernel
theorem dX2_wins_30 : decode cX2_wins 30 = .ok (.aload_n 0, 1) := by decide +kernel
theorem dX2_wins_31 : decode cX2_wins 31 = .ok (.getfield 37, 3) := by decide +kernel
theorem dX2_wins_34 : decode cX2_wins 34 = .ok (.if_icmp .lt 7, 3) := by decide +kernel
theorem dX2_wins_37 : decode cX2_wins 37 = .ok (.iconst 1, 1) := by decide +kernel
theorem dX2_wins_38 : decode cX2_wins 38 = .ok (.goto 4, 3) := by decide +kernel
theorem dX2_wins_41 : decode cX2_wins 41 = .ok (.iconst 0, 1) := by decide +kernel
theorem dX2_wins_42 : decode cX2_wins 42 = .ok (.ireturn, 1) := by decide +kernel
theorem dX2_count_0 : decode cX2_count 0 = .ok (.iload_n 1, 1) := by decide +kernel
theorem dX2_count_1 : decode cX2_count 1 = .ok (.invokestatic 131, 3) := by decide +kernel
theorem dX2_count_4 : decode cX2_count 4 = .ok (.iload_n 2, 1) := by decide +kernel
theorem dX2_count_5 : decode cX2_count 5 = .ok (.invokestatic 134, 3) := by decide +kernel
theorem dX2_count_8 : decode cX2_count 8 = .ok (.iconst 0, 1) := by decide +kernel
theorem dX2_count_9 : decode cX2_count 9 = .ok (.istore 4, 2) := by decide +kernel
theorem dX2_count_11 : decode cX2_count 11 = .ok (.iconst 0, 1) := by decide +kernel
theorem dX2_count_12 : decode cX2_count 12 = .ok (.istore 5, 2) := by decide +kernel
theorem dX2_count_14 : decode cX2_count 14 = .ok (.iload 5, 2) := by decide +kernel
theorem dX2_count_16 : decode cX2_count 16 = .ok (.aload_n 0, 1) := by decide +kernel
theorem dX2_count_17 : decode cX2_count 17 = .ok (.getfield 10, 3) := by decide +kernel
theorem dX2_count_20 : decode cX2_count 20 = .ok (.invokevirtual 137, 3) := by decide +kernel
theorem dX2_count_23 : decode cX2_count 23 = .ok (.if_icmp .ge 62, 3) := by decide +kernel
theorem dX2_count_26 : decode cX2_count 26 = .ok (.iconst 1, 1) := by decide +kernel
theorem dX2_count_27 : decode cX2_count 27 = .ok (.istore 6, 2) := by decide +kernel
theorem dX2_count_29 : decode cX2_count 29 = .ok (.iload 6, 2) := by decide +kernel
theorem dX2_count_31 : decode cX2_count 31 = .ok (.bipush 6, 2) := by decide +kernel
theorem dX2_count_33 : decode cX2_count 33 = .ok (.if_icmp .gt 46, 3) := by decide +kernel
theorem dX2_count_36 : decode cX2_count 36 = .ok (.aload_n 0, 1) := by decide +kernel
theorem dX2_count_37 : decode cX2_count 37 = .ok (.getfield 10, 3) := by decide +kernel
theorem dX2_count_40 : decode cX2_count 40 = .ok (.iload 5, 2) := by decide +kernel
theorem dX2_count_42 : decode cX2_count 42 = .ok (.iload 6, 2) := by decide +kernel
theorem dX2_count_44 : decode cX2_count 44 = .ok (.invokevirtual 140, 3) := by decide +kernel
theorem dX2_count_47 : decode cX2_count 47 = .ok (.ifCond .eq 26, 3) := by decide +kernel
theorem dX2_count_50 : decode cX2_count 50 = .ok (.iload_n 2, 1) := by decide +kernel
theorem dX2_count_51 : decode cX2_count 51 = .ok (.aload_n 0, 1) := by decide +kernel
theorem dX2_count_52 : decode cX2_count 52 = .ok (.getfield 10, 3) := by decide +kernel
theorem dX2_count_55 : decode cX2_count 55 = .ok (.iload_n 1, 1) := by decide +kernel
theorem dX2_count_56 : decode cX2_count 56 = .ok (.iload 5, 2) := by decide +kernel
theorem dX2_count_58 : decode cX2_count 58 = .ok (.iload 6, 2) := by decide +kernel
theorem dX2_count_60 : decode cX2_count 60 = .ok (.invokevirtual 143, 3) := by decide +kernel
theorem dX2_count_63 : decode cX2_count 63 = .ok (.iload_n 3, 1) := by decide +kernel
theorem dX2_count_64 : decode cX2_count 64 = .ok (.invokestatic 147, 3) := by decide +kernel
theorem dX2_count_67 : decode cX2_count 67 = .ok (.ifCond .eq 6, 3) := by decide +kernel
theorem dX2_count_70 : decode cX2_count 70 = .ok (.iinc 4 1, 3) := by decide +kernel
theorem dX2_count_73 : decode cX2_count 73 = .ok (.iinc 6 1, 3) := by decide +kernel
theorem dX2_count_76 : decode cX2_count 76 = .ok (.goto (-47), 3) := by decide +kernel
theorem dX2_count_79 : decode cX2_count 79 = .ok (.iinc 5 1, 3) := by decide +kernel
theorem dX2_count_82 : decode cX2_count 82 = .ok (.goto (-68), 3) := by decide +kernel
theorem dX2_count_85 : decode cX2_count 85 = .ok (.iload 4, 2) := by decide +kernel
theorem dX2_count_87 : decode cX2_count 87 = .ok (.ireturn, 1) := by decide +kernel
theorem dX2_first_0 : decode cX2_first 0 = .ok (.iload_n 1, 1) := by decide +kernel
theorem dX2_first_1 : decode cX2_first 1 = .ok (.invokestatic 131, 3) := by decide +kernel
theorem dX2_first_4 : decode cX2_first 4 = .ok (.iload_n 2, 1) := by decide +kernel
theorem dX2_first_5 : decode cX2_first 5 = .ok (.invokestatic 134, 3) := by decide +kernel
theorem dX2_first_8 : decode cX2_first 8 = .ok (.iconst 0, 1) := by decide +kernel
theorem dX2_first_9 : decode cX2_first 9 = .ok (.istore 4, 2) := by decide +kernel
theorem dX2_first_11 : decode cX2_first 11 = .ok (.iload 4, 2) := by decide +kernel
theorem dX2_first_13 : decode cX2_first 13 = .ok (.aload_n 0, 1) := by decide +kernel
theorem dX2_first_14 : decode cX2_first 14 = .ok (.getfield 10, 3) := by decide +kernel
theorem dX2_first_17 : decode cX2_first 17 = .ok (.invokevirtual 137, 3) := by decide +kernel
theorem dX2_first_20 : decode cX2_first 20 = .ok (.if_icmp .ge 50, 3) := by decide +kernel
theorem dX2_first_23 : decode cX2_first 23 = .ok (.aload_n 0, 1) := by decide +kernel
theorem dX2_first_24 : decode cX2_first 24 = .ok (.getfield 10, 3) := by decide +kernel
theorem dX2_first_27 : decode cX2_first 27 = .ok (.iload 4, 2) := by decide +kernel
theorem dX2_first_29 : decode cX2_first 29 = .ok (.invokevirtual 151, 3) := by decide +kernel
theorem dX2_first_32 : decode cX2_first 32 = .ok (.istore 5, 2) := by decide +kernel
theorem dX2_first_34 : decode cX2_first 34 = .ok (.iload 5, 2) := by decide +kernel
theorem dX2_first_36 : decode cX2_first 36 = .ok (.ldc 29, 2) := by decide +kernel
theorem dX2_first_38 : decode cX2_first 38 = .ok (.if_icmp .eq 26, 3) := by decide +kernel
theorem dX2_first_41 : decode cX2_first 41 = .ok (.iload_n 2, 1) := by decide +kernel
theorem dX2_first_42 : decode cX2_first 42 = .ok (.aload_n 0, 1) := by decide +kernel
theorem dX2_first_43 : decode cX2_first 43 = .ok (.getfield 10, 3) := by decide +kernel
theorem dX2_first_46 : decode cX2_first 46 = .ok (.iload_n 1, 1) := by decide +kernel
theorem dX2_first_47 : decode cX2_first 47 = .ok (.iload 4, 2) := by decide +kernel
theorem dX2_first_49 : decode cX2_first 49 = .ok (.iload 5, 2) := by decide +kernel
theorem dX2_first_51 : decode cX2_first 51 = .ok (.invokevirtual 143, 3) := by decide +kernel
theorem dX2_first_54 : decode cX2_first 54 = .ok (.iload_n 3, 1) := by decide +kernel
theorem dX2_first_55 : decode cX2_first 55 = .ok (.invokestatic 147, 3) := by decide +kernel
theorem dX2_first_58 : decode cX2_first 58 = .ok (.ifCond .eq 6, 3) := by decide +kernel
theorem dX2_first_61 : decode cX2_first 61 = .ok (.iload 4, 2) := by decide +kernel
theorem dX2_first_63 : decode cX2_first 63 = .ok (.ireturn, 1) := by decide +kernel
theorem dX2_first_64 : decode cX2_first 64 = .ok (.iinc 4 1, 3) := by decide +kernel
theorem dX2_first_67 : decode cX2_first 67 = .ok (.goto (-56), 3) := by decide +kernel
theorem dX2_first_70 : decode cX2_first 70 = .ok (.ldc 29, 2) := by decide +kernel
theorem dX2_first_72 : decode cX2_first 72 = .ok (.ireturn, 1) := by decide +kernel
theorem dX2_lamps_0 : decode cX2_lamps 0 = .ok (.iload_n 1, 1) := by decide +kernel
theorem dX2_lamps_1 : decode cX2_lamps 1 = .ok (.invokestatic 131, 3) := by decide +kernel
theorem dX2_lamps_4 : decode cX2_lamps 4 = .ok (.iload_n 2, 1) := by decide +kernel
theorem dX2_lamps_5 : decode cX2_lamps 5 = .ok (.invokestatic 134, 3) := by decide +kernel
theorem dX2_lamps_8 : decode cX2_lamps 8 = .ok (.iconst 0, 1) := by decide +kernel
theorem dX2_lamps_9 : decode cX2_lamps 9 = .ok (.istore 4, 2) := by decide +kernel
theorem dX2_lamps_11 : decode cX2_lamps 11 = .ok (.iconst 0, 1) := by decide +kernel
theorem dX2_lamps_12 : decode cX2_lamps 12 = .ok (.istore 5, 2) := by decide +kernel
theorem dX2_lamps_14 : decode cX2_lamps 14 = .ok (.iload 5, 2) := by decide +kernel
theorem dX2_lamps_16 : decode cX2_lamps 16 = .ok (.aload_n 0, 1) := by decide +kernel
theorem dX2_lamps_17 : decode cX2_lamps 17 = .ok (.getfield 10, 3) := by decide +kernel
theorem dX2_lamps_20 : decode cX2_lamps 20 = .ok (.invokevirtual 137, 3) := by decide +kernel
theorem dX2_lamps_23 : decode cX2_lamps 23 = .ok (.if_icmp .ge 33, 3) := by decide +kernel
theorem dX2_lamps_26 : decode cX2_lamps 26 = .ok (.iload_n 2, 1) := by decide +kernel
theorem dX2_lamps_27 : decode cX2_lamps 27 = .ok (.aload_n 0, 1) := by decide +kernel
theorem dX2_lamps_28 : decode cX2_lamps 28 = .ok (.iload_n 1, 1) := by decide +kernel
theorem dX2_lamps_29 : decode cX2_lamps 29 = .ok (.iload 5, 2) := by decide +kernel
theorem dX2_lamps_31 : decode cX2_lamps 31 = .ok (.invokevirtual 154, 3) := by decide +kernel
theorem dX2_lamps_34 : decode cX2_lamps 34 = .ok (.iload_n 3, 1) := by decide +kernel
theorem dX2_lamps_35 : decode cX2_lamps 35 = .ok (.invokestatic 147, 3) := by decide +kernel
theorem dX2_lamps_38 : decode cX2_lamps 38 = .ok (.ifCond .eq 12, 3) := by decide +kernel
theorem dX2_lamps_41 : decode cX2_lamps 41 = .ok (.iload 4, 2) := by decide +kernel
theorem dX2_lamps_43 : decode cX2_lamps 43 = .ok (.iconst 1, 1) := by decide +kernel
theorem dX2_lamps_44 : decode cX2_lamps 44 = .ok (.iload 5, 2) := by decide +kernel
theorem dX2_lamps_46 : decode cX2_lamps 46 = .ok (.ishl, 1) := by decide +kernel
theorem dX2_lamps_47 : decode cX2_lamps 47 = .ok (.ior, 1) := by decide +kernel
theorem dX2_lamps_48 : decode cX2_lamps 48 = .ok (.istore 4, 2) := by decide +kernel
theorem dX2_lamps_50 : decode cX2_lamps 50 = .ok (.iinc 5 1, 3) := by decide +kernel
theorem dX2_lamps_53 : decode cX2_lamps 53 = .ok (.goto (-39), 3) := by decide +kernel
theorem dX2_lamps_56 : decode cX2_lamps 56 = .ok (.iload 4, 2) := by decide +kernel
theorem dX2_lamps_58 : decode cX2_lamps 58 = .ok (.ireturn, 1) := by decide +kernel
theorem dX2_stands_0 : decode cX2_stands 0 = .ok (.iload_n 1, 1) := by decide +kernel
theorem dX2_stands_1 : decode cX2_stands 1 = .ok (.invokestatic 131, 3) := by decide +kernel
theorem dX2_stands_4 : decode cX2_stands 4 = .ok (.aload_n 0, 1) := by decide +kernel
theorem dX2_stands_5 : decode cX2_stands 5 = .ok (.iload_n 2, 1) := by decide +kernel
theorem dX2_stands_6 : decode cX2_stands 6 = .ok (.invokevirtual 83, 3) := by decide +kernel
theorem dX2_stands_9 : decode cX2_stands 9 = .ok (.aload_n 0, 1) := by decide +kernel
theorem dX2_stands_10 : decode cX2_stands 10 = .ok (.iload_n 3, 1) := by decide +kernel
theorem dX2_stands_11 : decode cX2_stands 11 = .ok (.invokevirtual 83, 3) := by decide +kernel
theorem dX2_stands_14 : decode cX2_stands 14 = .ok (.aload_n 0, 1) := by decide +kernel
theorem dX2_stands_15 : decode cX2_stands 15 = .ok (.iload_n 1, 1) := by decide +kernel
theorem dX2_stands_16 : decode cX2_stands 16 = .ok (.iload_n 2, 1) := by decide +kernel
theorem dX2_stands_17 : decode cX2_stands 17 = .ok (.invokevirtual 154, 3) := by decide +kernel
theorem dX2_stands_20 : decode cX2_stands 20 = .ok (.istore 4, 2) := by decide +kernel
theorem dX2_stands_22 : decode cX2_stands 22 = .ok (.aload_n 0, 1) := by decide +kernel
theorem dX2_stands_23 : decode cX2_stands 23 = .ok (.iload_n 1, 1) := by decide +kernel
theorem dX2_stands_24 : decode cX2_stands 24 = .ok (.iload_n 3, 1) := by decide +kernel
theorem dX2_stands_25 : decode cX2_stands 25 = .ok (.invokevirtual 154, 3) := by decide +kernel
theorem dX2_stands_28 : decode cX2_stands 28 = .ok (.istore 5, 2) := by decide +kernel
theorem dX2_stands_30 : decode cX2_stands 30 = .ok (.iconst 0, 1) := by decide +kernel
theorem dX2_stands_31 : decode cX2_stands 31 = .ok (.istore 6, 2) := by decide +kernel
theorem dX2_stands_33 : decode cX2_stands 33 = .ok (.iconst 0, 1) := by decide +kernel
theorem dX2_stands_34 : decode cX2_stands 34 = .ok (.istore 7, 2) := by decide +kernel
theorem dX2_stands_36 : decode cX2_stands 36 = .ok (.iload 7, 2) := by decide +kernel
theorem dX2_stands_38 : decode cX2_stands 38 = .ok (.bipush 6, 2) := by decide +kernel
theorem dX2_stands_40 : decode cX2_stands 40 = .ok (.if_icmp .ge 30, 3) := by decide +kernel
theorem dX2_stands_43 : decode cX2_stands 43 = .ok (.iload 7, 2) := by decide +kernel
theorem dX2_stands_45 : decode cX2_stands 45 = .ok (.iload 4, 2) := by decide +kernel
theorem dX2_stands_47 : decode cX2_stands 47 = .ok (.iload 5, 2) := by decide +kernel
theorem dX2_stands_49 : decode cX2_stands 49 = .ok (.invokestatic 147, 3) := by decide +kernel
theorem dX2_stands_52 : decode cX2_stands 52 = .ok (.ifCond .eq 12, 3) := by decide +kernel
theorem dX2_stands_55 : decode cX2_stands 55 = .ok (.iload 6, 2) := by decide +kernel
theorem dX2_stands_57 : decode cX2_stands 57 = .ok (.iconst 1, 1) := by decide +kernel
theorem dX2_stands_58 : decode cX2_stands 58 = .ok (.iload 7, 2) := by decide +kernel
theorem dX2_stands_60 : decode cX2_stands 60 = .ok (.ishl, 1) := by decide +kernel
theorem dX2_stands_61 : decode cX2_stands 61 = .ok (.ior, 1) := by decide +kernel
theorem dX2_stands_62 : decode cX2_stands 62 = .ok (.istore 6, 2) := by decide +kernel
theorem dX2_stands_64 : decode cX2_stands 64 = .ok (.iinc 7 1, 3) := by decide +kernel
theorem dX2_stands_67 : decode cX2_stands 67 = .ok (.goto (-31), 3) := by decide +kernel
theorem dX2_stands_70 : decode cX2_stands 70 = .ok (.iload 6, 2) := by decide +kernel
theorem dX2_stands_72 : decode cX2_stands 72 = .ok (.ireturn, 1) := by decide +kernel
theorem dX2_lean_0 : decode cX2_lean 0 = .ok (.iload_n 1, 1) := by decide +kernel
theorem dX2_lean_1 : decode cX2_lean 1 = .ok (.invokestatic 97, 3) := by decide +kernel
theorem dX2_lean_4 : decode cX2_lean 4 = .ok (.ldc 29, 2) := by decide +kernel
theorem dX2_lean_6 : decode cX2_lean 6 = .ok (.istore_n 3, 1) := by decide +kernel
theorem dX2_lean_7 : decode cX2_lean 7 = .ok (.iconst 0, 1) := by decide +kernel
theorem dX2_lean_8 : decode cX2_lean 8 = .ok (.istore 4, 2) := by decide +kernel
theorem dX2_lean_10 : decode cX2_lean 10 = .ok (.iload 4, 2) := by decide +kernel
theorem dX2_lean_12 : decode cX2_lean 12 = .ok (.aload_n 0, 1) := by decide +kernel
theorem dX2_lean_13 : decode cX2_lean 13 = .ok (.getfield 10, 3) := by decide +kernel
theorem dX2_lean_16 : decode cX2_lean 16 = .ok (.invokevirtual 137, 3) := by decide +kernel
theorem dX2_lean_19 : decode cX2_lean 19 = .ok (.if_icmp .ge 56, 3) := by decide +kernel
theorem dX2_lean_22 : decode cX2_lean 22 = .ok (.aload_n 0, 1) := by decide +kernel
theorem dX2_lean_23 : decode cX2_lean 23 = .ok (.getfield 10, 3) := by decide +kernel
theorem dX2_lean_26 : decode cX2_lean 26 = .ok (.iload 4, 2) := by decide +kernel
theorem dX2_lean_28 : decode cX2_lean 28 = .ok (.iload_n 1, 1) := by decide +kernel
theorem dX2_lean_29 : decode cX2_lean 29 = .ok (.invokevirtual 110, 3) := by decide +kernel
theorem dX2_lean_32 : decode cX2_lean 32 = .ok (.istore 5, 2) := by decide +kernel
theorem dX2_lean_34 : decode cX2_lean 34 = .ok (.iload 5, 2) := by decide +kernel
theorem dX2_lean_36 : decode cX2_lean 36 = .ok (.ldc 29, 2) := by decide +kernel
theorem dX2_lean_38 : decode cX2_lean 38 = .ok (.if_icmp .eq 31, 3) := by decide +kernel
theorem dX2_lean_41 : decode cX2_lean 41 = .ok (.iload_n 3, 1) := by decide +kernel
theorem dX2_lean_42 : decode cX2_lean 42 = .ok (.ldc 29, 2) := by decide +kernel
theorem dX2_lean_44 : decode cX2_lean 44 = .ok (.if_icmp .eq 22, 3) := by decide +kernel
theorem dX2_lean_47 : decode cX2_lean 47 = .ok (.iload_n 2, 1) := by decide +kernel
theorem dX2_lean_48 : decode cX2_lean 48 = .ok (.ifCond .eq 12, 3) := by decide +kernel
theorem dX2_lean_51 : decode cX2_lean 51 = .ok (.iload 5, 2) := by decide +kernel
theorem dX2_lean_53 : decode cX2_lean 53 = .ok (.iload_n 3, 1) := by decide +kernel
theorem dX2_lean_54 : decode cX2_lean 54 = .ok (.if_icmp .ge 15, 3) := by decide +kernel
theorem dX2_lean_57 : decode cX2_lean 57 = .ok (.goto 9, 3) := by decide +kernel
theorem dX2_lean_60 : decode cX2_lean 60 = .ok (.iload 5, 2) := by decide +kernel
theorem dX2_lean_62 : decode cX2_lean 62 = .ok (.iload_n 3, 1) := by decide +kernel
theorem dX2_lean_63 : decode cX2_lean 63 = .ok (.if_icmp .le 6, 3) := by decide +kernel
theorem dX2_lean_66 : decode cX2_lean 66 = .ok (.iload 5, 2) := by decide +kernel
theorem dX2_lean_68 : decode cX2_lean 68 = .ok (.istore_n 3, 1) := by decide +kernel
theorem dX2_lean_69 : decode cX2_lean 69 = .ok (.iinc 4 1, 3) := by decide +kernel
theorem dX2_lean_72 : decode cX2_lean 72 = .ok (.goto (-62), 3) := by decide +kernel
theorem dX2_lean_75 : decode cX2_lean 75 = .ok (.iload_n 3, 1) := by decide +kernel
theorem dX2_lean_76 : decode cX2_lean 76 = .ok (.ireturn, 1) := by decide +kernel
theorem dX2_look_0 : decode cX2_look 0 = .ok (.iload_n 1, 1) := by decide +kernel
theorem dX2_look_1 : decode cX2_look 1 = .ok (.tableswitch 78 0 5 #[39, 44, 49, 54, 62, 70], 39) := by decide +kernel
theorem dX2_look_40 : decode cX2_look 40 = .ok (.aload_n 0, 1) := by decide +kernel
theorem dX2_look_41 : decode cX2_look 41 = .ok (.getfield 30, 3) := by decide +kernel
theorem dX2_look_44 : decode cX2_look 44 = .ok (.ireturn, 1) := by decide +kernel
theorem dX2_look_45 : decode cX2_look 45 = .ok (.aload_n 0, 1) := by decide +kernel
theorem dX2_look_46 : decode cX2_look 46 = .ok (.getfield 37, 3) := by decide +kernel
theorem dX2_look_49 : decode cX2_look 49 = .ok (.ireturn, 1) := by decide +kernel
theorem dX2_look_50 : decode cX2_look 50 = .ok (.aload_n 0, 1) := by decide +kernel
theorem dX2_look_51 : decode cX2_look 51 = .ok (.getfield 34, 3) := by decide +kernel
theorem dX2_look_54 : decode cX2_look 54 = .ok (.ireturn, 1) := by decide +kernel
theorem dX2_look_55 : decode cX2_look 55 = .ok (.aload_n 0, 1) := by decide +kernel
theorem dX2_look_56 : decode cX2_look 56 = .ok (.getfield 10, 3) := by decide +kernel
theorem dX2_look_59 : decode cX2_look 59 = .ok (.invokevirtual 157, 3) := by decide +kernel
theorem dX2_look_62 : decode cX2_look 62 = .ok (.ireturn, 1) := by decide +kernel
theorem dX2_look_63 : decode cX2_look 63 = .ok (.aload_n 0, 1) := by decide +kernel
theorem dX2_look_64 : decode cX2_look 64 = .ok (.getfield 10, 3) := by decide +kernel
theorem dX2_look_67 : decode cX2_look 67 = .ok (.invokevirtual 137, 3) := by decide +kernel
theorem dX2_look_70 : decode cX2_look 70 = .ok (.ireturn, 1) := by decide +kernel
theorem dX2_look_71 : decode cX2_look 71 = .ok (.aload_n 0, 1) := by decide +kernel
theorem dX2_look_72 : decode cX2_look 72 = .ok (.getfield 21, 3) := by decide +kernel
theorem dX2_look_75 : decode cX2_look 75 = .ok (.invokevirtual 160, 3) := by decide +kernel
theorem dX2_look_78 : decode cX2_look 78 = .ok (.ireturn, 1) := by decide +kernel
theorem dX2_look_79 : decode cX2_look 79 = .ok (.new 48, 3) := by decide +kernel
theorem dX2_look_82 : decode cX2_look 82 = .ok (.dup, 1) := by decide +kernel
theorem dX2_look_83 : decode cX2_look 83 = .ok (.ldc 163, 2) := by decide +kernel
theorem dX2_look_85 : decode cX2_look 85 = .ok (.invokespecial 52, 3) := by decide +kernel
theorem dX2_look_88 : decode cX2_look 88 = .ok (.athrow, 1) := by decide +kernel
theorem dX2_begin_0 : decode cX2_begin 0 = .ok (.aload_n 0, 1) := by decide +kernel
theorem dX2_begin_1 : decode cX2_begin 1 = .ok (.getfield 10, 3) := by decide +kernel
theorem dX2_begin_4 : decode cX2_begin 4 = .ok (.iload_n 1, 1) := by decide +kernel
theorem dX2_begin_5 : decode cX2_begin 5 = .ok (.invokevirtual 165, 3) := by decide +kernel
theorem dX2_begin_8 : decode cX2_begin 8 = .ok (.aload_n 0, 1) := by decide +kernel
theorem dX2_begin_9 : decode cX2_begin 9 = .ok (.getfield 21, 3) := by decide +kernel
theorem dX2_begin_12 : decode cX2_begin 12 = .ok (.invokevirtual 168, 3) := by decide +kernel
theorem dX2_begin_15 : decode cX2_begin 15 = .ok (.return_, 1) := by decide +kernel
theorem dX2_tiltIfLevel_0 : decode cX2_tiltIfLevel 0 = .ok (.aload_n 0, 1) := by decide +kernel
theorem dX2_tiltIfLevel_1 : decode cX2_tiltIfLevel 1 = .ok (.getfield 25, 3) := by decide +kernel
theorem dX2_tiltIfLevel_4 : decode cX2_tiltIfLevel 4 = .ok (.ifCond .eq 7, 3) := by decide +kernel
theorem dX2_tiltIfLevel_7 : decode cX2_tiltIfLevel 7 = .ok (.iload_n 1, 1) := by decide +kernel
theorem dX2_tiltIfLevel_8 : decode cX2_tiltIfLevel 8 = .ok (.goto 5, 3) := by decide +kernel
theorem dX2_tiltIfLevel_11 : decode cX2_tiltIfLevel 11 = .ok (.ldc 29, 2) := by decide +kernel
theorem dX2_tiltIfLevel_13 : decode cX2_tiltIfLevel 13 = .ok (.ireturn, 1) := by decide +kernel
theorem dX2_noteRecord_0 : decode cX2_noteRecord 0 = .ok (.iload_n 2, 1) := by decide +kernel
theorem dX2_noteRecord_1 : decode cX2_noteRecord 1 = .ok (.ldc 29, 2) := by decide +kernel
theorem dX2_noteRecord_3 : decode cX2_noteRecord 3 = .ok (.if_icmp .eq 9, 3) := by decide +kernel
theorem dX2_noteRecord_6 : decode cX2_noteRecord 6 = .ok (.iload_n 2, 1) := by decide +kernel
theorem dX2_noteRecord_7 : decode cX2_noteRecord 7 = .ok (.bipush 20, 2) := by decide +kernel
theorem dX2_noteRecord_9 : decode cX2_noteRecord 9 = .ok (.if_icmp .le 4, 3) := by decide +kernel
theorem dX2_noteRecord_12 : decode cX2_noteRecord 12 = .ok (.return_, 1) := by decide +kernel
theorem dX2_noteRecord_13 : decode cX2_noteRecord 13 = .ok (.aload_n 0, 1) := by decide +kernel
theorem dX2_noteRecord_14 : decode cX2_noteRecord 14 = .ok (.getfield 30, 3) := by decide +kernel
theorem dX2_noteRecord_17 : decode cX2_noteRecord 17 = .ok (.ldc 29, 2) := by decide +kernel
theorem dX2_noteRecord_19 : decode cX2_noteRecord 19 = .ok (.if_icmp .eq 11, 3) := by decide +kernel
theorem dX2_noteRecord_22 : decode cX2_noteRecord 22 = .ok (.iload_n 1, 1) := by decide +kernel
theorem dX2_noteRecord_23 : decode cX2_noteRecord 23 = .ok (.aload_n 0, 1) := by decide +kernel
theorem dX2_noteRecord_24 : decode cX2_noteRecord 24 = .ok (.getfield 30, 3) := by decide +kernel
theorem dX2_noteRecord_27 : decode cX2_noteRecord 27 = .ok (.if_icmp .le 18, 3) := by decide +kernel
theorem dX2_noteRecord_30 : decode cX2_noteRecord 30 = .ok (.aload_n 0, 1) := by decide +kernel
theorem dX2_noteRecord_31 : decode cX2_noteRecord 31 = .ok (.iload_n 1, 1) := by decide +kernel
theorem dX2_noteRecord_32 : decode cX2_noteRecord 32 = .ok (.putfield 30, 3) := by decide +kernel
theorem dX2_noteRecord_35 : decode cX2_noteRecord 35 = .ok (.aload_n 0, 1) := by decide +kernel
theorem dX2_noteRecord_36 : decode cX2_noteRecord 36 = .ok (.dup, 1) := by decide +kernel
theorem dX2_noteRecord_37 : decode cX2_noteRecord 37 = .ok (.getfield 34, 3) := by decide +kernel
theorem dX2_noteRecord_40 : decode cX2_noteRecord 40 = .ok (.iconst 1, 1) := by decide +kernel
theorem dX2_noteRecord_41 : decode cX2_noteRecord 41 = .ok (.iadd, 1) := by decide +kernel
theorem dX2_noteRecord_42 : decode cX2_noteRecord 42 = .ok (.putfield 34, 3) := by decide +kernel
theorem dX2_noteRecord_45 : decode cX2_noteRecord 45 = .ok (.return_, 1) := by decide +kernel
theorem dX2_bestOrLatestTilt_0 : decode cX2_bestOrLatestTilt 0 = .ok (.iload_n 1, 1) := by decide +kernel
theorem dX2_bestOrLatestTilt_1 : decode cX2_bestOrLatestTilt 1 = .ok (.ifCond .ne 14, 3) := by decide +kernel
theorem dX2_bestOrLatestTilt_4 : decode cX2_bestOrLatestTilt 4 = .ok (.aload_n 0, 1) := by decide +kernel
theorem dX2_bestOrLatestTilt_5 : decode cX2_bestOrLatestTilt 5 = .ok (.getfield 10, 3) := by decide +kernel
theorem dX2_bestOrLatestTilt_8 : decode cX2_bestOrLatestTilt 8 = .ok (.iload_n 2, 1) := by decide +kernel
theorem dX2_bestOrLatestTilt_9 : decode cX2_bestOrLatestTilt 9 = .ok (.invokevirtual 125, 3) := by decide +kernel
theorem dX2_bestOrLatestTilt_12 : decode cX2_bestOrLatestTilt 12 = .ok (.goto 11, 3) := by decide +kernel
theorem dX2_bestOrLatestTilt_15 : decode cX2_bestOrLatestTilt 15 = .ok (.aload_n 0, 1) := by decide +kernel
theorem dX2_bestOrLatestTilt_16 : decode cX2_bestOrLatestTilt 16 = .ok (.getfield 10, 3) := by decide +kernel
theorem dX2_bestOrLatestTilt_19 : decode cX2_bestOrLatestTilt 19 = .ok (.iload_n 2, 1) := by decide +kernel
theorem dX2_bestOrLatestTilt_20 : decode cX2_bestOrLatestTilt 20 = .ok (.invokevirtual 171, 3) := by decide +kernel
theorem dX2_bestOrLatestTilt_23 : decode cX2_bestOrLatestTilt 23 = .ok (.ireturn, 1) := by decide +kernel
theorem dX2_requireTurn_0 : decode cX2_requireTurn 0 = .ok (.aload_n 0, 1) := by decide +kernel
theorem dX2_requireTurn_1 : decode cX2_requireTurn 1 = .ok (.getfield 21, 3) := by decide +kernel
theorem dX2_requireTurn_4 : decode cX2_requireTurn 4 = .ok (.invokevirtual 119, 3) := by decide +kernel
theorem dX2_requireTurn_7 : decode cX2_requireTurn 7 = .ok (.istore_n 1, 1) := by decide +kernel
theorem dX2_requireTurn_8 : decode cX2_requireTurn 8 = .ok (.iload_n 1, 1) := by decide +kernel
theorem dX2_requireTurn_9 : decode cX2_requireTurn 9 = .ok (.ldc 29, 2) := by decide +kernel
theorem dX2_requireTurn_11 : decode cX2_requireTurn 11 = .ok (.if_icmp .ne 13, 3) := by decide +kernel
theorem dX2_requireTurn_14 : decode cX2_requireTurn 14 = .ok (.new 89, 3) := by decide +kernel
theorem dX2_requireTurn_17 : decode cX2_requireTurn 17 = .ok (.dup, 1) := by decide +kernel
theorem dX2_requireTurn_18 : decode cX2_requireTurn 18 = .ok (.ldc 174, 2) := by decide +kernel
theorem dX2_requireTurn_20 : decode cX2_requireTurn 20 = .ok (.invokespecial 93, 3) := by decide +kernel
theorem dX2_requireTurn_23 : decode cX2_requireTurn 23 = .ok (.athrow, 1) := by decide +kernel
theorem dX2_requireTurn_24 : decode cX2_requireTurn 24 = .ok (.iload_n 1, 1) := by decide +kernel
theorem dX2_requireTurn_25 : decode cX2_requireTurn 25 = .ok (.ireturn, 1) := by decide +kernel
theorem dX2_requireGrower_0 : decode cX2_requireGrower 0 = .ok (.iload_n 1, 1) := by decide +kernel
theorem dX2_requireGrower_1 : decode cX2_requireGrower 1 = .ok (.ifCond .lt 14, 3) := by decide +kernel
theorem dX2_requireGrower_4 : decode cX2_requireGrower 4 = .ok (.iload_n 1, 1) := by decide +kernel
theorem dX2_requireGrower_5 : decode cX2_requireGrower 5 = .ok (.aload_n 0, 1) := by decide +kernel
theorem dX2_requireGrower_6 : decode cX2_requireGrower 6 = .ok (.getfield 10, 3) := by decide +kernel
theorem dX2_requireGrower_9 : decode cX2_requireGrower 9 = .ok (.invokevirtual 137, 3) := by decide +kernel
theorem dX2_requireGrower_12 : decode cX2_requireGrower 12 = .ok (.if_icmp .lt 13, 3) := by decide +kernel
theorem dX2_requireGrower_15 : decode cX2_requireGrower 15 = .ok (.new 48, 3) := by decide +kernel
theorem dX2_requireGrower_18 : decode cX2_requireGrower 18 = .ok (.dup, 1) := by decide +kernel
theorem dX2_requireGrower_19 : decode cX2_requireGrower 19 = .ok (.ldc 176, 2) := by decide +kernel
theorem dX2_requireGrower_21 : decode cX2_requireGrower 21 = .ok (.invokespecial 52, 3) := by decide +kernel
theorem dX2_requireGrower_24 : decode cX2_requireGrower 24 = .ok (.athrow, 1) := by decide +kernel
theorem dX2_requireGrower_25 : decode cX2_requireGrower 25 = .ok (.return_, 1) := by decide +kernel
theorem dX2_requireDay_0 : decode cX2_requireDay 0 = .ok (.iload_n 0, 1) := by decide +kernel
theorem dX2_requireDay_1 : decode cX2_requireDay 1 = .ok (.iconst 1, 1) := by decide +kernel
theorem dX2_requireDay_2 : decode cX2_requireDay 2 = .ok (.if_icmp .lt 9, 3) := by decide +kernel
theorem dX2_requireDay_5 : decode cX2_requireDay 5 = .ok (.iload_n 0, 1) := by decide +kernel
theorem dX2_requireDay_6 : decode cX2_requireDay 6 = .ok (.bipush 6, 2) := by decide +kernel
theorem dX2_requireDay_8 : decode cX2_requireDay 8 = .ok (.if_icmp .le 13, 3) := by decide +kernel
theorem dX2_requireDay_11 : decode cX2_requireDay 11 = .ok (.new 48, 3) := by decide +kernel
theorem dX2_requireDay_14 : decode cX2_requireDay 14 = .ok (.dup, 1) := by decide +kernel
theorem dX2_requireDay_15 : decode cX2_requireDay 15 = .ok (.ldc 178, 2) := by decide +kernel
theorem dX2_requireDay_17 : decode cX2_requireDay 17 = .ok (.invokespecial 52, 3) := by decide +kernel
theorem dX2_requireDay_20 : decode cX2_requireDay 20 = .ok (.athrow, 1) := by decide +kernel
theorem dX2_requireDay_21 : decode cX2_requireDay 21 = .ok (.return_, 1) := by decide +kernel
theorem dX2_requireTenthPounds_0 : decode cX2_requireTenthPounds 0 = .ok (.iload_n 0, 1) := by decide +kernel
theorem dX2_requireTenthPounds_1 : decode cX2_requireTenthPounds 1 = .ok (.bipush 100, 2) := by decide +kernel
theorem dX2_requireTenthPounds_3 : decode cX2_requireTenthPounds 3 = .ok (.if_icmp .lt 10, 3) := by decide +kernel
theorem dX2_requireTenthPounds_6 : decode cX2_requireTenthPounds 6 = .ok (.iload_n 0, 1) := by decide +kernel
theorem dX2_requireTenthPounds_7 : decode cX2_requireTenthPounds 7 = .ok (.sipush 9999, 3) := by decide +kernel
theorem dX2_requireTenthPounds_10 : decode cX2_requireTenthPounds 10 = .ok (.if_icmp .le 13, 3) := by decide +kernel
theorem dX2_requireTenthPounds_13 : decode cX2_requireTenthPounds 13 = .ok (.new 48, 3) := by decide +kernel
theorem dX2_requireTenthPounds_16 : decode cX2_requireTenthPounds 16 = .ok (.dup, 1) := by decide +kernel
theorem dX2_requireTenthPounds_17 : decode cX2_requireTenthPounds 17 = .ok (.ldc 180, 2) := by decide +kernel
theorem dX2_requireTenthPounds_19 : decode cX2_requireTenthPounds 19 = .ok (.invokespecial 52, 3) := by decide +kernel
theorem dX2_requireTenthPounds_22 : decode cX2_requireTenthPounds 22 = .ok (.athrow, 1) := by decide +kernel
theorem dX2_requireTenthPounds_23 : decode cX2_requireTenthPounds 23 = .ok (.return_, 1) := by decide +kernel
theorem dX2_requireTenths_0 : decode cX2_requireTenths 0 = .ok (.iload_n 0, 1) := by decide +kernel
theorem dX2_requireTenths_1 : decode cX2_requireTenths 1 = .ok (.bipush (-99), 2) := by decide +kernel
theorem dX2_requireTenths_3 : decode cX2_requireTenths 3 = .ok (.if_icmp .lt 9, 3) := by decide +kernel
theorem dX2_requireTenths_6 : decode cX2_requireTenths 6 = .ok (.iload_n 0, 1) := by decide +kernel
theorem dX2_requireTenths_7 : decode cX2_requireTenths 7 = .ok (.bipush 99, 2) := by decide +kernel
theorem dX2_requireTenths_9 : decode cX2_requireTenths 9 = .ok (.if_icmp .le 13, 3) := by decide +kernel
theorem dX2_requireTenths_12 : decode cX2_requireTenths 12 = .ok (.new 48, 3) := by decide +kernel
theorem dX2_requireTenths_15 : decode cX2_requireTenths 15 = .ok (.dup, 1) := by decide +kernel
theorem dX2_requireTenths_16 : decode cX2_requireTenths 16 = .ok (.ldc 182, 2) := by decide +kernel
theorem dX2_requireTenths_18 : decode cX2_requireTenths 18 = .ok (.invokespecial 52, 3) := by decide +kernel
theorem dX2_requireTenths_21 : decode cX2_requireTenths 21 = .ok (.athrow, 1) := by decide +kernel
theorem dX2_requireTenths_22 : decode cX2_requireTenths 22 = .ok (.return_, 1) := by decide +kernel
theorem dX2_requirePounds_0 : decode cX2_requirePounds 0 = .ok (.iload_n 0, 1) := by decide +kernel
theorem dX2_requirePounds_1 : decode cX2_requirePounds 1 = .ok (.ifCond .lt 10, 3) := by decide +kernel
theorem dX2_requirePounds_4 : decode cX2_requirePounds 4 = .ok (.iload_n 0, 1) := by decide +kernel
theorem dX2_requirePounds_5 : decode cX2_requirePounds 5 = .ok (.sipush 999, 3) := by decide +kernel
theorem dX2_requirePounds_8 : decode cX2_requirePounds 8 = .ok (.if_icmp .le 13, 3) := by decide +kernel
theorem dX2_requirePounds_11 : decode cX2_requirePounds 11 = .ok (.new 48, 3) := by decide +kernel
theorem dX2_requirePounds_14 : decode cX2_requirePounds 14 = .ok (.dup, 1) := by decide +kernel
theorem dX2_requirePounds_15 : decode cX2_requirePounds 15 = .ok (.ldc 184, 2) := by decide +kernel
theorem dX2_requirePounds_17 : decode cX2_requirePounds 17 = .ok (.invokespecial 52, 3) := by decide +kernel
theorem dX2_requirePounds_20 : decode cX2_requirePounds 20 = .ok (.athrow, 1) := by decide +kernel
theorem dX2_requirePounds_21 : decode cX2_requirePounds 21 = .ok (.return_, 1) := by decide +kernel
theorem dX2_requireWhat_0 : decode cX2_requireWhat 0 = .ok (.iload_n 0, 1) := by decide +kernel
theorem dX2_requireWhat_1 : decode cX2_requireWhat 1 = .ok (.ifCond .eq 18, 3) := by decide +kernel
theorem dX2_requireWhat_4 : decode cX2_requireWhat 4 = .ok (.iload_n 0, 1) := by decide +kernel
theorem dX2_requireWhat_5 : decode cX2_requireWhat 5 = .ok (.iconst 1, 1) := by decide +kernel
theorem dX2_requireWhat_6 : decode cX2_requireWhat 6 = .ok (.if_icmp .eq 13, 3) := by decide +kernel
theorem dX2_requireWhat_9 : decode cX2_requireWhat 9 = .ok (.new 48, 3) := by decide +kernel
theorem dX2_requireWhat_12 : decode cX2_requireWhat 12 = .ok (.dup, 1) := by decide +kernel
theorem dX2_requireWhat_13 : decode cX2_requireWhat 13 = .ok (.ldc 186, 2) := by decide +kernel
theorem dX2_requireWhat_15 : decode cX2_requireWhat 15 = .ok (.invokespecial 52, 3) := by decide +kernel
theorem dX2_requireWhat_18 : decode cX2_requireWhat 18 = .ok (.athrow, 1) := by decide +kernel
theorem dX2_requireWhat_19 : decode cX2_requireWhat 19 = .ok (.return_, 1) := by decide +kernel
theorem dX2_requireSign_0 : decode cX2_requireSign 0 = .ok (.iload_n 0, 1) := by decide +kernel
theorem dX2_requireSign_1 : decode cX2_requireSign 1 = .ok (.ifCond .lt 9, 3) := by decide +kernel
theorem dX2_requireSign_4 : decode cX2_requireSign 4 = .ok (.iload_n 0, 1) := by decide +kernel
theorem dX2_requireSign_5 : decode cX2_requireSign 5 = .ok (.bipush 6, 2) := by decide +kernel
theorem dX2_requireSign_7 : decode cX2_requireSign 7 = .ok (.if_icmp .lt 13, 3) := by decide +kernel
theorem dX2_requireSign_10 : decode cX2_requireSign 10 = .ok (.new 48, 3) := by decide +kernel
theorem dX2_requireSign_13 : decode cX2_requireSign 13 = .ok (.dup, 1) := by decide +kernel
theorem dX2_requireSign_14 : decode cX2_requireSign 14 = .ok (.ldc 188, 2) := by decide +kernel
theorem dX2_requireSign_16 : decode cX2_requireSign 16 = .ok (.invokespecial 52, 3) := by decide +kernel
theorem dX2_requireSign_19 : decode cX2_requireSign 19 = .ok (.athrow, 1) := by decide +kernel
theorem dX2_requireSign_20 : decode cX2_requireSign 20 = .ok (.return_, 1) := by decide +kernel
theorem dX2_mayTakePart_0 : decode cX2_mayTakePart 0 = .ok (.iload_n 0, 1) := by decide +kernel
theorem dX2_mayTakePart_1 : decode cX2_mayTakePart 1 = .ok (.iconst 3, 1) := by decide +kernel
theorem dX2_mayTakePart_2 : decode cX2_mayTakePart 2 = .ok (.if_icmp .lt 13, 3) := by decide +kernel
theorem dX2_mayTakePart_5 : decode cX2_mayTakePart 5 = .ok (.iload_n 0, 1) := by decide +kernel
theorem dX2_mayTakePart_6 : decode cX2_mayTakePart 6 = .ok (.bipush 12, 2) := by decide +kernel
theorem dX2_mayTakePart_8 : decode cX2_mayTakePart 8 = .ok (.if_icmp .gt 7, 3) := by decide +kernel
theorem dX2_mayTakePart_11 : decode cX2_mayTakePart 11 = .ok (.iconst 1, 1) := by decide +kernel
theorem dX2_mayTakePart_12 : decode cX2_mayTakePart 12 = .ok (.goto 4, 3) := by decide +kernel
theorem dX2_mayTakePart_15 : decode cX2_mayTakePart 15 = .ok (.iconst 0, 1) := by decide +kernel
theorem dX2_mayTakePart_16 : decode cX2_mayTakePart 16 = .ok (.ireturn, 1) := by decide +kernel
theorem dX2_poundsOrNone_0 : decode cX2_poundsOrNone 0 = .ok (.iload_n 0, 1) := by decide +kernel
theorem dX2_poundsOrNone_1 : decode cX2_poundsOrNone 1 = .ok (.ifCond .ne 8, 3) := by decide +kernel
theorem dX2_poundsOrNone_4 : decode cX2_poundsOrNone 4 = .ok (.ldc 29, 2) := by decide +kernel
theorem dX2_poundsOrNone_6 : decode cX2_poundsOrNone 6 = .ok (.goto 4, 3) := by decide +kernel
theorem dX2_poundsOrNone_9 : decode cX2_poundsOrNone 9 = .ok (.iload_n 0, 1) := by decide +kernel
theorem dX2_poundsOrNone_10 : decode cX2_poundsOrNone 10 = .ok (.ireturn, 1) := by decide +kernel
theorem dX2_holds_0 : decode cX2_holds 0 = .ok (.iload_n 1, 1) := by decide +kernel
theorem dX2_holds_1 : decode cX2_holds 1 = .ok (.ldc 29, 2) := by decide +kernel
theorem dX2_holds_3 : decode cX2_holds 3 = .ok (.if_icmp .eq 9, 3) := by decide +kernel
theorem dX2_holds_6 : decode cX2_holds 6 = .ok (.iload_n 2, 1) := by decide +kernel
theorem dX2_holds_7 : decode cX2_holds 7 = .ok (.ldc 29, 2) := by decide +kernel
theorem dX2_holds_9 : decode cX2_holds 9 = .ok (.if_icmp .ne 14, 3) := by decide +kernel
theorem dX2_holds_12 : decode cX2_holds 12 = .ok (.iload_n 0, 1) := by decide +kernel
theorem dX2_holds_13 : decode cX2_holds 13 = .ok (.iconst 5, 1) := by decide +kernel
theorem dX2_holds_14 : decode cX2_holds 14 = .ok (.if_icmp .ne 7, 3) := by decide +kernel
theorem dX2_holds_17 : decode cX2_holds 17 = .ok (.iconst 1, 1) := by decide +kernel
theorem dX2_holds_18 : decode cX2_holds 18 = .ok (.goto 4, 3) := by decide +kernel
theorem dX2_holds_21 : decode cX2_holds 21 = .ok (.iconst 0, 1) := by decide +kernel
theorem dX2_holds_22 : decode cX2_holds 22 = .ok (.ireturn, 1) := by decide +kernel
theorem dX2_holds_23 : decode cX2_holds 23 = .ok (.iload_n 0, 1) := by decide +kernel
theorem dX2_holds_24 : decode cX2_holds 24 = .ok (.tableswitch 91 0 4 #[36, 47, 58, 69, 80], 36) := by decide +kernel
theorem dX2_holds_60 : decode cX2_holds 60 = .ok (.iload_n 1, 1) := by decide +kernel
theorem dX2_holds_61 : decode cX2_holds 61 = .ok (.iload_n 2, 1) := by decide +kernel
theorem dX2_holds_62 : decode cX2_holds 62 = .ok (.if_icmp .ge 7, 3) := by decide +kernel
theorem dX2_holds_65 : decode cX2_holds 65 = .ok (.iconst 1, 1) := by decide +kernel
theorem dX2_holds_66 : decode cX2_holds 66 = .ok (.goto 4, 3) := by decide +kernel
theorem dX2_holds_69 : decode cX2_holds 69 = .ok (.iconst 0, 1) := by decide +kernel
theorem dX2_holds_70 : decode cX2_holds 70 = .ok (.ireturn, 1) := by decide +kernel
theorem dX2_holds_71 : decode cX2_holds 71 = .ok (.iload_n 1, 1) := by decide +kernel
theorem dX2_holds_72 : decode cX2_holds 72 = .ok (.iload_n 2, 1) := by decide +kernel
theorem dX2_holds_73 : decode cX2_holds 73 = .ok (.if_icmp .gt 7, 3) := by decide +kernel
theorem dX2_holds_76 : decode cX2_holds 76 = .ok (.iconst 1, 1) := by decide +kernel
theorem dX2_holds_77 : decode cX2_holds 77 = .ok (.goto 4, 3) := by decide +kernel
theorem dX2_holds_80 : decode cX2_holds 80 = .ok (.iconst 0, 1) := by decide +kernel
theorem dX2_holds_81 : decode cX2_holds 81 = .ok (.ireturn, 1) := by decide +kernel
theorem dX2_holds_82 : decode cX2_holds 82 = .ok (.iload_n 1, 1) := by decide +kernel
theorem dX2_holds_83 : decode cX2_holds 83 = .ok (.iload_n 2, 1) := by decide +kernel
theorem dX2_holds_84 : decode cX2_holds 84 = .ok (.if_icmp .le 7, 3) := by decide +kernel
theorem dX2_holds_87 : decode cX2_holds 87 = .ok (.iconst 1, 1) := by decide +kernel
theorem dX2_holds_88 : decode cX2_holds 88 = .ok (.goto 4, 3) := by decide +kernel
theorem dX2_holds_91 : decode cX2_holds 91 = .ok (.iconst 0, 1) := by decide +kernel
theorem dX2_holds_92 : decode cX2_holds 92 = .ok (.ireturn, 1) := by decide +kernel
theorem dX2_holds_93 : decode cX2_holds 93 = .ok (.iload_n 1, 1) := by decide +kernel
theorem dX2_holds_94 : decode cX2_holds 94 = .ok (.iload_n 2, 1) := by decide +kernel
theorem dX2_holds_95 : decode cX2_holds 95 = .ok (.if_icmp .lt 7, 3) := by decide +kernel
theorem dX2_holds_98 : decode cX2_holds 98 = .ok (.iconst 1, 1) := by decide +kernel
theorem dX2_holds_99 : decode cX2_holds 99 = .ok (.goto 4, 3) := by decide +kernel
theorem dX2_holds_102 : decode cX2_holds 102 = .ok (.iconst 0, 1) := by decide +kernel
theorem dX2_holds_103 : decode cX2_holds 103 = .ok (.ireturn, 1) := by decide +kernel
theorem dX2_holds_104 : decode cX2_holds 104 = .ok (.iload_n 1, 1) := by decide +kernel
theorem dX2_holds_105 : decode cX2_holds 105 = .ok (.iload_n 2, 1) := by decide +kernel
theorem dX2_holds_106 : decode cX2_holds 106 = .ok (.if_icmp .ne 7, 3) := by decide +kernel
theorem dX2_holds_109 : decode cX2_holds 109 = .ok (.iconst 1, 1) := by decide +kernel
theorem dX2_holds_110 : decode cX2_holds 110 = .ok (.goto 4, 3) := by decide +kernel
theorem dX2_holds_113 : decode cX2_holds 113 = .ok (.iconst 0, 1) := by decide +kernel
theorem dX2_holds_114 : decode cX2_holds 114 = .ok (.ireturn, 1) := by decide +kernel
theorem dX2_holds_115 : decode cX2_holds 115 = .ok (.iload_n 1, 1) := by decide +kernel
theorem dX2_holds_116 : decode cX2_holds 116 = .ok (.iload_n 2, 1) := by decide +kernel
theorem dX2_holds_117 : decode cX2_holds 117 = .ok (.if_icmp .eq 7, 3) := by decide +kernel
theorem dX2_holds_120 : decode cX2_holds 120 = .ok (.iconst 1, 1) := by decide +kernel
theorem dX2_holds_121 : decode cX2_holds 121 = .ok (.goto 4, 3) := by decide +kernel
theorem dX2_holds_124 : decode cX2_holds 124 = .ok (.iconst 0, 1) := by decide +kernel
theorem dX2_holds_125 : decode cX2_holds 125 = .ok (.ireturn, 1) := by decide +kernel
end
section
theorem dX3_init_0 : decode cX3_init 0 = .ok (.aload_n 0, 1) := by decide +kernel
theorem dX3_init_1 : decode cX3_init 1 = .ok (.invokespecial 1, 3) := by decide +kernel
theorem dX3_init_4 : decode cX3_init 4 = .ok (.aload_n 0, 1) := by decide +kernel
theorem dX3_init_5 : decode cX3_init 5 = .ok (.bipush 84, 2) := by decide +kernel
theorem dX3_init_7 : decode cX3_init 7 = .ok (.newarray .int, 2) := by decide +kernel
theorem dX3_init_9 : decode cX3_init 9 = .ok (.putfield 7, 3) := by decide +kernel
theorem dX3_init_12 : decode cX3_init 12 = .ok (.aload_n 0, 1) := by decide +kernel
theorem dX3_init_13 : decode cX3_init 13 = .ok (.bipush 84, 2) := by decide +kernel
theorem dX3_init_15 : decode cX3_init 15 = .ok (.newarray .int, 2) := by decide +kernel
theorem dX3_init_17 : decode cX3_init 17 = .ok (.putfield 13, 3) := by decide +kernel
theorem dX3_init_20 : decode cX3_init 20 = .ok (.aload_n 0, 1) := by decide +kernel
theorem dX3_init_21 : decode cX3_init 21 = .ok (.bipush 84, 2) := by decide +kernel
theorem dX3_init_23 : decode cX3_init 23 = .ok (.newarray .boolean, 2) := by decide +kernel
theorem dX3_init_25 : decode cX3_init 25 = .ok (.putfield 16, 3) := by decide +kernel
theorem dX3_init_28 : decode cX3_init 28 = .ok (.aload_n 0, 1) := by decide +kernel
theorem dX3_init_29 : decode cX3_init 29 = .ok (.bipush 84, 2) := by decide +kernel
theorem dX3_init_31 : decode cX3_init 31 = .ok (.newarray .int, 2) := by decide +kernel
theorem dX3_init_33 : decode cX3_init 33 = .ok (.putfield 20, 3) := by decide +kernel
theorem dX3_init_36 : decode cX3_init 36 = .ok (.aload_n 0, 1) := by decide +kernel
theorem dX3_init_37 : decode cX3_init 37 = .ok (.bipush 84, 2) := by decide +kernel
theorem dX3_init_39 : decode cX3_init 39 = .ok (.newarray .boolean, 2) := by decide +kernel
theorem dX3_init_41 : decode cX3_init 41 = .ok (.putfield 23, 3) := by decide +kernel
theorem dX3_init_44 : decode cX3_init 44 = .ok (.aload_n 0, 1) := by decide +kernel
theorem dX3_init_45 : decode cX3_init 45 = .ok (.bipush 12, 2) := by decide +kernel
theorem dX3_init_47 : decode cX3_init 47 = .ok (.newarray .int, 2) := by decide +kernel
theorem dX3_init_49 : decode cX3_init 49 = .ok (.putfield 26, 3) := by decide +kernel
theorem dX3_init_52 : decode cX3_init 52 = .ok (.aload_n 0, 1) := by decide +kernel
theorem dX3_init_53 : decode cX3_init 53 = .ok (.bipush 12, 2) := by decide +kernel
theorem dX3_init_55 : decode cX3_init 55 = .ok (.newarray .boolean, 2) := by decide +kernel
theorem dX3_init_57 : decode cX3_init 57 = .ok (.putfield 29, 3) := by decide +kernel
theorem dX3_init_60 : decode cX3_init 60 = .ok (.aload_n 0, 1) := by decide +kernel
theorem dX3_init_61 : decode cX3_init 61 = .ok (.bipush 12, 2) := by decide +kernel
theorem dX3_init_63 : decode cX3_init 63 = .ok (.newarray .boolean, 2) := by decide +kernel
theorem dX3_init_65 : decode cX3_init 65 = .ok (.putfield 32, 3) := by decide +kernel
theorem dX3_init_68 : decode cX3_init 68 = .ok (.aload_n 0, 1) := by decide +kernel
theorem dX3_init_69 : decode cX3_init 69 = .ok (.bipush 12, 2) := by decide +kernel
theorem dX3_init_71 : decode cX3_init 71 = .ok (.newarray .int, 2) := by decide +kernel
theorem dX3_init_73 : decode cX3_init 73 = .ok (.putfield 35, 3) := by decide +kernel
theorem dX3_init_76 : decode cX3_init 76 = .ok (.aload_n 0, 1) := by decide +kernel
theorem dX3_init_77 : decode cX3_init 77 = .ok (.iconst 1, 1) := by decide +kernel
theorem dX3_init_78 : decode cX3_init 78 = .ok (.putfield 38, 3) := by decide +kernel
theorem dX3_init_81 : decode cX3_init 81 = .ok (.aload_n 0, 1) := by decide +kernel
theorem dX3_init_82 : decode cX3_init 82 = .ok (.bipush 6, 2) := by decide +kernel
theorem dX3_init_84 : decode cX3_init 84 = .ok (.newarray .int, 2) := by decide +kernel
theorem dX3_init_86 : decode cX3_init 86 = .ok (.putfield 42, 3) := by decide +kernel
theorem dX3_init_89 : decode cX3_init 89 = .ok (.aload_n 0, 1) := by decide +kernel
theorem dX3_init_90 : decode cX3_init 90 = .ok (.bipush 6, 2) := by decide +kernel
theorem dX3_init_92 : decode cX3_init 92 = .ok (.newarray .int, 2) := by decide +kernel
theorem dX3_init_94 : decode cX3_init 94 = .ok (.putfield 45, 3) := by decide +kernel
theorem dX3_init_97 : decode cX3_init 97 = .ok (.aload_n 0, 1) := by decide +kernel
theorem dX3_init_98 : decode cX3_init 98 = .ok (.iload_n 1, 1) := by decide +kernel
theorem dX3_init_99 : decode cX3_init 99 = .ok (.iconst 3, 1) := by decide +kernel
theorem dX3_init_100 : decode cX3_init 100 = .ok (.bipush 12, 2) := by decide +kernel
theorem dX3_init_102 : decode cX3_init 102 = .ok (.invokestatic 48, 3) := by decide +kernel
theorem dX3_init_105 : decode cX3_init 105 = .ok (.ifCond .eq 7, 3) := by decide +kernel
theorem dX3_init_108 : decode cX3_init 108 = .ok (.iload_n 1, 1) := by decide +kernel
theorem dX3_init_109 : decode cX3_init 109 = .ok (.goto 5, 3) := by decide +kernel
theorem dX3_init_112 : decode cX3_init 112 = .ok (.bipush 8, 2) := by decide +kernel
theorem dX3_init_114 : decode cX3_init 114 = .ok (.invokevirtual 52, 3) := by decide +kernel
theorem dX3_init_117 : decode cX3_init 117 = .ok (.return_, 1) := by decide +kernel
theorem dX3_thrown_0 : decode cX3_thrown 0 = .ok (.aload_n 0, 1) := by decide +kernel
theorem dX3_thrown_1 : decode cX3_thrown 1 = .ok (.getfield 56, 3) := by decide +kernel
theorem dX3_thrown_4 : decode cX3_thrown 4 = .ok (.ireturn, 1) := by decide +kernel
theorem dX3_in_0 : decode cX3_in 0 = .ok (.iload_n 0, 1) := by decide +kernel
theorem dX3_in_1 : decode cX3_in 1 = .ok (.iload_n 1, 1) := by decide +kernel
theorem dX3_in_2 : decode cX3_in 2 = .ok (.if_icmp .lt 12, 3) := by decide +kernel
theorem dX3_in_5 : decode cX3_in 5 = .ok (.iload_n 0, 1) := by decide +kernel
theorem dX3_in_6 : decode cX3_in 6 = .ok (.iload_n 2, 1) := by decide +kernel
theorem dX3_in_7 : decode cX3_in 7 = .ok (.if_icmp .gt 7, 3) := by decide +kernel
theorem dX3_in_10 : decode cX3_in 10 = .ok (.iconst 1, 1) := by decide +kernel
theorem dX3_in_11 : decode cX3_in 11 = .ok (.goto 4, 3) := by decide +kernel
theorem dX3_in_14 : decode cX3_in 14 = .ok (.iconst 0, 1) := by decide +kernel
theorem dX3_in_15 : decode cX3_in 15 = .ok (.ireturn, 1) := by decide +kernel
theorem dX3_begin_0 : decode cX3_begin 0 = .ok (.aload_n 0, 1) := by decide +kernel
theorem dX3_begin_1 : decode cX3_begin 1 = .ok (.iload_n 1, 1) := by decide +kernel
theorem dX3_begin_2 : decode cX3_begin 2 = .ok (.putfield 60, 3) := by decide +kernel
theorem dX3_begin_5 : decode cX3_begin 5 = .ok (.iconst 0, 1) := by decide +kernel
theorem dX3_begin_6 : decode cX3_begin 6 = .ok (.istore_n 2, 1) := by decide +kernel
theorem dX3_begin_7 : decode cX3_begin 7 = .ok (.iload_n 2, 1) := by decide +kernel
theorem dX3_begin_8 : decode cX3_begin 8 = .ok (.bipush 84, 2) := by decide +kernel
theorem dX3_begin_10 : decode cX3_begin 10 = .ok (.if_icmp .ge 30, 3) := by decide +kernel
theorem dX3_begin_13 : decode cX3_begin 13 = .ok (.aload_n 0, 1) := by decide +kernel
theorem dX3_begin_14 : decode cX3_begin 14 = .ok (.getfield 7, 3) := by decide +kernel
theorem dX3_begin_17 : decode cX3_begin 17 = .ok (.iload_n 2, 1) := by decide +kernel
theorem dX3_begin_18 : decode cX3_begin 18 = .ok (.iconst 0, 1) := by decide +kernel
theorem dX3_begin_19 : decode cX3_begin 19 = .ok (.iastore, 1) := by decide +kernel
theorem dX3_begin_20 : decode cX3_begin 20 = .ok (.aload_n 0, 1) := by decide +kernel
theorem dX3_begin_21 : decode cX3_begin 21 = .ok (.getfield 16, 3) := by decide +kernel
theorem dX3_begin_24 : decode cX3_begin 24 = .ok (.iload_n 2, 1) := by decide +kernel
theorem dX3_begin_25 : decode cX3_begin 25 = .ok (.iconst 0, 1) := by decide +kernel
theorem dX3_begin_26 : decode cX3_begin 26 = .ok (.bastore, 1) := by decide +kernel
theorem dX3_begin_27 : decode cX3_begin 27 = .ok (.aload_n 0, 1) := by decide +kernel
theorem dX3_begin_28 : decode cX3_begin 28 = .ok (.getfield 23, 3) := by decide +kernel
theorem dX3_begin_31 : decode cX3_begin 31 = .ok (.iload_n 2, 1) := by decide +kernel
theorem dX3_begin_32 : decode cX3_begin 32 = .ok (.iconst 0, 1) := by decide +kernel
theorem dX3_begin_33 : decode cX3_begin 33 = .ok (.bastore, 1) := by decide +kernel
theorem dX3_begin_34 : decode cX3_begin 34 = .ok (.iinc 2 1, 3) := by decide +kernel
theorem dX3_begin_37 : decode cX3_begin 37 = .ok (.goto (-30), 3) := by decide +kernel
theorem dX3_begin_40 : decode cX3_begin 40 = .ok (.iconst 0, 1) := by decide +kernel
theorem dX3_begin_41 : decode cX3_begin 41 = .ok (.istore_n 2, 1) := by decide +kernel
theorem dX3_begin_42 : decode cX3_begin 42 = .ok (.iload_n 2, 1) := by decide +kernel
theorem dX3_begin_43 : decode cX3_begin 43 = .ok (.bipush 12, 2) := by decide +kernel
theorem dX3_begin_45 : decode cX3_begin 45 = .ok (.if_icmp .ge 30, 3) := by decide +kernel
theorem dX3_begin_48 : decode cX3_begin 48 = .ok (.aload_n 0, 1) := by decide +kernel
theorem dX3_begin_49 : decode cX3_begin 49 = .ok (.getfield 26, 3) := by decide +kernel
theorem dX3_begin_52 : decode cX3_begin 52 = .ok (.iload_n 2, 1) := by decide +kernel
theorem dX3_begin_53 : decode cX3_begin 53 = .ok (.iconst 0, 1) := by decide +kernel
theorem dX3_begin_54 : decode cX3_begin 54 = .ok (.iastore, 1) := by decide +kernel
theorem dX3_begin_55 : decode cX3_begin 55 = .ok (.aload_n 0, 1) := by decide +kernel
theorem dX3_begin_56 : decode cX3_begin 56 = .ok (.getfield 29, 3) := by decide +kernel
theorem dX3_begin_59 : decode cX3_begin 59 = .ok (.iload_n 2, 1) := by decide +kernel
theorem dX3_begin_60 : decode cX3_begin 60 = .ok (.iconst 0, 1) := by decide +kernel
theorem dX3_begin_61 : decode cX3_begin 61 = .ok (.bastore, 1) := by decide +kernel
theorem dX3_begin_62 : decode cX3_begin 62 = .ok (.aload_n 0, 1) := by decide +kernel
theorem dX3_begin_63 : decode cX3_begin 63 = .ok (.getfield 32, 3) := by decide +kernel
theorem dX3_begin_66 : decode cX3_begin 66 = .ok (.iload_n 2, 1) := by decide +kernel
theorem dX3_begin_67 : decode cX3_begin 67 = .ok (.iconst 1, 1) := by decide +kernel
theorem dX3_begin_68 : decode cX3_begin 68 = .ok (.bastore, 1) := by decide +kernel
theorem dX3_begin_69 : decode cX3_begin 69 = .ok (.iinc 2 1, 3) := by decide +kernel
theorem dX3_begin_72 : decode cX3_begin 72 = .ok (.goto (-30), 3) := by decide +kernel
theorem dX3_begin_75 : decode cX3_begin 75 = .ok (.aload_n 0, 1) := by decide +kernel
theorem dX3_begin_76 : decode cX3_begin 76 = .ok (.iconst 0, 1) := by decide +kernel
theorem dX3_begin_77 : decode cX3_begin 77 = .ok (.putfield 63, 3) := by decide +kernel
theorem dX3_begin_80 : decode cX3_begin 80 = .ok (.aload_n 0, 1) := by decide +kernel
theorem dX3_begin_81 : decode cX3_begin 81 = .ok (.invokevirtual 66, 3) := by decide +kernel
theorem dX3_begin_84 : decode cX3_begin 84 = .ok (.return_, 1) := by decide +kernel
theorem dX3_open_0 : decode cX3_open 0 = .ok (.aload_n 0, 1) := by decide +kernel
theorem dX3_open_1 : decode cX3_open 1 = .ok (.iload_n 1, 1) := by decide +kernel
theorem dX3_open_2 : decode cX3_open 2 = .ok (.iconst 3, 1) := by decide +kernel
theorem dX3_open_3 : decode cX3_open 3 = .ok (.bipush 12, 2) := by decide +kernel
theorem dX3_open_5 : decode cX3_open 5 = .ok (.invokestatic 48, 3) := by decide +kernel
theorem dX3_open_8 : decode cX3_open 8 = .ok (.ifCond .eq 7, 3) := by decide +kernel
theorem dX3_open_11 : decode cX3_open 11 = .ok (.iconst 0, 1) := by decide +kernel
theorem dX3_open_12 : decode cX3_open 12 = .ok (.goto 4, 3) := by decide +kernel
theorem dX3_open_15 : decode cX3_open 15 = .ok (.iconst 1, 1) := by decide +kernel
theorem dX3_open_16 : decode cX3_open 16 = .ok (.putfield 56, 3) := by decide +kernel
theorem dX3_open_19 : decode cX3_open 19 = .ok (.aload_n 0, 1) := by decide +kernel
theorem dX3_open_20 : decode cX3_open 20 = .ok (.getfield 56, 3) := by decide +kernel
theorem dX3_open_23 : decode cX3_open 23 = .ok (.ifCond .ne 8, 3) := by decide +kernel
theorem dX3_open_26 : decode cX3_open 26 = .ok (.aload_n 0, 1) := by decide +kernel
theorem dX3_open_27 : decode cX3_open 27 = .ok (.iload_n 1, 1) := by decide +kernel
theorem dX3_open_28 : decode cX3_open 28 = .ok (.invokevirtual 52, 3) := by decide +kernel
theorem dX3_open_31 : decode cX3_open 31 = .ok (.return_, 1) := by decide +kernel
theorem dX3_isIn_0 : decode cX3_isIn 0 = .ok (.aload_n 0, 1) := by decide +kernel
theorem dX3_isIn_1 : decode cX3_isIn 1 = .ok (.getfield 32, 3) := by decide +kernel
theorem dX3_isIn_4 : decode cX3_isIn 4 = .ok (.iload_n 1, 1) := by decide +kernel
theorem dX3_isIn_5 : decode cX3_isIn 5 = .ok (.baload, 1) := by decide +kernel
theorem dX3_isIn_6 : decode cX3_isIn 6 = .ok (.ifCond .eq 16, 3) := by decide +kernel
theorem dX3_isIn_9 : decode cX3_isIn 9 = .ok (.aload_n 0, 1) := by decide +kernel
theorem dX3_isIn_10 : decode cX3_isIn 10 = .ok (.getfield 29, 3) := by decide +kernel
theorem dX3_isIn_13 : decode cX3_isIn 13 = .ok (.iload_n 1, 1) := by decide +kernel
theorem dX3_isIn_14 : decode cX3_isIn 14 = .ok (.baload, 1) := by decide +kernel
theorem dX3_isIn_15 : decode cX3_isIn 15 = .ok (.ifCond .ne 7, 3) := by decide +kernel
theorem dX3_isIn_18 : decode cX3_isIn 18 = .ok (.iconst 1, 1) := by decide +kernel
theorem dX3_isIn_19 : decode cX3_isIn 19 = .ok (.goto 4, 3) := by decide +kernel
theorem dX3_isIn_22 : decode cX3_isIn 22 = .ok (.iconst 0, 1) := by decide +kernel
theorem dX3_isIn_23 : decode cX3_isIn 23 = .ok (.ireturn, 1) := by decide +kernel
theorem dX3_nextDay_0 : decode cX3_nextDay 0 = .ok (.aload_n 0, 1) := by decide +kernel
theorem dX3_nextDay_1 : decode cX3_nextDay 1 = .ok (.getfield 63, 3) := by decide +kernel
theorem dX3_nextDay_4 : decode cX3_nextDay 4 = .ok (.iconst 3, 1) := by decide +kernel
theorem dX3_nextDay_5 : decode cX3_nextDay 5 = .ok (.if_icmp .ne 52, 3) := by decide +kernel
theorem dX3_nextDay_8 : decode cX3_nextDay 8 = .ok (.iconst 0, 1) := by decide +kernel
theorem dX3_nextDay_9 : decode cX3_nextDay 9 = .ok (.istore_n 1, 1) := by decide +kernel
theorem dX3_nextDay_10 : decode cX3_nextDay 10 = .ok (.iload_n 1, 1) := by decide +kernel
theorem dX3_nextDay_11 : decode cX3_nextDay 11 = .ok (.aload_n 0, 1) := by decide +kernel
theorem dX3_nextDay_12 : decode cX3_nextDay 12 = .ok (.getfield 60, 3) := by decide +kernel
theorem dX3_nextDay_15 : decode cX3_nextDay 15 = .ok (.if_icmp .ge 42, 3) := by decide +kernel
theorem dX3_nextDay_18 : decode cX3_nextDay 18 = .ok (.aload_n 0, 1) := by decide +kernel
theorem dX3_nextDay_19 : decode cX3_nextDay 19 = .ok (.getfield 32, 3) := by decide +kernel
theorem dX3_nextDay_22 : decode cX3_nextDay 22 = .ok (.iload_n 1, 1) := by decide +kernel
theorem dX3_nextDay_23 : decode cX3_nextDay 23 = .ok (.aload_n 0, 1) := by decide +kernel
theorem dX3_nextDay_24 : decode cX3_nextDay 24 = .ok (.iload_n 1, 1) := by decide +kernel
theorem dX3_nextDay_25 : decode cX3_nextDay 25 = .ok (.aload_n 0, 1) := by decide +kernel
theorem dX3_nextDay_26 : decode cX3_nextDay 26 = .ok (.getfield 42, 3) := by decide +kernel
theorem dX3_nextDay_29 : decode cX3_nextDay 29 = .ok (.invokevirtual 69, 3) := by decide +kernel
theorem dX3_nextDay_32 : decode cX3_nextDay 32 = .ok (.ifCond .le 17, 3) := by decide +kernel
theorem dX3_nextDay_35 : decode cX3_nextDay 35 = .ok (.aload_n 0, 1) := by decide +kernel
theorem dX3_nextDay_36 : decode cX3_nextDay 36 = .ok (.iload_n 1, 1) := by decide +kernel
theorem dX3_nextDay_37 : decode cX3_nextDay 37 = .ok (.invokevirtual 73, 3) := by decide +kernel
theorem dX3_nextDay_40 : decode cX3_nextDay 40 = .ok (.bipush 8, 2) := by decide +kernel
theorem dX3_nextDay_42 : decode cX3_nextDay 42 = .ok (.if_icmp .gt 7, 3) := by decide +kernel
theorem dX3_nextDay_45 : decode cX3_nextDay 45 = .ok (.iconst 1, 1) := by decide +kernel
theorem dX3_nextDay_46 : decode cX3_nextDay 46 = .ok (.goto 4, 3) := by decide +kernel
theorem dX3_nextDay_49 : decode cX3_nextDay 49 = .ok (.iconst 0, 1) := by decide +kernel
theorem dX3_nextDay_50 : decode cX3_nextDay 50 = .ok (.bastore, 1) := by decide +kernel
theorem dX3_nextDay_51 : decode cX3_nextDay 51 = .ok (.iinc 1 1, 3) := by decide +kernel
theorem dX3_nextDay_54 : decode cX3_nextDay 54 = .ok (.goto (-44), 3) := by decide +kernel
theorem dX3_nextDay_57 : decode cX3_nextDay 57 = .ok (.aload_n 0, 1) := by decide +kernel
theorem dX3_nextDay_58 : decode cX3_nextDay 58 = .ok (.getfield 63, 3) := by decide +kernel
theorem dX3_nextDay_61 : decode cX3_nextDay 61 = .ok (.iconst 3, 1) := by decide +kernel
theorem dX3_nextDay_62 : decode cX3_nextDay 62 = .ok (.if_icmp .ge 37, 3) := by decide +kernel
theorem dX3_nextDay_65 : decode cX3_nextDay 65 = .ok (.aload_n 0, 1) := by decide +kernel
theorem dX3_nextDay_66 : decode cX3_nextDay 66 = .ok (.aload_n 0, 1) := by decide +kernel
theorem dX3_nextDay_67 : decode cX3_nextDay 67 = .ok (.getfield 60, 3) := by decide +kernel
theorem dX3_nextDay_70 : decode cX3_nextDay 70 = .ok (.putfield 77, 3) := by decide +kernel
theorem dX3_nextDay_73 : decode cX3_nextDay 73 = .ok (.iconst 0, 1) := by decide +kernel
theorem dX3_nextDay_74 : decode cX3_nextDay 74 = .ok (.istore_n 1, 1) := by decide +kernel
theorem dX3_nextDay_75 : decode cX3_nextDay 75 = .ok (.iload_n 1, 1) := by decide +kernel
theorem dX3_nextDay_76 : decode cX3_nextDay 76 = .ok (.aload_n 0, 1) := by decide +kernel
theorem dX3_nextDay_77 : decode cX3_nextDay 77 = .ok (.getfield 60, 3) := by decide +kernel
theorem dX3_nextDay_80 : decode cX3_nextDay 80 = .ok (.if_icmp .ge 16, 3) := by decide +kernel
theorem dX3_nextDay_83 : decode cX3_nextDay 83 = .ok (.aload_n 0, 1) := by decide +kernel
theorem dX3_nextDay_84 : decode cX3_nextDay 84 = .ok (.getfield 35, 3) := by decide +kernel
theorem dX3_nextDay_87 : decode cX3_nextDay 87 = .ok (.iload_n 1, 1) := by decide +kernel
theorem dX3_nextDay_88 : decode cX3_nextDay 88 = .ok (.iload_n 1, 1) := by decide +kernel
theorem dX3_nextDay_89 : decode cX3_nextDay 89 = .ok (.iastore, 1) := by decide +kernel
theorem dX3_nextDay_90 : decode cX3_nextDay 90 = .ok (.iinc 1 1, 3) := by decide +kernel
theorem dX3_nextDay_93 : decode cX3_nextDay 93 = .ok (.goto (-18), 3) := by decide +kernel
theorem dX3_nextDay_96 : decode cX3_nextDay 96 = .ok (.goto 23, 3) := by decide +kernel
theorem dX3_nextDay_99 : decode cX3_nextDay 99 = .ok (.aload_n 0, 1) := by decide +kernel
theorem dX3_nextDay_100 : decode cX3_nextDay 100 = .ok (.getfield 63, 3) := by decide +kernel
theorem dX3_nextDay_103 : decode cX3_nextDay 103 = .ok (.iconst 3, 1) := by decide +kernel
theorem dX3_nextDay_104 : decode cX3_nextDay 104 = .ok (.if_icmp .eq 11, 3) := by decide +kernel
theorem dX3_nextDay_107 : decode cX3_nextDay 107 = .ok (.aload_n 0, 1) := by decide +kernel
theorem dX3_nextDay_108 : decode cX3_nextDay 108 = .ok (.getfield 63, 3) := by decide +kernel
theorem dX3_nextDay_111 : decode cX3_nextDay 111 = .ok (.iconst 5, 1) := by decide +kernel
theorem dX3_nextDay_112 : decode cX3_nextDay 112 = .ok (.if_icmp .ne 7, 3) := by decide +kernel
theorem dX3_nextDay_115 : decode cX3_nextDay 115 = .ok (.aload_n 0, 1) := by decide +kernel
theorem dX3_nextDay_116 : decode cX3_nextDay 116 = .ok (.invokevirtual 80, 3) := by decide +kernel
theorem dX3_nextDay_119 : decode cX3_nextDay 119 = .ok (.aload_n 0, 1) := by decide +kernel
theorem dX3_nextDay_120 : decode cX3_nextDay 120 = .ok (.aload_n 0, 1) := by decide +kernel
theorem dX3_nextDay_121 : decode cX3_nextDay 121 = .ok (.getfield 63, 3) := by decide +kernel
theorem dX3_nextDay_124 : decode cX3_nextDay 124 = .ok (.bipush 6, 2) := by decide +kernel
theorem dX3_nextDay_126 : decode cX3_nextDay 126 = .ok (.if_icmp .ne 8, 3) := by decide +kernel
theorem dX3_nextDay_129 : decode cX3_nextDay 129 = .ok (.bipush 7, 2) := by decide +kernel
theorem dX3_nextDay_131 : decode cX3_nextDay 131 = .ok (.goto 9, 3) := by decide +kernel
theorem dX3_nextDay_134 : decode cX3_nextDay 134 = .ok (.aload_n 0, 1) := by decide +kernel
theorem dX3_nextDay_135 : decode cX3_nextDay 135 = .ok (.getfield 63, 3) := by decide +kernel
theorem dX3_nextDay_138 : decode cX3_nextDay 138 = .ok (.iconst 1, 1) := by decide +kernel
theorem dX3_nextDay_139 : decode cX3_nextDay 139 = .ok (.iadd, 1) := by decide +kernel
theorem dX3_nextDay_140 : decode cX3_nextDay 140 = .ok (.putfield 63, 3) := by decide +kernel
theorem dX3_nextDay_143 : decode cX3_nextDay 143 = .ok (.aload_n 0, 1) := by decide +kernel
theorem dX3_nextDay_144 : decode cX3_nextDay 144 = .ok (.iconst (-1), 1) := by decide +kernel
theorem dX3_nextDay_145 : decode cX3_nextDay 145 = .ok (.putfield 83, 3) := by decide +kernel
theorem dX3_nextDay_148 : decode cX3_nextDay 148 = .ok (.aload_n 0, 1) := by decide +kernel
theorem dX3_nextDay_149 : decode cX3_nextDay 149 = .ok (.invokevirtual 86, 3) := by decide +kernel
theorem dX3_nextDay_152 : decode cX3_nextDay 152 = .ok (.aload_n 0, 1) := by decide +kernel
theorem dX3_nextDay_153 : decode cX3_nextDay 153 = .ok (.getfield 83, 3) := by decide +kernel
theorem dX3_nextDay_156 : decode cX3_nextDay 156 = .ok (.aload_n 0, 1) := by decide +kernel
theorem dX3_nextDay_157 : decode cX3_nextDay 157 = .ok (.getfield 77, 3) := by decide +kernel
theorem dX3_nextDay_160 : decode cX3_nextDay 160 = .ok (.if_icmp .ne 9, 3) := by decide +kernel
theorem dX3_nextDay_163 : decode cX3_nextDay 163 = .ok (.aload_n 0, 1) := by decide +kernel
theorem dX3_nextDay_164 : decode cX3_nextDay 164 = .ok (.bipush 7, 2) := by decide +kernel
theorem dX3_nextDay_166 : decode cX3_nextDay 166 = .ok (.putfield 63, 3) := by decide +kernel
theorem dX3_nextDay_169 : decode cX3_nextDay 169 = .ok (.return_, 1) := by decide +kernel
theorem dX3_byPlaces_0 : decode cX3_byPlaces 0 = .ok (.aload_n 0, 1) := by decide +kernel
theorem dX3_byPlaces_1 : decode cX3_byPlaces 1 = .ok (.iconst 0, 1) := by decide +kernel
theorem dX3_byPlaces_2 : decode cX3_byPlaces 2 = .ok (.putfield 77, 3) := by decide +kernel
theorem dX3_byPlaces_5 : decode cX3_byPlaces 5 = .ok (.aload_n 0, 1) := by decide +kernel
theorem dX3_byPlaces_6 : decode cX3_byPlaces 6 = .ok (.getfield 60, 3) := by decide +kernel
theorem dX3_byPlaces_9 : decode cX3_byPlaces 9 = .ok (.istore_n 1, 1) := by decide +kernel
theorem dX3_byPlaces_10 : decode cX3_byPlaces 10 = .ok (.iload_n 1, 1) := by decide +kernel
theorem dX3_byPlaces_11 : decode cX3_byPlaces 11 = .ok (.ifCond .le 64, 3) := by decide +kernel
theorem dX3_byPlaces_14 : decode cX3_byPlaces 14 = .ok (.aload_n 0, 1) := by decide +kernel
theorem dX3_byPlaces_15 : decode cX3_byPlaces 15 = .ok (.getfield 60, 3) := by decide +kernel
theorem dX3_byPlaces_18 : decode cX3_byPlaces 18 = .ok (.iconst 1, 1) := by decide +kernel
theorem dX3_byPlaces_19 : decode cX3_byPlaces 19 = .ok (.isub, 1) := by decide +kernel
theorem dX3_byPlaces_20 : decode cX3_byPlaces 20 = .ok (.istore_n 2, 1) := by decide +kernel
theorem dX3_byPlaces_21 : decode cX3_byPlaces 21 = .ok (.iload_n 2, 1) := by decide +kernel
theorem dX3_byPlaces_22 : decode cX3_byPlaces 22 = .ok (.ifCond .lt 47, 3) := by decide +kernel
theorem dX3_byPlaces_25 : decode cX3_byPlaces 25 = .ok (.aload_n 0, 1) := by decide +kernel
theorem dX3_byPlaces_26 : decode cX3_byPlaces 26 = .ok (.getfield 32, 3) := by decide +kernel
theorem dX3_byPlaces_29 : decode cX3_byPlaces 29 = .ok (.iload_n 2, 1) := by decide +kernel
theorem dX3_byPlaces_30 : decode cX3_byPlaces 30 = .ok (.baload, 1) := by decide +kernel
theorem dX3_byPlaces_31 : decode cX3_byPlaces 31 = .ok (.ifCond .eq 32, 3) := by decide +kernel
theorem dX3_byPlaces_34 : decode cX3_byPlaces 34 = .ok (.aload_n 0, 1) := by decide +kernel
theorem dX3_byPlaces_35 : decode cX3_byPlaces 35 = .ok (.iload_n 2, 1) := by decide +kernel
theorem dX3_byPlaces_36 : decode cX3_byPlaces 36 = .ok (.invokevirtual 73, 3) := by decide +kernel
theorem dX3_byPlaces_39 : decode cX3_byPlaces 39 = .ok (.iload_n 1, 1) := by decide +kernel
theorem dX3_byPlaces_40 : decode cX3_byPlaces 40 = .ok (.if_icmp .ne 23, 3) := by decide +kernel
theorem dX3_byPlaces_43 : decode cX3_byPlaces 43 = .ok (.aload_n 0, 1) := by decide +kernel
theorem dX3_byPlaces_44 : decode cX3_byPlaces 44 = .ok (.getfield 35, 3) := by decide +kernel
theorem dX3_byPlaces_47 : decode cX3_byPlaces 47 = .ok (.aload_n 0, 1) := by decide +kernel
theorem dX3_byPlaces_48 : decode cX3_byPlaces 48 = .ok (.getfield 77, 3) := by decide +kernel
theorem dX3_byPlaces_51 : decode cX3_byPlaces 51 = .ok (.iload_n 2, 1) := by decide +kernel
theorem dX3_byPlaces_52 : decode cX3_byPlaces 52 = .ok (.iastore, 1) := by decide +kernel
theorem dX3_byPlaces_53 : decode cX3_byPlaces 53 = .ok (.aload_n 0, 1) := by decide +kernel
theorem dX3_byPlaces_54 : decode cX3_byPlaces 54 = .ok (.dup, 1) := by decide +kernel
theorem dX3_byPlaces_55 : decode cX3_byPlaces 55 = .ok (.getfield 77, 3) := by decide +kernel
theorem dX3_byPlaces_58 : decode cX3_byPlaces 58 = .ok (.iconst 1, 1) := by decide +kernel
theorem dX3_byPlaces_59 : decode cX3_byPlaces 59 = .ok (.iadd, 1) := by decide +kernel
theorem dX3_byPlaces_60 : decode cX3_byPlaces 60 = .ok (.putfield 77, 3) := by decide +kernel
theorem dX3_byPlaces_63 : decode cX3_byPlaces 63 = .ok (.iinc 2 (-1), 3) := by decide +kernel
theorem dX3_byPlaces_66 : decode cX3_byPlaces 66 = .ok (.goto (-45), 3) := by decide +kernel
theorem dX3_byPlaces_69 : decode cX3_byPlaces 69 = .ok (.iinc 1 (-1), 3) := by decide +kernel
theorem dX3_byPlaces_72 : decode cX3_byPlaces 72 = .ok (.goto (-62), 3) := by decide +kernel
theorem dX3_byPlaces_75 : decode cX3_byPlaces 75 = .ok (.return_, 1) := by decide +kernel
theorem dX3_forward_0 : decode cX3_forward 0 = .ok (.aload_n 0, 1) := by decide +kernel
theorem dX3_forward_1 : decode cX3_forward 1 = .ok (.dup, 1) := by decide +kernel
theorem dX3_forward_2 : decode cX3_forward 2 = .ok (.getfield 83, 3) := by decide +kernel
theorem dX3_forward_5 : decode cX3_forward 5 = .ok (.iconst 1, 1) := by decide +kernel
theorem dX3_forward_6 : decode cX3_forward 6 = .ok (.iadd, 1) := by decide +kernel
theorem dX3_forward_7 : decode cX3_forward 7 = .ok (.putfield 83, 3) := by decide +kernel
theorem dX3_forward_10 : decode cX3_forward 10 = .ok (.aload_n 0, 1) := by decide +kernel
theorem dX3_forward_11 : decode cX3_forward 11 = .ok (.getfield 83, 3) := by decide +kernel
theorem dX3_forward_14 : decode cX3_forward 14 = .ok (.aload_n 0, 1) := by decide +kernel
theorem dX3_forward_15 : decode cX3_forward 15 = .ok (.getfield 77, 3) := by decide +kernel
theorem dX3_forward_18 : decode cX3_forward 18 = .ok (.if_icmp .ge 32, 3) := by decide +kernel
theorem dX3_forward_21 : decode cX3_forward 21 = .ok (.aload_n 0, 1) := by decide +kernel
theorem dX3_forward_22 : decode cX3_forward 22 = .ok (.aload_n 0, 1) := by decide +kernel
theorem dX3_forward_23 : decode cX3_forward 23 = .ok (.getfield 35, 3) := by decide +kernel
theorem dX3_forward_26 : decode cX3_forward 26 = .ok (.aload_n 0, 1) := by decide +kernel
theorem dX3_forward_27 : decode cX3_forward 27 = .ok (.getfield 83, 3) := by decide +kernel
theorem dX3_forward_30 : decode cX3_forward 30 = .ok (.iaload, 1) := by decide +kernel
theorem dX3_forward_31 : decode cX3_forward 31 = .ok (.invokevirtual 89, 3) := by decide +kernel
theorem dX3_forward_34 : decode cX3_forward 34 = .ok (.ifCond .ne 16, 3) := by decide +kernel
theorem dX3_forward_37 : decode cX3_forward 37 = .ok (.aload_n 0, 1) := by decide +kernel
theorem dX3_forward_38 : decode cX3_forward 38 = .ok (.dup, 1) := by decide +kernel
theorem dX3_forward_39 : decode cX3_forward 39 = .ok (.getfield 83, 3) := by decide +kernel
theorem dX3_forward_42 : decode cX3_forward 42 = .ok (.iconst 1, 1) := by decide +kernel
theorem dX3_forward_43 : decode cX3_forward 43 = .ok (.iadd, 1) := by decide +kernel
theorem dX3_forward_44 : decode cX3_forward 44 = .ok (.putfield 83, 3) := by decide +kernel
theorem dX3_forward_47 : decode cX3_forward 47 = .ok (.goto (-37), 3) := by decide +kernel
theorem dX3_forward_50 : decode cX3_forward 50 = .ok (.return_, 1) := by decide +kernel
theorem dX3_passOn_0 : decode cX3_passOn 0 = .ok (.aload_n 0, 1) := by decide +kernel
theorem dX3_passOn_1 : decode cX3_passOn 1 = .ok (.invokevirtual 86, 3) := by decide +kernel
theorem dX3_passOn_4 : decode cX3_passOn 4 = .ok (.aload_n 0, 1) := by decide +kernel
theorem dX3_passOn_5 : decode cX3_passOn 5 = .ok (.getfield 83, 3) := by decide +kernel
theorem dX3_passOn_8 : decode cX3_passOn 8 = .ok (.aload_n 0, 1) := by decide +kernel
theorem dX3_passOn_9 : decode cX3_passOn 9 = .ok (.getfield 77, 3) := by decide +kernel
theorem dX3_passOn_12 : decode cX3_passOn 12 = .ok (.if_icmp .ne 7, 3) := by decide +kernel
theorem dX3_passOn_15 : decode cX3_passOn 15 = .ok (.aload_n 0, 1) := by decide +kernel
theorem dX3_passOn_16 : decode cX3_passOn 16 = .ok (.invokevirtual 66, 3) := by decide +kernel
theorem dX3_passOn_19 : decode cX3_passOn 19 = .ok (.return_, 1) := by decide +kernel
theorem dX3_entry_0 : decode cX3_entry 0 = .ok (.aload_n 0, 1) := by decide +kernel
theorem dX3_entry_1 : decode cX3_entry 1 = .ok (.getfield 35, 3) := by decide +kernel
theorem dX3_entry_4 : decode cX3_entry 4 = .ok (.aload_n 0, 1) := by decide +kernel
theorem dX3_entry_5 : decode cX3_entry 5 = .ok (.getfield 83, 3) := by decide +kernel
theorem dX3_entry_8 : decode cX3_entry 8 = .ok (.iaload, 1) := by decide +kernel
theorem dX3_entry_9 : decode cX3_entry 9 = .ok (.istore_n 2, 1) := by decide +kernel
theorem dX3_entry_10 : decode cX3_entry 10 = .ok (.bipush 7, 2) := by decide +kernel
theorem dX3_entry_12 : decode cX3_entry 12 = .ok (.iload_n 2, 1) := by decide +kernel
theorem dX3_entry_13 : decode cX3_entry 13 = .ok (.imul, 1) := by decide +kernel
theorem dX3_entry_14 : decode cX3_entry 14 = .ok (.aload_n 0, 1) := by decide +kernel
theorem dX3_entry_15 : decode cX3_entry 15 = .ok (.getfield 63, 3) := by decide +kernel
theorem dX3_entry_18 : decode cX3_entry 18 = .ok (.iadd, 1) := by decide +kernel
theorem dX3_entry_19 : decode cX3_entry 19 = .ok (.istore_n 3, 1) := by decide +kernel
theorem dX3_entry_20 : decode cX3_entry 20 = .ok (.aload_n 0, 1) := by decide +kernel
theorem dX3_entry_21 : decode cX3_entry 21 = .ok (.getfield 7, 3) := by decide +kernel
theorem dX3_entry_24 : decode cX3_entry 24 = .ok (.iload_n 3, 1) := by decide +kernel
theorem dX3_entry_25 : decode cX3_entry 25 = .ok (.iload_n 1, 1) := by decide +kernel
theorem dX3_entry_26 : decode cX3_entry 26 = .ok (.iastore, 1) := by decide +kernel
theorem dX3_entry_27 : decode cX3_entry 27 = .ok (.aload_n 0, 1) := by decide +kernel
theorem dX3_entry_28 : decode cX3_entry 28 = .ok (.getfield 16, 3) := by decide +kernel
theorem dX3_entry_31 : decode cX3_entry 31 = .ok (.iload_n 3, 1) := by decide +kernel
theorem dX3_entry_32 : decode cX3_entry 32 = .ok (.iconst 0, 1) := by decide +kernel
theorem dX3_entry_33 : decode cX3_entry 33 = .ok (.bastore, 1) := by decide +kernel
theorem dX3_entry_34 : decode cX3_entry 34 = .ok (.aload_n 0, 1) := by decide +kernel
theorem dX3_entry_35 : decode cX3_entry 35 = .ok (.getfield 23, 3) := by decide +kernel
theorem dX3_entry_38 : decode cX3_entry 38 = .ok (.iload_n 3, 1) := by decide +kernel
theorem dX3_entry_39 : decode cX3_entry 39 = .ok (.iconst 0, 1) := by decide +kernel
theorem dX3_entry_40 : decode cX3_entry 40 = .ok (.bastore, 1) := by decide +kernel
theorem dX3_entry_41 : decode cX3_entry 41 = .ok (.aload_n 0, 1) := by decide +kernel
theorem dX3_entry_42 : decode cX3_entry 42 = .ok (.getfield 26, 3) := by decide +kernel
theorem dX3_entry_45 : decode cX3_entry 45 = .ok (.iload_n 2, 1) := by decide +kernel
theorem dX3_entry_46 : decode cX3_entry 46 = .ok (.aload_n 0, 1) := by decide +kernel
theorem dX3_entry_47 : decode cX3_entry 47 = .ok (.getfield 63, 3) := by decide +kernel
theorem dX3_entry_50 : decode cX3_entry 50 = .ok (.iastore, 1) := by decide +kernel
theorem dX3_entry_51 : decode cX3_entry 51 = .ok (.iload_n 3, 1) := by decide +kernel
theorem dX3_entry_52 : decode cX3_entry 52 = .ok (.ireturn, 1) := by decide +kernel
theorem dX3_weigh_0 : decode cX3_weigh 0 = .ok (.aload_n 0, 1) := by decide +kernel
theorem dX3_weigh_1 : decode cX3_weigh 1 = .ok (.iload_n 1, 1) := by decide +kernel
theorem dX3_weigh_2 : decode cX3_weigh 2 = .ok (.bipush 100, 2) := by decide +kernel
theorem dX3_weigh_4 : decode cX3_weigh 4 = .ok (.sipush 9999, 3) := by decide +kernel
theorem dX3_weigh_7 : decode cX3_weigh 7 = .ok (.invokestatic 48, 3) := by decide +kernel
theorem dX3_weigh_10 : decode cX3_weigh 10 = .ok (.ifCond .eq 14, 3) := by decide +kernel
theorem dX3_weigh_13 : decode cX3_weigh 13 = .ok (.iload_n 2, 1) := by decide +kernel
theorem dX3_weigh_14 : decode cX3_weigh 14 = .ok (.bipush (-99), 2) := by decide +kernel
theorem dX3_weigh_16 : decode cX3_weigh 16 = .ok (.bipush 99, 2) := by decide +kernel
theorem dX3_weigh_18 : decode cX3_weigh 18 = .ok (.invokestatic 48, 3) := by decide +kernel
theorem dX3_weigh_21 : decode cX3_weigh 21 = .ok (.ifCond .ne 7, 3) := by decide +kernel
theorem dX3_weigh_24 : decode cX3_weigh 24 = .ok (.iconst 1, 1) := by decide +kernel
theorem dX3_weigh_25 : decode cX3_weigh 25 = .ok (.goto 17, 3) := by decide +kernel
theorem dX3_weigh_28 : decode cX3_weigh 28 = .ok (.aload_n 0, 1) := by decide +kernel
theorem dX3_weigh_29 : decode cX3_weigh 29 = .ok (.getfield 63, 3) := by decide +kernel
theorem dX3_weigh_32 : decode cX3_weigh 32 = .ok (.bipush 7, 2) := by decide +kernel
theorem dX3_weigh_34 : decode cX3_weigh 34 = .ok (.if_icmp .ne 7, 3) := by decide +kernel
theorem dX3_weigh_37 : decode cX3_weigh 37 = .ok (.iconst 2, 1) := by decide +kernel
theorem dX3_weigh_38 : decode cX3_weigh 38 = .ok (.goto 4, 3) := by decide +kernel
theorem dX3_weigh_41 : decode cX3_weigh 41 = .ok (.iconst 0, 1) := by decide +kernel
theorem dX3_weigh_42 : decode cX3_weigh 42 = .ok (.putfield 56, 3) := by decide +kernel
theorem dX3_weigh_45 : decode cX3_weigh 45 = .ok (.aload_n 0, 1) := by decide +kernel
theorem dX3_weigh_46 : decode cX3_weigh 46 = .ok (.getfield 56, 3) := by decide +kernel
theorem dX3_weigh_49 : decode cX3_weigh 49 = .ok (.ifCond .le 5, 3) := by decide +kernel
theorem dX3_weigh_52 : decode cX3_weigh 52 = .ok (.iconst 0, 1) := by decide +kernel
theorem dX3_weigh_53 : decode cX3_weigh 53 = .ok (.ireturn, 1) := by decide +kernel
theorem dX3_weigh_54 : decode cX3_weigh 54 = .ok (.aload_n 0, 1) := by decide +kernel
theorem dX3_weigh_55 : decode cX3_weigh 55 = .ok (.iconst 1, 1) := by decide +kernel
theorem dX3_weigh_56 : decode cX3_weigh 56 = .ok (.invokevirtual 93, 3) := by decide +kernel
theorem dX3_weigh_59 : decode cX3_weigh 59 = .ok (.istore_n 3, 1) := by decide +kernel
theorem dX3_weigh_60 : decode cX3_weigh 60 = .ok (.aload_n 0, 1) := by decide +kernel
theorem dX3_weigh_61 : decode cX3_weigh 61 = .ok (.getfield 13, 3) := by decide +kernel
theorem dX3_weigh_64 : decode cX3_weigh 64 = .ok (.iload_n 3, 1) := by decide +kernel
theorem dX3_weigh_65 : decode cX3_weigh 65 = .ok (.iload_n 1, 1) := by decide +kernel
theorem dX3_weigh_66 : decode cX3_weigh 66 = .ok (.bipush 10, 2) := by decide +kernel
theorem dX3_weigh_68 : decode cX3_weigh 68 = .ok (.idiv, 1) := by decide +kernel
theorem dX3_weigh_69 : decode cX3_weigh 69 = .ok (.iastore, 1) := by decide +kernel
theorem dX3_weigh_70 : decode cX3_weigh 70 = .ok (.aload_n 0, 1) := by decide +kernel
theorem dX3_weigh_71 : decode cX3_weigh 71 = .ok (.getfield 23, 3) := by decide +kernel
theorem dX3_weigh_74 : decode cX3_weigh 74 = .ok (.iload_n 3, 1) := by decide +kernel
theorem dX3_weigh_75 : decode cX3_weigh 75 = .ok (.aload_n 0, 1) := by decide +kernel
theorem dX3_weigh_76 : decode cX3_weigh 76 = .ok (.getfield 38, 3) := by decide +kernel
theorem dX3_weigh_79 : decode cX3_weigh 79 = .ok (.bastore, 1) := by decide +kernel
theorem dX3_weigh_80 : decode cX3_weigh 80 = .ok (.aload_n 0, 1) := by decide +kernel
theorem dX3_weigh_81 : decode cX3_weigh 81 = .ok (.getfield 20, 3) := by decide +kernel
theorem dX3_weigh_84 : decode cX3_weigh 84 = .ok (.iload_n 3, 1) := by decide +kernel
theorem dX3_weigh_85 : decode cX3_weigh 85 = .ok (.iload_n 2, 1) := by decide +kernel
theorem dX3_weigh_86 : decode cX3_weigh 86 = .ok (.iastore, 1) := by decide +kernel
theorem dX3_weigh_87 : decode cX3_weigh 87 = .ok (.aload_n 0, 1) := by decide +kernel
theorem dX3_weigh_88 : decode cX3_weigh 88 = .ok (.iload_n 3, 1) := by decide +kernel
theorem dX3_weigh_89 : decode cX3_weigh 89 = .ok (.invokevirtual 96, 3) := by decide +kernel
theorem dX3_weigh_92 : decode cX3_weigh 92 = .ok (.aload_n 0, 1) := by decide +kernel
theorem dX3_weigh_93 : decode cX3_weigh 93 = .ok (.getfield 13, 3) := by decide +kernel
theorem dX3_weigh_96 : decode cX3_weigh 96 = .ok (.iload_n 3, 1) := by decide +kernel
theorem dX3_weigh_97 : decode cX3_weigh 97 = .ok (.iaload, 1) := by decide +kernel
theorem dX3_weigh_98 : decode cX3_weigh 98 = .ok (.istore 4, 2) := by decide +kernel
theorem dX3_weigh_100 : decode cX3_weigh 100 = .ok (.aload_n 0, 1) := by decide +kernel
theorem dX3_weigh_101 : decode cX3_weigh 101 = .ok (.invokevirtual 99, 3) := by decide +kernel
theorem dX3_weigh_104 : decode cX3_weigh 104 = .ok (.iload 4, 2) := by decide +kernel
theorem dX3_weigh_106 : decode cX3_weigh 106 = .ok (.ireturn, 1) := by decide +kernel
theorem dX3_asRecord_0 : decode cX3_asRecord 0 = .ok (.aload_n 0, 1) := by decide +kernel
theorem dX3_asRecord_1 : decode cX3_asRecord 1 = .ok (.getfield 23, 3) := by decide +kernel
theorem dX3_asRecord_4 : decode cX3_asRecord 4 = .ok (.iload_n 1, 1) := by decide +kernel
theorem dX3_asRecord_5 : decode cX3_asRecord 5 = .ok (.baload, 1) := by decide +kernel
theorem dX3_asRecord_6 : decode cX3_asRecord 6 = .ok (.ifCond .eq 59, 3) := by decide +kernel
theorem dX3_asRecord_9 : decode cX3_asRecord 9 = .ok (.aload_n 0, 1) := by decide +kernel
theorem dX3_asRecord_10 : decode cX3_asRecord 10 = .ok (.getfield 20, 3) := by decide +kernel
theorem dX3_asRecord_13 : decode cX3_asRecord 13 = .ok (.iload_n 1, 1) := by decide +kernel
theorem dX3_asRecord_14 : decode cX3_asRecord 14 = .ok (.iaload, 1) := by decide +kernel
theorem dX3_asRecord_15 : decode cX3_asRecord 15 = .ok (.bipush 20, 2) := by decide +kernel
theorem dX3_asRecord_17 : decode cX3_asRecord 17 = .ok (.if_icmp .gt 48, 3) := by decide +kernel
theorem dX3_asRecord_20 : decode cX3_asRecord 20 = .ok (.aload_n 0, 1) := by decide +kernel
theorem dX3_asRecord_21 : decode cX3_asRecord 21 = .ok (.getfield 102, 3) := by decide +kernel
theorem dX3_asRecord_24 : decode cX3_asRecord 24 = .ok (.ifCond .eq 16, 3) := by decide +kernel
theorem dX3_asRecord_27 : decode cX3_asRecord 27 = .ok (.aload_n 0, 1) := by decide +kernel
theorem dX3_asRecord_28 : decode cX3_asRecord 28 = .ok (.getfield 13, 3) := by decide +kernel
theorem dX3_asRecord_31 : decode cX3_asRecord 31 = .ok (.iload_n 1, 1) := by decide +kernel
theorem dX3_asRecord_32 : decode cX3_asRecord 32 = .ok (.iaload, 1) := by decide +kernel
theorem dX3_asRecord_33 : decode cX3_asRecord 33 = .ok (.aload_n 0, 1) := by decide +kernel
theorem dX3_asRecord_34 : decode cX3_asRecord 34 = .ok (.getfield 105, 3) := by decide +kernel
theorem dX3_asRecord_37 : decode cX3_asRecord 37 = .ok (.if_icmp .le 28, 3) := by decide +kernel
theorem dX3_asRecord_40 : decode cX3_asRecord 40 = .ok (.aload_n 0, 1) := by decide +kernel
theorem dX3_asRecord_41 : decode cX3_asRecord 41 = .ok (.iconst 1, 1) := by decide +kernel
theorem dX3_asRecord_42 : decode cX3_asRecord 42 = .ok (.putfield 102, 3) := by decide +kernel
theorem dX3_asRecord_45 : decode cX3_asRecord 45 = .ok (.aload_n 0, 1) := by decide +kernel
theorem dX3_asRecord_46 : decode cX3_asRecord 46 = .ok (.aload_n 0, 1) := by decide +kernel
theorem dX3_asRecord_47 : decode cX3_asRecord 47 = .ok (.getfield 13, 3) := by decide +kernel
theorem dX3_asRecord_50 : decode cX3_asRecord 50 = .ok (.iload_n 1, 1) := by decide +kernel
theorem dX3_asRecord_51 : decode cX3_asRecord 51 = .ok (.iaload, 1) := by decide +kernel
theorem dX3_asRecord_52 : decode cX3_asRecord 52 = .ok (.putfield 105, 3) := by decide +kernel
theorem dX3_asRecord_55 : decode cX3_asRecord 55 = .ok (.aload_n 0, 1) := by decide +kernel
theorem dX3_asRecord_56 : decode cX3_asRecord 56 = .ok (.dup, 1) := by decide +kernel
theorem dX3_asRecord_57 : decode cX3_asRecord 57 = .ok (.getfield 108, 3) := by decide +kernel
theorem dX3_asRecord_60 : decode cX3_asRecord 60 = .ok (.iconst 1, 1) := by decide +kernel
theorem dX3_asRecord_61 : decode cX3_asRecord 61 = .ok (.iadd, 1) := by decide +kernel
theorem dX3_asRecord_62 : decode cX3_asRecord 62 = .ok (.putfield 108, 3) := by decide +kernel
theorem dX3_asRecord_65 : decode cX3_asRecord 65 = .ok (.return_, 1) := by decide +kernel
theorem dX3_crack_0 : decode cX3_crack 0 = .ok (.aload_n 0, 1) := by decide +kernel
theorem dX3_crack_1 : decode cX3_crack 1 = .ok (.iload_n 1, 1) := by decide +kernel
theorem dX3_crack_2 : decode cX3_crack 2 = .ok (.ifCond .eq 15, 3) := by decide +kernel
theorem dX3_crack_5 : decode cX3_crack 5 = .ok (.iload_n 1, 1) := by decide +kernel
theorem dX3_crack_6 : decode cX3_crack 6 = .ok (.bipush 100, 2) := by decide +kernel
theorem dX3_crack_8 : decode cX3_crack 8 = .ok (.sipush 9999, 3) := by decide +kernel
theorem dX3_crack_11 : decode cX3_crack 11 = .ok (.invokestatic 48, 3) := by decide +kernel
theorem dX3_crack_14 : decode cX3_crack 14 = .ok (.ifCond .eq 14, 3) := by decide +kernel
theorem dX3_crack_17 : decode cX3_crack 17 = .ok (.iload_n 2, 1) := by decide +kernel
theorem dX3_crack_18 : decode cX3_crack 18 = .ok (.bipush (-99), 2) := by decide +kernel
theorem dX3_crack_20 : decode cX3_crack 20 = .ok (.bipush 99, 2) := by decide +kernel
theorem dX3_crack_22 : decode cX3_crack 22 = .ok (.invokestatic 48, 3) := by decide +kernel
theorem dX3_crack_25 : decode cX3_crack 25 = .ok (.ifCond .ne 7, 3) := by decide +kernel
theorem dX3_crack_28 : decode cX3_crack 28 = .ok (.iconst 1, 1) := by decide +kernel
theorem dX3_crack_29 : decode cX3_crack 29 = .ok (.goto 17, 3) := by decide +kernel
theorem dX3_crack_32 : decode cX3_crack 32 = .ok (.aload_n 0, 1) := by decide +kernel
theorem dX3_crack_33 : decode cX3_crack 33 = .ok (.getfield 63, 3) := by decide +kernel
theorem dX3_crack_36 : decode cX3_crack 36 = .ok (.bipush 7, 2) := by decide +kernel
theorem dX3_crack_38 : decode cX3_crack 38 = .ok (.if_icmp .ne 7, 3) := by decide +kernel
theorem dX3_crack_41 : decode cX3_crack 41 = .ok (.iconst 2, 1) := by decide +kernel
theorem dX3_crack_42 : decode cX3_crack 42 = .ok (.goto 4, 3) := by decide +kernel
theorem dX3_crack_45 : decode cX3_crack 45 = .ok (.iconst 0, 1) := by decide +kernel
theorem dX3_crack_46 : decode cX3_crack 46 = .ok (.putfield 56, 3) := by decide +kernel
theorem dX3_crack_49 : decode cX3_crack 49 = .ok (.aload_n 0, 1) := by decide +kernel
theorem dX3_crack_50 : decode cX3_crack 50 = .ok (.getfield 56, 3) := by decide +kernel
theorem dX3_crack_53 : decode cX3_crack 53 = .ok (.ifCond .le 4, 3) := by decide +kernel
theorem dX3_crack_56 : decode cX3_crack 56 = .ok (.return_, 1) := by decide +kernel
theorem dX3_crack_57 : decode cX3_crack 57 = .ok (.aload_n 0, 1) := by decide +kernel
theorem dX3_crack_58 : decode cX3_crack 58 = .ok (.iconst 2, 1) := by decide +kernel
theorem dX3_crack_59 : decode cX3_crack 59 = .ok (.invokevirtual 93, 3) := by decide +kernel
theorem dX3_crack_62 : decode cX3_crack 62 = .ok (.istore_n 3, 1) := by decide +kernel
theorem dX3_crack_63 : decode cX3_crack 63 = .ok (.aload_n 0, 1) := by decide +kernel
theorem dX3_crack_64 : decode cX3_crack 64 = .ok (.getfield 13, 3) := by decide +kernel
theorem dX3_crack_67 : decode cX3_crack 67 = .ok (.iload_n 3, 1) := by decide +kernel
theorem dX3_crack_68 : decode cX3_crack 68 = .ok (.iload_n 1, 1) := by decide +kernel
theorem dX3_crack_69 : decode cX3_crack 69 = .ok (.bipush 10, 2) := by decide +kernel
theorem dX3_crack_71 : decode cX3_crack 71 = .ok (.idiv, 1) := by decide +kernel
theorem dX3_crack_72 : decode cX3_crack 72 = .ok (.iastore, 1) := by decide +kernel
theorem dX3_crack_73 : decode cX3_crack 73 = .ok (.aload_n 0, 1) := by decide +kernel
theorem dX3_crack_74 : decode cX3_crack 74 = .ok (.getfield 16, 3) := by decide +kernel
theorem dX3_crack_77 : decode cX3_crack 77 = .ok (.iload_n 3, 1) := by decide +kernel
theorem dX3_crack_78 : decode cX3_crack 78 = .ok (.iload_n 1, 1) := by decide +kernel
theorem dX3_crack_79 : decode cX3_crack 79 = .ok (.ifCond .eq 7, 3) := by decide +kernel
theorem dX3_crack_82 : decode cX3_crack 82 = .ok (.iconst 1, 1) := by decide +kernel
theorem dX3_crack_83 : decode cX3_crack 83 = .ok (.goto 4, 3) := by decide +kernel
theorem dX3_crack_86 : decode cX3_crack 86 = .ok (.iconst 0, 1) := by decide +kernel
theorem dX3_crack_87 : decode cX3_crack 87 = .ok (.bastore, 1) := by decide +kernel
theorem dX3_crack_88 : decode cX3_crack 88 = .ok (.aload_n 0, 1) := by decide +kernel
theorem dX3_crack_89 : decode cX3_crack 89 = .ok (.getfield 23, 3) := by decide +kernel
theorem dX3_crack_92 : decode cX3_crack 92 = .ok (.iload_n 3, 1) := by decide +kernel
theorem dX3_crack_93 : decode cX3_crack 93 = .ok (.aload_n 0, 1) := by decide +kernel
theorem dX3_crack_94 : decode cX3_crack 94 = .ok (.getfield 38, 3) := by decide +kernel
theorem dX3_crack_97 : decode cX3_crack 97 = .ok (.bastore, 1) := by decide +kernel
theorem dX3_crack_98 : decode cX3_crack 98 = .ok (.aload_n 0, 1) := by decide +kernel
theorem dX3_crack_99 : decode cX3_crack 99 = .ok (.getfield 20, 3) := by decide +kernel
theorem dX3_crack_102 : decode cX3_crack 102 = .ok (.iload_n 3, 1) := by decide +kernel
theorem dX3_crack_103 : decode cX3_crack 103 = .ok (.iload_n 2, 1) := by decide +kernel
theorem dX3_crack_104 : decode cX3_crack 104 = .ok (.iastore, 1) := by decide +kernel
theorem dX3_crack_105 : decode cX3_crack 105 = .ok (.aload_n 0, 1) := by decide +kernel
theorem dX3_crack_106 : decode cX3_crack 106 = .ok (.invokevirtual 99, 3) := by decide +kernel
theorem dX3_crack_109 : decode cX3_crack 109 = .ok (.return_, 1) := by decide +kernel
theorem dX3_pass_0 : decode cX3_pass 0 = .ok (.aload_n 0, 1) := by decide +kernel
theorem dX3_pass_1 : decode cX3_pass 1 = .ok (.aload_n 0, 1) := by decide +kernel
theorem dX3_pass_2 : decode cX3_pass 2 = .ok (.getfield 63, 3) := by decide +kernel
theorem dX3_pass_5 : decode cX3_pass 5 = .ok (.bipush 7, 2) := by decide +kernel
theorem dX3_pass_7 : decode cX3_pass 7 = .ok (.if_icmp .ne 7, 3) := by decide +kernel
theorem dX3_pass_10 : decode cX3_pass 10 = .ok (.iconst 1, 1) := by decide +kernel
theorem dX3_pass_11 : decode cX3_pass 11 = .ok (.goto 4, 3) := by decide +kernel
theorem dX3_pass_14 : decode cX3_pass 14 = .ok (.iconst 0, 1) := by decide +kernel
theorem dX3_pass_15 : decode cX3_pass 15 = .ok (.putfield 56, 3) := by decide +kernel
theorem dX3_pass_18 : decode cX3_pass 18 = .ok (.aload_n 0, 1) := by decide +kernel
theorem dX3_pass_19 : decode cX3_pass 19 = .ok (.getfield 56, 3) := by decide +kernel
theorem dX3_pass_22 : decode cX3_pass 22 = .ok (.ifCond .ne 13, 3) := by decide +kernel
theorem dX3_pass_25 : decode cX3_pass 25 = .ok (.aload_n 0, 1) := by decide +kernel
theorem dX3_pass_26 : decode cX3_pass 26 = .ok (.iconst 3, 1) := by decide +kernel
theorem dX3_pass_27 : decode cX3_pass 27 = .ok (.invokevirtual 93, 3) := by decide +kernel
theorem dX3_pass_30 : decode cX3_pass 30 = .ok (.istore_n 1, 1) := by decide +kernel
theorem dX3_pass_31 : decode cX3_pass 31 = .ok (.aload_n 0, 1) := by decide +kernel
theorem dX3_pass_32 : decode cX3_pass 32 = .ok (.invokevirtual 99, 3) := by decide +kernel
theorem dX3_pass_35 : decode cX3_pass 35 = .ok (.return_, 1) := by decide +kernel
theorem dX3_leave_0 : decode cX3_leave 0 = .ok (.aload_n 0, 1) := by decide +kernel
theorem dX3_leave_1 : decode cX3_leave 1 = .ok (.iload_n 1, 1) := by decide +kernel
theorem dX3_leave_2 : decode cX3_leave 2 = .ok (.iconst 0, 1) := by decide +kernel
theorem dX3_leave_3 : decode cX3_leave 3 = .ok (.aload_n 0, 1) := by decide +kernel
theorem dX3_leave_4 : decode cX3_leave 4 = .ok (.getfield 60, 3) := by decide +kernel
theorem dX3_leave_7 : decode cX3_leave 7 = .ok (.iconst 1, 1) := by decide +kernel
theorem dX3_leave_8 : decode cX3_leave 8 = .ok (.isub, 1) := by decide +kernel
theorem dX3_leave_9 : decode cX3_leave 9 = .ok (.invokestatic 48, 3) := by decide +kernel
theorem dX3_leave_12 : decode cX3_leave 12 = .ok (.ifCond .ne 7, 3) := by decide +kernel
theorem dX3_leave_15 : decode cX3_leave 15 = .ok (.iconst 1, 1) := by decide +kernel
theorem dX3_leave_16 : decode cX3_leave 16 = .ok (.goto 17, 3) := by decide +kernel
theorem dX3_leave_19 : decode cX3_leave 19 = .ok (.aload_n 0, 1) := by decide +kernel
theorem dX3_leave_20 : decode cX3_leave 20 = .ok (.getfield 29, 3) := by decide +kernel
theorem dX3_leave_23 : decode cX3_leave 23 = .ok (.iload_n 1, 1) := by decide +kernel
theorem dX3_leave_24 : decode cX3_leave 24 = .ok (.baload, 1) := by decide +kernel
theorem dX3_leave_25 : decode cX3_leave 25 = .ok (.ifCond .eq 7, 3) := by decide +kernel
theorem dX3_leave_28 : decode cX3_leave 28 = .ok (.iconst 2, 1) := by decide +kernel
theorem dX3_leave_29 : decode cX3_leave 29 = .ok (.goto 4, 3) := by decide +kernel
theorem dX3_leave_32 : decode cX3_leave 32 = .ok (.iconst 0, 1) := by decide +kernel
theorem dX3_leave_33 : decode cX3_leave 33 = .ok (.putfield 56, 3) := by decide +kernel
theorem dX3_leave_36 : decode cX3_leave 36 = .ok (.aload_n 0, 1) := by decide +kernel
theorem dX3_leave_37 : decode cX3_leave 37 = .ok (.getfield 56, 3) := by decide +kernel
theorem dX3_leave_40 : decode cX3_leave 40 = .ok (.ifCond .le 4, 3) := by decide +kernel
theorem dX3_leave_43 : decode cX3_leave 43 = .ok (.return_, 1) := by decide +kernel
theorem dX3_leave_44 : decode cX3_leave 44 = .ok (.aload_n 0, 1) := by decide +kernel
theorem dX3_leave_45 : decode cX3_leave 45 = .ok (.getfield 29, 3) := by decide +kernel
theorem dX3_leave_48 : decode cX3_leave 48 = .ok (.iload_n 1, 1) := by decide +kernel
theorem dX3_leave_49 : decode cX3_leave 49 = .ok (.iconst 1, 1) := by decide +kernel
theorem dX3_leave_50 : decode cX3_leave 50 = .ok (.bastore, 1) := by decide +kernel
theorem dX3_leave_51 : decode cX3_leave 51 = .ok (.aload_n 0, 1) := by decide +kernel
theorem dX3_leave_52 : decode cX3_leave 52 = .ok (.getfield 63, 3) := by decide +kernel
theorem dX3_leave_55 : decode cX3_leave 55 = .ok (.bipush 7, 2) := by decide +kernel
theorem dX3_leave_57 : decode cX3_leave 57 = .ok (.if_icmp .eq 20, 3) := by decide +kernel
theorem dX3_leave_60 : decode cX3_leave 60 = .ok (.aload_n 0, 1) := by decide +kernel
theorem dX3_leave_61 : decode cX3_leave 61 = .ok (.getfield 35, 3) := by decide +kernel
theorem dX3_leave_64 : decode cX3_leave 64 = .ok (.aload_n 0, 1) := by decide +kernel
theorem dX3_leave_65 : decode cX3_leave 65 = .ok (.getfield 83, 3) := by decide +kernel
theorem dX3_leave_68 : decode cX3_leave 68 = .ok (.iaload, 1) := by decide +kernel
theorem dX3_leave_69 : decode cX3_leave 69 = .ok (.iload_n 1, 1) := by decide +kernel
theorem dX3_leave_70 : decode cX3_leave 70 = .ok (.if_icmp .ne 7, 3) := by decide +kernel
theorem dX3_leave_73 : decode cX3_leave 73 = .ok (.aload_n 0, 1) := by decide +kernel
theorem dX3_leave_74 : decode cX3_leave 74 = .ok (.invokevirtual 99, 3) := by decide +kernel
theorem dX3_leave_77 : decode cX3_leave 77 = .ok (.return_, 1) := by decide +kernel
theorem dX3_isEntry_0 : decode cX3_isEntry 0 = .ok (.iload_n 1, 1) := by decide +kernel
theorem dX3_isEntry_1 : decode cX3_isEntry 1 = .ok (.iconst 0, 1) := by decide +kernel
theorem dX3_isEntry_2 : decode cX3_isEntry 2 = .ok (.aload_n 0, 1) := by decide +kernel
theorem dX3_isEntry_3 : decode cX3_isEntry 3 = .ok (.getfield 60, 3) := by decide +kernel
theorem dX3_isEntry_6 : decode cX3_isEntry 6 = .ok (.iconst 1, 1) := by decide +kernel
theorem dX3_isEntry_7 : decode cX3_isEntry 7 = .ok (.isub, 1) := by decide +kernel
theorem dX3_isEntry_8 : decode cX3_isEntry 8 = .ok (.invokestatic 48, 3) := by decide +kernel
theorem dX3_isEntry_11 : decode cX3_isEntry 11 = .ok (.ifCond .eq 17, 3) := by decide +kernel
theorem dX3_isEntry_14 : decode cX3_isEntry 14 = .ok (.iload_n 2, 1) := by decide +kernel
theorem dX3_isEntry_15 : decode cX3_isEntry 15 = .ok (.iconst 1, 1) := by decide +kernel
theorem dX3_isEntry_16 : decode cX3_isEntry 16 = .ok (.bipush 6, 2) := by decide +kernel
theorem dX3_isEntry_18 : decode cX3_isEntry 18 = .ok (.invokestatic 48, 3) := by decide +kernel
theorem dX3_isEntry_21 : decode cX3_isEntry 21 = .ok (.ifCond .eq 7, 3) := by decide +kernel
theorem dX3_isEntry_24 : decode cX3_isEntry 24 = .ok (.iconst 1, 1) := by decide +kernel
theorem dX3_isEntry_25 : decode cX3_isEntry 25 = .ok (.goto 4, 3) := by decide +kernel
theorem dX3_isEntry_28 : decode cX3_isEntry 28 = .ok (.iconst 0, 1) := by decide +kernel
theorem dX3_isEntry_29 : decode cX3_isEntry 29 = .ok (.ireturn, 1) := by decide +kernel
theorem dX3_appeal_0 : decode cX3_appeal 0 = .ok (.aload_n 0, 1) := by decide +kernel
theorem dX3_appeal_1 : decode cX3_appeal 1 = .ok (.aload_n 0, 1) := by decide +kernel
theorem dX3_appeal_2 : decode cX3_appeal 2 = .ok (.iload_n 1, 1) := by decide +kernel
theorem dX3_appeal_3 : decode cX3_appeal 3 = .ok (.iload_n 2, 1) := by decide +kernel
theorem dX3_appeal_4 : decode cX3_appeal 4 = .ok (.invokevirtual 111, 3) := by decide +kernel
theorem dX3_appeal_7 : decode cX3_appeal 7 = .ok (.ifCond .ne 7, 3) := by decide +kernel
theorem dX3_appeal_10 : decode cX3_appeal 10 = .ok (.iconst 1, 1) := by decide +kernel
theorem dX3_appeal_11 : decode cX3_appeal 11 = .ok (.goto 4, 3) := by decide +kernel
theorem dX3_appeal_14 : decode cX3_appeal 14 = .ok (.iconst 0, 1) := by decide +kernel
theorem dX3_appeal_15 : decode cX3_appeal 15 = .ok (.putfield 56, 3) := by decide +kernel
theorem dX3_appeal_18 : decode cX3_appeal 18 = .ok (.aload_n 0, 1) := by decide +kernel
theorem dX3_appeal_19 : decode cX3_appeal 19 = .ok (.getfield 56, 3) := by decide +kernel
theorem dX3_appeal_22 : decode cX3_appeal 22 = .ok (.ifCond .le 5, 3) := by decide +kernel
theorem dX3_appeal_25 : decode cX3_appeal 25 = .ok (.iconst 0, 1) := by decide +kernel
theorem dX3_appeal_26 : decode cX3_appeal 26 = .ok (.ireturn, 1) := by decide +kernel
theorem dX3_appeal_27 : decode cX3_appeal 27 = .ok (.bipush 7, 2) := by decide +kernel
theorem dX3_appeal_29 : decode cX3_appeal 29 = .ok (.iload_n 1, 1) := by decide +kernel
theorem dX3_appeal_30 : decode cX3_appeal 30 = .ok (.imul, 1) := by decide +kernel
theorem dX3_appeal_31 : decode cX3_appeal 31 = .ok (.iload_n 2, 1) := by decide +kernel
theorem dX3_appeal_32 : decode cX3_appeal 32 = .ok (.iadd, 1) := by decide +kernel
theorem dX3_appeal_33 : decode cX3_appeal 33 = .ok (.istore_n 3, 1) := by decide +kernel
theorem dX3_appeal_34 : decode cX3_appeal 34 = .ok (.aload_n 0, 1) := by decide +kernel
theorem dX3_appeal_35 : decode cX3_appeal 35 = .ok (.aload_n 0, 1) := by decide +kernel
theorem dX3_appeal_36 : decode cX3_appeal 36 = .ok (.getfield 7, 3) := by decide +kernel
theorem dX3_appeal_39 : decode cX3_appeal 39 = .ok (.iload_n 3, 1) := by decide +kernel
theorem dX3_appeal_40 : decode cX3_appeal 40 = .ok (.iaload, 1) := by decide +kernel
theorem dX3_appeal_41 : decode cX3_appeal 41 = .ok (.iconst 2, 1) := by decide +kernel
theorem dX3_appeal_42 : decode cX3_appeal 42 = .ok (.if_icmp .ne 12, 3) := by decide +kernel
theorem dX3_appeal_45 : decode cX3_appeal 45 = .ok (.aload_n 0, 1) := by decide +kernel
theorem dX3_appeal_46 : decode cX3_appeal 46 = .ok (.getfield 16, 3) := by decide +kernel
theorem dX3_appeal_49 : decode cX3_appeal 49 = .ok (.iload_n 3, 1) := by decide +kernel
theorem dX3_appeal_50 : decode cX3_appeal 50 = .ok (.baload, 1) := by decide +kernel
theorem dX3_appeal_51 : decode cX3_appeal 51 = .ok (.ifCond .ne 7, 3) := by decide +kernel
theorem dX3_appeal_54 : decode cX3_appeal 54 = .ok (.iconst 2, 1) := by decide +kernel
theorem dX3_appeal_55 : decode cX3_appeal 55 = .ok (.goto 4, 3) := by decide +kernel
theorem dX3_appeal_58 : decode cX3_appeal 58 = .ok (.iconst 0, 1) := by decide +kernel
theorem dX3_appeal_59 : decode cX3_appeal 59 = .ok (.putfield 56, 3) := by decide +kernel
theorem dX3_appeal_62 : decode cX3_appeal 62 = .ok (.aload_n 0, 1) := by decide +kernel
theorem dX3_appeal_63 : decode cX3_appeal 63 = .ok (.getfield 56, 3) := by decide +kernel
theorem dX3_appeal_66 : decode cX3_appeal 66 = .ok (.ifCond .le 5, 3) := by decide +kernel
theorem dX3_appeal_69 : decode cX3_appeal 69 = .ok (.iconst 0, 1) := by decide +kernel
theorem dX3_appeal_70 : decode cX3_appeal 70 = .ok (.ireturn, 1) := by decide +kernel
theorem dX3_appeal_71 : decode cX3_appeal 71 = .ok (.aload_n 0, 1) := by decide +kernel
theorem dX3_appeal_72 : decode cX3_appeal 72 = .ok (.getfield 7, 3) := by decide +kernel
theorem dX3_appeal_75 : decode cX3_appeal 75 = .ok (.iload_n 3, 1) := by decide +kernel
theorem dX3_appeal_76 : decode cX3_appeal 76 = .ok (.iconst 1, 1) := by decide +kernel
theorem dX3_appeal_77 : decode cX3_appeal 77 = .ok (.iastore, 1) := by decide +kernel
theorem dX3_appeal_78 : decode cX3_appeal 78 = .ok (.aload_n 0, 1) := by decide +kernel
theorem dX3_appeal_79 : decode cX3_appeal 79 = .ok (.getfield 16, 3) := by decide +kernel
theorem dX3_appeal_82 : decode cX3_appeal 82 = .ok (.iload_n 3, 1) := by decide +kernel
theorem dX3_appeal_83 : decode cX3_appeal 83 = .ok (.iconst 0, 1) := by decide +kernel
theorem dX3_appeal_84 : decode cX3_appeal 84 = .ok (.bastore, 1) := by decide +kernel
theorem dX3_appeal_85 : decode cX3_appeal 85 = .ok (.aload_n 0, 1) := by decide +kernel
theorem dX3_appeal_86 : decode cX3_appeal 86 = .ok (.iload_n 3, 1) := by decide +kernel
theorem dX3_appeal_87 : decode cX3_appeal 87 = .ok (.invokevirtual 96, 3) := by decide +kernel
theorem dX3_appeal_90 : decode cX3_appeal 90 = .ok (.aload_n 0, 1) := by decide +kernel
theorem dX3_appeal_91 : decode cX3_appeal 91 = .ok (.getfield 13, 3) := by decide +kernel
theorem dX3_appeal_94 : decode cX3_appeal 94 = .ok (.iload_n 3, 1) := by decide +kernel
theorem dX3_appeal_95 : decode cX3_appeal 95 = .ok (.iaload, 1) := by decide +kernel
theorem dX3_appeal_96 : decode cX3_appeal 96 = .ok (.ireturn, 1) := by decide +kernel
theorem dX3_level_0 : decode cX3_level 0 = .ok (.aload_n 0, 1) := by decide +kernel
theorem dX3_level_1 : decode cX3_level 1 = .ok (.iconst 0, 1) := by decide +kernel
theorem dX3_level_2 : decode cX3_level 2 = .ok (.putfield 56, 3) := by decide +kernel
theorem dX3_level_5 : decode cX3_level 5 = .ok (.iload_n 1, 1) := by decide +kernel
theorem dX3_level_6 : decode cX3_level 6 = .ok (.aload_n 0, 1) := by decide +kernel
theorem dX3_level_7 : decode cX3_level 7 = .ok (.getfield 38, 3) := by decide +kernel
theorem dX3_level_10 : decode cX3_level 10 = .ok (.if_icmp .eq 7, 3) := by decide +kernel
theorem dX3_level_13 : decode cX3_level 13 = .ok (.iconst 1, 1) := by decide +kernel
theorem dX3_level_14 : decode cX3_level 14 = .ok (.goto 4, 3) := by decide +kernel
theorem dX3_level_17 : decode cX3_level 17 = .ok (.iconst 0, 1) := by decide +kernel
theorem dX3_level_18 : decode cX3_level 18 = .ok (.istore_n 2, 1) := by decide +kernel
theorem dX3_level_19 : decode cX3_level 19 = .ok (.aload_n 0, 1) := by decide +kernel
theorem dX3_level_20 : decode cX3_level 20 = .ok (.iload_n 1, 1) := by decide +kernel
theorem dX3_level_21 : decode cX3_level 21 = .ok (.putfield 38, 3) := by decide +kernel
theorem dX3_level_24 : decode cX3_level 24 = .ok (.iload_n 2, 1) := by decide +kernel
theorem dX3_level_25 : decode cX3_level 25 = .ok (.ireturn, 1) := by decide +kernel
theorem dX3_record_0 : decode cX3_record 0 = .ok (.aload_n 0, 1) := by decide +kernel
theorem dX3_record_1 : decode cX3_record 1 = .ok (.iload_n 1, 1) := by decide +kernel
theorem dX3_record_2 : decode cX3_record 2 = .ok (.iconst 0, 1) := by decide +kernel
theorem dX3_record_3 : decode cX3_record 3 = .ok (.sipush 999, 3) := by decide +kernel
theorem dX3_record_6 : decode cX3_record 6 = .ok (.invokestatic 48, 3) := by decide +kernel
theorem dX3_record_9 : decode cX3_record 9 = .ok (.ifCond .eq 7, 3) := by decide +kernel
theorem dX3_record_12 : decode cX3_record 12 = .ok (.iconst 0, 1) := by decide +kernel
theorem dX3_record_13 : decode cX3_record 13 = .ok (.goto 4, 3) := by decide +kernel
theorem dX3_record_16 : decode cX3_record 16 = .ok (.iconst 1, 1) := by decide +kernel
theorem dX3_record_17 : decode cX3_record 17 = .ok (.putfield 56, 3) := by decide +kernel
theorem dX3_record_20 : decode cX3_record 20 = .ok (.aload_n 0, 1) := by decide +kernel
theorem dX3_record_21 : decode cX3_record 21 = .ok (.getfield 56, 3) := by decide +kernel
theorem dX3_record_24 : decode cX3_record 24 = .ok (.ifCond .ne 21, 3) := by decide +kernel
theorem dX3_record_27 : decode cX3_record 27 = .ok (.aload_n 0, 1) := by decide +kernel
theorem dX3_record_28 : decode cX3_record 28 = .ok (.iload_n 1, 1) := by decide +kernel
theorem dX3_record_29 : decode cX3_record 29 = .ok (.ifCond .le 7, 3) := by decide +kernel
theorem dX3_record_32 : decode cX3_record 32 = .ok (.iconst 1, 1) := by decide +kernel
theorem dX3_record_33 : decode cX3_record 33 = .ok (.goto 4, 3) := by decide +kernel
theorem dX3_record_36 : decode cX3_record 36 = .ok (.iconst 0, 1) := by decide +kernel
theorem dX3_record_37 : decode cX3_record 37 = .ok (.putfield 102, 3) := by decide +kernel
theorem dX3_record_40 : decode cX3_record 40 = .ok (.aload_n 0, 1) := by decide +kernel
theorem dX3_record_41 : decode cX3_record 41 = .ok (.iload_n 1, 1) := by decide +kernel
theorem dX3_record_42 : decode cX3_record 42 = .ok (.putfield 105, 3) := by decide +kernel
theorem dX3_record_45 : decode cX3_record 45 = .ok (.return_, 1) := by decide +kernel
theorem dX3_prize_0 : decode cX3_prize 0 = .ok (.aload_n 0, 1) := by decide +kernel
theorem dX3_prize_1 : decode cX3_prize 1 = .ok (.iload_n 1, 1) := by decide +kernel
theorem dX3_prize_2 : decode cX3_prize 2 = .ok (.iconst 0, 1) := by decide +kernel
theorem dX3_prize_3 : decode cX3_prize 3 = .ok (.sipush 999, 3) := by decide +kernel
theorem dX3_prize_6 : decode cX3_prize 6 = .ok (.invokestatic 48, 3) := by decide +kernel
theorem dX3_prize_9 : decode cX3_prize 9 = .ok (.ifCond .eq 7, 3) := by decide +kernel
theorem dX3_prize_12 : decode cX3_prize 12 = .ok (.iconst 0, 1) := by decide +kernel
theorem dX3_prize_13 : decode cX3_prize 13 = .ok (.goto 4, 3) := by decide +kernel
theorem dX3_prize_16 : decode cX3_prize 16 = .ok (.iconst 1, 1) := by decide +kernel
theorem dX3_prize_17 : decode cX3_prize 17 = .ok (.putfield 56, 3) := by decide +kernel
theorem dX3_prize_20 : decode cX3_prize 20 = .ok (.aload_n 0, 1) := by decide +kernel
theorem dX3_prize_21 : decode cX3_prize 21 = .ok (.getfield 56, 3) := by decide +kernel
theorem dX3_prize_24 : decode cX3_prize 24 = .ok (.ifCond .ne 21, 3) := by decide +kernel
theorem dX3_prize_27 : decode cX3_prize 27 = .ok (.aload_n 0, 1) := by decide +kernel
theorem dX3_prize_28 : decode cX3_prize 28 = .ok (.iload_n 1, 1) := by decide +kernel
theorem dX3_prize_29 : decode cX3_prize 29 = .ok (.ifCond .le 7, 3) := by decide +kernel
theorem dX3_prize_32 : decode cX3_prize 32 = .ok (.iconst 1, 1) := by decide +kernel
theorem dX3_prize_33 : decode cX3_prize 33 = .ok (.goto 4, 3) := by decide +kernel
theorem dX3_prize_36 : decode cX3_prize 36 = .ok (.iconst 0, 1) := by decide +kernel
theorem dX3_prize_37 : decode cX3_prize 37 = .ok (.putfield 115, 3) := by decide +kernel
theorem dX3_prize_40 : decode cX3_prize 40 = .ok (.aload_n 0, 1) := by decide +kernel
theorem dX3_prize_41 : decode cX3_prize 41 = .ok (.iload_n 1, 1) := by decide +kernel
theorem dX3_prize_42 : decode cX3_prize 42 = .ok (.putfield 118, 3) := by decide +kernel
theorem dX3_prize_45 : decode cX3_prize 45 = .ok (.return_, 1) := by decide +kernel
theorem dX3_weightsOf_0 : decode cX3_weightsOf 0 = .ok (.iconst 0, 1) := by decide +kernel
theorem dX3_weightsOf_1 : decode cX3_weightsOf 1 = .ok (.istore_n 3, 1) := by decide +kernel
theorem dX3_weightsOf_2 : decode cX3_weightsOf 2 = .ok (.iconst 1, 1) := by decide +kernel
theorem dX3_weightsOf_3 : decode cX3_weightsOf 3 = .ok (.istore 4, 2) := by decide +kernel
theorem dX3_weightsOf_5 : decode cX3_weightsOf 5 = .ok (.iload 4, 2) := by decide +kernel
theorem dX3_weightsOf_7 : decode cX3_weightsOf 7 = .ok (.bipush 6, 2) := by decide +kernel
theorem dX3_weightsOf_9 : decode cX3_weightsOf 9 = .ok (.if_icmp .gt 83, 3) := by decide +kernel
theorem dX3_weightsOf_12 : decode cX3_weightsOf 12 = .ok (.bipush 7, 2) := by decide +kernel
theorem dX3_weightsOf_14 : decode cX3_weightsOf 14 = .ok (.iload_n 1, 1) := by decide +kernel
theorem dX3_weightsOf_15 : decode cX3_weightsOf 15 = .ok (.imul, 1) := by decide +kernel
theorem dX3_weightsOf_16 : decode cX3_weightsOf 16 = .ok (.iload 4, 2) := by decide +kernel
theorem dX3_weightsOf_18 : decode cX3_weightsOf 18 = .ok (.iadd, 1) := by decide +kernel
theorem dX3_weightsOf_19 : decode cX3_weightsOf 19 = .ok (.istore 5, 2) := by decide +kernel
theorem dX3_weightsOf_21 : decode cX3_weightsOf 21 = .ok (.aload_n 0, 1) := by decide +kernel
theorem dX3_weightsOf_22 : decode cX3_weightsOf 22 = .ok (.getfield 7, 3) := by decide +kernel
theorem dX3_weightsOf_25 : decode cX3_weightsOf 25 = .ok (.iload 5, 2) := by decide +kernel
theorem dX3_weightsOf_27 : decode cX3_weightsOf 27 = .ok (.iaload, 1) := by decide +kernel
theorem dX3_weightsOf_28 : decode cX3_weightsOf 28 = .ok (.iconst 1, 1) := by decide +kernel
theorem dX3_weightsOf_29 : decode cX3_weightsOf 29 = .ok (.if_icmp .ne 57, 3) := by decide +kernel
theorem dX3_weightsOf_32 : decode cX3_weightsOf 32 = .ok (.iload_n 3, 1) := by decide +kernel
theorem dX3_weightsOf_33 : decode cX3_weightsOf 33 = .ok (.istore 6, 2) := by decide +kernel
theorem dX3_weightsOf_35 : decode cX3_weightsOf 35 = .ok (.iload 6, 2) := by decide +kernel
theorem dX3_weightsOf_37 : decode cX3_weightsOf 37 = .ok (.ifCond .le 35, 3) := by decide +kernel
theorem dX3_weightsOf_40 : decode cX3_weightsOf 40 = .ok (.aload_n 2, 1) := by decide +kernel
theorem dX3_weightsOf_41 : decode cX3_weightsOf 41 = .ok (.iload 6, 2) := by decide +kernel
theorem dX3_weightsOf_43 : decode cX3_weightsOf 43 = .ok (.iconst 1, 1) := by decide +kernel
theorem dX3_weightsOf_44 : decode cX3_weightsOf 44 = .ok (.isub, 1) := by decide +kernel
theorem dX3_weightsOf_45 : decode cX3_weightsOf 45 = .ok (.iaload, 1) := by decide +kernel
theorem dX3_weightsOf_46 : decode cX3_weightsOf 46 = .ok (.aload_n 0, 1) := by decide +kernel
theorem dX3_weightsOf_47 : decode cX3_weightsOf 47 = .ok (.getfield 13, 3) := by decide +kernel
theorem dX3_weightsOf_50 : decode cX3_weightsOf 50 = .ok (.iload 5, 2) := by decide +kernel
theorem dX3_weightsOf_52 : decode cX3_weightsOf 52 = .ok (.iaload, 1) := by decide +kernel
theorem dX3_weightsOf_53 : decode cX3_weightsOf 53 = .ok (.if_icmp .ge 19, 3) := by decide +kernel
theorem dX3_weightsOf_56 : decode cX3_weightsOf 56 = .ok (.aload_n 2, 1) := by decide +kernel
theorem dX3_weightsOf_57 : decode cX3_weightsOf 57 = .ok (.iload 6, 2) := by decide +kernel
theorem dX3_weightsOf_59 : decode cX3_weightsOf 59 = .ok (.aload_n 2, 1) := by decide +kernel
theorem dX3_weightsOf_60 : decode cX3_weightsOf 60 = .ok (.iload 6, 2) := by decide +kernel
theorem dX3_weightsOf_62 : decode cX3_weightsOf 62 = .ok (.iconst 1, 1) := by decide +kernel
theorem dX3_weightsOf_63 : decode cX3_weightsOf 63 = .ok (.isub, 1) := by decide +kernel
theorem dX3_weightsOf_64 : decode cX3_weightsOf 64 = .ok (.iaload, 1) := by decide +kernel
theorem dX3_weightsOf_65 : decode cX3_weightsOf 65 = .ok (.iastore, 1) := by decide +kernel
theorem dX3_weightsOf_66 : decode cX3_weightsOf 66 = .ok (.iinc 6 (-1), 3) := by decide +kernel
theorem dX3_weightsOf_69 : decode cX3_weightsOf 69 = .ok (.goto (-34), 3) := by decide +kernel
theorem dX3_weightsOf_72 : decode cX3_weightsOf 72 = .ok (.aload_n 2, 1) := by decide +kernel
theorem dX3_weightsOf_73 : decode cX3_weightsOf 73 = .ok (.iload 6, 2) := by decide +kernel
theorem dX3_weightsOf_75 : decode cX3_weightsOf 75 = .ok (.aload_n 0, 1) := by decide +kernel
theorem dX3_weightsOf_76 : decode cX3_weightsOf 76 = .ok (.getfield 13, 3) := by decide +kernel
theorem dX3_weightsOf_79 : decode cX3_weightsOf 79 = .ok (.iload 5, 2) := by decide +kernel
theorem dX3_weightsOf_81 : decode cX3_weightsOf 81 = .ok (.iaload, 1) := by decide +kernel
theorem dX3_weightsOf_82 : decode cX3_weightsOf 82 = .ok (.iastore, 1) := by decide +kernel
theorem dX3_weightsOf_83 : decode cX3_weightsOf 83 = .ok (.iinc 3 1, 3) := by decide +kernel
theorem dX3_weightsOf_86 : decode cX3_weightsOf 86 = .ok (.iinc 4 1, 3) := by decide +kernel
theorem dX3_weightsOf_89 : decode cX3_weightsOf 89 = .ok (.goto (-84), 3) := by decide +kernel
theorem dX3_weightsOf_92 : decode cX3_weightsOf 92 = .ok (.iload_n 3, 1) := by decide +kernel
end
section
theorem dX3_weightsOf_93 : decode cX3_weightsOf 93 = .ok (.ireturn, 1) := by decide +kernel
theorem dX3_isBefore_0 : decode cX3_isBefore 0 = .ok (.aload_n 0, 1) := by decide +kernel
theorem dX3_isBefore_1 : decode cX3_isBefore 1 = .ok (.iload_n 1, 1) := by decide +kernel
theorem dX3_isBefore_2 : decode cX3_isBefore 2 = .ok (.aload_n 0, 1) := by decide +kernel
theorem dX3_isBefore_3 : decode cX3_isBefore 3 = .ok (.getfield 42, 3) := by decide +kernel
theorem dX3_isBefore_6 : decode cX3_isBefore 6 = .ok (.invokevirtual 69, 3) := by decide +kernel
theorem dX3_isBefore_9 : decode cX3_isBefore 9 = .ok (.istore_n 3, 1) := by decide +kernel
theorem dX3_isBefore_10 : decode cX3_isBefore 10 = .ok (.aload_n 0, 1) := by decide +kernel
theorem dX3_isBefore_11 : decode cX3_isBefore 11 = .ok (.iload_n 2, 1) := by decide +kernel
theorem dX3_isBefore_12 : decode cX3_isBefore 12 = .ok (.aload_n 0, 1) := by decide +kernel
theorem dX3_isBefore_13 : decode cX3_isBefore 13 = .ok (.getfield 45, 3) := by decide +kernel
theorem dX3_isBefore_16 : decode cX3_isBefore 16 = .ok (.invokevirtual 69, 3) := by decide +kernel
theorem dX3_isBefore_19 : decode cX3_isBefore 19 = .ok (.istore 4, 2) := by decide +kernel
theorem dX3_isBefore_21 : decode cX3_isBefore 21 = .ok (.iconst 0, 1) := by decide +kernel
theorem dX3_isBefore_22 : decode cX3_isBefore 22 = .ok (.istore 5, 2) := by decide +kernel
theorem dX3_isBefore_24 : decode cX3_isBefore 24 = .ok (.iload 5, 2) := by decide +kernel
theorem dX3_isBefore_26 : decode cX3_isBefore 26 = .ok (.iload_n 3, 1) := by decide +kernel
theorem dX3_isBefore_27 : decode cX3_isBefore 27 = .ok (.if_icmp .ge 33, 3) := by decide +kernel
theorem dX3_isBefore_30 : decode cX3_isBefore 30 = .ok (.iload 5, 2) := by decide +kernel
theorem dX3_isBefore_32 : decode cX3_isBefore 32 = .ok (.iload 4, 2) := by decide +kernel
theorem dX3_isBefore_34 : decode cX3_isBefore 34 = .ok (.if_icmp .ge 26, 3) := by decide +kernel
theorem dX3_isBefore_37 : decode cX3_isBefore 37 = .ok (.aload_n 0, 1) := by decide +kernel
theorem dX3_isBefore_38 : decode cX3_isBefore 38 = .ok (.getfield 42, 3) := by decide +kernel
theorem dX3_isBefore_41 : decode cX3_isBefore 41 = .ok (.iload 5, 2) := by decide +kernel
theorem dX3_isBefore_43 : decode cX3_isBefore 43 = .ok (.iaload, 1) := by decide +kernel
theorem dX3_isBefore_44 : decode cX3_isBefore 44 = .ok (.aload_n 0, 1) := by decide +kernel
theorem dX3_isBefore_45 : decode cX3_isBefore 45 = .ok (.getfield 45, 3) := by decide +kernel
theorem dX3_isBefore_48 : decode cX3_isBefore 48 = .ok (.iload 5, 2) := by decide +kernel
theorem dX3_isBefore_50 : decode cX3_isBefore 50 = .ok (.iaload, 1) := by decide +kernel
theorem dX3_isBefore_51 : decode cX3_isBefore 51 = .ok (.if_icmp .ne 9, 3) := by decide +kernel
theorem dX3_isBefore_54 : decode cX3_isBefore 54 = .ok (.iinc 5 1, 3) := by decide +kernel
theorem dX3_isBefore_57 : decode cX3_isBefore 57 = .ok (.goto (-33), 3) := by decide +kernel
theorem dX3_isBefore_60 : decode cX3_isBefore 60 = .ok (.iload 5, 2) := by decide +kernel
theorem dX3_isBefore_62 : decode cX3_isBefore 62 = .ok (.iload_n 3, 1) := by decide +kernel
theorem dX3_isBefore_63 : decode cX3_isBefore 63 = .ok (.if_icmp .ge 31, 3) := by decide +kernel
theorem dX3_isBefore_66 : decode cX3_isBefore 66 = .ok (.iload 5, 2) := by decide +kernel
theorem dX3_isBefore_68 : decode cX3_isBefore 68 = .ok (.iload 4, 2) := by decide +kernel
theorem dX3_isBefore_70 : decode cX3_isBefore 70 = .ok (.if_icmp .eq 20, 3) := by decide +kernel
theorem dX3_isBefore_73 : decode cX3_isBefore 73 = .ok (.aload_n 0, 1) := by decide +kernel
theorem dX3_isBefore_74 : decode cX3_isBefore 74 = .ok (.getfield 42, 3) := by decide +kernel
theorem dX3_isBefore_77 : decode cX3_isBefore 77 = .ok (.iload 5, 2) := by decide +kernel
theorem dX3_isBefore_79 : decode cX3_isBefore 79 = .ok (.iaload, 1) := by decide +kernel
theorem dX3_isBefore_80 : decode cX3_isBefore 80 = .ok (.aload_n 0, 1) := by decide +kernel
theorem dX3_isBefore_81 : decode cX3_isBefore 81 = .ok (.getfield 45, 3) := by decide +kernel
theorem dX3_isBefore_84 : decode cX3_isBefore 84 = .ok (.iload 5, 2) := by decide +kernel
theorem dX3_isBefore_86 : decode cX3_isBefore 86 = .ok (.iaload, 1) := by decide +kernel
theorem dX3_isBefore_87 : decode cX3_isBefore 87 = .ok (.if_icmp .le 7, 3) := by decide +kernel
theorem dX3_isBefore_90 : decode cX3_isBefore 90 = .ok (.iconst 1, 1) := by decide +kernel
theorem dX3_isBefore_91 : decode cX3_isBefore 91 = .ok (.goto 4, 3) := by decide +kernel
theorem dX3_isBefore_94 : decode cX3_isBefore 94 = .ok (.iconst 0, 1) := by decide +kernel
theorem dX3_isBefore_95 : decode cX3_isBefore 95 = .ok (.ireturn, 1) := by decide +kernel
theorem dX3_placeOf_0 : decode cX3_placeOf 0 = .ok (.iconst 1, 1) := by decide +kernel
theorem dX3_placeOf_1 : decode cX3_placeOf 1 = .ok (.istore_n 2, 1) := by decide +kernel
theorem dX3_placeOf_2 : decode cX3_placeOf 2 = .ok (.iconst 0, 1) := by decide +kernel
theorem dX3_placeOf_3 : decode cX3_placeOf 3 = .ok (.istore_n 3, 1) := by decide +kernel
theorem dX3_placeOf_4 : decode cX3_placeOf 4 = .ok (.iload_n 3, 1) := by decide +kernel
theorem dX3_placeOf_5 : decode cX3_placeOf 5 = .ok (.aload_n 0, 1) := by decide +kernel
theorem dX3_placeOf_6 : decode cX3_placeOf 6 = .ok (.getfield 60, 3) := by decide +kernel
theorem dX3_placeOf_9 : decode cX3_placeOf 9 = .ok (.if_icmp .ge 31, 3) := by decide +kernel
theorem dX3_placeOf_12 : decode cX3_placeOf 12 = .ok (.iload_n 3, 1) := by decide +kernel
theorem dX3_placeOf_13 : decode cX3_placeOf 13 = .ok (.iload_n 1, 1) := by decide +kernel
theorem dX3_placeOf_14 : decode cX3_placeOf 14 = .ok (.if_icmp .eq 18, 3) := by decide +kernel
theorem dX3_placeOf_17 : decode cX3_placeOf 17 = .ok (.aload_n 0, 1) := by decide +kernel
theorem dX3_placeOf_18 : decode cX3_placeOf 18 = .ok (.iload_n 3, 1) := by decide +kernel
theorem dX3_placeOf_19 : decode cX3_placeOf 19 = .ok (.iload_n 1, 1) := by decide +kernel
theorem dX3_placeOf_20 : decode cX3_placeOf 20 = .ok (.invokevirtual 121, 3) := by decide +kernel
theorem dX3_placeOf_23 : decode cX3_placeOf 23 = .ok (.ifCond .eq 9, 3) := by decide +kernel
theorem dX3_placeOf_26 : decode cX3_placeOf 26 = .ok (.iload_n 2, 1) := by decide +kernel
theorem dX3_placeOf_27 : decode cX3_placeOf 27 = .ok (.iconst 1, 1) := by decide +kernel
theorem dX3_placeOf_28 : decode cX3_placeOf 28 = .ok (.iadd, 1) := by decide +kernel
theorem dX3_placeOf_29 : decode cX3_placeOf 29 = .ok (.goto 4, 3) := by decide +kernel
theorem dX3_placeOf_32 : decode cX3_placeOf 32 = .ok (.iload_n 2, 1) := by decide +kernel
theorem dX3_placeOf_33 : decode cX3_placeOf 33 = .ok (.istore_n 2, 1) := by decide +kernel
theorem dX3_placeOf_34 : decode cX3_placeOf 34 = .ok (.iinc 3 1, 3) := by decide +kernel
theorem dX3_placeOf_37 : decode cX3_placeOf 37 = .ok (.goto (-33), 3) := by decide +kernel
theorem dX3_placeOf_40 : decode cX3_placeOf 40 = .ok (.iload_n 2, 1) := by decide +kernel
theorem dX3_placeOf_41 : decode cX3_placeOf 41 = .ok (.ireturn, 1) := by decide +kernel
theorem dX3_turn_0 : decode cX3_turn 0 = .ok (.aload_n 0, 1) := by decide +kernel
theorem dX3_turn_1 : decode cX3_turn 1 = .ok (.iconst 0, 1) := by decide +kernel
theorem dX3_turn_2 : decode cX3_turn 2 = .ok (.putfield 56, 3) := by decide +kernel
theorem dX3_turn_5 : decode cX3_turn 5 = .ok (.aload_n 0, 1) := by decide +kernel
theorem dX3_turn_6 : decode cX3_turn 6 = .ok (.getfield 63, 3) := by decide +kernel
theorem dX3_turn_9 : decode cX3_turn 9 = .ok (.bipush 7, 2) := by decide +kernel
theorem dX3_turn_11 : decode cX3_turn 11 = .ok (.if_icmp .ne 8, 3) := by decide +kernel
theorem dX3_turn_14 : decode cX3_turn 14 = .ok (.ldc 124, 2) := by decide +kernel
theorem dX3_turn_16 : decode cX3_turn 16 = .ok (.goto 12, 3) := by decide +kernel
theorem dX3_turn_19 : decode cX3_turn 19 = .ok (.aload_n 0, 1) := by decide +kernel
theorem dX3_turn_20 : decode cX3_turn 20 = .ok (.getfield 35, 3) := by decide +kernel
theorem dX3_turn_23 : decode cX3_turn 23 = .ok (.aload_n 0, 1) := by decide +kernel
theorem dX3_turn_24 : decode cX3_turn 24 = .ok (.getfield 83, 3) := by decide +kernel
theorem dX3_turn_27 : decode cX3_turn 27 = .ok (.iaload, 1) := by decide +kernel
theorem dX3_turn_28 : decode cX3_turn 28 = .ok (.ireturn, 1) := by decide +kernel
theorem dX3_day_0 : decode cX3_day 0 = .ok (.aload_n 0, 1) := by decide +kernel
theorem dX3_day_1 : decode cX3_day 1 = .ok (.iconst 0, 1) := by decide +kernel
theorem dX3_day_2 : decode cX3_day 2 = .ok (.putfield 56, 3) := by decide +kernel
theorem dX3_day_5 : decode cX3_day 5 = .ok (.aload_n 0, 1) := by decide +kernel
theorem dX3_day_6 : decode cX3_day 6 = .ok (.getfield 63, 3) := by decide +kernel
theorem dX3_day_9 : decode cX3_day 9 = .ok (.ireturn, 1) := by decide +kernel
theorem dX3_weight_0 : decode cX3_weight 0 = .ok (.aload_n 0, 1) := by decide +kernel
theorem dX3_weight_1 : decode cX3_weight 1 = .ok (.aload_n 0, 1) := by decide +kernel
theorem dX3_weight_2 : decode cX3_weight 2 = .ok (.iload_n 1, 1) := by decide +kernel
theorem dX3_weight_3 : decode cX3_weight 3 = .ok (.iload_n 2, 1) := by decide +kernel
theorem dX3_weight_4 : decode cX3_weight 4 = .ok (.invokevirtual 111, 3) := by decide +kernel
theorem dX3_weight_7 : decode cX3_weight 7 = .ok (.ifCond .eq 7, 3) := by decide +kernel
theorem dX3_weight_10 : decode cX3_weight 10 = .ok (.iconst 0, 1) := by decide +kernel
theorem dX3_weight_11 : decode cX3_weight 11 = .ok (.goto 4, 3) := by decide +kernel
theorem dX3_weight_14 : decode cX3_weight 14 = .ok (.iconst 1, 1) := by decide +kernel
theorem dX3_weight_15 : decode cX3_weight 15 = .ok (.putfield 56, 3) := by decide +kernel
theorem dX3_weight_18 : decode cX3_weight 18 = .ok (.aload_n 0, 1) := by decide +kernel
theorem dX3_weight_19 : decode cX3_weight 19 = .ok (.getfield 56, 3) := by decide +kernel
theorem dX3_weight_22 : decode cX3_weight 22 = .ok (.ifCond .le 5, 3) := by decide +kernel
theorem dX3_weight_25 : decode cX3_weight 25 = .ok (.iconst 0, 1) := by decide +kernel
theorem dX3_weight_26 : decode cX3_weight 26 = .ok (.ireturn, 1) := by decide +kernel
theorem dX3_weight_27 : decode cX3_weight 27 = .ok (.bipush 7, 2) := by decide +kernel
theorem dX3_weight_29 : decode cX3_weight 29 = .ok (.iload_n 1, 1) := by decide +kernel
theorem dX3_weight_30 : decode cX3_weight 30 = .ok (.imul, 1) := by decide +kernel
theorem dX3_weight_31 : decode cX3_weight 31 = .ok (.iload_n 2, 1) := by decide +kernel
theorem dX3_weight_32 : decode cX3_weight 32 = .ok (.iadd, 1) := by decide +kernel
theorem dX3_weight_33 : decode cX3_weight 33 = .ok (.istore_n 3, 1) := by decide +kernel
theorem dX3_weight_34 : decode cX3_weight 34 = .ok (.aload_n 0, 1) := by decide +kernel
theorem dX3_weight_35 : decode cX3_weight 35 = .ok (.getfield 7, 3) := by decide +kernel
theorem dX3_weight_38 : decode cX3_weight 38 = .ok (.iload_n 3, 1) := by decide +kernel
theorem dX3_weight_39 : decode cX3_weight 39 = .ok (.iaload, 1) := by decide +kernel
theorem dX3_weight_40 : decode cX3_weight 40 = .ok (.iconst 1, 1) := by decide +kernel
theorem dX3_weight_41 : decode cX3_weight 41 = .ok (.if_icmp .ne 12, 3) := by decide +kernel
theorem dX3_weight_44 : decode cX3_weight 44 = .ok (.aload_n 0, 1) := by decide +kernel
theorem dX3_weight_45 : decode cX3_weight 45 = .ok (.getfield 13, 3) := by decide +kernel
theorem dX3_weight_48 : decode cX3_weight 48 = .ok (.iload_n 3, 1) := by decide +kernel
theorem dX3_weight_49 : decode cX3_weight 49 = .ok (.iaload, 1) := by decide +kernel
theorem dX3_weight_50 : decode cX3_weight 50 = .ok (.goto 34, 3) := by decide +kernel
theorem dX3_weight_53 : decode cX3_weight 53 = .ok (.aload_n 0, 1) := by decide +kernel
theorem dX3_weight_54 : decode cX3_weight 54 = .ok (.getfield 7, 3) := by decide +kernel
theorem dX3_weight_57 : decode cX3_weight 57 = .ok (.iload_n 3, 1) := by decide +kernel
theorem dX3_weight_58 : decode cX3_weight 58 = .ok (.iaload, 1) := by decide +kernel
theorem dX3_weight_59 : decode cX3_weight 59 = .ok (.iconst 2, 1) := by decide +kernel
theorem dX3_weight_60 : decode cX3_weight 60 = .ok (.if_icmp .ne 7, 3) := by decide +kernel
theorem dX3_weight_63 : decode cX3_weight 63 = .ok (.iconst (-1), 1) := by decide +kernel
theorem dX3_weight_64 : decode cX3_weight 64 = .ok (.goto 20, 3) := by decide +kernel
theorem dX3_weight_67 : decode cX3_weight 67 = .ok (.aload_n 0, 1) := by decide +kernel
theorem dX3_weight_68 : decode cX3_weight 68 = .ok (.getfield 7, 3) := by decide +kernel
theorem dX3_weight_71 : decode cX3_weight 71 = .ok (.iload_n 3, 1) := by decide +kernel
theorem dX3_weight_72 : decode cX3_weight 72 = .ok (.iaload, 1) := by decide +kernel
theorem dX3_weight_73 : decode cX3_weight 73 = .ok (.iconst 3, 1) := by decide +kernel
theorem dX3_weight_74 : decode cX3_weight 74 = .ok (.if_icmp .ne 8, 3) := by decide +kernel
theorem dX3_weight_77 : decode cX3_weight 77 = .ok (.bipush (-2), 2) := by decide +kernel
theorem dX3_weight_79 : decode cX3_weight 79 = .ok (.goto 5, 3) := by decide +kernel
theorem dX3_weight_82 : decode cX3_weight 82 = .ok (.ldc 124, 2) := by decide +kernel
theorem dX3_weight_84 : decode cX3_weight 84 = .ok (.ireturn, 1) := by decide +kernel
theorem dX3_tilt_0 : decode cX3_tilt 0 = .ok (.aload_n 0, 1) := by decide +kernel
theorem dX3_tilt_1 : decode cX3_tilt 1 = .ok (.aload_n 0, 1) := by decide +kernel
theorem dX3_tilt_2 : decode cX3_tilt 2 = .ok (.iload_n 1, 1) := by decide +kernel
theorem dX3_tilt_3 : decode cX3_tilt 3 = .ok (.iload_n 2, 1) := by decide +kernel
theorem dX3_tilt_4 : decode cX3_tilt 4 = .ok (.invokevirtual 111, 3) := by decide +kernel
theorem dX3_tilt_7 : decode cX3_tilt 7 = .ok (.ifCond .eq 7, 3) := by decide +kernel
theorem dX3_tilt_10 : decode cX3_tilt 10 = .ok (.iconst 0, 1) := by decide +kernel
theorem dX3_tilt_11 : decode cX3_tilt 11 = .ok (.goto 4, 3) := by decide +kernel
theorem dX3_tilt_14 : decode cX3_tilt 14 = .ok (.iconst 1, 1) := by decide +kernel
theorem dX3_tilt_15 : decode cX3_tilt 15 = .ok (.putfield 56, 3) := by decide +kernel
theorem dX3_tilt_18 : decode cX3_tilt 18 = .ok (.aload_n 0, 1) := by decide +kernel
theorem dX3_tilt_19 : decode cX3_tilt 19 = .ok (.getfield 56, 3) := by decide +kernel
theorem dX3_tilt_22 : decode cX3_tilt 22 = .ok (.ifCond .ne 31, 3) := by decide +kernel
theorem dX3_tilt_25 : decode cX3_tilt 25 = .ok (.aload_n 0, 1) := by decide +kernel
theorem dX3_tilt_26 : decode cX3_tilt 26 = .ok (.getfield 23, 3) := by decide +kernel
theorem dX3_tilt_29 : decode cX3_tilt 29 = .ok (.bipush 7, 2) := by decide +kernel
theorem dX3_tilt_31 : decode cX3_tilt 31 = .ok (.iload_n 1, 1) := by decide +kernel
theorem dX3_tilt_32 : decode cX3_tilt 32 = .ok (.imul, 1) := by decide +kernel
theorem dX3_tilt_33 : decode cX3_tilt 33 = .ok (.iload_n 2, 1) := by decide +kernel
theorem dX3_tilt_34 : decode cX3_tilt 34 = .ok (.iadd, 1) := by decide +kernel
theorem dX3_tilt_35 : decode cX3_tilt 35 = .ok (.baload, 1) := by decide +kernel
theorem dX3_tilt_36 : decode cX3_tilt 36 = .ok (.ifCond .eq 17, 3) := by decide +kernel
theorem dX3_tilt_39 : decode cX3_tilt 39 = .ok (.aload_n 0, 1) := by decide +kernel
theorem dX3_tilt_40 : decode cX3_tilt 40 = .ok (.getfield 20, 3) := by decide +kernel
theorem dX3_tilt_43 : decode cX3_tilt 43 = .ok (.bipush 7, 2) := by decide +kernel
theorem dX3_tilt_45 : decode cX3_tilt 45 = .ok (.iload_n 1, 1) := by decide +kernel
theorem dX3_tilt_46 : decode cX3_tilt 46 = .ok (.imul, 1) := by decide +kernel
theorem dX3_tilt_47 : decode cX3_tilt 47 = .ok (.iload_n 2, 1) := by decide +kernel
theorem dX3_tilt_48 : decode cX3_tilt 48 = .ok (.iadd, 1) := by decide +kernel
theorem dX3_tilt_49 : decode cX3_tilt 49 = .ok (.iaload, 1) := by decide +kernel
theorem dX3_tilt_50 : decode cX3_tilt 50 = .ok (.goto 16, 3) := by decide +kernel
theorem dX3_tilt_53 : decode cX3_tilt 53 = .ok (.aload_n 0, 1) := by decide +kernel
theorem dX3_tilt_54 : decode cX3_tilt 54 = .ok (.getfield 56, 3) := by decide +kernel
theorem dX3_tilt_57 : decode cX3_tilt 57 = .ok (.ifCond .ne 8, 3) := by decide +kernel
theorem dX3_tilt_60 : decode cX3_tilt 60 = .ok (.ldc 124, 2) := by decide +kernel
theorem dX3_tilt_62 : decode cX3_tilt 62 = .ok (.goto 4, 3) := by decide +kernel
theorem dX3_tilt_65 : decode cX3_tilt 65 = .ok (.iconst 0, 1) := by decide +kernel
theorem dX3_tilt_66 : decode cX3_tilt 66 = .ok (.ireturn, 1) := by decide +kernel
theorem dX3_best_0 : decode cX3_best 0 = .ok (.aload_n 0, 1) := by decide +kernel
theorem dX3_best_1 : decode cX3_best 1 = .ok (.iload_n 1, 1) := by decide +kernel
theorem dX3_best_2 : decode cX3_best 2 = .ok (.iconst 0, 1) := by decide +kernel
theorem dX3_best_3 : decode cX3_best 3 = .ok (.aload_n 0, 1) := by decide +kernel
theorem dX3_best_4 : decode cX3_best 4 = .ok (.getfield 60, 3) := by decide +kernel
theorem dX3_best_7 : decode cX3_best 7 = .ok (.iconst 1, 1) := by decide +kernel
theorem dX3_best_8 : decode cX3_best 8 = .ok (.isub, 1) := by decide +kernel
theorem dX3_best_9 : decode cX3_best 9 = .ok (.invokestatic 48, 3) := by decide +kernel
theorem dX3_best_12 : decode cX3_best 12 = .ok (.ifCond .eq 7, 3) := by decide +kernel
theorem dX3_best_15 : decode cX3_best 15 = .ok (.iconst 0, 1) := by decide +kernel
theorem dX3_best_16 : decode cX3_best 16 = .ok (.goto 4, 3) := by decide +kernel
theorem dX3_best_19 : decode cX3_best 19 = .ok (.iconst 1, 1) := by decide +kernel
theorem dX3_best_20 : decode cX3_best 20 = .ok (.putfield 56, 3) := by decide +kernel
theorem dX3_best_23 : decode cX3_best 23 = .ok (.aload_n 0, 1) := by decide +kernel
theorem dX3_best_24 : decode cX3_best 24 = .ok (.getfield 56, 3) := by decide +kernel
theorem dX3_best_27 : decode cX3_best 27 = .ok (.ifCond .le 5, 3) := by decide +kernel
theorem dX3_best_30 : decode cX3_best 30 = .ok (.iconst 0, 1) := by decide +kernel
theorem dX3_best_31 : decode cX3_best 31 = .ok (.ireturn, 1) := by decide +kernel
theorem dX3_best_32 : decode cX3_best 32 = .ok (.aload_n 0, 1) := by decide +kernel
theorem dX3_best_33 : decode cX3_best 33 = .ok (.iload_n 1, 1) := by decide +kernel
theorem dX3_best_34 : decode cX3_best 34 = .ok (.aload_n 0, 1) := by decide +kernel
theorem dX3_best_35 : decode cX3_best 35 = .ok (.getfield 42, 3) := by decide +kernel
theorem dX3_best_38 : decode cX3_best 38 = .ok (.invokevirtual 69, 3) := by decide +kernel
theorem dX3_best_41 : decode cX3_best 41 = .ok (.ifCond .le 12, 3) := by decide +kernel
theorem dX3_best_44 : decode cX3_best 44 = .ok (.aload_n 0, 1) := by decide +kernel
theorem dX3_best_45 : decode cX3_best 45 = .ok (.getfield 42, 3) := by decide +kernel
theorem dX3_best_48 : decode cX3_best 48 = .ok (.iconst 0, 1) := by decide +kernel
theorem dX3_best_49 : decode cX3_best 49 = .ok (.iaload, 1) := by decide +kernel
theorem dX3_best_50 : decode cX3_best 50 = .ok (.goto 5, 3) := by decide +kernel
theorem dX3_best_53 : decode cX3_best 53 = .ok (.ldc 124, 2) := by decide +kernel
theorem dX3_best_55 : decode cX3_best 55 = .ok (.ireturn, 1) := by decide +kernel
theorem dX3_place_0 : decode cX3_place 0 = .ok (.aload_n 0, 1) := by decide +kernel
theorem dX3_place_1 : decode cX3_place 1 = .ok (.iload_n 1, 1) := by decide +kernel
theorem dX3_place_2 : decode cX3_place 2 = .ok (.iconst 0, 1) := by decide +kernel
theorem dX3_place_3 : decode cX3_place 3 = .ok (.aload_n 0, 1) := by decide +kernel
theorem dX3_place_4 : decode cX3_place 4 = .ok (.getfield 60, 3) := by decide +kernel
theorem dX3_place_7 : decode cX3_place 7 = .ok (.iconst 1, 1) := by decide +kernel
theorem dX3_place_8 : decode cX3_place 8 = .ok (.isub, 1) := by decide +kernel
theorem dX3_place_9 : decode cX3_place 9 = .ok (.invokestatic 48, 3) := by decide +kernel
theorem dX3_place_12 : decode cX3_place 12 = .ok (.ifCond .eq 7, 3) := by decide +kernel
theorem dX3_place_15 : decode cX3_place 15 = .ok (.iconst 0, 1) := by decide +kernel
theorem dX3_place_16 : decode cX3_place 16 = .ok (.goto 4, 3) := by decide +kernel
theorem dX3_place_19 : decode cX3_place 19 = .ok (.iconst 1, 1) := by decide +kernel
theorem dX3_place_20 : decode cX3_place 20 = .ok (.putfield 56, 3) := by decide +kernel
theorem dX3_place_23 : decode cX3_place 23 = .ok (.aload_n 0, 1) := by decide +kernel
theorem dX3_place_24 : decode cX3_place 24 = .ok (.getfield 56, 3) := by decide +kernel
theorem dX3_place_27 : decode cX3_place 27 = .ok (.ifCond .ne 11, 3) := by decide +kernel
theorem dX3_place_30 : decode cX3_place 30 = .ok (.aload_n 0, 1) := by decide +kernel
theorem dX3_place_31 : decode cX3_place 31 = .ok (.iload_n 1, 1) := by decide +kernel
theorem dX3_place_32 : decode cX3_place 32 = .ok (.invokevirtual 73, 3) := by decide +kernel
theorem dX3_place_35 : decode cX3_place 35 = .ok (.goto 4, 3) := by decide +kernel
theorem dX3_place_38 : decode cX3_place 38 = .ok (.iconst 0, 1) := by decide +kernel
theorem dX3_place_39 : decode cX3_place 39 = .ok (.ireturn, 1) := by decide +kernel
theorem dX3_wins_0 : decode cX3_wins 0 = .ok (.aload_n 0, 1) := by decide +kernel
theorem dX3_wins_1 : decode cX3_wins 1 = .ok (.iload_n 1, 1) := by decide +kernel
theorem dX3_wins_2 : decode cX3_wins 2 = .ok (.iconst 0, 1) := by decide +kernel
theorem dX3_wins_3 : decode cX3_wins 3 = .ok (.aload_n 0, 1) := by decide +kernel
theorem dX3_wins_4 : decode cX3_wins 4 = .ok (.getfield 60, 3) := by decide +kernel
theorem dX3_wins_7 : decode cX3_wins 7 = .ok (.iconst 1, 1) := by decide +kernel
theorem dX3_wins_8 : decode cX3_wins 8 = .ok (.isub, 1) := by decide +kernel
theorem dX3_wins_9 : decode cX3_wins 9 = .ok (.invokestatic 48, 3) := by decide +kernel
theorem dX3_wins_12 : decode cX3_wins 12 = .ok (.ifCond .eq 7, 3) := by decide +kernel
theorem dX3_wins_15 : decode cX3_wins 15 = .ok (.iconst 0, 1) := by decide +kernel
theorem dX3_wins_16 : decode cX3_wins 16 = .ok (.goto 4, 3) := by decide +kernel
theorem dX3_wins_19 : decode cX3_wins 19 = .ok (.iconst 1, 1) := by decide +kernel
theorem dX3_wins_20 : decode cX3_wins 20 = .ok (.putfield 56, 3) := by decide +kernel
theorem dX3_wins_23 : decode cX3_wins 23 = .ok (.aload_n 0, 1) := by decide +kernel
theorem dX3_wins_24 : decode cX3_wins 24 = .ok (.getfield 56, 3) := by decide +kernel
theorem dX3_wins_27 : decode cX3_wins 27 = .ok (.ifCond .ne 39, 3) := by decide +kernel
theorem dX3_wins_30 : decode cX3_wins 30 = .ok (.aload_n 0, 1) := by decide +kernel
theorem dX3_wins_31 : decode cX3_wins 31 = .ok (.getfield 115, 3) := by decide +kernel
theorem dX3_wins_34 : decode cX3_wins 34 = .ok (.ifCond .eq 32, 3) := by decide +kernel
theorem dX3_wins_37 : decode cX3_wins 37 = .ok (.aload_n 0, 1) := by decide +kernel
theorem dX3_wins_38 : decode cX3_wins 38 = .ok (.iload_n 1, 1) := by decide +kernel
theorem dX3_wins_39 : decode cX3_wins 39 = .ok (.aload_n 0, 1) := by decide +kernel
theorem dX3_wins_40 : decode cX3_wins 40 = .ok (.getfield 42, 3) := by decide +kernel
theorem dX3_wins_43 : decode cX3_wins 43 = .ok (.invokevirtual 69, 3) := by decide +kernel
theorem dX3_wins_46 : decode cX3_wins 46 = .ok (.ifCond .le 20, 3) := by decide +kernel
theorem dX3_wins_49 : decode cX3_wins 49 = .ok (.aload_n 0, 1) := by decide +kernel
theorem dX3_wins_50 : decode cX3_wins 50 = .ok (.getfield 42, 3) := by decide +kernel
theorem dX3_wins_53 : decode cX3_wins 53 = .ok (.iconst 0, 1) := by decide +kernel
theorem dX3_wins_54 : decode cX3_wins 54 = .ok (.iaload, 1) := by decide +kernel
theorem dX3_wins_55 : decode cX3_wins 55 = .ok (.aload_n 0, 1) := by decide +kernel
theorem dX3_wins_56 : decode cX3_wins 56 = .ok (.getfield 118, 3) := by decide +kernel
theorem dX3_wins_59 : decode cX3_wins 59 = .ok (.if_icmp .lt 7, 3) := by decide +kernel
theorem dX3_wins_62 : decode cX3_wins 62 = .ok (.iconst 1, 1) := by decide +kernel
theorem dX3_wins_63 : decode cX3_wins 63 = .ok (.goto 4, 3) := by decide +kernel
theorem dX3_wins_66 : decode cX3_wins 66 = .ok (.iconst 0, 1) := by decide +kernel
theorem dX3_wins_67 : decode cX3_wins 67 = .ok (.ireturn, 1) := by decide +kernel
theorem dX3_stand_0 : decode cX3_stand 0 = .ok (.iload_n 0, 1) := by decide +kernel
theorem dX3_stand_1 : decode cX3_stand 1 = .ok (.ifCond .eq 7, 3) := by decide +kernel
theorem dX3_stand_4 : decode cX3_stand 4 = .ok (.iload_n 2, 1) := by decide +kernel
theorem dX3_stand_5 : decode cX3_stand 5 = .ok (.ifCond .ne 15, 3) := by decide +kernel
theorem dX3_stand_8 : decode cX3_stand 8 = .ok (.iload 4, 2) := by decide +kernel
theorem dX3_stand_10 : decode cX3_stand 10 = .ok (.iconst 5, 1) := by decide +kernel
theorem dX3_stand_11 : decode cX3_stand 11 = .ok (.if_icmp .ne 7, 3) := by decide +kernel
theorem dX3_stand_14 : decode cX3_stand 14 = .ok (.iconst 1, 1) := by decide +kernel
theorem dX3_stand_15 : decode cX3_stand 15 = .ok (.goto 4, 3) := by decide +kernel
theorem dX3_stand_18 : decode cX3_stand 18 = .ok (.iconst 0, 1) := by decide +kernel
theorem dX3_stand_19 : decode cX3_stand 19 = .ok (.ireturn, 1) := by decide +kernel
theorem dX3_stand_20 : decode cX3_stand 20 = .ok (.iload 4, 2) := by decide +kernel
theorem dX3_stand_22 : decode cX3_stand 22 = .ok (.tableswitch 89 0 4 #[34, 45, 56, 67, 78], 34) := by decide +kernel
theorem dX3_stand_56 : decode cX3_stand 56 = .ok (.iload_n 1, 1) := by decide +kernel
theorem dX3_stand_57 : decode cX3_stand 57 = .ok (.iload_n 3, 1) := by decide +kernel
theorem dX3_stand_58 : decode cX3_stand 58 = .ok (.if_icmp .ge 7, 3) := by decide +kernel
theorem dX3_stand_61 : decode cX3_stand 61 = .ok (.iconst 1, 1) := by decide +kernel
theorem dX3_stand_62 : decode cX3_stand 62 = .ok (.goto 4, 3) := by decide +kernel
theorem dX3_stand_65 : decode cX3_stand 65 = .ok (.iconst 0, 1) := by decide +kernel
theorem dX3_stand_66 : decode cX3_stand 66 = .ok (.ireturn, 1) := by decide +kernel
theorem dX3_stand_67 : decode cX3_stand 67 = .ok (.iload_n 1, 1) := by decide +kernel
theorem dX3_stand_68 : decode cX3_stand 68 = .ok (.iload_n 3, 1) := by decide +kernel
theorem dX3_stand_69 : decode cX3_stand 69 = .ok (.if_icmp .gt 7, 3) := by decide +kernel
theorem dX3_stand_72 : decode cX3_stand 72 = .ok (.iconst 1, 1) := by decide +kernel
theorem dX3_stand_73 : decode cX3_stand 73 = .ok (.goto 4, 3) := by decide +kernel
theorem dX3_stand_76 : decode cX3_stand 76 = .ok (.iconst 0, 1) := by decide +kernel
theorem dX3_stand_77 : decode cX3_stand 77 = .ok (.ireturn, 1) := by decide +kernel
theorem dX3_stand_78 : decode cX3_stand 78 = .ok (.iload_n 1, 1) := by decide +kernel
theorem dX3_stand_79 : decode cX3_stand 79 = .ok (.iload_n 3, 1) := by decide +kernel
theorem dX3_stand_80 : decode cX3_stand 80 = .ok (.if_icmp .le 7, 3) := by decide +kernel
theorem dX3_stand_83 : decode cX3_stand 83 = .ok (.iconst 1, 1) := by decide +kernel
theorem dX3_stand_84 : decode cX3_stand 84 = .ok (.goto 4, 3) := by decide +kernel
theorem dX3_stand_87 : decode cX3_stand 87 = .ok (.iconst 0, 1) := by decide +kernel
theorem dX3_stand_88 : decode cX3_stand 88 = .ok (.ireturn, 1) := by decide +kernel
theorem dX3_stand_89 : decode cX3_stand 89 = .ok (.iload_n 1, 1) := by decide +kernel
theorem dX3_stand_90 : decode cX3_stand 90 = .ok (.iload_n 3, 1) := by decide +kernel
theorem dX3_stand_91 : decode cX3_stand 91 = .ok (.if_icmp .lt 7, 3) := by decide +kernel
theorem dX3_stand_94 : decode cX3_stand 94 = .ok (.iconst 1, 1) := by decide +kernel
theorem dX3_stand_95 : decode cX3_stand 95 = .ok (.goto 4, 3) := by decide +kernel
theorem dX3_stand_98 : decode cX3_stand 98 = .ok (.iconst 0, 1) := by decide +kernel
theorem dX3_stand_99 : decode cX3_stand 99 = .ok (.ireturn, 1) := by decide +kernel
theorem dX3_stand_100 : decode cX3_stand 100 = .ok (.iload_n 1, 1) := by decide +kernel
theorem dX3_stand_101 : decode cX3_stand 101 = .ok (.iload_n 3, 1) := by decide +kernel
theorem dX3_stand_102 : decode cX3_stand 102 = .ok (.if_icmp .ne 7, 3) := by decide +kernel
theorem dX3_stand_105 : decode cX3_stand 105 = .ok (.iconst 1, 1) := by decide +kernel
theorem dX3_stand_106 : decode cX3_stand 106 = .ok (.goto 4, 3) := by decide +kernel
theorem dX3_stand_109 : decode cX3_stand 109 = .ok (.iconst 0, 1) := by decide +kernel
theorem dX3_stand_110 : decode cX3_stand 110 = .ok (.ireturn, 1) := by decide +kernel
theorem dX3_stand_111 : decode cX3_stand 111 = .ok (.iload_n 1, 1) := by decide +kernel
theorem dX3_stand_112 : decode cX3_stand 112 = .ok (.iload_n 3, 1) := by decide +kernel
theorem dX3_stand_113 : decode cX3_stand 113 = .ok (.if_icmp .eq 7, 3) := by decide +kernel
theorem dX3_stand_116 : decode cX3_stand 116 = .ok (.iconst 1, 1) := by decide +kernel
theorem dX3_stand_117 : decode cX3_stand 117 = .ok (.goto 4, 3) := by decide +kernel
theorem dX3_stand_120 : decode cX3_stand 120 = .ok (.iconst 0, 1) := by decide +kernel
theorem dX3_stand_121 : decode cX3_stand 121 = .ok (.ireturn, 1) := by decide +kernel
theorem dX3_entryStands_0 : decode cX3_entryStands 0 = .ok (.iload_n 2, 1) := by decide +kernel
theorem dX3_entryStands_1 : decode cX3_entryStands 1 = .ok (.ifCond .ne 21, 3) := by decide +kernel
theorem dX3_entryStands_4 : decode cX3_entryStands 4 = .ok (.aload_n 0, 1) := by decide +kernel
theorem dX3_entryStands_5 : decode cX3_entryStands 5 = .ok (.getfield 7, 3) := by decide +kernel
theorem dX3_entryStands_8 : decode cX3_entryStands 8 = .ok (.iload_n 1, 1) := by decide +kernel
theorem dX3_entryStands_9 : decode cX3_entryStands 9 = .ok (.iaload, 1) := by decide +kernel
theorem dX3_entryStands_10 : decode cX3_entryStands 10 = .ok (.iconst 1, 1) := by decide +kernel
theorem dX3_entryStands_11 : decode cX3_entryStands 11 = .ok (.if_icmp .ne 7, 3) := by decide +kernel
theorem dX3_entryStands_14 : decode cX3_entryStands 14 = .ok (.iconst 1, 1) := by decide +kernel
theorem dX3_entryStands_15 : decode cX3_entryStands 15 = .ok (.goto 13, 3) := by decide +kernel
theorem dX3_entryStands_18 : decode cX3_entryStands 18 = .ok (.iconst 0, 1) := by decide +kernel
theorem dX3_entryStands_19 : decode cX3_entryStands 19 = .ok (.goto 9, 3) := by decide +kernel
theorem dX3_entryStands_22 : decode cX3_entryStands 22 = .ok (.aload_n 0, 1) := by decide +kernel
theorem dX3_entryStands_23 : decode cX3_entryStands 23 = .ok (.getfield 23, 3) := by decide +kernel
theorem dX3_entryStands_26 : decode cX3_entryStands 26 = .ok (.iload_n 1, 1) := by decide +kernel
theorem dX3_entryStands_27 : decode cX3_entryStands 27 = .ok (.baload, 1) := by decide +kernel
theorem dX3_entryStands_28 : decode cX3_entryStands 28 = .ok (.istore 5, 2) := by decide +kernel
theorem dX3_entryStands_30 : decode cX3_entryStands 30 = .ok (.iload 5, 2) := by decide +kernel
theorem dX3_entryStands_32 : decode cX3_entryStands 32 = .ok (.iload_n 2, 1) := by decide +kernel
theorem dX3_entryStands_33 : decode cX3_entryStands 33 = .ok (.ifCond .ne 12, 3) := by decide +kernel
theorem dX3_entryStands_36 : decode cX3_entryStands 36 = .ok (.aload_n 0, 1) := by decide +kernel
theorem dX3_entryStands_37 : decode cX3_entryStands 37 = .ok (.getfield 13, 3) := by decide +kernel
theorem dX3_entryStands_40 : decode cX3_entryStands 40 = .ok (.iload_n 1, 1) := by decide +kernel
theorem dX3_entryStands_41 : decode cX3_entryStands 41 = .ok (.iaload, 1) := by decide +kernel
theorem dX3_entryStands_42 : decode cX3_entryStands 42 = .ok (.goto 9, 3) := by decide +kernel
theorem dX3_entryStands_45 : decode cX3_entryStands 45 = .ok (.aload_n 0, 1) := by decide +kernel
theorem dX3_entryStands_46 : decode cX3_entryStands 46 = .ok (.getfield 20, 3) := by decide +kernel
theorem dX3_entryStands_49 : decode cX3_entryStands 49 = .ok (.iload_n 1, 1) := by decide +kernel
theorem dX3_entryStands_50 : decode cX3_entryStands 50 = .ok (.iaload, 1) := by decide +kernel
theorem dX3_entryStands_51 : decode cX3_entryStands 51 = .ok (.iload 4, 2) := by decide +kernel
theorem dX3_entryStands_53 : decode cX3_entryStands 53 = .ok (.ldc 124, 2) := by decide +kernel
theorem dX3_entryStands_55 : decode cX3_entryStands 55 = .ok (.if_icmp .eq 7, 3) := by decide +kernel
theorem dX3_entryStands_58 : decode cX3_entryStands 58 = .ok (.iconst 1, 1) := by decide +kernel
theorem dX3_entryStands_59 : decode cX3_entryStands 59 = .ok (.goto 4, 3) := by decide +kernel
theorem dX3_entryStands_62 : decode cX3_entryStands 62 = .ok (.iconst 0, 1) := by decide +kernel
theorem dX3_entryStands_63 : decode cX3_entryStands 63 = .ok (.iload 4, 2) := by decide +kernel
theorem dX3_entryStands_65 : decode cX3_entryStands 65 = .ok (.iload_n 3, 1) := by decide +kernel
theorem dX3_entryStands_66 : decode cX3_entryStands 66 = .ok (.invokestatic 125, 3) := by decide +kernel
theorem dX3_entryStands_69 : decode cX3_entryStands 69 = .ok (.ireturn, 1) := by decide +kernel
theorem dX3_isAsked_0 : decode cX3_isAsked 0 = .ok (.aload_n 0, 1) := by decide +kernel
theorem dX3_isAsked_1 : decode cX3_isAsked 1 = .ok (.iload_n 1, 1) := by decide +kernel
theorem dX3_isAsked_2 : decode cX3_isAsked 2 = .ok (.iconst 0, 1) := by decide +kernel
theorem dX3_isAsked_3 : decode cX3_isAsked 3 = .ok (.iconst 1, 1) := by decide +kernel
theorem dX3_isAsked_4 : decode cX3_isAsked 4 = .ok (.invokestatic 48, 3) := by decide +kernel
theorem dX3_isAsked_7 : decode cX3_isAsked 7 = .ok (.ifCond .eq 16, 3) := by decide +kernel
theorem dX3_isAsked_10 : decode cX3_isAsked 10 = .ok (.iload_n 2, 1) := by decide +kernel
theorem dX3_isAsked_11 : decode cX3_isAsked 11 = .ok (.iconst 0, 1) := by decide +kernel
theorem dX3_isAsked_12 : decode cX3_isAsked 12 = .ok (.iconst 5, 1) := by decide +kernel
theorem dX3_isAsked_13 : decode cX3_isAsked 13 = .ok (.invokestatic 48, 3) := by decide +kernel
theorem dX3_isAsked_16 : decode cX3_isAsked 16 = .ok (.ifCond .eq 7, 3) := by decide +kernel
theorem dX3_isAsked_19 : decode cX3_isAsked 19 = .ok (.iconst 0, 1) := by decide +kernel
theorem dX3_isAsked_20 : decode cX3_isAsked 20 = .ok (.goto 4, 3) := by decide +kernel
theorem dX3_isAsked_23 : decode cX3_isAsked 23 = .ok (.iconst 1, 1) := by decide +kernel
theorem dX3_isAsked_24 : decode cX3_isAsked 24 = .ok (.putfield 56, 3) := by decide +kernel
theorem dX3_isAsked_27 : decode cX3_isAsked 27 = .ok (.aload_n 0, 1) := by decide +kernel
theorem dX3_isAsked_28 : decode cX3_isAsked 28 = .ok (.getfield 56, 3) := by decide +kernel
theorem dX3_isAsked_31 : decode cX3_isAsked 31 = .ok (.ifCond .ne 7, 3) := by decide +kernel
theorem dX3_isAsked_34 : decode cX3_isAsked 34 = .ok (.iconst 1, 1) := by decide +kernel
theorem dX3_isAsked_35 : decode cX3_isAsked 35 = .ok (.goto 4, 3) := by decide +kernel
theorem dX3_isAsked_38 : decode cX3_isAsked 38 = .ok (.iconst 0, 1) := by decide +kernel
theorem dX3_isAsked_39 : decode cX3_isAsked 39 = .ok (.ireturn, 1) := by decide +kernel
theorem dX3_count_0 : decode cX3_count 0 = .ok (.iconst 0, 1) := by decide +kernel
theorem dX3_count_1 : decode cX3_count 1 = .ok (.istore 4, 2) := by decide +kernel
theorem dX3_count_3 : decode cX3_count 3 = .ok (.aload_n 0, 1) := by decide +kernel
theorem dX3_count_4 : decode cX3_count 4 = .ok (.iload_n 1, 1) := by decide +kernel
theorem dX3_count_5 : decode cX3_count 5 = .ok (.iload_n 2, 1) := by decide +kernel
theorem dX3_count_6 : decode cX3_count 6 = .ok (.invokevirtual 129, 3) := by decide +kernel
theorem dX3_count_9 : decode cX3_count 9 = .ok (.ifCond .eq 52, 3) := by decide +kernel
theorem dX3_count_12 : decode cX3_count 12 = .ok (.iconst 0, 1) := by decide +kernel
theorem dX3_count_13 : decode cX3_count 13 = .ok (.istore 5, 2) := by decide +kernel
theorem dX3_count_15 : decode cX3_count 15 = .ok (.iload 5, 2) := by decide +kernel
theorem dX3_count_17 : decode cX3_count 17 = .ok (.bipush 84, 2) := by decide +kernel
theorem dX3_count_19 : decode cX3_count 19 = .ok (.if_icmp .ge 42, 3) := by decide +kernel
theorem dX3_count_22 : decode cX3_count 22 = .ok (.aload_n 0, 1) := by decide +kernel
theorem dX3_count_23 : decode cX3_count 23 = .ok (.getfield 7, 3) := by decide +kernel
theorem dX3_count_26 : decode cX3_count 26 = .ok (.iload 5, 2) := by decide +kernel
theorem dX3_count_28 : decode cX3_count 28 = .ok (.iaload, 1) := by decide +kernel
theorem dX3_count_29 : decode cX3_count 29 = .ok (.ifCond .eq 22, 3) := by decide +kernel
theorem dX3_count_32 : decode cX3_count 32 = .ok (.aload_n 0, 1) := by decide +kernel
theorem dX3_count_33 : decode cX3_count 33 = .ok (.iload 5, 2) := by decide +kernel
theorem dX3_count_35 : decode cX3_count 35 = .ok (.iload_n 1, 1) := by decide +kernel
theorem dX3_count_36 : decode cX3_count 36 = .ok (.iload_n 2, 1) := by decide +kernel
theorem dX3_count_37 : decode cX3_count 37 = .ok (.iload_n 3, 1) := by decide +kernel
theorem dX3_count_38 : decode cX3_count 38 = .ok (.invokevirtual 132, 3) := by decide +kernel
theorem dX3_count_41 : decode cX3_count 41 = .ok (.ifCond .eq 10, 3) := by decide +kernel
theorem dX3_count_44 : decode cX3_count 44 = .ok (.iload 4, 2) := by decide +kernel
theorem dX3_count_46 : decode cX3_count 46 = .ok (.iconst 1, 1) := by decide +kernel
theorem dX3_count_47 : decode cX3_count 47 = .ok (.iadd, 1) := by decide +kernel
theorem dX3_count_48 : decode cX3_count 48 = .ok (.goto 5, 3) := by decide +kernel
theorem dX3_count_51 : decode cX3_count 51 = .ok (.iload 4, 2) := by decide +kernel
theorem dX3_count_53 : decode cX3_count 53 = .ok (.istore 4, 2) := by decide +kernel
theorem dX3_count_55 : decode cX3_count 55 = .ok (.iinc 5 1, 3) := by decide +kernel
theorem dX3_count_58 : decode cX3_count 58 = .ok (.goto (-43), 3) := by decide +kernel
theorem dX3_count_61 : decode cX3_count 61 = .ok (.iload 4, 2) := by decide +kernel
theorem dX3_count_63 : decode cX3_count 63 = .ok (.ireturn, 1) := by decide +kernel
theorem dX3_first_0 : decode cX3_first 0 = .ok (.aload_n 0, 1) := by decide +kernel
theorem dX3_first_1 : decode cX3_first 1 = .ok (.iload_n 1, 1) := by decide +kernel
theorem dX3_first_2 : decode cX3_first 2 = .ok (.iload_n 2, 1) := by decide +kernel
theorem dX3_first_3 : decode cX3_first 3 = .ok (.invokevirtual 129, 3) := by decide +kernel
theorem dX3_first_6 : decode cX3_first 6 = .ok (.ifCond .ne 5, 3) := by decide +kernel
theorem dX3_first_9 : decode cX3_first 9 = .ok (.iconst 0, 1) := by decide +kernel
theorem dX3_first_10 : decode cX3_first 10 = .ok (.ireturn, 1) := by decide +kernel
theorem dX3_first_11 : decode cX3_first 11 = .ok (.iconst 0, 1) := by decide +kernel
theorem dX3_first_12 : decode cX3_first 12 = .ok (.istore 4, 2) := by decide +kernel
theorem dX3_first_14 : decode cX3_first 14 = .ok (.iload 4, 2) := by decide +kernel
theorem dX3_first_16 : decode cX3_first 16 = .ok (.aload_n 0, 1) := by decide +kernel
theorem dX3_first_17 : decode cX3_first 17 = .ok (.getfield 60, 3) := by decide +kernel
theorem dX3_first_20 : decode cX3_first 20 = .ok (.if_icmp .ge 45, 3) := by decide +kernel
theorem dX3_first_23 : decode cX3_first 23 = .ok (.aload_n 0, 1) := by decide +kernel
theorem dX3_first_24 : decode cX3_first 24 = .ok (.getfield 26, 3) := by decide +kernel
theorem dX3_first_27 : decode cX3_first 27 = .ok (.iload 4, 2) := by decide +kernel
theorem dX3_first_29 : decode cX3_first 29 = .ok (.iaload, 1) := by decide +kernel
theorem dX3_first_30 : decode cX3_first 30 = .ok (.ifCond .le 29, 3) := by decide +kernel
theorem dX3_first_33 : decode cX3_first 33 = .ok (.aload_n 0, 1) := by decide +kernel
theorem dX3_first_34 : decode cX3_first 34 = .ok (.bipush 7, 2) := by decide +kernel
theorem dX3_first_36 : decode cX3_first 36 = .ok (.iload 4, 2) := by decide +kernel
theorem dX3_first_38 : decode cX3_first 38 = .ok (.imul, 1) := by decide +kernel
theorem dX3_first_39 : decode cX3_first 39 = .ok (.aload_n 0, 1) := by decide +kernel
theorem dX3_first_40 : decode cX3_first 40 = .ok (.getfield 26, 3) := by decide +kernel
theorem dX3_first_43 : decode cX3_first 43 = .ok (.iload 4, 2) := by decide +kernel
theorem dX3_first_45 : decode cX3_first 45 = .ok (.iaload, 1) := by decide +kernel
theorem dX3_first_46 : decode cX3_first 46 = .ok (.iadd, 1) := by decide +kernel
theorem dX3_first_47 : decode cX3_first 47 = .ok (.iload_n 1, 1) := by decide +kernel
theorem dX3_first_48 : decode cX3_first 48 = .ok (.iload_n 2, 1) := by decide +kernel
theorem dX3_first_49 : decode cX3_first 49 = .ok (.iload_n 3, 1) := by decide +kernel
theorem dX3_first_50 : decode cX3_first 50 = .ok (.invokevirtual 132, 3) := by decide +kernel
theorem dX3_first_53 : decode cX3_first 53 = .ok (.ifCond .eq 6, 3) := by decide +kernel
theorem dX3_first_56 : decode cX3_first 56 = .ok (.iload 4, 2) := by decide +kernel
theorem dX3_first_58 : decode cX3_first 58 = .ok (.ireturn, 1) := by decide +kernel
theorem dX3_first_59 : decode cX3_first 59 = .ok (.iinc 4 1, 3) := by decide +kernel
theorem dX3_first_62 : decode cX3_first 62 = .ok (.goto (-48), 3) := by decide +kernel
theorem dX3_first_65 : decode cX3_first 65 = .ok (.ldc 124, 2) := by decide +kernel
theorem dX3_first_67 : decode cX3_first 67 = .ok (.ireturn, 1) := by decide +kernel
theorem dX3_has_0 : decode cX3_has 0 = .ok (.iload_n 1, 1) := by decide +kernel
theorem dX3_has_1 : decode cX3_has 1 = .ok (.ifCond .ne 23, 3) := by decide +kernel
theorem dX3_has_4 : decode cX3_has 4 = .ok (.aload_n 0, 1) := by decide +kernel
theorem dX3_has_5 : decode cX3_has 5 = .ok (.iload_n 2, 1) := by decide +kernel
theorem dX3_has_6 : decode cX3_has 6 = .ok (.aload_n 0, 1) := by decide +kernel
theorem dX3_has_7 : decode cX3_has 7 = .ok (.getfield 42, 3) := by decide +kernel
theorem dX3_has_10 : decode cX3_has 10 = .ok (.invokevirtual 69, 3) := by decide +kernel
theorem dX3_has_13 : decode cX3_has 13 = .ok (.ifCond .le 7, 3) := by decide +kernel
theorem dX3_has_16 : decode cX3_has 16 = .ok (.iconst 1, 1) := by decide +kernel
theorem dX3_has_17 : decode cX3_has 17 = .ok (.goto 40, 3) := by decide +kernel
theorem dX3_has_20 : decode cX3_has 20 = .ok (.iconst 0, 1) := by decide +kernel
theorem dX3_has_21 : decode cX3_has 21 = .ok (.goto 36, 3) := by decide +kernel
theorem dX3_has_24 : decode cX3_has 24 = .ok (.aload_n 0, 1) := by decide +kernel
theorem dX3_has_25 : decode cX3_has 25 = .ok (.getfield 26, 3) := by decide +kernel
theorem dX3_has_28 : decode cX3_has 28 = .ok (.iload_n 2, 1) := by decide +kernel
theorem dX3_has_29 : decode cX3_has 29 = .ok (.iaload, 1) := by decide +kernel
theorem dX3_has_30 : decode cX3_has 30 = .ok (.ifCond .le 26, 3) := by decide +kernel
theorem dX3_has_33 : decode cX3_has 33 = .ok (.aload_n 0, 1) := by decide +kernel
theorem dX3_has_34 : decode cX3_has 34 = .ok (.getfield 23, 3) := by decide +kernel
theorem dX3_has_37 : decode cX3_has 37 = .ok (.bipush 7, 2) := by decide +kernel
theorem dX3_has_39 : decode cX3_has 39 = .ok (.iload_n 2, 1) := by decide +kernel
theorem dX3_has_40 : decode cX3_has 40 = .ok (.imul, 1) := by decide +kernel
theorem dX3_has_41 : decode cX3_has 41 = .ok (.aload_n 0, 1) := by decide +kernel
theorem dX3_has_42 : decode cX3_has 42 = .ok (.getfield 26, 3) := by decide +kernel
theorem dX3_has_45 : decode cX3_has 45 = .ok (.iload_n 2, 1) := by decide +kernel
theorem dX3_has_46 : decode cX3_has 46 = .ok (.iaload, 1) := by decide +kernel
theorem dX3_has_47 : decode cX3_has 47 = .ok (.iadd, 1) := by decide +kernel
theorem dX3_has_48 : decode cX3_has 48 = .ok (.baload, 1) := by decide +kernel
theorem dX3_has_49 : decode cX3_has 49 = .ok (.ifCond .eq 7, 3) := by decide +kernel
theorem dX3_has_52 : decode cX3_has 52 = .ok (.iconst 1, 1) := by decide +kernel
theorem dX3_has_53 : decode cX3_has 53 = .ok (.goto 4, 3) := by decide +kernel
theorem dX3_has_56 : decode cX3_has 56 = .ok (.iconst 0, 1) := by decide +kernel
theorem dX3_has_57 : decode cX3_has 57 = .ok (.ireturn, 1) := by decide +kernel
theorem dX3_told_0 : decode cX3_told 0 = .ok (.aload_n 0, 1) := by decide +kernel
theorem dX3_told_1 : decode cX3_told 1 = .ok (.iload_n 2, 1) := by decide +kernel
theorem dX3_told_2 : decode cX3_told 2 = .ok (.aload_n 0, 1) := by decide +kernel
theorem dX3_told_3 : decode cX3_told 3 = .ok (.getfield 42, 3) := by decide +kernel
theorem dX3_told_6 : decode cX3_told 6 = .ok (.invokevirtual 69, 3) := by decide +kernel
theorem dX3_told_9 : decode cX3_told 9 = .ok (.istore_n 3, 1) := by decide +kernel
theorem dX3_told_10 : decode cX3_told 10 = .ok (.iload_n 1, 1) := by decide +kernel
theorem dX3_told_11 : decode cX3_told 11 = .ok (.ifCond .ne 20, 3) := by decide +kernel
theorem dX3_told_14 : decode cX3_told 14 = .ok (.iload_n 3, 1) := by decide +kernel
theorem dX3_told_15 : decode cX3_told 15 = .ok (.ifCond .le 12, 3) := by decide +kernel
theorem dX3_told_18 : decode cX3_told 18 = .ok (.aload_n 0, 1) := by decide +kernel
theorem dX3_told_19 : decode cX3_told 19 = .ok (.getfield 42, 3) := by decide +kernel
theorem dX3_told_22 : decode cX3_told 22 = .ok (.iconst 0, 1) := by decide +kernel
theorem dX3_told_23 : decode cX3_told 23 = .ok (.iaload, 1) := by decide +kernel
theorem dX3_told_24 : decode cX3_told 24 = .ok (.goto 23, 3) := by decide +kernel
theorem dX3_told_27 : decode cX3_told 27 = .ok (.iconst 0, 1) := by decide +kernel
theorem dX3_told_28 : decode cX3_told 28 = .ok (.goto 19, 3) := by decide +kernel
theorem dX3_told_31 : decode cX3_told 31 = .ok (.aload_n 0, 1) := by decide +kernel
theorem dX3_told_32 : decode cX3_told 32 = .ok (.getfield 20, 3) := by decide +kernel
theorem dX3_told_35 : decode cX3_told 35 = .ok (.bipush 7, 2) := by decide +kernel
theorem dX3_told_37 : decode cX3_told 37 = .ok (.iload_n 2, 1) := by decide +kernel
theorem dX3_told_38 : decode cX3_told 38 = .ok (.imul, 1) := by decide +kernel
theorem dX3_told_39 : decode cX3_told 39 = .ok (.aload_n 0, 1) := by decide +kernel
theorem dX3_told_40 : decode cX3_told 40 = .ok (.getfield 26, 3) := by decide +kernel
theorem dX3_told_43 : decode cX3_told 43 = .ok (.iload_n 2, 1) := by decide +kernel
theorem dX3_told_44 : decode cX3_told 44 = .ok (.iaload, 1) := by decide +kernel
theorem dX3_told_45 : decode cX3_told 45 = .ok (.iadd, 1) := by decide +kernel
theorem dX3_told_46 : decode cX3_told 46 = .ok (.iaload, 1) := by decide +kernel
theorem dX3_told_47 : decode cX3_told 47 = .ok (.ireturn, 1) := by decide +kernel
theorem dX3_lamps_0 : decode cX3_lamps 0 = .ok (.iconst 0, 1) := by decide +kernel
theorem dX3_lamps_1 : decode cX3_lamps 1 = .ok (.istore 4, 2) := by decide +kernel
theorem dX3_lamps_3 : decode cX3_lamps 3 = .ok (.aload_n 0, 1) := by decide +kernel
theorem dX3_lamps_4 : decode cX3_lamps 4 = .ok (.iload_n 1, 1) := by decide +kernel
theorem dX3_lamps_5 : decode cX3_lamps 5 = .ok (.iload_n 2, 1) := by decide +kernel
theorem dX3_lamps_6 : decode cX3_lamps 6 = .ok (.invokevirtual 129, 3) := by decide +kernel
theorem dX3_lamps_9 : decode cX3_lamps 9 = .ok (.ifCond .eq 68, 3) := by decide +kernel
theorem dX3_lamps_12 : decode cX3_lamps 12 = .ok (.iconst 0, 1) := by decide +kernel
theorem dX3_lamps_13 : decode cX3_lamps 13 = .ok (.istore 5, 2) := by decide +kernel
theorem dX3_lamps_15 : decode cX3_lamps 15 = .ok (.iload 5, 2) := by decide +kernel
theorem dX3_lamps_17 : decode cX3_lamps 17 = .ok (.aload_n 0, 1) := by decide +kernel
theorem dX3_lamps_18 : decode cX3_lamps 18 = .ok (.getfield 60, 3) := by decide +kernel
theorem dX3_lamps_21 : decode cX3_lamps 21 = .ok (.if_icmp .ge 56, 3) := by decide +kernel
theorem dX3_lamps_24 : decode cX3_lamps 24 = .ok (.aload_n 0, 1) := by decide +kernel
theorem dX3_lamps_25 : decode cX3_lamps 25 = .ok (.iload_n 1, 1) := by decide +kernel
theorem dX3_lamps_26 : decode cX3_lamps 26 = .ok (.iload 5, 2) := by decide +kernel
theorem dX3_lamps_28 : decode cX3_lamps 28 = .ok (.invokevirtual 136, 3) := by decide +kernel
theorem dX3_lamps_31 : decode cX3_lamps 31 = .ok (.aload_n 0, 1) := by decide +kernel
theorem dX3_lamps_32 : decode cX3_lamps 32 = .ok (.iload_n 1, 1) := by decide +kernel
theorem dX3_lamps_33 : decode cX3_lamps 33 = .ok (.iload 5, 2) := by decide +kernel
theorem dX3_lamps_35 : decode cX3_lamps 35 = .ok (.invokevirtual 139, 3) := by decide +kernel
theorem dX3_lamps_38 : decode cX3_lamps 38 = .ok (.iload_n 3, 1) := by decide +kernel
theorem dX3_lamps_39 : decode cX3_lamps 39 = .ok (.ldc 124, 2) := by decide +kernel
theorem dX3_lamps_41 : decode cX3_lamps 41 = .ok (.if_icmp .eq 7, 3) := by decide +kernel
theorem dX3_lamps_44 : decode cX3_lamps 44 = .ok (.iconst 1, 1) := by decide +kernel
theorem dX3_lamps_45 : decode cX3_lamps 45 = .ok (.goto 4, 3) := by decide +kernel
theorem dX3_lamps_48 : decode cX3_lamps 48 = .ok (.iconst 0, 1) := by decide +kernel
theorem dX3_lamps_49 : decode cX3_lamps 49 = .ok (.iload_n 3, 1) := by decide +kernel
theorem dX3_lamps_50 : decode cX3_lamps 50 = .ok (.iload_n 2, 1) := by decide +kernel
theorem dX3_lamps_51 : decode cX3_lamps 51 = .ok (.invokestatic 125, 3) := by decide +kernel
theorem dX3_lamps_54 : decode cX3_lamps 54 = .ok (.ifCond .eq 13, 3) := by decide +kernel
theorem dX3_lamps_57 : decode cX3_lamps 57 = .ok (.iload 4, 2) := by decide +kernel
theorem dX3_lamps_59 : decode cX3_lamps 59 = .ok (.iconst 1, 1) := by decide +kernel
theorem dX3_lamps_60 : decode cX3_lamps 60 = .ok (.iload 5, 2) := by decide +kernel
theorem dX3_lamps_62 : decode cX3_lamps 62 = .ok (.ishl, 1) := by decide +kernel
theorem dX3_lamps_63 : decode cX3_lamps 63 = .ok (.ior, 1) := by decide +kernel
theorem dX3_lamps_64 : decode cX3_lamps 64 = .ok (.goto 5, 3) := by decide +kernel
theorem dX3_lamps_67 : decode cX3_lamps 67 = .ok (.iload 4, 2) := by decide +kernel
theorem dX3_lamps_69 : decode cX3_lamps 69 = .ok (.istore 4, 2) := by decide +kernel
theorem dX3_lamps_71 : decode cX3_lamps 71 = .ok (.iinc 5 1, 3) := by decide +kernel
theorem dX3_lamps_74 : decode cX3_lamps 74 = .ok (.goto (-59), 3) := by decide +kernel
theorem dX3_lamps_77 : decode cX3_lamps 77 = .ok (.iload 4, 2) := by decide +kernel
theorem dX3_lamps_79 : decode cX3_lamps 79 = .ok (.ireturn, 1) := by decide +kernel
theorem dX3_stands_0 : decode cX3_stands 0 = .ok (.aload_n 0, 1) := by decide +kernel
theorem dX3_stands_1 : decode cX3_stands 1 = .ok (.iload_n 1, 1) := by decide +kernel
theorem dX3_stands_2 : decode cX3_stands 2 = .ok (.iconst 0, 1) := by decide +kernel
theorem dX3_stands_3 : decode cX3_stands 3 = .ok (.iconst 1, 1) := by decide +kernel
theorem dX3_stands_4 : decode cX3_stands 4 = .ok (.invokestatic 48, 3) := by decide +kernel
theorem dX3_stands_7 : decode cX3_stands 7 = .ok (.ifCond .eq 35, 3) := by decide +kernel
theorem dX3_stands_10 : decode cX3_stands 10 = .ok (.iload_n 2, 1) := by decide +kernel
theorem dX3_stands_11 : decode cX3_stands 11 = .ok (.iconst 0, 1) := by decide +kernel
theorem dX3_stands_12 : decode cX3_stands 12 = .ok (.aload_n 0, 1) := by decide +kernel
theorem dX3_stands_13 : decode cX3_stands 13 = .ok (.getfield 60, 3) := by decide +kernel
theorem dX3_stands_16 : decode cX3_stands 16 = .ok (.iconst 1, 1) := by decide +kernel
theorem dX3_stands_17 : decode cX3_stands 17 = .ok (.isub, 1) := by decide +kernel
theorem dX3_stands_18 : decode cX3_stands 18 = .ok (.invokestatic 48, 3) := by decide +kernel
theorem dX3_stands_21 : decode cX3_stands 21 = .ok (.ifCond .eq 21, 3) := by decide +kernel
theorem dX3_stands_24 : decode cX3_stands 24 = .ok (.iload_n 3, 1) := by decide +kernel
theorem dX3_stands_25 : decode cX3_stands 25 = .ok (.iconst 0, 1) := by decide +kernel
theorem dX3_stands_26 : decode cX3_stands 26 = .ok (.aload_n 0, 1) := by decide +kernel
theorem dX3_stands_27 : decode cX3_stands 27 = .ok (.getfield 60, 3) := by decide +kernel
theorem dX3_stands_30 : decode cX3_stands 30 = .ok (.iconst 1, 1) := by decide +kernel
theorem dX3_stands_31 : decode cX3_stands 31 = .ok (.isub, 1) := by decide +kernel
theorem dX3_stands_32 : decode cX3_stands 32 = .ok (.invokestatic 48, 3) := by decide +kernel
theorem dX3_stands_35 : decode cX3_stands 35 = .ok (.ifCond .eq 7, 3) := by decide +kernel
theorem dX3_stands_38 : decode cX3_stands 38 = .ok (.iconst 0, 1) := by decide +kernel
theorem dX3_stands_39 : decode cX3_stands 39 = .ok (.goto 4, 3) := by decide +kernel
theorem dX3_stands_42 : decode cX3_stands 42 = .ok (.iconst 1, 1) := by decide +kernel
theorem dX3_stands_43 : decode cX3_stands 43 = .ok (.putfield 56, 3) := by decide +kernel
theorem dX3_stands_46 : decode cX3_stands 46 = .ok (.iconst 0, 1) := by decide +kernel
theorem dX3_stands_47 : decode cX3_stands 47 = .ok (.istore 4, 2) := by decide +kernel
theorem dX3_stands_49 : decode cX3_stands 49 = .ok (.iconst 0, 1) := by decide +kernel
theorem dX3_stands_50 : decode cX3_stands 50 = .ok (.istore 5, 2) := by decide +kernel
theorem dX3_stands_52 : decode cX3_stands 52 = .ok (.iload 5, 2) := by decide +kernel
theorem dX3_stands_54 : decode cX3_stands 54 = .ok (.bipush 6, 2) := by decide +kernel
theorem dX3_stands_56 : decode cX3_stands 56 = .ok (.if_icmp .ge 62, 3) := by decide +kernel
theorem dX3_stands_59 : decode cX3_stands 59 = .ok (.aload_n 0, 1) := by decide +kernel
theorem dX3_stands_60 : decode cX3_stands 60 = .ok (.getfield 56, 3) := by decide +kernel
theorem dX3_stands_63 : decode cX3_stands 63 = .ok (.ifCond .ne 55, 3) := by decide +kernel
theorem dX3_stands_66 : decode cX3_stands 66 = .ok (.aload_n 0, 1) := by decide +kernel
theorem dX3_stands_67 : decode cX3_stands 67 = .ok (.iload_n 1, 1) := by decide +kernel
theorem dX3_stands_68 : decode cX3_stands 68 = .ok (.iload_n 2, 1) := by decide +kernel
theorem dX3_stands_69 : decode cX3_stands 69 = .ok (.invokevirtual 136, 3) := by decide +kernel
theorem dX3_stands_72 : decode cX3_stands 72 = .ok (.aload_n 0, 1) := by decide +kernel
theorem dX3_stands_73 : decode cX3_stands 73 = .ok (.iload_n 1, 1) := by decide +kernel
theorem dX3_stands_74 : decode cX3_stands 74 = .ok (.iload_n 2, 1) := by decide +kernel
theorem dX3_stands_75 : decode cX3_stands 75 = .ok (.invokevirtual 139, 3) := by decide +kernel
theorem dX3_stands_78 : decode cX3_stands 78 = .ok (.aload_n 0, 1) := by decide +kernel
theorem dX3_stands_79 : decode cX3_stands 79 = .ok (.iload_n 1, 1) := by decide +kernel
theorem dX3_stands_80 : decode cX3_stands 80 = .ok (.iload_n 3, 1) := by decide +kernel
theorem dX3_stands_81 : decode cX3_stands 81 = .ok (.invokevirtual 136, 3) := by decide +kernel
theorem dX3_stands_84 : decode cX3_stands 84 = .ok (.aload_n 0, 1) := by decide +kernel
theorem dX3_stands_85 : decode cX3_stands 85 = .ok (.iload_n 1, 1) := by decide +kernel
theorem dX3_stands_86 : decode cX3_stands 86 = .ok (.iload_n 3, 1) := by decide +kernel
theorem dX3_stands_87 : decode cX3_stands 87 = .ok (.invokevirtual 139, 3) := by decide +kernel
theorem dX3_stands_90 : decode cX3_stands 90 = .ok (.iload 5, 2) := by decide +kernel
theorem dX3_stands_92 : decode cX3_stands 92 = .ok (.invokestatic 125, 3) := by decide +kernel
theorem dX3_stands_95 : decode cX3_stands 95 = .ok (.ifCond .eq 13, 3) := by decide +kernel
theorem dX3_stands_98 : decode cX3_stands 98 = .ok (.iload 4, 2) := by decide +kernel
theorem dX3_stands_100 : decode cX3_stands 100 = .ok (.iconst 1, 1) := by decide +kernel
theorem dX3_stands_101 : decode cX3_stands 101 = .ok (.iload 5, 2) := by decide +kernel
theorem dX3_stands_103 : decode cX3_stands 103 = .ok (.ishl, 1) := by decide +kernel
theorem dX3_stands_104 : decode cX3_stands 104 = .ok (.ior, 1) := by decide +kernel
theorem dX3_stands_105 : decode cX3_stands 105 = .ok (.goto 5, 3) := by decide +kernel
theorem dX3_stands_108 : decode cX3_stands 108 = .ok (.iload 4, 2) := by decide +kernel
theorem dX3_stands_110 : decode cX3_stands 110 = .ok (.istore 4, 2) := by decide +kernel
theorem dX3_stands_112 : decode cX3_stands 112 = .ok (.iinc 5 1, 3) := by decide +kernel
theorem dX3_stands_115 : decode cX3_stands 115 = .ok (.goto (-63), 3) := by decide +kernel
theorem dX3_stands_118 : decode cX3_stands 118 = .ok (.iload 4, 2) := by decide +kernel
theorem dX3_stands_120 : decode cX3_stands 120 = .ok (.ireturn, 1) := by decide +kernel
theorem dX3_lean_0 : decode cX3_lean 0 = .ok (.aload_n 0, 1) := by decide +kernel
theorem dX3_lean_1 : decode cX3_lean 1 = .ok (.iload_n 1, 1) := by decide +kernel
theorem dX3_lean_2 : decode cX3_lean 2 = .ok (.iconst 1, 1) := by decide +kernel
theorem dX3_lean_3 : decode cX3_lean 3 = .ok (.bipush 6, 2) := by decide +kernel
theorem dX3_lean_5 : decode cX3_lean 5 = .ok (.invokestatic 48, 3) := by decide +kernel
theorem dX3_lean_8 : decode cX3_lean 8 = .ok (.ifCond .eq 7, 3) := by decide +kernel
theorem dX3_lean_11 : decode cX3_lean 11 = .ok (.iconst 0, 1) := by decide +kernel
theorem dX3_lean_12 : decode cX3_lean 12 = .ok (.goto 4, 3) := by decide +kernel
theorem dX3_lean_15 : decode cX3_lean 15 = .ok (.iconst 1, 1) := by decide +kernel
theorem dX3_lean_16 : decode cX3_lean 16 = .ok (.putfield 56, 3) := by decide +kernel
theorem dX3_lean_19 : decode cX3_lean 19 = .ok (.aload_n 0, 1) := by decide +kernel
theorem dX3_lean_20 : decode cX3_lean 20 = .ok (.getfield 56, 3) := by decide +kernel
theorem dX3_lean_23 : decode cX3_lean 23 = .ok (.ifCond .le 5, 3) := by decide +kernel
theorem dX3_lean_26 : decode cX3_lean 26 = .ok (.iconst 0, 1) := by decide +kernel
theorem dX3_lean_27 : decode cX3_lean 27 = .ok (.ireturn, 1) := by decide +kernel
theorem dX3_lean_28 : decode cX3_lean 28 = .ok (.ldc 124, 2) := by decide +kernel
theorem dX3_lean_30 : decode cX3_lean 30 = .ok (.istore_n 3, 1) := by decide +kernel
theorem dX3_lean_31 : decode cX3_lean 31 = .ok (.iconst 0, 1) := by decide +kernel
theorem dX3_lean_32 : decode cX3_lean 32 = .ok (.istore 4, 2) := by decide +kernel
theorem dX3_lean_34 : decode cX3_lean 34 = .ok (.iload 4, 2) := by decide +kernel
theorem dX3_lean_36 : decode cX3_lean 36 = .ok (.aload_n 0, 1) := by decide +kernel
theorem dX3_lean_37 : decode cX3_lean 37 = .ok (.getfield 60, 3) := by decide +kernel
theorem dX3_lean_40 : decode cX3_lean 40 = .ok (.if_icmp .ge 71, 3) := by decide +kernel
theorem dX3_lean_43 : decode cX3_lean 43 = .ok (.bipush 7, 2) := by decide +kernel
theorem dX3_lean_45 : decode cX3_lean 45 = .ok (.iload 4, 2) := by decide +kernel
theorem dX3_lean_47 : decode cX3_lean 47 = .ok (.imul, 1) := by decide +kernel
theorem dX3_lean_48 : decode cX3_lean 48 = .ok (.iload_n 1, 1) := by decide +kernel
theorem dX3_lean_49 : decode cX3_lean 49 = .ok (.iadd, 1) := by decide +kernel
theorem dX3_lean_50 : decode cX3_lean 50 = .ok (.istore 5, 2) := by decide +kernel
theorem dX3_lean_52 : decode cX3_lean 52 = .ok (.aload_n 0, 1) := by decide +kernel
theorem dX3_lean_53 : decode cX3_lean 53 = .ok (.getfield 23, 3) := by decide +kernel
theorem dX3_lean_56 : decode cX3_lean 56 = .ok (.iload 5, 2) := by decide +kernel
theorem dX3_lean_58 : decode cX3_lean 58 = .ok (.baload, 1) := by decide +kernel
theorem dX3_lean_59 : decode cX3_lean 59 = .ok (.ifCond .eq 46, 3) := by decide +kernel
theorem dX3_lean_62 : decode cX3_lean 62 = .ok (.iload_n 3, 1) := by decide +kernel
theorem dX3_lean_63 : decode cX3_lean 63 = .ok (.ldc 124, 2) := by decide +kernel
theorem dX3_lean_65 : decode cX3_lean 65 = .ok (.if_icmp .eq 32, 3) := by decide +kernel
theorem dX3_lean_68 : decode cX3_lean 68 = .ok (.iload_n 2, 1) := by decide +kernel
theorem dX3_lean_69 : decode cX3_lean 69 = .ok (.ifCond .eq 17, 3) := by decide +kernel
theorem dX3_lean_72 : decode cX3_lean 72 = .ok (.aload_n 0, 1) := by decide +kernel
theorem dX3_lean_73 : decode cX3_lean 73 = .ok (.getfield 20, 3) := by decide +kernel
theorem dX3_lean_76 : decode cX3_lean 76 = .ok (.iload 5, 2) := by decide +kernel
theorem dX3_lean_78 : decode cX3_lean 78 = .ok (.iaload, 1) := by decide +kernel
theorem dX3_lean_79 : decode cX3_lean 79 = .ok (.iload_n 3, 1) := by decide +kernel
theorem dX3_lean_80 : decode cX3_lean 80 = .ok (.if_icmp .ge 25, 3) := by decide +kernel
theorem dX3_lean_83 : decode cX3_lean 83 = .ok (.goto 14, 3) := by decide +kernel
theorem dX3_lean_86 : decode cX3_lean 86 = .ok (.aload_n 0, 1) := by decide +kernel
theorem dX3_lean_87 : decode cX3_lean 87 = .ok (.getfield 20, 3) := by decide +kernel
theorem dX3_lean_90 : decode cX3_lean 90 = .ok (.iload 5, 2) := by decide +kernel
theorem dX3_lean_92 : decode cX3_lean 92 = .ok (.iaload, 1) := by decide +kernel
theorem dX3_lean_93 : decode cX3_lean 93 = .ok (.iload_n 3, 1) := by decide +kernel
theorem dX3_lean_94 : decode cX3_lean 94 = .ok (.if_icmp .le 11, 3) := by decide +kernel
theorem dX3_lean_97 : decode cX3_lean 97 = .ok (.aload_n 0, 1) := by decide +kernel
theorem dX3_lean_98 : decode cX3_lean 98 = .ok (.getfield 20, 3) := by decide +kernel
theorem dX3_lean_101 : decode cX3_lean 101 = .ok (.iload 5, 2) := by decide +kernel
theorem dX3_lean_103 : decode cX3_lean 103 = .ok (.iaload, 1) := by decide +kernel
theorem dX3_lean_104 : decode cX3_lean 104 = .ok (.istore_n 3, 1) := by decide +kernel
theorem dX3_lean_105 : decode cX3_lean 105 = .ok (.iinc 4 1, 3) := by decide +kernel
theorem dX3_lean_108 : decode cX3_lean 108 = .ok (.goto (-74), 3) := by decide +kernel
theorem dX3_lean_111 : decode cX3_lean 111 = .ok (.iload_n 3, 1) := by decide +kernel
theorem dX3_lean_112 : decode cX3_lean 112 = .ok (.ireturn, 1) := by decide +kernel
theorem dX3_look_0 : decode cX3_look 0 = .ok (.aload_n 0, 1) := by decide +kernel
theorem dX3_look_1 : decode cX3_look 1 = .ok (.iload_n 1, 1) := by decide +kernel
theorem dX3_look_2 : decode cX3_look 2 = .ok (.iconst 0, 1) := by decide +kernel
theorem dX3_look_3 : decode cX3_look 3 = .ok (.iconst 5, 1) := by decide +kernel
theorem dX3_look_4 : decode cX3_look 4 = .ok (.invokestatic 48, 3) := by decide +kernel
theorem dX3_look_7 : decode cX3_look 7 = .ok (.ifCond .eq 7, 3) := by decide +kernel
theorem dX3_look_10 : decode cX3_look 10 = .ok (.iconst 0, 1) := by decide +kernel
theorem dX3_look_11 : decode cX3_look 11 = .ok (.goto 4, 3) := by decide +kernel
theorem dX3_look_14 : decode cX3_look 14 = .ok (.iconst 1, 1) := by decide +kernel
theorem dX3_look_15 : decode cX3_look 15 = .ok (.putfield 56, 3) := by decide +kernel
theorem dX3_look_18 : decode cX3_look 18 = .ok (.iconst 0, 1) := by decide +kernel
theorem dX3_look_19 : decode cX3_look 19 = .ok (.istore_n 2, 1) := by decide +kernel
theorem dX3_look_20 : decode cX3_look 20 = .ok (.iload_n 1, 1) := by decide +kernel
theorem dX3_look_21 : decode cX3_look 21 = .ok (.tableswitch 151 0 5 #[39, 56, 73, 78, 111, 116], 39) := by decide +kernel
theorem dX3_look_60 : decode cX3_look 60 = .ok (.aload_n 0, 1) := by decide +kernel
theorem dX3_look_61 : decode cX3_look 61 = .ok (.getfield 102, 3) := by decide +kernel
theorem dX3_look_64 : decode cX3_look 64 = .ok (.ifCond .eq 10, 3) := by decide +kernel
theorem dX3_look_67 : decode cX3_look 67 = .ok (.aload_n 0, 1) := by decide +kernel
theorem dX3_look_68 : decode cX3_look 68 = .ok (.getfield 105, 3) := by decide +kernel
theorem dX3_look_71 : decode cX3_look 71 = .ok (.goto 5, 3) := by decide +kernel
theorem dX3_look_74 : decode cX3_look 74 = .ok (.ldc 124, 2) := by decide +kernel
theorem dX3_look_76 : decode cX3_look 76 = .ok (.ireturn, 1) := by decide +kernel
theorem dX3_look_77 : decode cX3_look 77 = .ok (.aload_n 0, 1) := by decide +kernel
theorem dX3_look_78 : decode cX3_look 78 = .ok (.getfield 115, 3) := by decide +kernel
theorem dX3_look_81 : decode cX3_look 81 = .ok (.ifCond .eq 10, 3) := by decide +kernel
theorem dX3_look_84 : decode cX3_look 84 = .ok (.aload_n 0, 1) := by decide +kernel
theorem dX3_look_85 : decode cX3_look 85 = .ok (.getfield 118, 3) := by decide +kernel
theorem dX3_look_88 : decode cX3_look 88 = .ok (.goto 5, 3) := by decide +kernel
theorem dX3_look_91 : decode cX3_look 91 = .ok (.ldc 124, 2) := by decide +kernel
theorem dX3_look_93 : decode cX3_look 93 = .ok (.ireturn, 1) := by decide +kernel
theorem dX3_look_94 : decode cX3_look 94 = .ok (.aload_n 0, 1) := by decide +kernel
theorem dX3_look_95 : decode cX3_look 95 = .ok (.getfield 108, 3) := by decide +kernel
theorem dX3_look_98 : decode cX3_look 98 = .ok (.ireturn, 1) := by decide +kernel
theorem dX3_look_99 : decode cX3_look 99 = .ok (.iconst 0, 1) := by decide +kernel
theorem dX3_look_100 : decode cX3_look 100 = .ok (.istore_n 3, 1) := by decide +kernel
theorem dX3_look_101 : decode cX3_look 101 = .ok (.iload_n 3, 1) := by decide +kernel
theorem dX3_look_102 : decode cX3_look 102 = .ok (.bipush 84, 2) := by decide +kernel
theorem dX3_look_104 : decode cX3_look 104 = .ok (.if_icmp .ge 26, 3) := by decide +kernel
theorem dX3_look_107 : decode cX3_look 107 = .ok (.aload_n 0, 1) := by decide +kernel
theorem dX3_look_108 : decode cX3_look 108 = .ok (.getfield 7, 3) := by decide +kernel
theorem dX3_look_111 : decode cX3_look 111 = .ok (.iload_n 3, 1) := by decide +kernel
theorem dX3_look_112 : decode cX3_look 112 = .ok (.iaload, 1) := by decide +kernel
theorem dX3_look_113 : decode cX3_look 113 = .ok (.ifCond .eq 9, 3) := by decide +kernel
theorem dX3_look_116 : decode cX3_look 116 = .ok (.iload_n 2, 1) := by decide +kernel
theorem dX3_look_117 : decode cX3_look 117 = .ok (.iconst 1, 1) := by decide +kernel
theorem dX3_look_118 : decode cX3_look 118 = .ok (.iadd, 1) := by decide +kernel
theorem dX3_look_119 : decode cX3_look 119 = .ok (.goto 4, 3) := by decide +kernel
theorem dX3_look_122 : decode cX3_look 122 = .ok (.iload_n 2, 1) := by decide +kernel
theorem dX3_look_123 : decode cX3_look 123 = .ok (.istore_n 2, 1) := by decide +kernel
theorem dX3_look_124 : decode cX3_look 124 = .ok (.iinc 3 1, 3) := by decide +kernel
theorem dX3_look_127 : decode cX3_look 127 = .ok (.goto (-26), 3) := by decide +kernel
theorem dX3_look_130 : decode cX3_look 130 = .ok (.iload_n 2, 1) := by decide +kernel
theorem dX3_look_131 : decode cX3_look 131 = .ok (.ireturn, 1) := by decide +kernel
theorem dX3_look_132 : decode cX3_look 132 = .ok (.aload_n 0, 1) := by decide +kernel
theorem dX3_look_133 : decode cX3_look 133 = .ok (.getfield 60, 3) := by decide +kernel
theorem dX3_look_136 : decode cX3_look 136 = .ok (.ireturn, 1) := by decide +kernel
theorem dX3_look_137 : decode cX3_look 137 = .ok (.iconst 0, 1) := by decide +kernel
theorem dX3_look_138 : decode cX3_look 138 = .ok (.istore_n 3, 1) := by decide +kernel
theorem dX3_look_139 : decode cX3_look 139 = .ok (.iload_n 3, 1) := by decide +kernel
theorem dX3_look_140 : decode cX3_look 140 = .ok (.aload_n 0, 1) := by decide +kernel
theorem dX3_look_141 : decode cX3_look 141 = .ok (.getfield 60, 3) := by decide +kernel
theorem dX3_look_144 : decode cX3_look 144 = .ok (.if_icmp .ge 26, 3) := by decide +kernel
theorem dX3_look_147 : decode cX3_look 147 = .ok (.aload_n 0, 1) := by decide +kernel
theorem dX3_look_148 : decode cX3_look 148 = .ok (.getfield 29, 3) := by decide +kernel
theorem dX3_look_151 : decode cX3_look 151 = .ok (.iload_n 3, 1) := by decide +kernel
theorem dX3_look_152 : decode cX3_look 152 = .ok (.baload, 1) := by decide +kernel
theorem dX3_look_153 : decode cX3_look 153 = .ok (.ifCond .eq 9, 3) := by decide +kernel
theorem dX3_look_156 : decode cX3_look 156 = .ok (.iload_n 2, 1) := by decide +kernel
theorem dX3_look_157 : decode cX3_look 157 = .ok (.iconst 1, 1) := by decide +kernel
theorem dX3_look_158 : decode cX3_look 158 = .ok (.iadd, 1) := by decide +kernel
theorem dX3_look_159 : decode cX3_look 159 = .ok (.goto 4, 3) := by decide +kernel
theorem dX3_look_162 : decode cX3_look 162 = .ok (.iload_n 2, 1) := by decide +kernel
theorem dX3_look_163 : decode cX3_look 163 = .ok (.istore_n 2, 1) := by decide +kernel
theorem dX3_look_164 : decode cX3_look 164 = .ok (.iinc 3 1, 3) := by decide +kernel
theorem dX3_look_167 : decode cX3_look 167 = .ok (.goto (-28), 3) := by decide +kernel
theorem dX3_look_170 : decode cX3_look 170 = .ok (.iload_n 2, 1) := by decide +kernel
theorem dX3_look_171 : decode cX3_look 171 = .ok (.ireturn, 1) := by decide +kernel
theorem dX3_look_172 : decode cX3_look 172 = .ok (.iconst 0, 1) := by decide +kernel
theorem dX3_look_173 : decode cX3_look 173 = .ok (.ireturn, 1) := by decide +kernel
end
section
theorem dL_cell_0 : decode cL_cell 0 = .ok (.iload_n 1, 1) := by decide +kernel
theorem dL_cell_1 : decode cL_cell 1 = .ok (.aload_n 0, 1) := by decide +kernel
theorem dL_cell_2 : decode cL_cell 2 = .ok (.arraylength, 1) := by decide +kernel
theorem dL_cell_3 : decode cL_cell 3 = .ok (.if_icmp .ge 9, 3) := by decide +kernel
theorem dL_cell_6 : decode cL_cell 6 = .ok (.aload_n 0, 1) := by decide +kernel
theorem dL_cell_7 : decode cL_cell 7 = .ok (.iload_n 1, 1) := by decide +kernel
theorem dL_cell_8 : decode cL_cell 8 = .ok (.iaload, 1) := by decide +kernel
theorem dL_cell_9 : decode cL_cell 9 = .ok (.goto 4, 3) := by decide +kernel
theorem dL_cell_12 : decode cL_cell 12 = .ok (.iconst 0, 1) := by decide +kernel
theorem dL_cell_13 : decode cL_cell 13 = .ok (.ireturn, 1) := by decide +kernel
theorem dL_open_0 : decode cL_open 0 = .ok (.aload_n 0, 1) := by decide +kernel
theorem dL_open_1 : decode cL_open 1 = .ok (.iload_n 1, 1) := by decide +kernel
theorem dL_open_2 : decode cL_open 2 = .ok (.invokevirtual 7, 3) := by decide +kernel
theorem dL_open_5 : decode cL_open 5 = .ok (.goto 6, 3) := by decide +kernel
theorem dL_open_8 : decode cL_open 8 = .ok (.astore_n 2, 1) := by decide +kernel
theorem dL_open_9 : decode cL_open 9 = .ok (.iconst 1, 1) := by decide +kernel
theorem dL_open_10 : decode cL_open 10 = .ok (.ireturn, 1) := by decide +kernel
theorem dL_open_11 : decode cL_open 11 = .ok (.iconst 0, 1) := by decide +kernel
theorem dL_open_12 : decode cL_open 12 = .ok (.ireturn, 1) := by decide +kernel
theorem dL_weigh_0 : decode cL_weigh 0 = .ok (.aload_n 3, 1) := by decide +kernel
theorem dL_weigh_1 : decode cL_weigh 1 = .ok (.iconst 0, 1) := by decide +kernel
theorem dL_weigh_2 : decode cL_weigh 2 = .ok (.aload_n 0, 1) := by decide +kernel
theorem dL_weigh_3 : decode cL_weigh 3 = .ok (.iload_n 1, 1) := by decide +kernel
theorem dL_weigh_4 : decode cL_weigh 4 = .ok (.iload_n 2, 1) := by decide +kernel
theorem dL_weigh_5 : decode cL_weigh 5 = .ok (.invokevirtual 15, 3) := by decide +kernel
theorem dL_weigh_8 : decode cL_weigh 8 = .ok (.i2l, 1) := by decide +kernel
theorem dL_weigh_9 : decode cL_weigh 9 = .ok (.lastore, 1) := by decide +kernel
theorem dL_weigh_10 : decode cL_weigh 10 = .ok (.goto 11, 3) := by decide +kernel
theorem dL_weigh_13 : decode cL_weigh 13 = .ok (.astore 4, 2) := by decide +kernel
theorem dL_weigh_15 : decode cL_weigh 15 = .ok (.iconst 1, 1) := by decide +kernel
theorem dL_weigh_16 : decode cL_weigh 16 = .ok (.ireturn, 1) := by decide +kernel
theorem dL_weigh_17 : decode cL_weigh 17 = .ok (.astore 4, 2) := by decide +kernel
theorem dL_weigh_19 : decode cL_weigh 19 = .ok (.iconst 2, 1) := by decide +kernel
theorem dL_weigh_20 : decode cL_weigh 20 = .ok (.ireturn, 1) := by decide +kernel
theorem dL_weigh_21 : decode cL_weigh 21 = .ok (.iconst 0, 1) := by decide +kernel
theorem dL_weigh_22 : decode cL_weigh 22 = .ok (.ireturn, 1) := by decide +kernel
theorem dL_crack_0 : decode cL_crack 0 = .ok (.aload_n 0, 1) := by decide +kernel
theorem dL_crack_1 : decode cL_crack 1 = .ok (.iload_n 1, 1) := by decide +kernel
theorem dL_crack_2 : decode cL_crack 2 = .ok (.iload_n 2, 1) := by decide +kernel
theorem dL_crack_3 : decode cL_crack 3 = .ok (.invokevirtual 21, 3) := by decide +kernel
theorem dL_crack_6 : decode cL_crack 6 = .ok (.goto 9, 3) := by decide +kernel
theorem dL_crack_9 : decode cL_crack 9 = .ok (.astore_n 3, 1) := by decide +kernel
theorem dL_crack_10 : decode cL_crack 10 = .ok (.iconst 1, 1) := by decide +kernel
theorem dL_crack_11 : decode cL_crack 11 = .ok (.ireturn, 1) := by decide +kernel
theorem dL_crack_12 : decode cL_crack 12 = .ok (.astore_n 3, 1) := by decide +kernel
theorem dL_crack_13 : decode cL_crack 13 = .ok (.iconst 2, 1) := by decide +kernel
theorem dL_crack_14 : decode cL_crack 14 = .ok (.ireturn, 1) := by decide +kernel
theorem dL_crack_15 : decode cL_crack 15 = .ok (.iconst 0, 1) := by decide +kernel
theorem dL_crack_16 : decode cL_crack 16 = .ok (.ireturn, 1) := by decide +kernel
theorem dL_pass_0 : decode cL_pass 0 = .ok (.aload_n 0, 1) := by decide +kernel
theorem dL_pass_1 : decode cL_pass 1 = .ok (.invokevirtual 25, 3) := by decide +kernel
theorem dL_pass_4 : decode cL_pass 4 = .ok (.goto 6, 3) := by decide +kernel
theorem dL_pass_7 : decode cL_pass 7 = .ok (.astore_n 1, 1) := by decide +kernel
theorem dL_pass_8 : decode cL_pass 8 = .ok (.iconst 1, 1) := by decide +kernel
theorem dL_pass_9 : decode cL_pass 9 = .ok (.ireturn, 1) := by decide +kernel
theorem dL_pass_10 : decode cL_pass 10 = .ok (.iconst 0, 1) := by decide +kernel
theorem dL_pass_11 : decode cL_pass 11 = .ok (.ireturn, 1) := by decide +kernel
theorem dL_leave_0 : decode cL_leave 0 = .ok (.aload_n 0, 1) := by decide +kernel
theorem dL_leave_1 : decode cL_leave 1 = .ok (.iload_n 1, 1) := by decide +kernel
theorem dL_leave_2 : decode cL_leave 2 = .ok (.invokevirtual 28, 3) := by decide +kernel
theorem dL_leave_5 : decode cL_leave 5 = .ok (.goto 9, 3) := by decide +kernel
theorem dL_leave_8 : decode cL_leave 8 = .ok (.astore_n 2, 1) := by decide +kernel
theorem dL_leave_9 : decode cL_leave 9 = .ok (.iconst 1, 1) := by decide +kernel
theorem dL_leave_10 : decode cL_leave 10 = .ok (.ireturn, 1) := by decide +kernel
theorem dL_leave_11 : decode cL_leave 11 = .ok (.astore_n 2, 1) := by decide +kernel
theorem dL_leave_12 : decode cL_leave 12 = .ok (.iconst 2, 1) := by decide +kernel
theorem dL_leave_13 : decode cL_leave 13 = .ok (.ireturn, 1) := by decide +kernel
theorem dL_leave_14 : decode cL_leave 14 = .ok (.iconst 0, 1) := by decide +kernel
theorem dL_leave_15 : decode cL_leave 15 = .ok (.ireturn, 1) := by decide +kernel
theorem dL_appeal_0 : decode cL_appeal 0 = .ok (.aload_n 3, 1) := by decide +kernel
theorem dL_appeal_1 : decode cL_appeal 1 = .ok (.iconst 0, 1) := by decide +kernel
theorem dL_appeal_2 : decode cL_appeal 2 = .ok (.aload_n 0, 1) := by decide +kernel
theorem dL_appeal_3 : decode cL_appeal 3 = .ok (.iload_n 1, 1) := by decide +kernel
theorem dL_appeal_4 : decode cL_appeal 4 = .ok (.iload_n 2, 1) := by decide +kernel
theorem dL_appeal_5 : decode cL_appeal 5 = .ok (.invokevirtual 31, 3) := by decide +kernel
theorem dL_appeal_8 : decode cL_appeal 8 = .ok (.i2l, 1) := by decide +kernel
theorem dL_appeal_9 : decode cL_appeal 9 = .ok (.lastore, 1) := by decide +kernel
theorem dL_appeal_10 : decode cL_appeal 10 = .ok (.goto 11, 3) := by decide +kernel
theorem dL_appeal_13 : decode cL_appeal 13 = .ok (.astore 4, 2) := by decide +kernel
theorem dL_appeal_15 : decode cL_appeal 15 = .ok (.iconst 1, 1) := by decide +kernel
theorem dL_appeal_16 : decode cL_appeal 16 = .ok (.ireturn, 1) := by decide +kernel
theorem dL_appeal_17 : decode cL_appeal 17 = .ok (.astore 4, 2) := by decide +kernel
theorem dL_appeal_19 : decode cL_appeal 19 = .ok (.iconst 2, 1) := by decide +kernel
theorem dL_appeal_20 : decode cL_appeal 20 = .ok (.ireturn, 1) := by decide +kernel
theorem dL_appeal_21 : decode cL_appeal 21 = .ok (.iconst 0, 1) := by decide +kernel
theorem dL_appeal_22 : decode cL_appeal 22 = .ok (.ireturn, 1) := by decide +kernel
theorem dL_record_0 : decode cL_record 0 = .ok (.aload_n 0, 1) := by decide +kernel
theorem dL_record_1 : decode cL_record 1 = .ok (.iload_n 1, 1) := by decide +kernel
theorem dL_record_2 : decode cL_record 2 = .ok (.invokevirtual 34, 3) := by decide +kernel
theorem dL_record_5 : decode cL_record 5 = .ok (.goto 6, 3) := by decide +kernel
theorem dL_record_8 : decode cL_record 8 = .ok (.astore_n 2, 1) := by decide +kernel
theorem dL_record_9 : decode cL_record 9 = .ok (.iconst 1, 1) := by decide +kernel
theorem dL_record_10 : decode cL_record 10 = .ok (.ireturn, 1) := by decide +kernel
theorem dL_record_11 : decode cL_record 11 = .ok (.iconst 0, 1) := by decide +kernel
theorem dL_record_12 : decode cL_record 12 = .ok (.ireturn, 1) := by decide +kernel
theorem dL_prize_0 : decode cL_prize 0 = .ok (.aload_n 0, 1) := by decide +kernel
theorem dL_prize_1 : decode cL_prize 1 = .ok (.iload_n 1, 1) := by decide +kernel
theorem dL_prize_2 : decode cL_prize 2 = .ok (.invokevirtual 37, 3) := by decide +kernel
theorem dL_prize_5 : decode cL_prize 5 = .ok (.goto 6, 3) := by decide +kernel
theorem dL_prize_8 : decode cL_prize 8 = .ok (.astore_n 2, 1) := by decide +kernel
theorem dL_prize_9 : decode cL_prize 9 = .ok (.iconst 1, 1) := by decide +kernel
theorem dL_prize_10 : decode cL_prize 10 = .ok (.ireturn, 1) := by decide +kernel
theorem dL_prize_11 : decode cL_prize 11 = .ok (.iconst 0, 1) := by decide +kernel
theorem dL_prize_12 : decode cL_prize 12 = .ok (.ireturn, 1) := by decide +kernel
theorem dL_weight_0 : decode cL_weight 0 = .ok (.aload_n 3, 1) := by decide +kernel
theorem dL_weight_1 : decode cL_weight 1 = .ok (.iconst 0, 1) := by decide +kernel
theorem dL_weight_2 : decode cL_weight 2 = .ok (.aload_n 0, 1) := by decide +kernel
theorem dL_weight_3 : decode cL_weight 3 = .ok (.iload_n 1, 1) := by decide +kernel
theorem dL_weight_4 : decode cL_weight 4 = .ok (.iload_n 2, 1) := by decide +kernel
theorem dL_weight_5 : decode cL_weight 5 = .ok (.invokevirtual 40, 3) := by decide +kernel
theorem dL_weight_8 : decode cL_weight 8 = .ok (.i2l, 1) := by decide +kernel
theorem dL_weight_9 : decode cL_weight 9 = .ok (.lastore, 1) := by decide +kernel
theorem dL_weight_10 : decode cL_weight 10 = .ok (.goto 7, 3) := by decide +kernel
theorem dL_weight_13 : decode cL_weight 13 = .ok (.astore 4, 2) := by decide +kernel
theorem dL_weight_15 : decode cL_weight 15 = .ok (.iconst 1, 1) := by decide +kernel
theorem dL_weight_16 : decode cL_weight 16 = .ok (.ireturn, 1) := by decide +kernel
theorem dL_weight_17 : decode cL_weight 17 = .ok (.iconst 0, 1) := by decide +kernel
theorem dL_weight_18 : decode cL_weight 18 = .ok (.ireturn, 1) := by decide +kernel
theorem dL_tilt_0 : decode cL_tilt 0 = .ok (.aload_n 3, 1) := by decide +kernel
theorem dL_tilt_1 : decode cL_tilt 1 = .ok (.iconst 0, 1) := by decide +kernel
theorem dL_tilt_2 : decode cL_tilt 2 = .ok (.aload_n 0, 1) := by decide +kernel
theorem dL_tilt_3 : decode cL_tilt 3 = .ok (.iload_n 1, 1) := by decide +kernel
theorem dL_tilt_4 : decode cL_tilt 4 = .ok (.iload_n 2, 1) := by decide +kernel
theorem dL_tilt_5 : decode cL_tilt 5 = .ok (.invokevirtual 43, 3) := by decide +kernel
theorem dL_tilt_8 : decode cL_tilt 8 = .ok (.i2l, 1) := by decide +kernel
theorem dL_tilt_9 : decode cL_tilt 9 = .ok (.lastore, 1) := by decide +kernel
theorem dL_tilt_10 : decode cL_tilt 10 = .ok (.goto 7, 3) := by decide +kernel
theorem dL_tilt_13 : decode cL_tilt 13 = .ok (.astore 4, 2) := by decide +kernel
theorem dL_tilt_15 : decode cL_tilt 15 = .ok (.iconst 1, 1) := by decide +kernel
theorem dL_tilt_16 : decode cL_tilt 16 = .ok (.ireturn, 1) := by decide +kernel
theorem dL_tilt_17 : decode cL_tilt 17 = .ok (.iconst 0, 1) := by decide +kernel
theorem dL_tilt_18 : decode cL_tilt 18 = .ok (.ireturn, 1) := by decide +kernel
theorem dL_best_0 : decode cL_best 0 = .ok (.aload_n 2, 1) := by decide +kernel
theorem dL_best_1 : decode cL_best 1 = .ok (.iconst 0, 1) := by decide +kernel
theorem dL_best_2 : decode cL_best 2 = .ok (.aload_n 0, 1) := by decide +kernel
theorem dL_best_3 : decode cL_best 3 = .ok (.iload_n 1, 1) := by decide +kernel
theorem dL_best_4 : decode cL_best 4 = .ok (.invokevirtual 46, 3) := by decide +kernel
theorem dL_best_7 : decode cL_best 7 = .ok (.i2l, 1) := by decide +kernel
theorem dL_best_8 : decode cL_best 8 = .ok (.lastore, 1) := by decide +kernel
theorem dL_best_9 : decode cL_best 9 = .ok (.goto 6, 3) := by decide +kernel
theorem dL_best_12 : decode cL_best 12 = .ok (.astore_n 3, 1) := by decide +kernel
theorem dL_best_13 : decode cL_best 13 = .ok (.iconst 1, 1) := by decide +kernel
theorem dL_best_14 : decode cL_best 14 = .ok (.ireturn, 1) := by decide +kernel
theorem dL_best_15 : decode cL_best 15 = .ok (.iconst 0, 1) := by decide +kernel
theorem dL_best_16 : decode cL_best 16 = .ok (.ireturn, 1) := by decide +kernel
theorem dL_place_0 : decode cL_place 0 = .ok (.aload_n 2, 1) := by decide +kernel
theorem dL_place_1 : decode cL_place 1 = .ok (.iconst 0, 1) := by decide +kernel
theorem dL_place_2 : decode cL_place 2 = .ok (.aload_n 0, 1) := by decide +kernel
theorem dL_place_3 : decode cL_place 3 = .ok (.iload_n 1, 1) := by decide +kernel
theorem dL_place_4 : decode cL_place 4 = .ok (.invokevirtual 50, 3) := by decide +kernel
theorem dL_place_7 : decode cL_place 7 = .ok (.i2l, 1) := by decide +kernel
theorem dL_place_8 : decode cL_place 8 = .ok (.lastore, 1) := by decide +kernel
theorem dL_place_9 : decode cL_place 9 = .ok (.goto 6, 3) := by decide +kernel
theorem dL_place_12 : decode cL_place 12 = .ok (.astore_n 3, 1) := by decide +kernel
theorem dL_place_13 : decode cL_place 13 = .ok (.iconst 1, 1) := by decide +kernel
theorem dL_place_14 : decode cL_place 14 = .ok (.ireturn, 1) := by decide +kernel
theorem dL_place_15 : decode cL_place 15 = .ok (.iconst 0, 1) := by decide +kernel
theorem dL_place_16 : decode cL_place 16 = .ok (.ireturn, 1) := by decide +kernel
theorem dL_wins_0 : decode cL_wins 0 = .ok (.aload_n 2, 1) := by decide +kernel
theorem dL_wins_1 : decode cL_wins 1 = .ok (.iconst 0, 1) := by decide +kernel
theorem dL_wins_2 : decode cL_wins 2 = .ok (.aload_n 0, 1) := by decide +kernel
theorem dL_wins_3 : decode cL_wins 3 = .ok (.iload_n 1, 1) := by decide +kernel
theorem dL_wins_4 : decode cL_wins 4 = .ok (.invokevirtual 53, 3) := by decide +kernel
theorem dL_wins_7 : decode cL_wins 7 = .ok (.ifCond .eq 7, 3) := by decide +kernel
theorem dL_wins_10 : decode cL_wins 10 = .ok (.lconst 1, 1) := by decide +kernel
theorem dL_wins_11 : decode cL_wins 11 = .ok (.goto 4, 3) := by decide +kernel
theorem dL_wins_14 : decode cL_wins 14 = .ok (.lconst 0, 1) := by decide +kernel
theorem dL_wins_15 : decode cL_wins 15 = .ok (.lastore, 1) := by decide +kernel
theorem dL_wins_16 : decode cL_wins 16 = .ok (.goto 6, 3) := by decide +kernel
theorem dL_wins_19 : decode cL_wins 19 = .ok (.astore_n 3, 1) := by decide +kernel
theorem dL_wins_20 : decode cL_wins 20 = .ok (.iconst 1, 1) := by decide +kernel
theorem dL_wins_21 : decode cL_wins 21 = .ok (.ireturn, 1) := by decide +kernel
theorem dL_wins_22 : decode cL_wins 22 = .ok (.iconst 0, 1) := by decide +kernel
theorem dL_wins_23 : decode cL_wins 23 = .ok (.ireturn, 1) := by decide +kernel
theorem dL_count_0 : decode cL_count 0 = .ok (.aload 4, 2) := by decide +kernel
theorem dL_count_2 : decode cL_count 2 = .ok (.iconst 0, 1) := by decide +kernel
theorem dL_count_3 : decode cL_count 3 = .ok (.aload_n 0, 1) := by decide +kernel
theorem dL_count_4 : decode cL_count 4 = .ok (.iload_n 1, 1) := by decide +kernel
theorem dL_count_5 : decode cL_count 5 = .ok (.iload_n 2, 1) := by decide +kernel
theorem dL_count_6 : decode cL_count 6 = .ok (.iload_n 3, 1) := by decide +kernel
theorem dL_count_7 : decode cL_count 7 = .ok (.invokevirtual 57, 3) := by decide +kernel
theorem dL_count_10 : decode cL_count 10 = .ok (.i2l, 1) := by decide +kernel
theorem dL_count_11 : decode cL_count 11 = .ok (.lastore, 1) := by decide +kernel
theorem dL_count_12 : decode cL_count 12 = .ok (.goto 7, 3) := by decide +kernel
theorem dL_count_15 : decode cL_count 15 = .ok (.astore 5, 2) := by decide +kernel
theorem dL_count_17 : decode cL_count 17 = .ok (.iconst 1, 1) := by decide +kernel
theorem dL_count_18 : decode cL_count 18 = .ok (.ireturn, 1) := by decide +kernel
theorem dL_count_19 : decode cL_count 19 = .ok (.iconst 0, 1) := by decide +kernel
theorem dL_count_20 : decode cL_count 20 = .ok (.ireturn, 1) := by decide +kernel
theorem dL_first_0 : decode cL_first 0 = .ok (.aload 4, 2) := by decide +kernel
theorem dL_first_2 : decode cL_first 2 = .ok (.iconst 0, 1) := by decide +kernel
theorem dL_first_3 : decode cL_first 3 = .ok (.aload_n 0, 1) := by decide +kernel
theorem dL_first_4 : decode cL_first 4 = .ok (.iload_n 1, 1) := by decide +kernel
theorem dL_first_5 : decode cL_first 5 = .ok (.iload_n 2, 1) := by decide +kernel
theorem dL_first_6 : decode cL_first 6 = .ok (.iload_n 3, 1) := by decide +kernel
theorem dL_first_7 : decode cL_first 7 = .ok (.invokevirtual 61, 3) := by decide +kernel
theorem dL_first_10 : decode cL_first 10 = .ok (.i2l, 1) := by decide +kernel
theorem dL_first_11 : decode cL_first 11 = .ok (.lastore, 1) := by decide +kernel
theorem dL_first_12 : decode cL_first 12 = .ok (.goto 7, 3) := by decide +kernel
theorem dL_first_15 : decode cL_first 15 = .ok (.astore 5, 2) := by decide +kernel
theorem dL_first_17 : decode cL_first 17 = .ok (.iconst 1, 1) := by decide +kernel
theorem dL_first_18 : decode cL_first 18 = .ok (.ireturn, 1) := by decide +kernel
theorem dL_first_19 : decode cL_first 19 = .ok (.iconst 0, 1) := by decide +kernel
theorem dL_first_20 : decode cL_first 20 = .ok (.ireturn, 1) := by decide +kernel
theorem dL_lamps_0 : decode cL_lamps 0 = .ok (.aload 4, 2) := by decide +kernel
theorem dL_lamps_2 : decode cL_lamps 2 = .ok (.iconst 0, 1) := by decide +kernel
theorem dL_lamps_3 : decode cL_lamps 3 = .ok (.aload_n 0, 1) := by decide +kernel
theorem dL_lamps_4 : decode cL_lamps 4 = .ok (.iload_n 1, 1) := by decide +kernel
theorem dL_lamps_5 : decode cL_lamps 5 = .ok (.iload_n 2, 1) := by decide +kernel
theorem dL_lamps_6 : decode cL_lamps 6 = .ok (.iload_n 3, 1) := by decide +kernel
theorem dL_lamps_7 : decode cL_lamps 7 = .ok (.invokevirtual 64, 3) := by decide +kernel
theorem dL_lamps_10 : decode cL_lamps 10 = .ok (.i2l, 1) := by decide +kernel
theorem dL_lamps_11 : decode cL_lamps 11 = .ok (.lastore, 1) := by decide +kernel
theorem dL_lamps_12 : decode cL_lamps 12 = .ok (.goto 7, 3) := by decide +kernel
theorem dL_lamps_15 : decode cL_lamps 15 = .ok (.astore 5, 2) := by decide +kernel
theorem dL_lamps_17 : decode cL_lamps 17 = .ok (.iconst 1, 1) := by decide +kernel
theorem dL_lamps_18 : decode cL_lamps 18 = .ok (.ireturn, 1) := by decide +kernel
theorem dL_lamps_19 : decode cL_lamps 19 = .ok (.iconst 0, 1) := by decide +kernel
theorem dL_lamps_20 : decode cL_lamps 20 = .ok (.ireturn, 1) := by decide +kernel
theorem dL_stands_0 : decode cL_stands 0 = .ok (.aload 4, 2) := by decide +kernel
theorem dL_stands_2 : decode cL_stands 2 = .ok (.iconst 0, 1) := by decide +kernel
theorem dL_stands_3 : decode cL_stands 3 = .ok (.aload_n 0, 1) := by decide +kernel
theorem dL_stands_4 : decode cL_stands 4 = .ok (.iload_n 1, 1) := by decide +kernel
theorem dL_stands_5 : decode cL_stands 5 = .ok (.iload_n 2, 1) := by decide +kernel
theorem dL_stands_6 : decode cL_stands 6 = .ok (.iload_n 3, 1) := by decide +kernel
theorem dL_stands_7 : decode cL_stands 7 = .ok (.invokevirtual 67, 3) := by decide +kernel
theorem dL_stands_10 : decode cL_stands 10 = .ok (.i2l, 1) := by decide +kernel
theorem dL_stands_11 : decode cL_stands 11 = .ok (.lastore, 1) := by decide +kernel
theorem dL_stands_12 : decode cL_stands 12 = .ok (.goto 7, 3) := by decide +kernel
theorem dL_stands_15 : decode cL_stands 15 = .ok (.astore 5, 2) := by decide +kernel
theorem dL_stands_17 : decode cL_stands 17 = .ok (.iconst 1, 1) := by decide +kernel
theorem dL_stands_18 : decode cL_stands 18 = .ok (.ireturn, 1) := by decide +kernel
theorem dL_stands_19 : decode cL_stands 19 = .ok (.iconst 0, 1) := by decide +kernel
theorem dL_stands_20 : decode cL_stands 20 = .ok (.ireturn, 1) := by decide +kernel
theorem dL_lean_0 : decode cL_lean 0 = .ok (.aload_n 3, 1) := by decide +kernel
theorem dL_lean_1 : decode cL_lean 1 = .ok (.iconst 0, 1) := by decide +kernel
theorem dL_lean_2 : decode cL_lean 2 = .ok (.aload_n 0, 1) := by decide +kernel
theorem dL_lean_3 : decode cL_lean 3 = .ok (.iload_n 1, 1) := by decide +kernel
theorem dL_lean_4 : decode cL_lean 4 = .ok (.iload_n 2, 1) := by decide +kernel
theorem dL_lean_5 : decode cL_lean 5 = .ok (.invokevirtual 70, 3) := by decide +kernel
theorem dL_lean_8 : decode cL_lean 8 = .ok (.i2l, 1) := by decide +kernel
theorem dL_lean_9 : decode cL_lean 9 = .ok (.lastore, 1) := by decide +kernel
theorem dL_lean_10 : decode cL_lean 10 = .ok (.goto 7, 3) := by decide +kernel
theorem dL_lean_13 : decode cL_lean 13 = .ok (.astore 4, 2) := by decide +kernel
theorem dL_lean_15 : decode cL_lean 15 = .ok (.iconst 1, 1) := by decide +kernel
theorem dL_lean_16 : decode cL_lean 16 = .ok (.ireturn, 1) := by decide +kernel
theorem dL_lean_17 : decode cL_lean 17 = .ok (.iconst 0, 1) := by decide +kernel
theorem dL_lean_18 : decode cL_lean 18 = .ok (.ireturn, 1) := by decide +kernel
theorem dL_look_0 : decode cL_look 0 = .ok (.aload_n 2, 1) := by decide +kernel
theorem dL_look_1 : decode cL_look 1 = .ok (.iconst 0, 1) := by decide +kernel
theorem dL_look_2 : decode cL_look 2 = .ok (.aload_n 0, 1) := by decide +kernel
theorem dL_look_3 : decode cL_look 3 = .ok (.iload_n 1, 1) := by decide +kernel
theorem dL_look_4 : decode cL_look 4 = .ok (.invokevirtual 74, 3) := by decide +kernel
theorem dL_look_7 : decode cL_look 7 = .ok (.i2l, 1) := by decide +kernel
theorem dL_look_8 : decode cL_look 8 = .ok (.lastore, 1) := by decide +kernel
theorem dL_look_9 : decode cL_look 9 = .ok (.goto 6, 3) := by decide +kernel
theorem dL_look_12 : decode cL_look 12 = .ok (.astore_n 3, 1) := by decide +kernel
theorem dL_look_13 : decode cL_look 13 = .ok (.iconst 1, 1) := by decide +kernel
theorem dL_look_14 : decode cL_look 14 = .ok (.ireturn, 1) := by decide +kernel
theorem dL_look_15 : decode cL_look 15 = .ok (.iconst 0, 1) := by decide +kernel
theorem dL_look_16 : decode cL_look 16 = .ok (.ireturn, 1) := by decide +kernel
theorem dL_law_0 : decode cL_law 0 = .ok (.new 8, 3) := by decide +kernel
theorem dL_law_3 : decode cL_law 3 = .ok (.dup, 1) := by decide +kernel
theorem dL_law_4 : decode cL_law 4 = .ok (.aload_n 0, 1) := by decide +kernel
theorem dL_law_5 : decode cL_law 5 = .ok (.iconst 0, 1) := by decide +kernel
theorem dL_law_6 : decode cL_law 6 = .ok (.invokestatic 77, 3) := by decide +kernel
theorem dL_law_9 : decode cL_law 9 = .ok (.invokespecial 83, 3) := by decide +kernel
theorem dL_law_12 : decode cL_law 12 = .ok (.astore_n 1, 1) := by decide +kernel
theorem dL_law_13 : decode cL_law 13 = .ok (.new 85, 3) := by decide +kernel
theorem dL_law_16 : decode cL_law 16 = .ok (.dup, 1) := by decide +kernel
theorem dL_law_17 : decode cL_law 17 = .ok (.aload_n 0, 1) := by decide +kernel
theorem dL_law_18 : decode cL_law 18 = .ok (.iconst 0, 1) := by decide +kernel
theorem dL_law_19 : decode cL_law 19 = .ok (.invokestatic 77, 3) := by decide +kernel
theorem dL_law_22 : decode cL_law 22 = .ok (.invokespecial 87, 3) := by decide +kernel
theorem dL_law_25 : decode cL_law 25 = .ok (.astore_n 2, 1) := by decide +kernel
theorem dL_law_26 : decode cL_law 26 = .ok (.iconst 1, 1) := by decide +kernel
theorem dL_law_27 : decode cL_law 27 = .ok (.newarray .long, 2) := by decide +kernel
theorem dL_law_29 : decode cL_law 29 = .ok (.astore_n 3, 1) := by decide +kernel
theorem dL_law_30 : decode cL_law 30 = .ok (.iconst 1, 1) := by decide +kernel
theorem dL_law_31 : decode cL_law 31 = .ok (.istore 4, 2) := by decide +kernel
theorem dL_law_33 : decode cL_law 33 = .ok (.iload 4, 2) := by decide +kernel
theorem dL_law_35 : decode cL_law 35 = .ok (.aload_n 0, 1) := by decide +kernel
theorem dL_law_36 : decode cL_law 36 = .ok (.arraylength, 1) := by decide +kernel
theorem dL_law_37 : decode cL_law 37 = .ok (.iconst 4, 1) := by decide +kernel
theorem dL_law_38 : decode cL_law 38 = .ok (.isub, 1) := by decide +kernel
theorem dL_law_39 : decode cL_law 39 = .ok (.if_icmp .gt 1309, 3) := by decide +kernel
theorem dL_law_42 : decode cL_law 42 = .ok (.aload_n 0, 1) := by decide +kernel
theorem dL_law_43 : decode cL_law 43 = .ok (.iload 4, 2) := by decide +kernel
theorem dL_law_45 : decode cL_law 45 = .ok (.iaload, 1) := by decide +kernel
theorem dL_law_46 : decode cL_law 46 = .ok (.bipush 31, 2) := by decide +kernel
theorem dL_law_48 : decode cL_law 48 = .ok (.iand, 1) := by decide +kernel
theorem dL_law_49 : decode cL_law 49 = .ok (.tableswitch 1293 0 21 #[103, 139, 207, 255, 279, 315, 383, 424, 460, 496, 509, 522, 590, 658, 714, 770, 833, 913, 993, 1073, 1153, 1237], 103) := by decide +kernel
theorem dL_law_152 : decode cL_law 152 = .ok (.aload_n 1, 1) := by decide +kernel
theorem dL_law_153 : decode cL_law 153 = .ok (.aload_n 0, 1) := by decide +kernel
theorem dL_law_154 : decode cL_law 154 = .ok (.iload 4, 2) := by decide +kernel
theorem dL_law_156 : decode cL_law 156 = .ok (.iconst 1, 1) := by decide +kernel
theorem dL_law_157 : decode cL_law 157 = .ok (.iadd, 1) := by decide +kernel
theorem dL_law_158 : decode cL_law 158 = .ok (.iaload, 1) := by decide +kernel
theorem dL_law_159 : decode cL_law 159 = .ok (.invokestatic 88, 3) := by decide +kernel
theorem dL_law_162 : decode cL_law 162 = .ok (.istore 5, 2) := by decide +kernel
theorem dL_law_164 : decode cL_law 164 = .ok (.aload_n 2, 1) := by decide +kernel
theorem dL_law_165 : decode cL_law 165 = .ok (.aload_n 0, 1) := by decide +kernel
theorem dL_law_166 : decode cL_law 166 = .ok (.iload 4, 2) := by decide +kernel
theorem dL_law_168 : decode cL_law 168 = .ok (.iconst 1, 1) := by decide +kernel
theorem dL_law_169 : decode cL_law 169 = .ok (.iadd, 1) := by decide +kernel
theorem dL_law_170 : decode cL_law 170 = .ok (.iaload, 1) := by decide +kernel
theorem dL_law_171 : decode cL_law 171 = .ok (.invokevirtual 91, 3) := by decide +kernel
theorem dL_law_174 : decode cL_law 174 = .ok (.aload_n 2, 1) := by decide +kernel
theorem dL_law_175 : decode cL_law 175 = .ok (.invokevirtual 92, 3) := by decide +kernel
theorem dL_law_178 : decode cL_law 178 = .ok (.iload 5, 2) := by decide +kernel
theorem dL_law_180 : decode cL_law 180 = .ok (.if_icmp .eq 5, 3) := by decide +kernel
theorem dL_law_183 : decode cL_law 183 = .ok (.iconst 0, 1) := by decide +kernel
theorem dL_law_184 : decode cL_law 184 = .ok (.ireturn, 1) := by decide +kernel
theorem dL_law_185 : decode cL_law 185 = .ok (.goto 1157, 3) := by decide +kernel
theorem dL_law_188 : decode cL_law 188 = .ok (.aload_n 1, 1) := by decide +kernel
theorem dL_law_189 : decode cL_law 189 = .ok (.aload_n 0, 1) := by decide +kernel
theorem dL_law_190 : decode cL_law 190 = .ok (.iload 4, 2) := by decide +kernel
theorem dL_law_192 : decode cL_law 192 = .ok (.iconst 1, 1) := by decide +kernel
theorem dL_law_193 : decode cL_law 193 = .ok (.iadd, 1) := by decide +kernel
theorem dL_law_194 : decode cL_law 194 = .ok (.iaload, 1) := by decide +kernel
theorem dL_law_195 : decode cL_law 195 = .ok (.aload_n 0, 1) := by decide +kernel
theorem dL_law_196 : decode cL_law 196 = .ok (.iload 4, 2) := by decide +kernel
theorem dL_law_198 : decode cL_law 198 = .ok (.iconst 2, 1) := by decide +kernel
theorem dL_law_199 : decode cL_law 199 = .ok (.iadd, 1) := by decide +kernel
theorem dL_law_200 : decode cL_law 200 = .ok (.iaload, 1) := by decide +kernel
theorem dL_law_201 : decode cL_law 201 = .ok (.aload_n 3, 1) := by decide +kernel
theorem dL_law_202 : decode cL_law 202 = .ok (.invokestatic 96, 3) := by decide +kernel
theorem dL_law_205 : decode cL_law 205 = .ok (.istore 5, 2) := by decide +kernel
theorem dL_law_207 : decode cL_law 207 = .ok (.aload_n 2, 1) := by decide +kernel
theorem dL_law_208 : decode cL_law 208 = .ok (.aload_n 0, 1) := by decide +kernel
theorem dL_law_209 : decode cL_law 209 = .ok (.iload 4, 2) := by decide +kernel
theorem dL_law_211 : decode cL_law 211 = .ok (.iconst 1, 1) := by decide +kernel
theorem dL_law_212 : decode cL_law 212 = .ok (.iadd, 1) := by decide +kernel
theorem dL_law_213 : decode cL_law 213 = .ok (.iaload, 1) := by decide +kernel
theorem dL_law_214 : decode cL_law 214 = .ok (.aload_n 0, 1) := by decide +kernel
theorem dL_law_215 : decode cL_law 215 = .ok (.iload 4, 2) := by decide +kernel
theorem dL_law_217 : decode cL_law 217 = .ok (.iconst 2, 1) := by decide +kernel
theorem dL_law_218 : decode cL_law 218 = .ok (.iadd, 1) := by decide +kernel
theorem dL_law_219 : decode cL_law 219 = .ok (.iaload, 1) := by decide +kernel
theorem dL_law_220 : decode cL_law 220 = .ok (.invokevirtual 99, 3) := by decide +kernel
theorem dL_law_223 : decode cL_law 223 = .ok (.istore 6, 2) := by decide +kernel
theorem dL_law_225 : decode cL_law 225 = .ok (.aload_n 2, 1) := by decide +kernel
theorem dL_law_226 : decode cL_law 226 = .ok (.invokevirtual 92, 3) := by decide +kernel
theorem dL_law_229 : decode cL_law 229 = .ok (.iload 5, 2) := by decide +kernel
theorem dL_law_231 : decode cL_law 231 = .ok (.if_icmp .eq 5, 3) := by decide +kernel
theorem dL_law_234 : decode cL_law 234 = .ok (.iconst 0, 1) := by decide +kernel
theorem dL_law_235 : decode cL_law 235 = .ok (.ireturn, 1) := by decide +kernel
theorem dL_law_236 : decode cL_law 236 = .ok (.iload 5, 2) := by decide +kernel
theorem dL_law_238 : decode cL_law 238 = .ok (.ifCond .ne 15, 3) := by decide +kernel
theorem dL_law_241 : decode cL_law 241 = .ok (.aload_n 3, 1) := by decide +kernel
theorem dL_law_242 : decode cL_law 242 = .ok (.iconst 0, 1) := by decide +kernel
theorem dL_law_243 : decode cL_law 243 = .ok (.laload, 1) := by decide +kernel
theorem dL_law_244 : decode cL_law 244 = .ok (.iload 6, 2) := by decide +kernel
theorem dL_law_246 : decode cL_law 246 = .ok (.i2l, 1) := by decide +kernel
theorem dL_law_247 : decode cL_law 247 = .ok (.lcmp, 1) := by decide +kernel
theorem dL_law_248 : decode cL_law 248 = .ok (.ifCond .eq 5, 3) := by decide +kernel
theorem dL_law_251 : decode cL_law 251 = .ok (.iconst 0, 1) := by decide +kernel
theorem dL_law_252 : decode cL_law 252 = .ok (.ireturn, 1) := by decide +kernel
theorem dL_law_253 : decode cL_law 253 = .ok (.goto 1089, 3) := by decide +kernel
theorem dL_law_256 : decode cL_law 256 = .ok (.aload_n 1, 1) := by decide +kernel
theorem dL_law_257 : decode cL_law 257 = .ok (.aload_n 0, 1) := by decide +kernel
theorem dL_law_258 : decode cL_law 258 = .ok (.iload 4, 2) := by decide +kernel
theorem dL_law_260 : decode cL_law 260 = .ok (.iconst 1, 1) := by decide +kernel
theorem dL_law_261 : decode cL_law 261 = .ok (.iadd, 1) := by decide +kernel
theorem dL_law_262 : decode cL_law 262 = .ok (.iaload, 1) := by decide +kernel
theorem dL_law_263 : decode cL_law 263 = .ok (.aload_n 0, 1) := by decide +kernel
theorem dL_law_264 : decode cL_law 264 = .ok (.iload 4, 2) := by decide +kernel
theorem dL_law_266 : decode cL_law 266 = .ok (.iconst 2, 1) := by decide +kernel
theorem dL_law_267 : decode cL_law 267 = .ok (.iadd, 1) := by decide +kernel
theorem dL_law_268 : decode cL_law 268 = .ok (.iaload, 1) := by decide +kernel
theorem dL_law_269 : decode cL_law 269 = .ok (.invokestatic 100, 3) := by decide +kernel
theorem dL_law_272 : decode cL_law 272 = .ok (.istore 5, 2) := by decide +kernel
theorem dL_law_274 : decode cL_law 274 = .ok (.aload_n 2, 1) := by decide +kernel
theorem dL_law_275 : decode cL_law 275 = .ok (.aload_n 0, 1) := by decide +kernel
theorem dL_law_276 : decode cL_law 276 = .ok (.iload 4, 2) := by decide +kernel
theorem dL_law_278 : decode cL_law 278 = .ok (.iconst 1, 1) := by decide +kernel
theorem dL_law_279 : decode cL_law 279 = .ok (.iadd, 1) := by decide +kernel
theorem dL_law_280 : decode cL_law 280 = .ok (.iaload, 1) := by decide +kernel
theorem dL_law_281 : decode cL_law 281 = .ok (.aload_n 0, 1) := by decide +kernel
theorem dL_law_282 : decode cL_law 282 = .ok (.iload 4, 2) := by decide +kernel
theorem dL_law_284 : decode cL_law 284 = .ok (.iconst 2, 1) := by decide +kernel
theorem dL_law_285 : decode cL_law 285 = .ok (.iadd, 1) := by decide +kernel
theorem dL_law_286 : decode cL_law 286 = .ok (.iaload, 1) := by decide +kernel
theorem dL_law_287 : decode cL_law 287 = .ok (.invokevirtual 103, 3) := by decide +kernel
theorem dL_law_290 : decode cL_law 290 = .ok (.aload_n 2, 1) := by decide +kernel
theorem dL_law_291 : decode cL_law 291 = .ok (.invokevirtual 92, 3) := by decide +kernel
theorem dL_law_294 : decode cL_law 294 = .ok (.iload 5, 2) := by decide +kernel
theorem dL_law_296 : decode cL_law 296 = .ok (.if_icmp .eq 5, 3) := by decide +kernel
theorem dL_law_299 : decode cL_law 299 = .ok (.iconst 0, 1) := by decide +kernel
theorem dL_law_300 : decode cL_law 300 = .ok (.ireturn, 1) := by decide +kernel
theorem dL_law_301 : decode cL_law 301 = .ok (.goto 1041, 3) := by decide +kernel
theorem dL_law_304 : decode cL_law 304 = .ok (.aload_n 1, 1) := by decide +kernel
theorem dL_law_305 : decode cL_law 305 = .ok (.invokestatic 104, 3) := by decide +kernel
theorem dL_law_308 : decode cL_law 308 = .ok (.istore 5, 2) := by decide +kernel
theorem dL_law_310 : decode cL_law 310 = .ok (.aload_n 2, 1) := by decide +kernel
theorem dL_law_311 : decode cL_law 311 = .ok (.invokevirtual 107, 3) := by decide +kernel
theorem dL_law_314 : decode cL_law 314 = .ok (.aload_n 2, 1) := by decide +kernel
theorem dL_law_315 : decode cL_law 315 = .ok (.invokevirtual 92, 3) := by decide +kernel
theorem dL_law_318 : decode cL_law 318 = .ok (.iload 5, 2) := by decide +kernel
theorem dL_law_320 : decode cL_law 320 = .ok (.if_icmp .eq 5, 3) := by decide +kernel
theorem dL_law_323 : decode cL_law 323 = .ok (.iconst 0, 1) := by decide +kernel
theorem dL_law_324 : decode cL_law 324 = .ok (.ireturn, 1) := by decide +kernel
theorem dL_law_325 : decode cL_law 325 = .ok (.goto 1017, 3) := by decide +kernel
theorem dL_law_328 : decode cL_law 328 = .ok (.aload_n 1, 1) := by decide +kernel
theorem dL_law_329 : decode cL_law 329 = .ok (.aload_n 0, 1) := by decide +kernel
theorem dL_law_330 : decode cL_law 330 = .ok (.iload 4, 2) := by decide +kernel
theorem dL_law_332 : decode cL_law 332 = .ok (.iconst 1, 1) := by decide +kernel
theorem dL_law_333 : decode cL_law 333 = .ok (.iadd, 1) := by decide +kernel
theorem dL_law_334 : decode cL_law 334 = .ok (.iaload, 1) := by decide +kernel
theorem dL_law_335 : decode cL_law 335 = .ok (.invokestatic 108, 3) := by decide +kernel
theorem dL_law_338 : decode cL_law 338 = .ok (.istore 5, 2) := by decide +kernel
theorem dL_law_340 : decode cL_law 340 = .ok (.aload_n 2, 1) := by decide +kernel
theorem dL_law_341 : decode cL_law 341 = .ok (.aload_n 0, 1) := by decide +kernel
theorem dL_law_342 : decode cL_law 342 = .ok (.iload 4, 2) := by decide +kernel
theorem dL_law_344 : decode cL_law 344 = .ok (.iconst 1, 1) := by decide +kernel
theorem dL_law_345 : decode cL_law 345 = .ok (.iadd, 1) := by decide +kernel
theorem dL_law_346 : decode cL_law 346 = .ok (.iaload, 1) := by decide +kernel
theorem dL_law_347 : decode cL_law 347 = .ok (.invokevirtual 110, 3) := by decide +kernel
theorem dL_law_350 : decode cL_law 350 = .ok (.aload_n 2, 1) := by decide +kernel
theorem dL_law_351 : decode cL_law 351 = .ok (.invokevirtual 92, 3) := by decide +kernel
theorem dL_law_354 : decode cL_law 354 = .ok (.iload 5, 2) := by decide +kernel
theorem dL_law_356 : decode cL_law 356 = .ok (.if_icmp .eq 5, 3) := by decide +kernel
theorem dL_law_359 : decode cL_law 359 = .ok (.iconst 0, 1) := by decide +kernel
theorem dL_law_360 : decode cL_law 360 = .ok (.ireturn, 1) := by decide +kernel
theorem dL_law_361 : decode cL_law 361 = .ok (.goto 981, 3) := by decide +kernel
theorem dL_law_364 : decode cL_law 364 = .ok (.aload_n 1, 1) := by decide +kernel
theorem dL_law_365 : decode cL_law 365 = .ok (.aload_n 0, 1) := by decide +kernel
theorem dL_law_366 : decode cL_law 366 = .ok (.iload 4, 2) := by decide +kernel
theorem dL_law_368 : decode cL_law 368 = .ok (.iconst 1, 1) := by decide +kernel
theorem dL_law_369 : decode cL_law 369 = .ok (.iadd, 1) := by decide +kernel
theorem dL_law_370 : decode cL_law 370 = .ok (.iaload, 1) := by decide +kernel
theorem dL_law_371 : decode cL_law 371 = .ok (.aload_n 0, 1) := by decide +kernel
theorem dL_law_372 : decode cL_law 372 = .ok (.iload 4, 2) := by decide +kernel
theorem dL_law_374 : decode cL_law 374 = .ok (.iconst 2, 1) := by decide +kernel
theorem dL_law_375 : decode cL_law 375 = .ok (.iadd, 1) := by decide +kernel
theorem dL_law_376 : decode cL_law 376 = .ok (.iaload, 1) := by decide +kernel
theorem dL_law_377 : decode cL_law 377 = .ok (.aload_n 3, 1) := by decide +kernel
theorem dL_law_378 : decode cL_law 378 = .ok (.invokestatic 111, 3) := by decide +kernel
theorem dL_law_381 : decode cL_law 381 = .ok (.istore 5, 2) := by decide +kernel
theorem dL_law_383 : decode cL_law 383 = .ok (.aload_n 2, 1) := by decide +kernel
theorem dL_law_384 : decode cL_law 384 = .ok (.aload_n 0, 1) := by decide +kernel
theorem dL_law_385 : decode cL_law 385 = .ok (.iload 4, 2) := by decide +kernel
theorem dL_law_387 : decode cL_law 387 = .ok (.iconst 1, 1) := by decide +kernel
theorem dL_law_388 : decode cL_law 388 = .ok (.iadd, 1) := by decide +kernel
theorem dL_law_389 : decode cL_law 389 = .ok (.iaload, 1) := by decide +kernel
theorem dL_law_390 : decode cL_law 390 = .ok (.aload_n 0, 1) := by decide +kernel
theorem dL_law_391 : decode cL_law 391 = .ok (.iload 4, 2) := by decide +kernel
theorem dL_law_393 : decode cL_law 393 = .ok (.iconst 2, 1) := by decide +kernel
theorem dL_law_394 : decode cL_law 394 = .ok (.iadd, 1) := by decide +kernel
theorem dL_law_395 : decode cL_law 395 = .ok (.iaload, 1) := by decide +kernel
theorem dL_law_396 : decode cL_law 396 = .ok (.invokevirtual 113, 3) := by decide +kernel
theorem dL_law_399 : decode cL_law 399 = .ok (.istore 6, 2) := by decide +kernel
theorem dL_law_401 : decode cL_law 401 = .ok (.aload_n 2, 1) := by decide +kernel
theorem dL_law_402 : decode cL_law 402 = .ok (.invokevirtual 92, 3) := by decide +kernel
theorem dL_law_405 : decode cL_law 405 = .ok (.iload 5, 2) := by decide +kernel
theorem dL_law_407 : decode cL_law 407 = .ok (.if_icmp .eq 5, 3) := by decide +kernel
theorem dL_law_410 : decode cL_law 410 = .ok (.iconst 0, 1) := by decide +kernel
theorem dL_law_411 : decode cL_law 411 = .ok (.ireturn, 1) := by decide +kernel
theorem dL_law_412 : decode cL_law 412 = .ok (.iload 5, 2) := by decide +kernel
theorem dL_law_414 : decode cL_law 414 = .ok (.ifCond .ne 15, 3) := by decide +kernel
theorem dL_law_417 : decode cL_law 417 = .ok (.aload_n 3, 1) := by decide +kernel
theorem dL_law_418 : decode cL_law 418 = .ok (.iconst 0, 1) := by decide +kernel
theorem dL_law_419 : decode cL_law 419 = .ok (.laload, 1) := by decide +kernel
theorem dL_law_420 : decode cL_law 420 = .ok (.iload 6, 2) := by decide +kernel
theorem dL_law_422 : decode cL_law 422 = .ok (.i2l, 1) := by decide +kernel
theorem dL_law_423 : decode cL_law 423 = .ok (.lcmp, 1) := by decide +kernel
theorem dL_law_424 : decode cL_law 424 = .ok (.ifCond .eq 5, 3) := by decide +kernel
theorem dL_law_427 : decode cL_law 427 = .ok (.iconst 0, 1) := by decide +kernel
theorem dL_law_428 : decode cL_law 428 = .ok (.ireturn, 1) := by decide +kernel
theorem dL_law_429 : decode cL_law 429 = .ok (.goto 913, 3) := by decide +kernel
theorem dL_law_432 : decode cL_law 432 = .ok (.aload_n 1, 1) := by decide +kernel
theorem dL_law_433 : decode cL_law 433 = .ok (.aload_n 0, 1) := by decide +kernel
theorem dL_law_434 : decode cL_law 434 = .ok (.iload 4, 2) := by decide +kernel
theorem dL_law_436 : decode cL_law 436 = .ok (.iconst 1, 1) := by decide +kernel
theorem dL_law_437 : decode cL_law 437 = .ok (.iadd, 1) := by decide +kernel
theorem dL_law_438 : decode cL_law 438 = .ok (.iaload, 1) := by decide +kernel
theorem dL_law_439 : decode cL_law 439 = .ok (.ifCond .eq 7, 3) := by decide +kernel
theorem dL_law_442 : decode cL_law 442 = .ok (.iconst 1, 1) := by decide +kernel
theorem dL_law_443 : decode cL_law 443 = .ok (.goto 4, 3) := by decide +kernel
theorem dL_law_446 : decode cL_law 446 = .ok (.iconst 0, 1) := by decide +kernel
theorem dL_law_447 : decode cL_law 447 = .ok (.invokevirtual 114, 3) := by decide +kernel
theorem dL_law_450 : decode cL_law 450 = .ok (.aload_n 2, 1) := by decide +kernel
theorem dL_law_451 : decode cL_law 451 = .ok (.aload_n 0, 1) := by decide +kernel
theorem dL_law_452 : decode cL_law 452 = .ok (.iload 4, 2) := by decide +kernel
theorem dL_law_454 : decode cL_law 454 = .ok (.iconst 1, 1) := by decide +kernel
theorem dL_law_455 : decode cL_law 455 = .ok (.iadd, 1) := by decide +kernel
theorem dL_law_456 : decode cL_law 456 = .ok (.iaload, 1) := by decide +kernel
theorem dL_law_457 : decode cL_law 457 = .ok (.ifCond .eq 7, 3) := by decide +kernel
theorem dL_law_460 : decode cL_law 460 = .ok (.iconst 1, 1) := by decide +kernel
theorem dL_law_461 : decode cL_law 461 = .ok (.goto 4, 3) := by decide +kernel
theorem dL_law_464 : decode cL_law 464 = .ok (.iconst 0, 1) := by decide +kernel
theorem dL_law_465 : decode cL_law 465 = .ok (.invokevirtual 118, 3) := by decide +kernel
theorem dL_law_468 : decode cL_law 468 = .ok (.if_icmp .eq 874, 3) := by decide +kernel
theorem dL_law_471 : decode cL_law 471 = .ok (.iconst 0, 1) := by decide +kernel
theorem dL_law_472 : decode cL_law 472 = .ok (.ireturn, 1) := by decide +kernel
theorem dL_law_473 : decode cL_law 473 = .ok (.aload_n 1, 1) := by decide +kernel
theorem dL_law_474 : decode cL_law 474 = .ok (.aload_n 0, 1) := by decide +kernel
theorem dL_law_475 : decode cL_law 475 = .ok (.iload 4, 2) := by decide +kernel
theorem dL_law_477 : decode cL_law 477 = .ok (.iconst 1, 1) := by decide +kernel
theorem dL_law_478 : decode cL_law 478 = .ok (.iadd, 1) := by decide +kernel
theorem dL_law_479 : decode cL_law 479 = .ok (.iaload, 1) := by decide +kernel
theorem dL_law_480 : decode cL_law 480 = .ok (.invokestatic 119, 3) := by decide +kernel
theorem dL_law_483 : decode cL_law 483 = .ok (.istore 5, 2) := by decide +kernel
theorem dL_law_485 : decode cL_law 485 = .ok (.aload_n 2, 1) := by decide +kernel
theorem dL_law_486 : decode cL_law 486 = .ok (.aload_n 0, 1) := by decide +kernel
theorem dL_law_487 : decode cL_law 487 = .ok (.iload 4, 2) := by decide +kernel
theorem dL_law_489 : decode cL_law 489 = .ok (.iconst 1, 1) := by decide +kernel
theorem dL_law_490 : decode cL_law 490 = .ok (.iadd, 1) := by decide +kernel
theorem dL_law_491 : decode cL_law 491 = .ok (.iaload, 1) := by decide +kernel
theorem dL_law_492 : decode cL_law 492 = .ok (.invokevirtual 121, 3) := by decide +kernel
theorem dL_law_495 : decode cL_law 495 = .ok (.aload_n 2, 1) := by decide +kernel
theorem dL_law_496 : decode cL_law 496 = .ok (.invokevirtual 92, 3) := by decide +kernel
theorem dL_law_499 : decode cL_law 499 = .ok (.iload 5, 2) := by decide +kernel
theorem dL_law_501 : decode cL_law 501 = .ok (.if_icmp .eq 5, 3) := by decide +kernel
theorem dL_law_504 : decode cL_law 504 = .ok (.iconst 0, 1) := by decide +kernel
theorem dL_law_505 : decode cL_law 505 = .ok (.ireturn, 1) := by decide +kernel
theorem dL_law_506 : decode cL_law 506 = .ok (.goto 836, 3) := by decide +kernel
theorem dL_law_509 : decode cL_law 509 = .ok (.aload_n 1, 1) := by decide +kernel
theorem dL_law_510 : decode cL_law 510 = .ok (.aload_n 0, 1) := by decide +kernel
theorem dL_law_511 : decode cL_law 511 = .ok (.iload 4, 2) := by decide +kernel
theorem dL_law_513 : decode cL_law 513 = .ok (.iconst 1, 1) := by decide +kernel
theorem dL_law_514 : decode cL_law 514 = .ok (.iadd, 1) := by decide +kernel
theorem dL_law_515 : decode cL_law 515 = .ok (.iaload, 1) := by decide +kernel
theorem dL_law_516 : decode cL_law 516 = .ok (.invokestatic 122, 3) := by decide +kernel
theorem dL_law_519 : decode cL_law 519 = .ok (.istore 5, 2) := by decide +kernel
theorem dL_law_521 : decode cL_law 521 = .ok (.aload_n 2, 1) := by decide +kernel
theorem dL_law_522 : decode cL_law 522 = .ok (.aload_n 0, 1) := by decide +kernel
theorem dL_law_523 : decode cL_law 523 = .ok (.iload 4, 2) := by decide +kernel
theorem dL_law_525 : decode cL_law 525 = .ok (.iconst 1, 1) := by decide +kernel
theorem dL_law_526 : decode cL_law 526 = .ok (.iadd, 1) := by decide +kernel
theorem dL_law_527 : decode cL_law 527 = .ok (.iaload, 1) := by decide +kernel
end
section
theorem dL_law_528 : decode cL_law 528 = .ok (.invokevirtual 124, 3) := by decide +kernel
theorem dL_law_531 : decode cL_law 531 = .ok (.aload_n 2, 1) := by decide +kernel
theorem dL_law_532 : decode cL_law 532 = .ok (.invokevirtual 92, 3) := by decide +kernel
theorem dL_law_535 : decode cL_law 535 = .ok (.iload 5, 2) := by decide +kernel
theorem dL_law_537 : decode cL_law 537 = .ok (.if_icmp .eq 5, 3) := by decide +kernel
theorem dL_law_540 : decode cL_law 540 = .ok (.iconst 0, 1) := by decide +kernel
theorem dL_law_541 : decode cL_law 541 = .ok (.ireturn, 1) := by decide +kernel
theorem dL_law_542 : decode cL_law 542 = .ok (.goto 800, 3) := by decide +kernel
theorem dL_law_545 : decode cL_law 545 = .ok (.aload_n 1, 1) := by decide +kernel
theorem dL_law_546 : decode cL_law 546 = .ok (.invokevirtual 125, 3) := by decide +kernel
theorem dL_law_549 : decode cL_law 549 = .ok (.aload_n 2, 1) := by decide +kernel
theorem dL_law_550 : decode cL_law 550 = .ok (.invokevirtual 128, 3) := by decide +kernel
theorem dL_law_553 : decode cL_law 553 = .ok (.if_icmp .eq 789, 3) := by decide +kernel
theorem dL_law_556 : decode cL_law 556 = .ok (.iconst 0, 1) := by decide +kernel
theorem dL_law_557 : decode cL_law 557 = .ok (.ireturn, 1) := by decide +kernel
theorem dL_law_558 : decode cL_law 558 = .ok (.aload_n 1, 1) := by decide +kernel
theorem dL_law_559 : decode cL_law 559 = .ok (.invokevirtual 129, 3) := by decide +kernel
theorem dL_law_562 : decode cL_law 562 = .ok (.aload_n 2, 1) := by decide +kernel
theorem dL_law_563 : decode cL_law 563 = .ok (.invokevirtual 132, 3) := by decide +kernel
theorem dL_law_566 : decode cL_law 566 = .ok (.if_icmp .eq 776, 3) := by decide +kernel
theorem dL_law_569 : decode cL_law 569 = .ok (.iconst 0, 1) := by decide +kernel
theorem dL_law_570 : decode cL_law 570 = .ok (.ireturn, 1) := by decide +kernel
theorem dL_law_571 : decode cL_law 571 = .ok (.aload_n 1, 1) := by decide +kernel
theorem dL_law_572 : decode cL_law 572 = .ok (.aload_n 0, 1) := by decide +kernel
theorem dL_law_573 : decode cL_law 573 = .ok (.iload 4, 2) := by decide +kernel
theorem dL_law_575 : decode cL_law 575 = .ok (.iconst 1, 1) := by decide +kernel
theorem dL_law_576 : decode cL_law 576 = .ok (.iadd, 1) := by decide +kernel
theorem dL_law_577 : decode cL_law 577 = .ok (.iaload, 1) := by decide +kernel
theorem dL_law_578 : decode cL_law 578 = .ok (.aload_n 0, 1) := by decide +kernel
theorem dL_law_579 : decode cL_law 579 = .ok (.iload 4, 2) := by decide +kernel
theorem dL_law_581 : decode cL_law 581 = .ok (.iconst 2, 1) := by decide +kernel
theorem dL_law_582 : decode cL_law 582 = .ok (.iadd, 1) := by decide +kernel
theorem dL_law_583 : decode cL_law 583 = .ok (.iaload, 1) := by decide +kernel
theorem dL_law_584 : decode cL_law 584 = .ok (.aload_n 3, 1) := by decide +kernel
theorem dL_law_585 : decode cL_law 585 = .ok (.invokestatic 133, 3) := by decide +kernel
theorem dL_law_588 : decode cL_law 588 = .ok (.istore 5, 2) := by decide +kernel
theorem dL_law_590 : decode cL_law 590 = .ok (.aload_n 2, 1) := by decide +kernel
theorem dL_law_591 : decode cL_law 591 = .ok (.aload_n 0, 1) := by decide +kernel
theorem dL_law_592 : decode cL_law 592 = .ok (.iload 4, 2) := by decide +kernel
theorem dL_law_594 : decode cL_law 594 = .ok (.iconst 1, 1) := by decide +kernel
theorem dL_law_595 : decode cL_law 595 = .ok (.iadd, 1) := by decide +kernel
theorem dL_law_596 : decode cL_law 596 = .ok (.iaload, 1) := by decide +kernel
theorem dL_law_597 : decode cL_law 597 = .ok (.aload_n 0, 1) := by decide +kernel
theorem dL_law_598 : decode cL_law 598 = .ok (.iload 4, 2) := by decide +kernel
theorem dL_law_600 : decode cL_law 600 = .ok (.iconst 2, 1) := by decide +kernel
theorem dL_law_601 : decode cL_law 601 = .ok (.iadd, 1) := by decide +kernel
theorem dL_law_602 : decode cL_law 602 = .ok (.iaload, 1) := by decide +kernel
theorem dL_law_603 : decode cL_law 603 = .ok (.invokevirtual 135, 3) := by decide +kernel
theorem dL_law_606 : decode cL_law 606 = .ok (.istore 6, 2) := by decide +kernel
theorem dL_law_608 : decode cL_law 608 = .ok (.aload_n 2, 1) := by decide +kernel
theorem dL_law_609 : decode cL_law 609 = .ok (.invokevirtual 92, 3) := by decide +kernel
theorem dL_law_612 : decode cL_law 612 = .ok (.iload 5, 2) := by decide +kernel
theorem dL_law_614 : decode cL_law 614 = .ok (.if_icmp .eq 5, 3) := by decide +kernel
theorem dL_law_617 : decode cL_law 617 = .ok (.iconst 0, 1) := by decide +kernel
theorem dL_law_618 : decode cL_law 618 = .ok (.ireturn, 1) := by decide +kernel
theorem dL_law_619 : decode cL_law 619 = .ok (.iload 5, 2) := by decide +kernel
theorem dL_law_621 : decode cL_law 621 = .ok (.ifCond .ne 15, 3) := by decide +kernel
theorem dL_law_624 : decode cL_law 624 = .ok (.aload_n 3, 1) := by decide +kernel
theorem dL_law_625 : decode cL_law 625 = .ok (.iconst 0, 1) := by decide +kernel
theorem dL_law_626 : decode cL_law 626 = .ok (.laload, 1) := by decide +kernel
theorem dL_law_627 : decode cL_law 627 = .ok (.iload 6, 2) := by decide +kernel
theorem dL_law_629 : decode cL_law 629 = .ok (.i2l, 1) := by decide +kernel
theorem dL_law_630 : decode cL_law 630 = .ok (.lcmp, 1) := by decide +kernel
theorem dL_law_631 : decode cL_law 631 = .ok (.ifCond .eq 5, 3) := by decide +kernel
theorem dL_law_634 : decode cL_law 634 = .ok (.iconst 0, 1) := by decide +kernel
theorem dL_law_635 : decode cL_law 635 = .ok (.ireturn, 1) := by decide +kernel
theorem dL_law_636 : decode cL_law 636 = .ok (.goto 706, 3) := by decide +kernel
theorem dL_law_639 : decode cL_law 639 = .ok (.aload_n 1, 1) := by decide +kernel
theorem dL_law_640 : decode cL_law 640 = .ok (.aload_n 0, 1) := by decide +kernel
theorem dL_law_641 : decode cL_law 641 = .ok (.iload 4, 2) := by decide +kernel
theorem dL_law_643 : decode cL_law 643 = .ok (.iconst 1, 1) := by decide +kernel
theorem dL_law_644 : decode cL_law 644 = .ok (.iadd, 1) := by decide +kernel
theorem dL_law_645 : decode cL_law 645 = .ok (.iaload, 1) := by decide +kernel
theorem dL_law_646 : decode cL_law 646 = .ok (.aload_n 0, 1) := by decide +kernel
theorem dL_law_647 : decode cL_law 647 = .ok (.iload 4, 2) := by decide +kernel
theorem dL_law_649 : decode cL_law 649 = .ok (.iconst 2, 1) := by decide +kernel
theorem dL_law_650 : decode cL_law 650 = .ok (.iadd, 1) := by decide +kernel
theorem dL_law_651 : decode cL_law 651 = .ok (.iaload, 1) := by decide +kernel
theorem dL_law_652 : decode cL_law 652 = .ok (.aload_n 3, 1) := by decide +kernel
theorem dL_law_653 : decode cL_law 653 = .ok (.invokestatic 136, 3) := by decide +kernel
theorem dL_law_656 : decode cL_law 656 = .ok (.istore 5, 2) := by decide +kernel
theorem dL_law_658 : decode cL_law 658 = .ok (.aload_n 2, 1) := by decide +kernel
theorem dL_law_659 : decode cL_law 659 = .ok (.aload_n 0, 1) := by decide +kernel
theorem dL_law_660 : decode cL_law 660 = .ok (.iload 4, 2) := by decide +kernel
theorem dL_law_662 : decode cL_law 662 = .ok (.iconst 1, 1) := by decide +kernel
theorem dL_law_663 : decode cL_law 663 = .ok (.iadd, 1) := by decide +kernel
theorem dL_law_664 : decode cL_law 664 = .ok (.iaload, 1) := by decide +kernel
theorem dL_law_665 : decode cL_law 665 = .ok (.aload_n 0, 1) := by decide +kernel
theorem dL_law_666 : decode cL_law 666 = .ok (.iload 4, 2) := by decide +kernel
theorem dL_law_668 : decode cL_law 668 = .ok (.iconst 2, 1) := by decide +kernel
theorem dL_law_669 : decode cL_law 669 = .ok (.iadd, 1) := by decide +kernel
theorem dL_law_670 : decode cL_law 670 = .ok (.iaload, 1) := by decide +kernel
theorem dL_law_671 : decode cL_law 671 = .ok (.invokevirtual 138, 3) := by decide +kernel
theorem dL_law_674 : decode cL_law 674 = .ok (.istore 6, 2) := by decide +kernel
theorem dL_law_676 : decode cL_law 676 = .ok (.aload_n 2, 1) := by decide +kernel
theorem dL_law_677 : decode cL_law 677 = .ok (.invokevirtual 92, 3) := by decide +kernel
theorem dL_law_680 : decode cL_law 680 = .ok (.iload 5, 2) := by decide +kernel
theorem dL_law_682 : decode cL_law 682 = .ok (.if_icmp .eq 5, 3) := by decide +kernel
theorem dL_law_685 : decode cL_law 685 = .ok (.iconst 0, 1) := by decide +kernel
theorem dL_law_686 : decode cL_law 686 = .ok (.ireturn, 1) := by decide +kernel
theorem dL_law_687 : decode cL_law 687 = .ok (.iload 5, 2) := by decide +kernel
theorem dL_law_689 : decode cL_law 689 = .ok (.ifCond .ne 15, 3) := by decide +kernel
theorem dL_law_692 : decode cL_law 692 = .ok (.aload_n 3, 1) := by decide +kernel
theorem dL_law_693 : decode cL_law 693 = .ok (.iconst 0, 1) := by decide +kernel
theorem dL_law_694 : decode cL_law 694 = .ok (.laload, 1) := by decide +kernel
theorem dL_law_695 : decode cL_law 695 = .ok (.iload 6, 2) := by decide +kernel
theorem dL_law_697 : decode cL_law 697 = .ok (.i2l, 1) := by decide +kernel
theorem dL_law_698 : decode cL_law 698 = .ok (.lcmp, 1) := by decide +kernel
theorem dL_law_699 : decode cL_law 699 = .ok (.ifCond .eq 5, 3) := by decide +kernel
theorem dL_law_702 : decode cL_law 702 = .ok (.iconst 0, 1) := by decide +kernel
theorem dL_law_703 : decode cL_law 703 = .ok (.ireturn, 1) := by decide +kernel
theorem dL_law_704 : decode cL_law 704 = .ok (.goto 638, 3) := by decide +kernel
theorem dL_law_707 : decode cL_law 707 = .ok (.aload_n 1, 1) := by decide +kernel
theorem dL_law_708 : decode cL_law 708 = .ok (.aload_n 0, 1) := by decide +kernel
theorem dL_law_709 : decode cL_law 709 = .ok (.iload 4, 2) := by decide +kernel
theorem dL_law_711 : decode cL_law 711 = .ok (.iconst 1, 1) := by decide +kernel
theorem dL_law_712 : decode cL_law 712 = .ok (.iadd, 1) := by decide +kernel
theorem dL_law_713 : decode cL_law 713 = .ok (.iaload, 1) := by decide +kernel
theorem dL_law_714 : decode cL_law 714 = .ok (.aload_n 3, 1) := by decide +kernel
theorem dL_law_715 : decode cL_law 715 = .ok (.invokestatic 139, 3) := by decide +kernel
theorem dL_law_718 : decode cL_law 718 = .ok (.istore 5, 2) := by decide +kernel
theorem dL_law_720 : decode cL_law 720 = .ok (.aload_n 2, 1) := by decide +kernel
theorem dL_law_721 : decode cL_law 721 = .ok (.aload_n 0, 1) := by decide +kernel
theorem dL_law_722 : decode cL_law 722 = .ok (.iload 4, 2) := by decide +kernel
theorem dL_law_724 : decode cL_law 724 = .ok (.iconst 1, 1) := by decide +kernel
theorem dL_law_725 : decode cL_law 725 = .ok (.iadd, 1) := by decide +kernel
theorem dL_law_726 : decode cL_law 726 = .ok (.iaload, 1) := by decide +kernel
theorem dL_law_727 : decode cL_law 727 = .ok (.invokevirtual 142, 3) := by decide +kernel
theorem dL_law_730 : decode cL_law 730 = .ok (.istore 6, 2) := by decide +kernel
theorem dL_law_732 : decode cL_law 732 = .ok (.aload_n 2, 1) := by decide +kernel
theorem dL_law_733 : decode cL_law 733 = .ok (.invokevirtual 92, 3) := by decide +kernel
theorem dL_law_736 : decode cL_law 736 = .ok (.iload 5, 2) := by decide +kernel
theorem dL_law_738 : decode cL_law 738 = .ok (.if_icmp .eq 5, 3) := by decide +kernel
theorem dL_law_741 : decode cL_law 741 = .ok (.iconst 0, 1) := by decide +kernel
theorem dL_law_742 : decode cL_law 742 = .ok (.ireturn, 1) := by decide +kernel
theorem dL_law_743 : decode cL_law 743 = .ok (.iload 5, 2) := by decide +kernel
theorem dL_law_745 : decode cL_law 745 = .ok (.ifCond .ne 15, 3) := by decide +kernel
theorem dL_law_748 : decode cL_law 748 = .ok (.aload_n 3, 1) := by decide +kernel
theorem dL_law_749 : decode cL_law 749 = .ok (.iconst 0, 1) := by decide +kernel
theorem dL_law_750 : decode cL_law 750 = .ok (.laload, 1) := by decide +kernel
theorem dL_law_751 : decode cL_law 751 = .ok (.iload 6, 2) := by decide +kernel
theorem dL_law_753 : decode cL_law 753 = .ok (.i2l, 1) := by decide +kernel
theorem dL_law_754 : decode cL_law 754 = .ok (.lcmp, 1) := by decide +kernel
theorem dL_law_755 : decode cL_law 755 = .ok (.ifCond .eq 5, 3) := by decide +kernel
theorem dL_law_758 : decode cL_law 758 = .ok (.iconst 0, 1) := by decide +kernel
theorem dL_law_759 : decode cL_law 759 = .ok (.ireturn, 1) := by decide +kernel
theorem dL_law_760 : decode cL_law 760 = .ok (.goto 582, 3) := by decide +kernel
theorem dL_law_763 : decode cL_law 763 = .ok (.aload_n 1, 1) := by decide +kernel
theorem dL_law_764 : decode cL_law 764 = .ok (.aload_n 0, 1) := by decide +kernel
theorem dL_law_765 : decode cL_law 765 = .ok (.iload 4, 2) := by decide +kernel
theorem dL_law_767 : decode cL_law 767 = .ok (.iconst 1, 1) := by decide +kernel
theorem dL_law_768 : decode cL_law 768 = .ok (.iadd, 1) := by decide +kernel
theorem dL_law_769 : decode cL_law 769 = .ok (.iaload, 1) := by decide +kernel
theorem dL_law_770 : decode cL_law 770 = .ok (.aload_n 3, 1) := by decide +kernel
theorem dL_law_771 : decode cL_law 771 = .ok (.invokestatic 143, 3) := by decide +kernel
theorem dL_law_774 : decode cL_law 774 = .ok (.istore 5, 2) := by decide +kernel
theorem dL_law_776 : decode cL_law 776 = .ok (.aload_n 2, 1) := by decide +kernel
theorem dL_law_777 : decode cL_law 777 = .ok (.aload_n 0, 1) := by decide +kernel
theorem dL_law_778 : decode cL_law 778 = .ok (.iload 4, 2) := by decide +kernel
theorem dL_law_780 : decode cL_law 780 = .ok (.iconst 1, 1) := by decide +kernel
theorem dL_law_781 : decode cL_law 781 = .ok (.iadd, 1) := by decide +kernel
theorem dL_law_782 : decode cL_law 782 = .ok (.iaload, 1) := by decide +kernel
theorem dL_law_783 : decode cL_law 783 = .ok (.invokevirtual 145, 3) := by decide +kernel
theorem dL_law_786 : decode cL_law 786 = .ok (.istore 6, 2) := by decide +kernel
theorem dL_law_788 : decode cL_law 788 = .ok (.aload_n 2, 1) := by decide +kernel
theorem dL_law_789 : decode cL_law 789 = .ok (.invokevirtual 92, 3) := by decide +kernel
theorem dL_law_792 : decode cL_law 792 = .ok (.iload 5, 2) := by decide +kernel
theorem dL_law_794 : decode cL_law 794 = .ok (.if_icmp .eq 5, 3) := by decide +kernel
theorem dL_law_797 : decode cL_law 797 = .ok (.iconst 0, 1) := by decide +kernel
theorem dL_law_798 : decode cL_law 798 = .ok (.ireturn, 1) := by decide +kernel
theorem dL_law_799 : decode cL_law 799 = .ok (.iload 5, 2) := by decide +kernel
theorem dL_law_801 : decode cL_law 801 = .ok (.ifCond .ne 15, 3) := by decide +kernel
theorem dL_law_804 : decode cL_law 804 = .ok (.aload_n 3, 1) := by decide +kernel
theorem dL_law_805 : decode cL_law 805 = .ok (.iconst 0, 1) := by decide +kernel
theorem dL_law_806 : decode cL_law 806 = .ok (.laload, 1) := by decide +kernel
theorem dL_law_807 : decode cL_law 807 = .ok (.iload 6, 2) := by decide +kernel
theorem dL_law_809 : decode cL_law 809 = .ok (.i2l, 1) := by decide +kernel
theorem dL_law_810 : decode cL_law 810 = .ok (.lcmp, 1) := by decide +kernel
theorem dL_law_811 : decode cL_law 811 = .ok (.ifCond .eq 5, 3) := by decide +kernel
theorem dL_law_814 : decode cL_law 814 = .ok (.iconst 0, 1) := by decide +kernel
theorem dL_law_815 : decode cL_law 815 = .ok (.ireturn, 1) := by decide +kernel
theorem dL_law_816 : decode cL_law 816 = .ok (.goto 526, 3) := by decide +kernel
theorem dL_law_819 : decode cL_law 819 = .ok (.aload_n 1, 1) := by decide +kernel
theorem dL_law_820 : decode cL_law 820 = .ok (.aload_n 0, 1) := by decide +kernel
theorem dL_law_821 : decode cL_law 821 = .ok (.iload 4, 2) := by decide +kernel
theorem dL_law_823 : decode cL_law 823 = .ok (.iconst 1, 1) := by decide +kernel
theorem dL_law_824 : decode cL_law 824 = .ok (.iadd, 1) := by decide +kernel
theorem dL_law_825 : decode cL_law 825 = .ok (.iaload, 1) := by decide +kernel
theorem dL_law_826 : decode cL_law 826 = .ok (.aload_n 3, 1) := by decide +kernel
theorem dL_law_827 : decode cL_law 827 = .ok (.invokestatic 146, 3) := by decide +kernel
theorem dL_law_830 : decode cL_law 830 = .ok (.istore 5, 2) := by decide +kernel
theorem dL_law_832 : decode cL_law 832 = .ok (.aload_n 2, 1) := by decide +kernel
theorem dL_law_833 : decode cL_law 833 = .ok (.aload_n 0, 1) := by decide +kernel
theorem dL_law_834 : decode cL_law 834 = .ok (.iload 4, 2) := by decide +kernel
theorem dL_law_836 : decode cL_law 836 = .ok (.iconst 1, 1) := by decide +kernel
theorem dL_law_837 : decode cL_law 837 = .ok (.iadd, 1) := by decide +kernel
theorem dL_law_838 : decode cL_law 838 = .ok (.iaload, 1) := by decide +kernel
theorem dL_law_839 : decode cL_law 839 = .ok (.invokevirtual 148, 3) := by decide +kernel
theorem dL_law_842 : decode cL_law 842 = .ok (.istore 6, 2) := by decide +kernel
theorem dL_law_844 : decode cL_law 844 = .ok (.aload_n 2, 1) := by decide +kernel
theorem dL_law_845 : decode cL_law 845 = .ok (.invokevirtual 92, 3) := by decide +kernel
theorem dL_law_848 : decode cL_law 848 = .ok (.iload 5, 2) := by decide +kernel
theorem dL_law_850 : decode cL_law 850 = .ok (.if_icmp .eq 5, 3) := by decide +kernel
theorem dL_law_853 : decode cL_law 853 = .ok (.iconst 0, 1) := by decide +kernel
theorem dL_law_854 : decode cL_law 854 = .ok (.ireturn, 1) := by decide +kernel
theorem dL_law_855 : decode cL_law 855 = .ok (.iload 5, 2) := by decide +kernel
theorem dL_law_857 : decode cL_law 857 = .ok (.ifCond .ne 22, 3) := by decide +kernel
theorem dL_law_860 : decode cL_law 860 = .ok (.aload_n 3, 1) := by decide +kernel
theorem dL_law_861 : decode cL_law 861 = .ok (.iconst 0, 1) := by decide +kernel
theorem dL_law_862 : decode cL_law 862 = .ok (.laload, 1) := by decide +kernel
theorem dL_law_863 : decode cL_law 863 = .ok (.iload 6, 2) := by decide +kernel
theorem dL_law_865 : decode cL_law 865 = .ok (.ifCond .eq 7, 3) := by decide +kernel
theorem dL_law_868 : decode cL_law 868 = .ok (.lconst 1, 1) := by decide +kernel
theorem dL_law_869 : decode cL_law 869 = .ok (.goto 4, 3) := by decide +kernel
theorem dL_law_872 : decode cL_law 872 = .ok (.lconst 0, 1) := by decide +kernel
theorem dL_law_873 : decode cL_law 873 = .ok (.lcmp, 1) := by decide +kernel
theorem dL_law_874 : decode cL_law 874 = .ok (.ifCond .eq 5, 3) := by decide +kernel
theorem dL_law_877 : decode cL_law 877 = .ok (.iconst 0, 1) := by decide +kernel
theorem dL_law_878 : decode cL_law 878 = .ok (.ireturn, 1) := by decide +kernel
theorem dL_law_879 : decode cL_law 879 = .ok (.goto 463, 3) := by decide +kernel
theorem dL_law_882 : decode cL_law 882 = .ok (.aload_n 1, 1) := by decide +kernel
theorem dL_law_883 : decode cL_law 883 = .ok (.aload_n 0, 1) := by decide +kernel
theorem dL_law_884 : decode cL_law 884 = .ok (.iload 4, 2) := by decide +kernel
theorem dL_law_886 : decode cL_law 886 = .ok (.iconst 1, 1) := by decide +kernel
theorem dL_law_887 : decode cL_law 887 = .ok (.iadd, 1) := by decide +kernel
theorem dL_law_888 : decode cL_law 888 = .ok (.iaload, 1) := by decide +kernel
theorem dL_law_889 : decode cL_law 889 = .ok (.aload_n 0, 1) := by decide +kernel
theorem dL_law_890 : decode cL_law 890 = .ok (.iload 4, 2) := by decide +kernel
theorem dL_law_892 : decode cL_law 892 = .ok (.iconst 2, 1) := by decide +kernel
theorem dL_law_893 : decode cL_law 893 = .ok (.iadd, 1) := by decide +kernel
theorem dL_law_894 : decode cL_law 894 = .ok (.iaload, 1) := by decide +kernel
theorem dL_law_895 : decode cL_law 895 = .ok (.aload_n 0, 1) := by decide +kernel
theorem dL_law_896 : decode cL_law 896 = .ok (.iload 4, 2) := by decide +kernel
theorem dL_law_898 : decode cL_law 898 = .ok (.iconst 3, 1) := by decide +kernel
theorem dL_law_899 : decode cL_law 899 = .ok (.iadd, 1) := by decide +kernel
theorem dL_law_900 : decode cL_law 900 = .ok (.iaload, 1) := by decide +kernel
theorem dL_law_901 : decode cL_law 901 = .ok (.aload_n 3, 1) := by decide +kernel
theorem dL_law_902 : decode cL_law 902 = .ok (.invokestatic 149, 3) := by decide +kernel
theorem dL_law_905 : decode cL_law 905 = .ok (.istore 5, 2) := by decide +kernel
theorem dL_law_907 : decode cL_law 907 = .ok (.aload_n 2, 1) := by decide +kernel
theorem dL_law_908 : decode cL_law 908 = .ok (.aload_n 0, 1) := by decide +kernel
theorem dL_law_909 : decode cL_law 909 = .ok (.iload 4, 2) := by decide +kernel
theorem dL_law_911 : decode cL_law 911 = .ok (.iconst 1, 1) := by decide +kernel
theorem dL_law_912 : decode cL_law 912 = .ok (.iadd, 1) := by decide +kernel
theorem dL_law_913 : decode cL_law 913 = .ok (.iaload, 1) := by decide +kernel
theorem dL_law_914 : decode cL_law 914 = .ok (.aload_n 0, 1) := by decide +kernel
theorem dL_law_915 : decode cL_law 915 = .ok (.iload 4, 2) := by decide +kernel
theorem dL_law_917 : decode cL_law 917 = .ok (.iconst 2, 1) := by decide +kernel
theorem dL_law_918 : decode cL_law 918 = .ok (.iadd, 1) := by decide +kernel
theorem dL_law_919 : decode cL_law 919 = .ok (.iaload, 1) := by decide +kernel
theorem dL_law_920 : decode cL_law 920 = .ok (.aload_n 0, 1) := by decide +kernel
theorem dL_law_921 : decode cL_law 921 = .ok (.iload 4, 2) := by decide +kernel
theorem dL_law_923 : decode cL_law 923 = .ok (.iconst 3, 1) := by decide +kernel
theorem dL_law_924 : decode cL_law 924 = .ok (.iadd, 1) := by decide +kernel
theorem dL_law_925 : decode cL_law 925 = .ok (.iaload, 1) := by decide +kernel
theorem dL_law_926 : decode cL_law 926 = .ok (.invokevirtual 152, 3) := by decide +kernel
theorem dL_law_929 : decode cL_law 929 = .ok (.istore 6, 2) := by decide +kernel
theorem dL_law_931 : decode cL_law 931 = .ok (.aload_n 2, 1) := by decide +kernel
theorem dL_law_932 : decode cL_law 932 = .ok (.invokevirtual 92, 3) := by decide +kernel
theorem dL_law_935 : decode cL_law 935 = .ok (.iload 5, 2) := by decide +kernel
theorem dL_law_937 : decode cL_law 937 = .ok (.if_icmp .eq 5, 3) := by decide +kernel
theorem dL_law_940 : decode cL_law 940 = .ok (.iconst 0, 1) := by decide +kernel
theorem dL_law_941 : decode cL_law 941 = .ok (.ireturn, 1) := by decide +kernel
theorem dL_law_942 : decode cL_law 942 = .ok (.iload 5, 2) := by decide +kernel
theorem dL_law_944 : decode cL_law 944 = .ok (.ifCond .ne 15, 3) := by decide +kernel
theorem dL_law_947 : decode cL_law 947 = .ok (.aload_n 3, 1) := by decide +kernel
theorem dL_law_948 : decode cL_law 948 = .ok (.iconst 0, 1) := by decide +kernel
theorem dL_law_949 : decode cL_law 949 = .ok (.laload, 1) := by decide +kernel
theorem dL_law_950 : decode cL_law 950 = .ok (.iload 6, 2) := by decide +kernel
theorem dL_law_952 : decode cL_law 952 = .ok (.i2l, 1) := by decide +kernel
theorem dL_law_953 : decode cL_law 953 = .ok (.lcmp, 1) := by decide +kernel
theorem dL_law_954 : decode cL_law 954 = .ok (.ifCond .eq 5, 3) := by decide +kernel
theorem dL_law_957 : decode cL_law 957 = .ok (.iconst 0, 1) := by decide +kernel
theorem dL_law_958 : decode cL_law 958 = .ok (.ireturn, 1) := by decide +kernel
theorem dL_law_959 : decode cL_law 959 = .ok (.goto 383, 3) := by decide +kernel
theorem dL_law_962 : decode cL_law 962 = .ok (.aload_n 1, 1) := by decide +kernel
theorem dL_law_963 : decode cL_law 963 = .ok (.aload_n 0, 1) := by decide +kernel
theorem dL_law_964 : decode cL_law 964 = .ok (.iload 4, 2) := by decide +kernel
theorem dL_law_966 : decode cL_law 966 = .ok (.iconst 1, 1) := by decide +kernel
theorem dL_law_967 : decode cL_law 967 = .ok (.iadd, 1) := by decide +kernel
theorem dL_law_968 : decode cL_law 968 = .ok (.iaload, 1) := by decide +kernel
theorem dL_law_969 : decode cL_law 969 = .ok (.aload_n 0, 1) := by decide +kernel
theorem dL_law_970 : decode cL_law 970 = .ok (.iload 4, 2) := by decide +kernel
theorem dL_law_972 : decode cL_law 972 = .ok (.iconst 2, 1) := by decide +kernel
theorem dL_law_973 : decode cL_law 973 = .ok (.iadd, 1) := by decide +kernel
theorem dL_law_974 : decode cL_law 974 = .ok (.iaload, 1) := by decide +kernel
theorem dL_law_975 : decode cL_law 975 = .ok (.aload_n 0, 1) := by decide +kernel
theorem dL_law_976 : decode cL_law 976 = .ok (.iload 4, 2) := by decide +kernel
theorem dL_law_978 : decode cL_law 978 = .ok (.iconst 3, 1) := by decide +kernel
theorem dL_law_979 : decode cL_law 979 = .ok (.iadd, 1) := by decide +kernel
theorem dL_law_980 : decode cL_law 980 = .ok (.iaload, 1) := by decide +kernel
theorem dL_law_981 : decode cL_law 981 = .ok (.aload_n 3, 1) := by decide +kernel
theorem dL_law_982 : decode cL_law 982 = .ok (.invokestatic 153, 3) := by decide +kernel
theorem dL_law_985 : decode cL_law 985 = .ok (.istore 5, 2) := by decide +kernel
theorem dL_law_987 : decode cL_law 987 = .ok (.aload_n 2, 1) := by decide +kernel
theorem dL_law_988 : decode cL_law 988 = .ok (.aload_n 0, 1) := by decide +kernel
theorem dL_law_989 : decode cL_law 989 = .ok (.iload 4, 2) := by decide +kernel
theorem dL_law_991 : decode cL_law 991 = .ok (.iconst 1, 1) := by decide +kernel
theorem dL_law_992 : decode cL_law 992 = .ok (.iadd, 1) := by decide +kernel
theorem dL_law_993 : decode cL_law 993 = .ok (.iaload, 1) := by decide +kernel
theorem dL_law_994 : decode cL_law 994 = .ok (.aload_n 0, 1) := by decide +kernel
theorem dL_law_995 : decode cL_law 995 = .ok (.iload 4, 2) := by decide +kernel
theorem dL_law_997 : decode cL_law 997 = .ok (.iconst 2, 1) := by decide +kernel
theorem dL_law_998 : decode cL_law 998 = .ok (.iadd, 1) := by decide +kernel
theorem dL_law_999 : decode cL_law 999 = .ok (.iaload, 1) := by decide +kernel
theorem dL_law_1000 : decode cL_law 1000 = .ok (.aload_n 0, 1) := by decide +kernel
theorem dL_law_1001 : decode cL_law 1001 = .ok (.iload 4, 2) := by decide +kernel
theorem dL_law_1003 : decode cL_law 1003 = .ok (.iconst 3, 1) := by decide +kernel
theorem dL_law_1004 : decode cL_law 1004 = .ok (.iadd, 1) := by decide +kernel
theorem dL_law_1005 : decode cL_law 1005 = .ok (.iaload, 1) := by decide +kernel
theorem dL_law_1006 : decode cL_law 1006 = .ok (.invokevirtual 155, 3) := by decide +kernel
theorem dL_law_1009 : decode cL_law 1009 = .ok (.istore 6, 2) := by decide +kernel
theorem dL_law_1011 : decode cL_law 1011 = .ok (.aload_n 2, 1) := by decide +kernel
theorem dL_law_1012 : decode cL_law 1012 = .ok (.invokevirtual 92, 3) := by decide +kernel
theorem dL_law_1015 : decode cL_law 1015 = .ok (.iload 5, 2) := by decide +kernel
theorem dL_law_1017 : decode cL_law 1017 = .ok (.if_icmp .eq 5, 3) := by decide +kernel
theorem dL_law_1020 : decode cL_law 1020 = .ok (.iconst 0, 1) := by decide +kernel
theorem dL_law_1021 : decode cL_law 1021 = .ok (.ireturn, 1) := by decide +kernel
theorem dL_law_1022 : decode cL_law 1022 = .ok (.iload 5, 2) := by decide +kernel
theorem dL_law_1024 : decode cL_law 1024 = .ok (.ifCond .ne 15, 3) := by decide +kernel
theorem dL_law_1027 : decode cL_law 1027 = .ok (.aload_n 3, 1) := by decide +kernel
theorem dL_law_1028 : decode cL_law 1028 = .ok (.iconst 0, 1) := by decide +kernel
theorem dL_law_1029 : decode cL_law 1029 = .ok (.laload, 1) := by decide +kernel
theorem dL_law_1030 : decode cL_law 1030 = .ok (.iload 6, 2) := by decide +kernel
theorem dL_law_1032 : decode cL_law 1032 = .ok (.i2l, 1) := by decide +kernel
theorem dL_law_1033 : decode cL_law 1033 = .ok (.lcmp, 1) := by decide +kernel
theorem dL_law_1034 : decode cL_law 1034 = .ok (.ifCond .eq 5, 3) := by decide +kernel
theorem dL_law_1037 : decode cL_law 1037 = .ok (.iconst 0, 1) := by decide +kernel
theorem dL_law_1038 : decode cL_law 1038 = .ok (.ireturn, 1) := by decide +kernel
theorem dL_law_1039 : decode cL_law 1039 = .ok (.goto 303, 3) := by decide +kernel
theorem dL_law_1042 : decode cL_law 1042 = .ok (.aload_n 1, 1) := by decide +kernel
theorem dL_law_1043 : decode cL_law 1043 = .ok (.aload_n 0, 1) := by decide +kernel
theorem dL_law_1044 : decode cL_law 1044 = .ok (.iload 4, 2) := by decide +kernel
theorem dL_law_1046 : decode cL_law 1046 = .ok (.iconst 1, 1) := by decide +kernel
theorem dL_law_1047 : decode cL_law 1047 = .ok (.iadd, 1) := by decide +kernel
theorem dL_law_1048 : decode cL_law 1048 = .ok (.iaload, 1) := by decide +kernel
theorem dL_law_1049 : decode cL_law 1049 = .ok (.aload_n 0, 1) := by decide +kernel
theorem dL_law_1050 : decode cL_law 1050 = .ok (.iload 4, 2) := by decide +kernel
theorem dL_law_1052 : decode cL_law 1052 = .ok (.iconst 2, 1) := by decide +kernel
theorem dL_law_1053 : decode cL_law 1053 = .ok (.iadd, 1) := by decide +kernel
theorem dL_law_1054 : decode cL_law 1054 = .ok (.iaload, 1) := by decide +kernel
theorem dL_law_1055 : decode cL_law 1055 = .ok (.aload_n 0, 1) := by decide +kernel
theorem dL_law_1056 : decode cL_law 1056 = .ok (.iload 4, 2) := by decide +kernel
theorem dL_law_1058 : decode cL_law 1058 = .ok (.iconst 3, 1) := by decide +kernel
theorem dL_law_1059 : decode cL_law 1059 = .ok (.iadd, 1) := by decide +kernel
theorem dL_law_1060 : decode cL_law 1060 = .ok (.iaload, 1) := by decide +kernel
theorem dL_law_1061 : decode cL_law 1061 = .ok (.aload_n 3, 1) := by decide +kernel
theorem dL_law_1062 : decode cL_law 1062 = .ok (.invokestatic 156, 3) := by decide +kernel
theorem dL_law_1065 : decode cL_law 1065 = .ok (.istore 5, 2) := by decide +kernel
theorem dL_law_1067 : decode cL_law 1067 = .ok (.aload_n 2, 1) := by decide +kernel
theorem dL_law_1068 : decode cL_law 1068 = .ok (.aload_n 0, 1) := by decide +kernel
theorem dL_law_1069 : decode cL_law 1069 = .ok (.iload 4, 2) := by decide +kernel
theorem dL_law_1071 : decode cL_law 1071 = .ok (.iconst 1, 1) := by decide +kernel
theorem dL_law_1072 : decode cL_law 1072 = .ok (.iadd, 1) := by decide +kernel
theorem dL_law_1073 : decode cL_law 1073 = .ok (.iaload, 1) := by decide +kernel
theorem dL_law_1074 : decode cL_law 1074 = .ok (.aload_n 0, 1) := by decide +kernel
theorem dL_law_1075 : decode cL_law 1075 = .ok (.iload 4, 2) := by decide +kernel
theorem dL_law_1077 : decode cL_law 1077 = .ok (.iconst 2, 1) := by decide +kernel
theorem dL_law_1078 : decode cL_law 1078 = .ok (.iadd, 1) := by decide +kernel
theorem dL_law_1079 : decode cL_law 1079 = .ok (.iaload, 1) := by decide +kernel
theorem dL_law_1080 : decode cL_law 1080 = .ok (.aload_n 0, 1) := by decide +kernel
theorem dL_law_1081 : decode cL_law 1081 = .ok (.iload 4, 2) := by decide +kernel
theorem dL_law_1083 : decode cL_law 1083 = .ok (.iconst 3, 1) := by decide +kernel
theorem dL_law_1084 : decode cL_law 1084 = .ok (.iadd, 1) := by decide +kernel
theorem dL_law_1085 : decode cL_law 1085 = .ok (.iaload, 1) := by decide +kernel
theorem dL_law_1086 : decode cL_law 1086 = .ok (.invokevirtual 158, 3) := by decide +kernel
theorem dL_law_1089 : decode cL_law 1089 = .ok (.istore 6, 2) := by decide +kernel
theorem dL_law_1091 : decode cL_law 1091 = .ok (.aload_n 2, 1) := by decide +kernel
theorem dL_law_1092 : decode cL_law 1092 = .ok (.invokevirtual 92, 3) := by decide +kernel
theorem dL_law_1095 : decode cL_law 1095 = .ok (.iload 5, 2) := by decide +kernel
theorem dL_law_1097 : decode cL_law 1097 = .ok (.if_icmp .eq 5, 3) := by decide +kernel
theorem dL_law_1100 : decode cL_law 1100 = .ok (.iconst 0, 1) := by decide +kernel
theorem dL_law_1101 : decode cL_law 1101 = .ok (.ireturn, 1) := by decide +kernel
theorem dL_law_1102 : decode cL_law 1102 = .ok (.iload 5, 2) := by decide +kernel
theorem dL_law_1104 : decode cL_law 1104 = .ok (.ifCond .ne 15, 3) := by decide +kernel
theorem dL_law_1107 : decode cL_law 1107 = .ok (.aload_n 3, 1) := by decide +kernel
theorem dL_law_1108 : decode cL_law 1108 = .ok (.iconst 0, 1) := by decide +kernel
theorem dL_law_1109 : decode cL_law 1109 = .ok (.laload, 1) := by decide +kernel
theorem dL_law_1110 : decode cL_law 1110 = .ok (.iload 6, 2) := by decide +kernel
theorem dL_law_1112 : decode cL_law 1112 = .ok (.i2l, 1) := by decide +kernel
theorem dL_law_1113 : decode cL_law 1113 = .ok (.lcmp, 1) := by decide +kernel
theorem dL_law_1114 : decode cL_law 1114 = .ok (.ifCond .eq 5, 3) := by decide +kernel
theorem dL_law_1117 : decode cL_law 1117 = .ok (.iconst 0, 1) := by decide +kernel
theorem dL_law_1118 : decode cL_law 1118 = .ok (.ireturn, 1) := by decide +kernel
theorem dL_law_1119 : decode cL_law 1119 = .ok (.goto 223, 3) := by decide +kernel
theorem dL_law_1122 : decode cL_law 1122 = .ok (.aload_n 1, 1) := by decide +kernel
theorem dL_law_1123 : decode cL_law 1123 = .ok (.aload_n 0, 1) := by decide +kernel
theorem dL_law_1124 : decode cL_law 1124 = .ok (.iload 4, 2) := by decide +kernel
theorem dL_law_1126 : decode cL_law 1126 = .ok (.iconst 1, 1) := by decide +kernel
theorem dL_law_1127 : decode cL_law 1127 = .ok (.iadd, 1) := by decide +kernel
theorem dL_law_1128 : decode cL_law 1128 = .ok (.iaload, 1) := by decide +kernel
theorem dL_law_1129 : decode cL_law 1129 = .ok (.aload_n 0, 1) := by decide +kernel
theorem dL_law_1130 : decode cL_law 1130 = .ok (.iload 4, 2) := by decide +kernel
theorem dL_law_1132 : decode cL_law 1132 = .ok (.iconst 2, 1) := by decide +kernel
theorem dL_law_1133 : decode cL_law 1133 = .ok (.iadd, 1) := by decide +kernel
theorem dL_law_1134 : decode cL_law 1134 = .ok (.iaload, 1) := by decide +kernel
theorem dL_law_1135 : decode cL_law 1135 = .ok (.aload_n 0, 1) := by decide +kernel
theorem dL_law_1136 : decode cL_law 1136 = .ok (.iload 4, 2) := by decide +kernel
theorem dL_law_1138 : decode cL_law 1138 = .ok (.iconst 3, 1) := by decide +kernel
theorem dL_law_1139 : decode cL_law 1139 = .ok (.iadd, 1) := by decide +kernel
theorem dL_law_1140 : decode cL_law 1140 = .ok (.iaload, 1) := by decide +kernel
theorem dL_law_1141 : decode cL_law 1141 = .ok (.aload_n 3, 1) := by decide +kernel
theorem dL_law_1142 : decode cL_law 1142 = .ok (.invokestatic 159, 3) := by decide +kernel
theorem dL_law_1145 : decode cL_law 1145 = .ok (.istore 5, 2) := by decide +kernel
theorem dL_law_1147 : decode cL_law 1147 = .ok (.aload_n 2, 1) := by decide +kernel
theorem dL_law_1148 : decode cL_law 1148 = .ok (.aload_n 0, 1) := by decide +kernel
theorem dL_law_1149 : decode cL_law 1149 = .ok (.iload 4, 2) := by decide +kernel
theorem dL_law_1151 : decode cL_law 1151 = .ok (.iconst 1, 1) := by decide +kernel
theorem dL_law_1152 : decode cL_law 1152 = .ok (.iadd, 1) := by decide +kernel
theorem dL_law_1153 : decode cL_law 1153 = .ok (.iaload, 1) := by decide +kernel
theorem dL_law_1154 : decode cL_law 1154 = .ok (.aload_n 0, 1) := by decide +kernel
theorem dL_law_1155 : decode cL_law 1155 = .ok (.iload 4, 2) := by decide +kernel
theorem dL_law_1157 : decode cL_law 1157 = .ok (.iconst 2, 1) := by decide +kernel
theorem dL_law_1158 : decode cL_law 1158 = .ok (.iadd, 1) := by decide +kernel
theorem dL_law_1159 : decode cL_law 1159 = .ok (.iaload, 1) := by decide +kernel
theorem dL_law_1160 : decode cL_law 1160 = .ok (.aload_n 0, 1) := by decide +kernel
theorem dL_law_1161 : decode cL_law 1161 = .ok (.iload 4, 2) := by decide +kernel
theorem dL_law_1163 : decode cL_law 1163 = .ok (.iconst 3, 1) := by decide +kernel
theorem dL_law_1164 : decode cL_law 1164 = .ok (.iadd, 1) := by decide +kernel
theorem dL_law_1165 : decode cL_law 1165 = .ok (.iaload, 1) := by decide +kernel
theorem dL_law_1166 : decode cL_law 1166 = .ok (.invokevirtual 161, 3) := by decide +kernel
theorem dL_law_1169 : decode cL_law 1169 = .ok (.istore 6, 2) := by decide +kernel
theorem dL_law_1171 : decode cL_law 1171 = .ok (.aload_n 2, 1) := by decide +kernel
theorem dL_law_1172 : decode cL_law 1172 = .ok (.invokevirtual 92, 3) := by decide +kernel
theorem dL_law_1175 : decode cL_law 1175 = .ok (.iload 5, 2) := by decide +kernel
theorem dL_law_1177 : decode cL_law 1177 = .ok (.if_icmp .eq 5, 3) := by decide +kernel
theorem dL_law_1180 : decode cL_law 1180 = .ok (.iconst 0, 1) := by decide +kernel
theorem dL_law_1181 : decode cL_law 1181 = .ok (.ireturn, 1) := by decide +kernel
theorem dL_law_1182 : decode cL_law 1182 = .ok (.iload 5, 2) := by decide +kernel
theorem dL_law_1184 : decode cL_law 1184 = .ok (.ifCond .ne 15, 3) := by decide +kernel
theorem dL_law_1187 : decode cL_law 1187 = .ok (.aload_n 3, 1) := by decide +kernel
theorem dL_law_1188 : decode cL_law 1188 = .ok (.iconst 0, 1) := by decide +kernel
theorem dL_law_1189 : decode cL_law 1189 = .ok (.laload, 1) := by decide +kernel
theorem dL_law_1190 : decode cL_law 1190 = .ok (.iload 6, 2) := by decide +kernel
theorem dL_law_1192 : decode cL_law 1192 = .ok (.i2l, 1) := by decide +kernel
theorem dL_law_1193 : decode cL_law 1193 = .ok (.lcmp, 1) := by decide +kernel
theorem dL_law_1194 : decode cL_law 1194 = .ok (.ifCond .eq 5, 3) := by decide +kernel
theorem dL_law_1197 : decode cL_law 1197 = .ok (.iconst 0, 1) := by decide +kernel
theorem dL_law_1198 : decode cL_law 1198 = .ok (.ireturn, 1) := by decide +kernel
theorem dL_law_1199 : decode cL_law 1199 = .ok (.goto 143, 3) := by decide +kernel
theorem dL_law_1202 : decode cL_law 1202 = .ok (.aload_n 1, 1) := by decide +kernel
theorem dL_law_1203 : decode cL_law 1203 = .ok (.aload_n 0, 1) := by decide +kernel
theorem dL_law_1204 : decode cL_law 1204 = .ok (.iload 4, 2) := by decide +kernel
theorem dL_law_1206 : decode cL_law 1206 = .ok (.iconst 1, 1) := by decide +kernel
theorem dL_law_1207 : decode cL_law 1207 = .ok (.iadd, 1) := by decide +kernel
theorem dL_law_1208 : decode cL_law 1208 = .ok (.iaload, 1) := by decide +kernel
theorem dL_law_1209 : decode cL_law 1209 = .ok (.aload_n 0, 1) := by decide +kernel
theorem dL_law_1210 : decode cL_law 1210 = .ok (.iload 4, 2) := by decide +kernel
theorem dL_law_1212 : decode cL_law 1212 = .ok (.iconst 2, 1) := by decide +kernel
theorem dL_law_1213 : decode cL_law 1213 = .ok (.iadd, 1) := by decide +kernel
theorem dL_law_1214 : decode cL_law 1214 = .ok (.iaload, 1) := by decide +kernel
theorem dL_law_1215 : decode cL_law 1215 = .ok (.ifCond .eq 7, 3) := by decide +kernel
theorem dL_law_1218 : decode cL_law 1218 = .ok (.iconst 1, 1) := by decide +kernel
theorem dL_law_1219 : decode cL_law 1219 = .ok (.goto 4, 3) := by decide +kernel
theorem dL_law_1222 : decode cL_law 1222 = .ok (.iconst 0, 1) := by decide +kernel
theorem dL_law_1223 : decode cL_law 1223 = .ok (.aload_n 3, 1) := by decide +kernel
theorem dL_law_1224 : decode cL_law 1224 = .ok (.invokestatic 162, 3) := by decide +kernel
theorem dL_law_1227 : decode cL_law 1227 = .ok (.istore 5, 2) := by decide +kernel
theorem dL_law_1229 : decode cL_law 1229 = .ok (.aload_n 2, 1) := by decide +kernel
theorem dL_law_1230 : decode cL_law 1230 = .ok (.aload_n 0, 1) := by decide +kernel
theorem dL_law_1231 : decode cL_law 1231 = .ok (.iload 4, 2) := by decide +kernel
theorem dL_law_1233 : decode cL_law 1233 = .ok (.iconst 1, 1) := by decide +kernel
theorem dL_law_1234 : decode cL_law 1234 = .ok (.iadd, 1) := by decide +kernel
theorem dL_law_1235 : decode cL_law 1235 = .ok (.iaload, 1) := by decide +kernel
theorem dL_law_1236 : decode cL_law 1236 = .ok (.aload_n 0, 1) := by decide +kernel
theorem dL_law_1237 : decode cL_law 1237 = .ok (.iload 4, 2) := by decide +kernel
theorem dL_law_1239 : decode cL_law 1239 = .ok (.iconst 2, 1) := by decide +kernel
theorem dL_law_1240 : decode cL_law 1240 = .ok (.iadd, 1) := by decide +kernel
theorem dL_law_1241 : decode cL_law 1241 = .ok (.iaload, 1) := by decide +kernel
theorem dL_law_1242 : decode cL_law 1242 = .ok (.ifCond .eq 7, 3) := by decide +kernel
theorem dL_law_1245 : decode cL_law 1245 = .ok (.iconst 1, 1) := by decide +kernel
theorem dL_law_1246 : decode cL_law 1246 = .ok (.goto 4, 3) := by decide +kernel
theorem dL_law_1249 : decode cL_law 1249 = .ok (.iconst 0, 1) := by decide +kernel
theorem dL_law_1250 : decode cL_law 1250 = .ok (.invokevirtual 165, 3) := by decide +kernel
theorem dL_law_1253 : decode cL_law 1253 = .ok (.istore 6, 2) := by decide +kernel
theorem dL_law_1255 : decode cL_law 1255 = .ok (.aload_n 2, 1) := by decide +kernel
theorem dL_law_1256 : decode cL_law 1256 = .ok (.invokevirtual 92, 3) := by decide +kernel
theorem dL_law_1259 : decode cL_law 1259 = .ok (.iload 5, 2) := by decide +kernel
theorem dL_law_1261 : decode cL_law 1261 = .ok (.if_icmp .eq 5, 3) := by decide +kernel
theorem dL_law_1264 : decode cL_law 1264 = .ok (.iconst 0, 1) := by decide +kernel
theorem dL_law_1265 : decode cL_law 1265 = .ok (.ireturn, 1) := by decide +kernel
theorem dL_law_1266 : decode cL_law 1266 = .ok (.iload 5, 2) := by decide +kernel
theorem dL_law_1268 : decode cL_law 1268 = .ok (.ifCond .ne 15, 3) := by decide +kernel
theorem dL_law_1271 : decode cL_law 1271 = .ok (.aload_n 3, 1) := by decide +kernel
theorem dL_law_1272 : decode cL_law 1272 = .ok (.iconst 0, 1) := by decide +kernel
theorem dL_law_1273 : decode cL_law 1273 = .ok (.laload, 1) := by decide +kernel
theorem dL_law_1274 : decode cL_law 1274 = .ok (.iload 6, 2) := by decide +kernel
theorem dL_law_1276 : decode cL_law 1276 = .ok (.i2l, 1) := by decide +kernel
theorem dL_law_1277 : decode cL_law 1277 = .ok (.lcmp, 1) := by decide +kernel
theorem dL_law_1278 : decode cL_law 1278 = .ok (.ifCond .eq 5, 3) := by decide +kernel
theorem dL_law_1281 : decode cL_law 1281 = .ok (.iconst 0, 1) := by decide +kernel
theorem dL_law_1282 : decode cL_law 1282 = .ok (.ireturn, 1) := by decide +kernel
theorem dL_law_1283 : decode cL_law 1283 = .ok (.goto 59, 3) := by decide +kernel
theorem dL_law_1286 : decode cL_law 1286 = .ok (.aload_n 1, 1) := by decide +kernel
theorem dL_law_1287 : decode cL_law 1287 = .ok (.aload_n 0, 1) := by decide +kernel
theorem dL_law_1288 : decode cL_law 1288 = .ok (.iload 4, 2) := by decide +kernel
theorem dL_law_1290 : decode cL_law 1290 = .ok (.iconst 1, 1) := by decide +kernel
theorem dL_law_1291 : decode cL_law 1291 = .ok (.iadd, 1) := by decide +kernel
theorem dL_law_1292 : decode cL_law 1292 = .ok (.iaload, 1) := by decide +kernel
theorem dL_law_1293 : decode cL_law 1293 = .ok (.aload_n 3, 1) := by decide +kernel
theorem dL_law_1294 : decode cL_law 1294 = .ok (.invokestatic 166, 3) := by decide +kernel
theorem dL_law_1297 : decode cL_law 1297 = .ok (.istore 5, 2) := by decide +kernel
theorem dL_law_1299 : decode cL_law 1299 = .ok (.aload_n 2, 1) := by decide +kernel
theorem dL_law_1300 : decode cL_law 1300 = .ok (.aload_n 0, 1) := by decide +kernel
theorem dL_law_1301 : decode cL_law 1301 = .ok (.iload 4, 2) := by decide +kernel
theorem dL_law_1303 : decode cL_law 1303 = .ok (.iconst 1, 1) := by decide +kernel
theorem dL_law_1304 : decode cL_law 1304 = .ok (.iadd, 1) := by decide +kernel
theorem dL_law_1305 : decode cL_law 1305 = .ok (.iaload, 1) := by decide +kernel
theorem dL_law_1306 : decode cL_law 1306 = .ok (.invokevirtual 168, 3) := by decide +kernel
theorem dL_law_1309 : decode cL_law 1309 = .ok (.istore 6, 2) := by decide +kernel
theorem dL_law_1311 : decode cL_law 1311 = .ok (.aload_n 2, 1) := by decide +kernel
theorem dL_law_1312 : decode cL_law 1312 = .ok (.invokevirtual 92, 3) := by decide +kernel
theorem dL_law_1315 : decode cL_law 1315 = .ok (.iload 5, 2) := by decide +kernel
theorem dL_law_1317 : decode cL_law 1317 = .ok (.if_icmp .eq 5, 3) := by decide +kernel
theorem dL_law_1320 : decode cL_law 1320 = .ok (.iconst 0, 1) := by decide +kernel
theorem dL_law_1321 : decode cL_law 1321 = .ok (.ireturn, 1) := by decide +kernel
theorem dL_law_1322 : decode cL_law 1322 = .ok (.iload 5, 2) := by decide +kernel
theorem dL_law_1324 : decode cL_law 1324 = .ok (.ifCond .ne 15, 3) := by decide +kernel
theorem dL_law_1327 : decode cL_law 1327 = .ok (.aload_n 3, 1) := by decide +kernel
theorem dL_law_1328 : decode cL_law 1328 = .ok (.iconst 0, 1) := by decide +kernel
theorem dL_law_1329 : decode cL_law 1329 = .ok (.laload, 1) := by decide +kernel
theorem dL_law_1330 : decode cL_law 1330 = .ok (.iload 6, 2) := by decide +kernel
theorem dL_law_1332 : decode cL_law 1332 = .ok (.i2l, 1) := by decide +kernel
theorem dL_law_1333 : decode cL_law 1333 = .ok (.lcmp, 1) := by decide +kernel
theorem dL_law_1334 : decode cL_law 1334 = .ok (.ifCond .eq 5, 3) := by decide +kernel
theorem dL_law_1337 : decode cL_law 1337 = .ok (.iconst 0, 1) := by decide +kernel
theorem dL_law_1338 : decode cL_law 1338 = .ok (.ireturn, 1) := by decide +kernel
theorem dL_law_1339 : decode cL_law 1339 = .ok (.goto 3, 3) := by decide +kernel
theorem dL_law_1342 : decode cL_law 1342 = .ok (.iinc 4 4, 3) := by decide +kernel
theorem dL_law_1345 : decode cL_law 1345 = .ok (.goto (-1312), 3) := by decide +kernel
theorem dL_law_1348 : decode cL_law 1348 = .ok (.iconst 1, 1) := by decide +kernel
theorem dL_law_1349 : decode cL_law 1349 = .ok (.ireturn, 1) := by decide +kernel
end
section
/-! ===== my own layer: one list of words for all methods, locals as a list, worlds as lists, contracts that name the answer and the world behind ===== -/
def wo_BG : List Cond := lw_tbl.filter goodWord
theorem wo_bg {w : Cond} (h : w ∈ lw_tbl) (g : goodWord w = true) : w ∈ wo_BG := List.mem_filter.mpr ⟨h, g⟩
theorem wo_b0 {w : Cond} {i : Nat} (h : (k2_sels lw_privs)[i]? = some w) (g : goodWord w = true) : w ∈ wo_BG := wo_bg (List.mem_append_left _ (List.mem_of_getElem? h)) g
theorem wo_b1 {w : Cond} {i : Nat} (h : tables_1_1[i]? = some w) (g : goodWord w = true) : w ∈ wo_BG := wo_bg (List.mem_append_right _ (List.mem_append_left _ (List.mem_of_getElem? h))) g
theorem wo_b2 {w : Cond} {i : Nat} (h : tables_1_2[i]? = some w) (g : goodWord w = true) : w ∈ wo_BG := wo_bg (List.mem_append_right _ (List.mem_append_right _ (List.mem_append_left _ (List.mem_of_getElem? h)))) g
theorem wo_b3 {w : Cond} {i : Nat} (h : tables_1_3[i]? = some w) (g : goodWord w = true) : w ∈ wo_BG := wo_bg (List.mem_append_right _ (List.mem_append_right _ (List.mem_append_right _ (List.mem_append_left _ (List.mem_of_getElem? h))))) g
theorem wo_b4 {w : Cond} {i : Nat} (h : tables_1_4[i]? = some w) (g : goodWord w = true) : w ∈ wo_BG := wo_bg (List.mem_append_right _ (List.mem_append_right _ (List.mem_append_right _ (List.mem_append_right _ (List.mem_of_getElem? h))))) g
theorem wo_good {w : Cond} (h : w ∈ wo_BG) : (w.onTables && w.keeps) = true ∨ ∃ ty, w = .arrayClass ty := good_of_word (List.mem_filter.mp h).2
def wo_lp : Nat → List (Option Value) → List (Nat × Value)
  | _, [] => []
  | n, none :: r => wo_lp (n + 1) r
  | n, some v :: r => if v.category = 1 then (n, v) :: wo_lp (n + 1) r else wo_lp (n + 1) r
theorem wo_lp_mem : ∀ (L : List (Option Value)) (n i : Nat) (v : Value), L[i]? = some (some v) → v.category = 1 → (n + i, v) ∈ wo_lp n L
  | [], n, i, v, h, _ => by simp at h
  | x :: r, n, 0, v, h, hc => by
    simp at h
    subst h
    simp [wo_lp, hc]
  | x :: r, n, i + 1, v, h, hc => by
    have h2 : r[i]? = some (some v) := by simpa using h
    have h3 := wo_lp_mem r (n + 1) i v h2 hc
    have h4 : n + 1 + i = n + (i + 1) := by omega
    rw [h4] at h3
    cases x with
    | none => exact h3
    | some w =>
      unfold wo_lp
      split
      · exact List.mem_cons_of_mem _ h3
      · exact h3
theorem wo_lp_back : ∀ (L : List (Option Value)) (n : Nat) (q : Nat × Value), q ∈ wo_lp n L → ∃ i, q.1 = n + i ∧ L[i]? = some (some q.2) ∧ q.2.category = 1
  | [], n, q, h => by simp [wo_lp] at h
  | none :: r, n, q, h => by
    obtain ⟨i, h1, h2, h3⟩ := wo_lp_back r (n + 1) q h
    exact ⟨i + 1, by omega, by simpa using h2, h3⟩
  | some v :: r, n, q, h => by
    unfold wo_lp at h
    split at h
    · next hc =>
      rcases List.mem_cons.mp h with h | h
      · subst h
        exact ⟨0, rfl, rfl, hc⟩
      · obtain ⟨i, h1, h2, h3⟩ := wo_lp_back r (n + 1) q h
        exact ⟨i + 1, by omega, by simpa using h2, h3⟩
    · obtain ⟨i, h1, h2, h3⟩ := wo_lp_back r (n + 1) q h
      exact ⟨i + 1, by omega, by simpa using h2, h3⟩
theorem wo_at {lv : Array Slot} {nL : Nat} {L : List (Option Value)} {i : Nat} {v : Value} (h : lv_has lv nL (wo_lp 0 L)) (hi : L[i]? = some (some v)) (hc : v.category = 1) : lv[i]? = some (.val v) := by
  have h1 := wo_lp_mem L 0 i v hi hc
  rw [Nat.zero_add] at h1
  exact h.2.2 _ h1
theorem wo_st {lv : Array Slot} {nL i : Nat} {L : List (Option Value)} {v : Value} (hc : v.category = 1) (h : lv_has lv nL ((i, v) :: (wo_lp 0 L).filter (fun q => !(q.1 == i) && !(q.1 + 1 == i && q.2.category == 2)))) : lv_has lv nL (wo_lp 0 (L.set i (some v))) := by
  refine ⟨h.1, h.2.1, fun q hq => ?_⟩
  obtain ⟨j, h1, h2, h3⟩ := wo_lp_back _ 0 q hq
  rw [Nat.zero_add] at h1
  by_cases hj : i = j
  · subst hj
    rw [List.getElem?_set_self'] at h2
    cases hL : L[i]? with
    | none => rw [hL] at h2; simp at h2
    | some z =>
      rw [hL] at h2
      have h4 : v = q.2 := by simpa using h2
      refine h.2.2 q (List.mem_cons.mpr (Or.inl ?_))
      rw [h4]; exact Prod.ext h1 rfl
  · rw [List.getElem?_set_ne hj] at h2
    have h4 := wo_lp_mem L 0 j q.2 h2 h3
    rw [Nat.zero_add] at h4
    refine h.2.2 q (List.mem_cons_of_mem _ (List.mem_filter.mpr ⟨by rw [← h1] at h4; exact h4, ?_⟩))
    have h5 : ¬ q.1 = i := fun z => hj (by rw [← z, h1])
    simp [h5, h3]
def wo_rm (d : Nat) : Room := { frames := d, cells := 0, slots := 0, locals := 36 * d }
/-- what a method's body stands on -/
def wo_C (p : Program) (s : State) (m : MethodId) (args : Array Value) (meth : Method) (c : Code) (A : Nat → Prop) (D : va_G) (cc : ByteArray) (nL : Nat) (own : String) (tys : List (ClassId × FieldType)) (ret : Option FieldType) : Prop :=
  p.tables.exec = Jvm.exec ∧ c.code = cc ∧ c.maxLocals = nL ∧ s.vm.findClass own = some m.cls ∧ (∀ w ∈ wo_BG, w.before args s = true) ∧ va_K D vwCl tys s ∧ (∀ q, s.heap.size ≤ q → A q) ∧ meth.locks = false ∧ meth.sig.returnType = ret
/-- the machine at pc, with locals, stack and world: it comes to Q -/
def wo_W (p : Program) (l : Launch) (e : Env) (R : Room) (s : State) (m : MethodId) (args : Array Value) (below : List Frame) (meth : Method) (c : Code) (A : Nat → Prop) (D : va_G) (cells slots nL : Nat) (Q : State → Prop) (pc : Nat) (ls : List (Option Value)) (st : List Value) (ws : va_W) : Prop :=
  ∀ (H : Heap) (locs : List Loc), va_P D vwCl ws H → va_D A ws → va_S A s.heap H locs → ∀ lv : Array Slot, lv_has lv nL (wo_lp 0 ls) → W p l e R s m args below meth c H locs cells slots Q (F0 m pc lv st)
def wo_Q (D : va_G) (tys : List (ClassId × FieldType)) (r : Option Value) (ws : va_W) (A : Nat → Prop) : Array Value → State → Outcome → State → Prop := fun _ st oc t => (oc = .returned r ∧ va_P D vwCl ws t.heap ∧ va_K D vwCl tys t ∧ va_D A ws) ∧ va_F A st t
def wo_pre (D : va_G) (tys : List (ClassId × FieldType)) (ws : va_W) (sz : Nat) : State → Prop := fun U => U.heap.size = sz ∧ va_P D vwCl ws U.heap ∧ va_K D vwCl tys U ∧ va_D (fun _ => True) ws
/-- a contract: called with As in the world ws, the method answers r and leaves the world ws' -/
def wo_E (l : Launch) (y : MethodName) (cd : ByteArray) (n : Nat) (ret : Option FieldType) (d : Nat) (D : va_G) (tys : List (ClassId × FieldType)) (As : List Value) (ws : va_W) (r : Option Value) (ws' : va_W) : Prop :=
  ∀ sz : Nat, Met l y (.code y cd n ret :: wo_BG) (wo_rm d) (va_Pc As (wo_pre D tys ws sz)) (wo_Q D tys r ws' (va_A ws sz)) 0 0 (va_A ws sz)
def wo_GB (own : String) (idx : Nat) (y : MethodName) (bytes : ByteArray) (maxL : Nat) (ret : Option FieldType) (n : Nat) : Prop :=
  Cond.methodLink own idx y ∈ wo_BG ∧ Cond.initialized y.cls ∈ wo_BG ∧ Cond.code y bytes maxL ret ∈ wo_BG ∧ y.cls ≠ "java/lang/invoke/MethodHandle" ∧ y.cls ≠ "java/lang/invoke/VarHandle" ∧ (parseMethodDescriptor y.desc).map (fun d => d.parameters.length) = some n
def wo_GS (own : String) (idx : Nat) (y : MethodName) (bytes : ByteArray) (maxL : Nat) (ret : Option FieldType) (n : Nat) : Prop := wo_GB own idx y bytes maxL ret n ∧ Cond.static y ∈ wo_BG
def wo_GV (own : String) (idx : Nat) (C : String) (y : MethodName) (bytes : ByteArray) (maxL : Nat) (ret : Option FieldType) (n : Nat) : Prop := wo_GB own idx y bytes maxL ret n ∧ Cond.instanceMethod y ∈ wo_BG ∧ Cond.selects C y y ∈ wo_BG
section WOL
variable {p : Program} {l : Launch} {e : Env} {R : Room} {s : State} {m : MethodId} {args : Array Value} {below : List Frame} {meth : Method} {c : Code} {A : Nat → Prop} {D : va_G} {cells slots nL : Nat} {Q : State → Prop} {cc : ByteArray} {own : String} {tys : List (ClassId × FieldType)} {ret : Option FieldType}
variable {pc : Nat} {ls : List (Option Value)} {st : List Value} {ws : va_W}
theorem wo_callB {idx maxL n d : Nat} {y : MethodName} {bytes : ByteArray} {ret' : Option FieldType} (C : wo_C p s m args meth c A D cc nL own tys ret) (G : wo_GB own idx y bytes maxL ret' n) (hR : d + 1 ≤ R.frames ∧ 8 + (maxL + 11) + 36 * d ≤ R.locals) : CallB R s args own idx y bytes maxL ret' (.code y bytes maxL ret' :: wo_BG) (wo_rm d) 0 0 n := by
  obtain ⟨-, -, -, -, hts, -⟩ := C
  obtain ⟨g1, g2, g3, g4, g5, g6⟩ := G
  refine callB_of (Ts := wo_BG) n hts ?_ rfl rfl rfl (hts _ g2) (hts _ g1) ⟨g4, g5, g6⟩ hR
  intro w hw
  rcases List.mem_cons.mp hw with h | h
  · subst h; exact ⟨g3, wo_good g3⟩
  · exact ⟨h, wo_good h⟩
/-- behind a call -/
theorem wo_back {lv : Array Slot} {st0 rest : List Value} {a : Array Value} {H : Heap} {locs : List Loc} {A1 : Nat → Prop} {r : Option Value} {ws' : va_W}
    (hr : va_Run p l e R s m args below meth c H locs cells slots 0 0 (F0 m pc lv st0) rest (wo_Q D tys r ws' A1 a) A1) (hS : va_S A s.heap H locs) (hA : ∀ q, A1 q → A q) (hl : lv_has lv nL (wo_lp 0 ls))
    (kk : wo_W p l e R s m args below meth c A D cells slots nL Q (pc + 3) ls (r.toList ++ rest) ws') : W p l e R s m args below meth c H locs cells slots Q (F0 m pc lv st0) := by
  intro T hT X
  obtain ⟨v, st₀, t, T', L, h0, X', hL, e1, e2, ⟨⟨hv, hp, -, hd⟩, hz, hk⟩, st⟩ := hr T hT X
  cases hv
  rw [h0] at hz hk
  obtain ⟨t2, a1, b1⟩ := kk T'.heap (locs ++ L) (by rw [e1]; exact hp) (hd.weaken (fun _ q _ h => hA q.1 h))
    ⟨Nat.le_trans hS.1 (by rw [e1]; exact hz), fun q h1 h2 => by rw [e1, hk q (Nat.lt_of_lt_of_le h1 hS.1) (fun z => h2 (hA q z))]; exact hS.2.1 q h1 h2, fun q hq => by
      rcases List.mem_append.mp hq with h | h
      · exact hS.2.2 q h
      · exact hA _ (hL q h)⟩ lv hl T' rfl X'
  exact ⟨t2, st t2 a1, b1⟩
theorem wo_sub {H : Heap} {locs : List Loc} (hD : va_D A ws) (hS : va_S A s.heap H locs) (hA : ∀ q, s.heap.size ≤ q → A q) : ∀ q, va_A ws H.size q → A q := by
  intro q h
  rcases h with ⟨k, e, h⟩ | h
  · exact hD.2 k (q, e) h
  · exact hA q (Nat.le_trans hS.1 h)
theorem wo_blind {As : List Value} {sz : Nat} : FrameBlind (va_Pc As (wo_pre D tys ws sz)) := fun a U g mk q => by
  obtain ⟨q0, q1, qP, qK, qD⟩ := q
  exact ⟨q0, q1, qP, va_K.moved (u := U) (U := U.calling g mk a) (Vm.Alike.refl U.vm) qK, qD⟩
theorem x_callS {idx maxL n d : Nat} {y : MethodName} {bytes : ByteArray} {ret' : Option FieldType} {As rest : List Value} {r : Option Value} {ws' : va_W} (C : wo_C p s m args meth c A D cc nL own tys ret) (G : wo_GS own idx y bytes maxL ret' n) (hM : wo_E l y bytes maxL ret' d D tys As ws r ws')
    (hst : st = As.reverse ++ rest) (hn : As.length = n) (hc : (rest.map fun v => v.category).sum ≤ 8) (hR : d + 1 ≤ R.frames ∧ 8 + (maxL + 11) + 36 * d ≤ R.locals) (hf : cells ≤ R.cells ∧ slots ≤ R.slots) (dg : decode cc pc = .ok (.invokestatic idx, 3))
    (kk : wo_W p l e R s m args below meth c A D cells slots nL Q (pc + 3) ls (r.toList ++ rest) ws') : wo_W p l e R s m args below meth c A D cells slots nL Q pc ls st ws := by
  intro H locs hP hD hS lv hl
  have cb := wo_callB (R := R) C G.1 hR
  obtain ⟨hx, hb, hml, hown, hts, hK, hA, hlk, hr⟩ := C
  exact wo_back (va_runS (As := As) (rest := rest) (Ts := wo_BG) ⟨hx, hb, hml, hown, hts⟩ (hM H.size) ⟨cb, hts _ G.2⟩
    ⟨wo_blind, fun U hU hW => ⟨rfl, by rw [hU], by rw [hU]; exact hP, va_K.moved hW.alike hK, hD.weaken (fun _ _ _ _ => trivial)⟩⟩ rfl hn (hl.1) hst (lv_room hc) dg hf) hS (wo_sub hD hS hA) hl kk
theorem x_callV {idx maxL n d ci : Nat} {y : MethodName} {C0 : String} {T0 : u_T} {N0 : Nat} {fs : List Value} {bytes : ByteArray} {ret' : Option FieldType} {b : Nat} {As rest : List Value} {r : Option Value} {ws' : va_W} (C : wo_C p s m args meth c A D cc nL own tys ret) (G : wo_GV own idx C0 y bytes maxL ret' n) (hM : wo_E l y bytes maxL ret' d D tys (.ref b :: As) ws r ws')
    (q : Nat) (hq : ws[q]? = some (b, .inr (ci, fs))) (hci : vwCl[ci]? = some (C0, T0, N0)) (hst : st = As.reverse ++ .ref b :: rest) (hn : As.length = n) (hc : (rest.map fun v => v.category).sum ≤ 8) (hR : d + 1 ≤ R.frames ∧ 8 + (maxL + 11) + 36 * d ≤ R.locals) (hf : cells ≤ R.cells ∧ slots ≤ R.slots) (dg : decode cc pc = .ok (.invokevirtual idx, 3))
    (kk : wo_W p l e R s m args below meth c A D cells slots nL Q (pc + 3) ls (r.toList ++ rest) ws') : wo_W p l e R s m args below meth c A D cells slots nL Q pc ls st ws := by
  intro H locs hP hD hS lv hl
  have cb := wo_callB (R := R) C G.1 hR
  obtain ⟨hx, hb, hml, hown, hts, hK, hA, hlk, hr⟩ := C
  exact wo_back (va_runV (As := As) (rest := rest) (Ts := wo_BG) ⟨hx, hb, hml, hown, hts⟩ (hM H.size) ⟨cb, hts _ G.2.1, hts _ G.2.2⟩
    ⟨wo_blind, va_recv hK hP hci hq, fun U hU hW => ⟨rfl, by rw [hU], by rw [hU]; exact hP, va_K.moved hW.alike hK, hD.weaken (fun _ _ _ _ => trivial)⟩⟩ rfl hn (hl.1) hst (lv_room hc) dg hf) hS (wo_sub hD hS hA) hl kk
/-- a contract out of its body -/
theorem wo_of {y : MethodName} {n d : Nat} {As : List Value} {r : Option Value} {ws' : va_W} (hy : plainName y.cls = true) (hn : (lg_sl As).length ≤ n) (hls : lv_args 0 As = wo_lp 0 ls)
    (body : ∀ (p : Program) (e : Env) (s : State) (m : MethodId) (args : Array Value) (below : List Frame) (meth : Method) (c : Code) (A : Nat → Prop), wo_C p s m args meth c A D cc n y.cls tys ret → wo_W p l e (wo_rm d) s m args below meth c A D 0 0 n (MQ below (wo_Q D tys r ws' A) args s 0 0 A) 0 ls [] ws) : wo_E l y cc n ret d D tys As ws r ws' := by
  intro sz
  refine Met.ofW (cc := cc) (maxL := n) (ret := ret) hy rfl ?_
  intro p e s m args below meth c s₁ B hml hv
  obtain ⟨rfl, hsz, hP, hK, hD0⟩ := hv
  subst hsz
  have hts := atoms_spec (ws := .code y cc n ret :: wo_BG) B.pre
  have hown : s.vm.findClass y.cls = some m.cls := findClass_of_methodNamed B.named
  have hl := lv_entry As (n := n) hn
  rw [lg_entry_eq]
  rw [hls] at hl
  exact body p e s m As.toArray below meth c (va_A ws s.heap.size) ⟨B.exec, B.bytes, hml, hown, fun w h => hts w (List.mem_cons_of_mem _ h), hK, fun q h => Or.inr h, B.notSynchronized, B.returns⟩ s.heap [] hP (hD0.self) va_S.rf _ hl
theorem x_iret {v : Int32} {ws' : va_W} {r : Option Value} (C : wo_C p s m args meth c A D cc nL own tys (some .int)) (dg : decode cc pc = .ok (.ireturn, 1)) (hr : r = some (.int v)) (hw : ws = ws') : wo_W p l e R s m args below meth c A D 0 0 nL (MQ below (wo_Q D tys r ws' A) args s 0 0 A) pc ls [.int v] ws := by
  intro H locs hP hD hS lv hl
  obtain ⟨hx, hb, hml, hown, hts, hK, hA, hlk, hrt⟩ := C
  subst hr; subst hw
  exact W.iret (v := v) hx hb hrt (fun t ht hW => ⟨⟨rfl, by rw [ht]; exact hP, va_K.moved hW.alike hK, hD⟩, hS.F ht⟩) hS.2.2 dg hlk
theorem x_vret {ws' : va_W} {r : Option Value} (C : wo_C p s m args meth c A D cc nL own tys none) (dg : decode cc pc = .ok (.return_, 1)) (hr : r = none) (hw : ws = ws') : wo_W p l e R s m args below meth c A D 0 0 nL (MQ below (wo_Q D tys r ws' A) args s 0 0 A) pc ls [] ws := by
  intro H locs hP hD hS lv hl
  obtain ⟨hx, hb, hml, hown, hts, hK, hA, hlk, hrt⟩ := C
  subst hr; subst hw
  exact W.vret hx hb hrt (fun t ht hW => ⟨⟨rfl, by rw [ht]; exact hP, va_K.moved hW.alike hK, hD⟩, hS.F ht⟩) hS.2.2 dg hlk
/-- a truth value as the machine has it -/
def bz (b : Bool) : Int32 := if b then 1 else 0
theorem bz_nar (b : Bool) : narrow .boolean (.int (bz b)) = .int (bz b) := by cases b <;> rfl
theorem bz_vp (b : Bool) : vp_nar .boolean (bz b) = bz b := by cases b <;> rfl
theorem x_zret {b : Bool} {v : Int32} {ws' : va_W} {r : Option Value} (C : wo_C p s m args meth c A D cc nL own tys (some .boolean)) (dg : decode cc pc = .ok (.ireturn, 1)) (hv : v = bz b) (hr : r = some (.int (bz b))) (hw : ws = ws') : wo_W p l e R s m args below meth c A D 0 0 nL (MQ below (wo_Q D tys r ws' A) args s 0 0 A) pc ls [.int v] ws := by
  intro H locs hP hD hS lv hl
  obtain ⟨hx, hb, hml, hown, hts, hK, hA, hlk, hrt⟩ := C
  subst hr; subst hw; subst hv
  exact W.zret (v := bz b) hx hb hrt (bz_nar b) (fun t ht hW => ⟨⟨rfl, by rw [ht]; exact hP, va_K.moved hW.alike hK, hD⟩, hS.F ht⟩) hS.2.2 dg hlk
end WOL
end
section
section WOR
variable {p : Program} {l : Launch} {e : Env} {R : Room} {s : State} {m : MethodId} {args : Array Value} {below : List Frame} {meth : Method} {c : Code} {A : Nat → Prop} {D : va_G} {cells slots nL : Nat} {Q : State → Prop} {cc : ByteArray} {own : String} {tys : List (ClassId × FieldType)} {ret : Option FieldType}
variable {pc : Nat} {ls : List (Option Value)} {st : List Value} {ws : va_W}
theorem x_iconst (C : wo_C p s m args meth c A D cc nL own tys ret) {n : Int} {v : Int32} (dg : decode cc pc = .ok (.iconst n, 1)) (hv : Int32.ofInt n = v)
    (kk : wo_W p l e R s m args below meth c A D cells slots nL Q (pc + 1) ls (.int v :: st) ws) : wo_W p l e R s m args below meth c A D cells slots nL Q pc ls st ws := fun H locs hP hD hS lv hl => lv_iconst C.1 C.2.1 dg hv (kk H locs hP hD hS lv hl)
theorem x_bipush (C : wo_C p s m args meth c A D cc nL own tys ret) {n : Int} {v : Int32} (dg : decode cc pc = .ok (.bipush n, 2)) (hv : (Int8.ofInt n).toInt32 = v)
    (kk : wo_W p l e R s m args below meth c A D cells slots nL Q (pc + 2) ls (.int v :: st) ws) : wo_W p l e R s m args below meth c A D cells slots nL Q pc ls st ws := fun H locs hP hD hS lv hl => lv_bipush C.1 C.2.1 dg hv (kk H locs hP hD hS lv hl)
theorem x_sipush (C : wo_C p s m args meth c A D cc nL own tys ret) {n : Int} {v : Int32} (dg : decode cc pc = .ok (.sipush n, 3)) (hv : (Int16.ofInt n).toInt32 = v)
    (kk : wo_W p l e R s m args below meth c A D cells slots nL Q (pc + 3) ls (.int v :: st) ws) : wo_W p l e R s m args below meth c A D cells slots nL Q pc ls st ws := fun H locs hP hD hS lv hl => lv_sipush C.1 C.2.1 dg hv (kk H locs hP hD hS lv hl)
theorem x_lconst (C : wo_C p s m args meth c A D cc nL own tys ret) {n : Fin 2} {v : Int64} (dg : decode cc pc = .ok (.lconst n, 1)) (hv : Int64.ofNat (n : Nat) = v)
    (kk : wo_W p l e R s m args below meth c A D cells slots nL Q (pc + 1) ls (.long v :: st) ws) : wo_W p l e R s m args below meth c A D cells slots nL Q pc ls st ws := fun H locs hP hD hS lv hl => lv_lconst C.1 C.2.1 dg hv (kk H locs hP hD hS lv hl)
theorem x_ldc (C : wo_C p s m args meth c A D cc nL own tys ret) {index : Nat} {v : Int32} (hw : Cond.constant own index v ∈ wo_BG) (dg : decode cc pc = .ok (.ldc index, 2))
    (kk : wo_W p l e R s m args below meth c A D cells slots nL Q (pc + 2) ls (.int v :: st) ws) : wo_W p l e R s m args below meth c A D cells slots nL Q pc ls st ws := fun H locs hP hD hS lv hl => lv_ldc C.1 C.2.1 C.2.2.2.1 (C.2.2.2.2.1 _ hw) dg (kk H locs hP hD hS lv hl)
theorem x_iload_n (C : wo_C p s m args meth c A D cc nL own tys ret) {k : Fin 4} {i : Nat} {x : Int32} (dg : decode cc pc = .ok (.iload_n k, 1)) (hi : (k : Nat) = i) (h : ls[i]? = some (some (.int x)))
    (kk : wo_W p l e R s m args below meth c A D cells slots nL Q (pc + 1) ls (.int x :: st) ws) : wo_W p l e R s m args below meth c A D cells slots nL Q pc ls st ws := fun H locs hP hD hS lv hl => lv_iload_n C.1 C.2.1 dg hi (wo_at hl h rfl) (kk H locs hP hD hS lv hl)
theorem x_iload (C : wo_C p s m args meth c A D cc nL own tys ret) {i : Nat} {x : Int32} (dg : decode cc pc = .ok (.iload i, 2)) (h : ls[i]? = some (some (.int x)))
    (kk : wo_W p l e R s m args below meth c A D cells slots nL Q (pc + 2) ls (.int x :: st) ws) : wo_W p l e R s m args below meth c A D cells slots nL Q pc ls st ws := fun H locs hP hD hS lv hl => lv_iload C.1 C.2.1 dg (wo_at hl h rfl) (kk H locs hP hD hS lv hl)
theorem x_istore_n (C : wo_C p s m args meth c A D cc nL own tys ret) {k : Fin 4} {i : Nat} {x : Int32} (dg : decode cc pc = .ok (.istore_n k, 1)) (hi : (k : Nat) = i) (hn : i < nL)
    (kk : wo_W p l e R s m args below meth c A D cells slots nL Q (pc + 1) (ls.set i (some (.int x))) st ws) : wo_W p l e R s m args below meth c A D cells slots nL Q pc ls (.int x :: st) ws := fun H locs hP hD hS lv hl => lv_istore_n C.1 C.2.1 dg hi hl hn rfl (fun lv2 hl2 => kk H locs hP hD hS lv2 (wo_st rfl hl2))
theorem x_istore (C : wo_C p s m args meth c A D cc nL own tys ret) {i : Nat} {x : Int32} (dg : decode cc pc = .ok (.istore i, 2)) (hn : i < nL)
    (kk : wo_W p l e R s m args below meth c A D cells slots nL Q (pc + 2) (ls.set i (some (.int x))) st ws) : wo_W p l e R s m args below meth c A D cells slots nL Q pc ls (.int x :: st) ws := fun H locs hP hD hS lv hl => lv_istore C.1 C.2.1 dg hl hn rfl (fun lv2 hl2 => kk H locs hP hD hS lv2 (wo_st rfl hl2))
theorem x_aload_n (C : wo_C p s m args meth c A D cc nL own tys ret) {k : Fin 4} {i : Nat} {x : Nat} (dg : decode cc pc = .ok (.aload_n k, 1)) (hi : (k : Nat) = i) (h : ls[i]? = some (some (.ref x)))
    (kk : wo_W p l e R s m args below meth c A D cells slots nL Q (pc + 1) ls (.ref x :: st) ws) : wo_W p l e R s m args below meth c A D cells slots nL Q pc ls st ws := fun H locs hP hD hS lv hl => lv_aload_n C.1 C.2.1 dg hi (wo_at hl h rfl) (kk H locs hP hD hS lv hl)
theorem x_aload (C : wo_C p s m args meth c A D cc nL own tys ret) {i : Nat} {x : Nat} (dg : decode cc pc = .ok (.aload i, 2)) (h : ls[i]? = some (some (.ref x)))
    (kk : wo_W p l e R s m args below meth c A D cells slots nL Q (pc + 2) ls (.ref x :: st) ws) : wo_W p l e R s m args below meth c A D cells slots nL Q pc ls st ws := fun H locs hP hD hS lv hl => lv_aload C.1 C.2.1 dg (wo_at hl h rfl) (kk H locs hP hD hS lv hl)
theorem x_astore_n (C : wo_C p s m args meth c A D cc nL own tys ret) {k : Fin 4} {i : Nat} {x : Nat} (dg : decode cc pc = .ok (.astore_n k, 1)) (hi : (k : Nat) = i) (hn : i < nL)
    (kk : wo_W p l e R s m args below meth c A D cells slots nL Q (pc + 1) (ls.set i (some (.ref x))) st ws) : wo_W p l e R s m args below meth c A D cells slots nL Q pc ls (.ref x :: st) ws := fun H locs hP hD hS lv hl => lv_astore_n C.1 C.2.1 dg hi hl hn rfl (fun lv2 hl2 => kk H locs hP hD hS lv2 (wo_st rfl hl2))
theorem x_astore (C : wo_C p s m args meth c A D cc nL own tys ret) {i : Nat} {x : Nat} (dg : decode cc pc = .ok (.astore i, 2)) (hn : i < nL)
    (kk : wo_W p l e R s m args below meth c A D cells slots nL Q (pc + 2) (ls.set i (some (.ref x))) st ws) : wo_W p l e R s m args below meth c A D cells slots nL Q pc ls (.ref x :: st) ws := fun H locs hP hD hS lv hl => lv_astore C.1 C.2.1 dg hl hn rfl (fun lv2 hl2 => kk H locs hP hD hS lv2 (wo_st rfl hl2))
theorem x_iinc (C : wo_C p s m args meth c A D cc nL own tys ret) {i : Nat} {n : Int} {x v : Int32} (dg : decode cc pc = .ok (.iinc i n, 3)) (h : ls[i]? = some (some (.int x))) (hv : x + Int32.ofInt n = v) (hn : i < nL)
    (kk : wo_W p l e R s m args below meth c A D cells slots nL Q (pc + 3) (ls.set i (some (.int v))) st ws) : wo_W p l e R s m args below meth c A D cells slots nL Q pc ls st ws := by
  intro H locs hP hD hS lv hl
  have h1 := wo_lp_mem ls 0 i _ h rfl
  rw [Nat.zero_add] at h1
  obtain ⟨k, hk⟩ := List.mem_iff_getElem?.mp h1
  exact lv_iinc C.1 C.2.1 dg hl hk hv hn rfl (fun lv2 hl2 => kk H locs hP hD hS lv2 (wo_st rfl hl2))
theorem x_iadd (C : wo_C p s m args meth c A D cc nL own tys ret) {x y : Int32} (dg : decode cc pc = .ok (.iadd, 1))
    (kk : wo_W p l e R s m args below meth c A D cells slots nL Q (pc + 1) ls (.int (x + y) :: st) ws) : wo_W p l e R s m args below meth c A D cells slots nL Q pc ls (.int y :: .int x :: st) ws := fun H locs hP hD hS lv hl => lv_iadd C.1 C.2.1 dg (kk H locs hP hD hS lv hl)
theorem x_isub (C : wo_C p s m args meth c A D cc nL own tys ret) {x y : Int32} (dg : decode cc pc = .ok (.isub, 1))
    (kk : wo_W p l e R s m args below meth c A D cells slots nL Q (pc + 1) ls (.int (x - y) :: st) ws) : wo_W p l e R s m args below meth c A D cells slots nL Q pc ls (.int y :: .int x :: st) ws := fun H locs hP hD hS lv hl => lv_isub C.1 C.2.1 dg (kk H locs hP hD hS lv hl)
theorem x_imul (C : wo_C p s m args meth c A D cc nL own tys ret) {x y : Int32} (dg : decode cc pc = .ok (.imul, 1))
    (kk : wo_W p l e R s m args below meth c A D cells slots nL Q (pc + 1) ls (.int (x * y) :: st) ws) : wo_W p l e R s m args below meth c A D cells slots nL Q pc ls (.int y :: .int x :: st) ws := fun H locs hP hD hS lv hl => lv_imul C.1 C.2.1 dg (kk H locs hP hD hS lv hl)
theorem x_iand (C : wo_C p s m args meth c A D cc nL own tys ret) {x y : Int32} (dg : decode cc pc = .ok (.iand, 1))
    (kk : wo_W p l e R s m args below meth c A D cells slots nL Q (pc + 1) ls (.int (x &&& y) :: st) ws) : wo_W p l e R s m args below meth c A D cells slots nL Q pc ls (.int y :: .int x :: st) ws := fun H locs hP hD hS lv hl => lv_iand C.1 C.2.1 dg (kk H locs hP hD hS lv hl)
theorem x_ior (C : wo_C p s m args meth c A D cc nL own tys ret) {x y : Int32} (dg : decode cc pc = .ok (.ior, 1))
    (kk : wo_W p l e R s m args below meth c A D cells slots nL Q (pc + 1) ls (.int (x ||| y) :: st) ws) : wo_W p l e R s m args below meth c A D cells slots nL Q pc ls (.int y :: .int x :: st) ws := fun H locs hP hD hS lv hl => lv_ior C.1 C.2.1 dg (kk H locs hP hD hS lv hl)
theorem x_ishl (C : wo_C p s m args meth c A D cc nL own tys ret) {x y : Int32} (dg : decode cc pc = .ok (.ishl, 1))
    (kk : wo_W p l e R s m args below meth c A D cells slots nL Q (pc + 1) ls (.int (x <<< (y &&& 31)) :: st) ws) : wo_W p l e R s m args below meth c A D cells slots nL Q pc ls (.int y :: .int x :: st) ws := fun H locs hP hD hS lv hl => lv_ishl C.1 C.2.1 dg (kk H locs hP hD hS lv hl)
theorem x_idiv (C : wo_C p s m args meth c A D cc nL own tys ret) {x y : Int32} (dg : decode cc pc = .ok (.idiv, 1)) (hne : ¬ y = 0)
    (kk : wo_W p l e R s m args below meth c A D cells slots nL Q (pc + 1) ls (.int (x / y) :: st) ws) : wo_W p l e R s m args below meth c A D cells slots nL Q pc ls (.int y :: .int x :: st) ws := fun H locs hP hD hS lv hl => lv_idiv C.1 C.2.1 dg hne (kk H locs hP hD hS lv hl)
theorem x_i2l (C : wo_C p s m args meth c A D cc nL own tys ret) {x : Int32} (dg : decode cc pc = .ok (.i2l, 1))
    (kk : wo_W p l e R s m args below meth c A D cells slots nL Q (pc + 1) ls (.long x.toInt64 :: st) ws) : wo_W p l e R s m args below meth c A D cells slots nL Q pc ls (.int x :: st) ws := fun H locs hP hD hS lv hl => lv_i2l C.1 C.2.1 dg rfl (kk H locs hP hD hS lv hl)
theorem x_lcmp (C : wo_C p s m args meth c A D cc nL own tys ret) {x y : Int64} (dg : decode cc pc = .ok (.lcmp, 1))
    (kk : wo_W p l e R s m args below meth c A D cells slots nL Q (pc + 1) ls (.int (lg_cmp x y) :: st) ws) : wo_W p l e R s m args below meth c A D cells slots nL Q pc ls (.long y :: .long x :: st) ws := fun H locs hP hD hS lv hl => W.lcmp C.1 C.2.1 dg (kk H locs hP hD hS lv hl)
theorem x_dup (C : wo_C p s m args meth c A D cc nL own tys ret) {v : Value} (dg : decode cc pc = .ok (.dup, 1)) (hv : v.category = 1)
    (kk : wo_W p l e R s m args below meth c A D cells slots nL Q (pc + 1) ls (v :: v :: st) ws) : wo_W p l e R s m args below meth c A D cells slots nL Q pc ls (v :: st) ws := fun H locs hP hD hS lv hl => lv_dup C.1 C.2.1 dg hv (kk H locs hP hD hS lv hl)
theorem x_pop (C : wo_C p s m args meth c A D cc nL own tys ret) {v : Value} (dg : decode cc pc = .ok (.pop, 1)) (hv : v.category = 1)
    (kk : wo_W p l e R s m args below meth c A D cells slots nL Q (pc + 1) ls st ws) : wo_W p l e R s m args below meth c A D cells slots nL Q pc ls (v :: st) ws := fun H locs hP hD hS lv hl => lv_pop C.1 C.2.1 dg hv (kk H locs hP hD hS lv hl)
theorem x_goto (C : wo_C p s m args meth c A D cc nL own tys ret) {off : Int} {tgt : Nat} (dg : decode cc pc = .ok (.goto off, 3)) (ht : (pc : Int) + off = (tgt : Int))
    (kk : wo_W p l e R s m args below meth c A D cells slots nL Q tgt ls st ws) : wo_W p l e R s m args below meth c A D cells slots nL Q pc ls st ws := fun H locs hP hD hS lv hl => lv_goto C.1 C.2.1 dg ht (kk H locs hP hD hS lv hl)
theorem x_icmp_eq (C : wo_C p s m args meth c A D cc nL own tys ret) {x y : Int32} {off : Int} {tgt : Nat} (dg : decode cc pc = .ok (.if_icmp .eq off, 3)) (ht : (pc : Int) + off = (tgt : Int))
    (kt : x = y → wo_W p l e R s m args below meth c A D cells slots nL Q tgt ls st ws) (kf : ¬ x = y → wo_W p l e R s m args below meth c A D cells slots nL Q (pc + 3) ls st ws) : wo_W p l e R s m args below meth c A D cells slots nL Q pc ls (.int y :: .int x :: st) ws := fun H locs hP hD hS lv hl => lv_icmp_eq C.1 C.2.1 dg ht (fun z => kt z H locs hP hD hS lv hl) (fun z => kf z H locs hP hD hS lv hl)
theorem x_if_eq (C : wo_C p s m args meth c A D cc nL own tys ret) {x : Int32} {off : Int} {tgt : Nat} (dg : decode cc pc = .ok (.ifCond .eq off, 3)) (ht : (pc : Int) + off = (tgt : Int))
    (kt : x = 0 → wo_W p l e R s m args below meth c A D cells slots nL Q tgt ls st ws) (kf : ¬ x = 0 → wo_W p l e R s m args below meth c A D cells slots nL Q (pc + 3) ls st ws) : wo_W p l e R s m args below meth c A D cells slots nL Q pc ls (.int x :: st) ws := fun H locs hP hD hS lv hl => lv_if_eq C.1 C.2.1 dg ht (fun z => kt z H locs hP hD hS lv hl) (fun z => kf z H locs hP hD hS lv hl)
theorem x_icmp_ne (C : wo_C p s m args meth c A D cc nL own tys ret) {x y : Int32} {off : Int} {tgt : Nat} (dg : decode cc pc = .ok (.if_icmp .ne off, 3)) (ht : (pc : Int) + off = (tgt : Int))
    (kt : ¬ x = y → wo_W p l e R s m args below meth c A D cells slots nL Q tgt ls st ws) (kf : x = y → wo_W p l e R s m args below meth c A D cells slots nL Q (pc + 3) ls st ws) : wo_W p l e R s m args below meth c A D cells slots nL Q pc ls (.int y :: .int x :: st) ws := fun H locs hP hD hS lv hl => lv_icmp_ne C.1 C.2.1 dg ht (fun z => kt z H locs hP hD hS lv hl) (fun z => kf z H locs hP hD hS lv hl)
theorem x_if_ne (C : wo_C p s m args meth c A D cc nL own tys ret) {x : Int32} {off : Int} {tgt : Nat} (dg : decode cc pc = .ok (.ifCond .ne off, 3)) (ht : (pc : Int) + off = (tgt : Int))
    (kt : ¬ x = 0 → wo_W p l e R s m args below meth c A D cells slots nL Q tgt ls st ws) (kf : x = 0 → wo_W p l e R s m args below meth c A D cells slots nL Q (pc + 3) ls st ws) : wo_W p l e R s m args below meth c A D cells slots nL Q pc ls (.int x :: st) ws := fun H locs hP hD hS lv hl => lv_if_ne C.1 C.2.1 dg ht (fun z => kt z H locs hP hD hS lv hl) (fun z => kf z H locs hP hD hS lv hl)
theorem x_icmp_lt (C : wo_C p s m args meth c A D cc nL own tys ret) {x y : Int32} {off : Int} {tgt : Nat} (dg : decode cc pc = .ok (.if_icmp .lt off, 3)) (ht : (pc : Int) + off = (tgt : Int))
    (kt : x < y → wo_W p l e R s m args below meth c A D cells slots nL Q tgt ls st ws) (kf : ¬ x < y → wo_W p l e R s m args below meth c A D cells slots nL Q (pc + 3) ls st ws) : wo_W p l e R s m args below meth c A D cells slots nL Q pc ls (.int y :: .int x :: st) ws := fun H locs hP hD hS lv hl => lv_icmp_lt C.1 C.2.1 dg ht (fun z => kt z H locs hP hD hS lv hl) (fun z => kf z H locs hP hD hS lv hl)
theorem x_if_lt (C : wo_C p s m args meth c A D cc nL own tys ret) {x : Int32} {off : Int} {tgt : Nat} (dg : decode cc pc = .ok (.ifCond .lt off, 3)) (ht : (pc : Int) + off = (tgt : Int))
    (kt : x < 0 → wo_W p l e R s m args below meth c A D cells slots nL Q tgt ls st ws) (kf : ¬ x < 0 → wo_W p l e R s m args below meth c A D cells slots nL Q (pc + 3) ls st ws) : wo_W p l e R s m args below meth c A D cells slots nL Q pc ls (.int x :: st) ws := fun H locs hP hD hS lv hl => lv_if_lt C.1 C.2.1 dg ht (fun z => kt z H locs hP hD hS lv hl) (fun z => kf z H locs hP hD hS lv hl)
theorem x_icmp_ge (C : wo_C p s m args meth c A D cc nL own tys ret) {x y : Int32} {off : Int} {tgt : Nat} (dg : decode cc pc = .ok (.if_icmp .ge off, 3)) (ht : (pc : Int) + off = (tgt : Int))
    (kt : y ≤ x → wo_W p l e R s m args below meth c A D cells slots nL Q tgt ls st ws) (kf : ¬ y ≤ x → wo_W p l e R s m args below meth c A D cells slots nL Q (pc + 3) ls st ws) : wo_W p l e R s m args below meth c A D cells slots nL Q pc ls (.int y :: .int x :: st) ws := fun H locs hP hD hS lv hl => lv_icmp_ge C.1 C.2.1 dg ht (fun z => kt z H locs hP hD hS lv hl) (fun z => kf z H locs hP hD hS lv hl)
theorem x_if_ge (C : wo_C p s m args meth c A D cc nL own tys ret) {x : Int32} {off : Int} {tgt : Nat} (dg : decode cc pc = .ok (.ifCond .ge off, 3)) (ht : (pc : Int) + off = (tgt : Int))
    (kt : 0 ≤ x → wo_W p l e R s m args below meth c A D cells slots nL Q tgt ls st ws) (kf : ¬ 0 ≤ x → wo_W p l e R s m args below meth c A D cells slots nL Q (pc + 3) ls st ws) : wo_W p l e R s m args below meth c A D cells slots nL Q pc ls (.int x :: st) ws := fun H locs hP hD hS lv hl => lv_if_ge C.1 C.2.1 dg ht (fun z => kt z H locs hP hD hS lv hl) (fun z => kf z H locs hP hD hS lv hl)
theorem x_icmp_gt (C : wo_C p s m args meth c A D cc nL own tys ret) {x y : Int32} {off : Int} {tgt : Nat} (dg : decode cc pc = .ok (.if_icmp .gt off, 3)) (ht : (pc : Int) + off = (tgt : Int))
    (kt : y < x → wo_W p l e R s m args below meth c A D cells slots nL Q tgt ls st ws) (kf : ¬ y < x → wo_W p l e R s m args below meth c A D cells slots nL Q (pc + 3) ls st ws) : wo_W p l e R s m args below meth c A D cells slots nL Q pc ls (.int y :: .int x :: st) ws := fun H locs hP hD hS lv hl => lv_icmp_gt C.1 C.2.1 dg ht (fun z => kt z H locs hP hD hS lv hl) (fun z => kf z H locs hP hD hS lv hl)
theorem x_if_gt (C : wo_C p s m args meth c A D cc nL own tys ret) {x : Int32} {off : Int} {tgt : Nat} (dg : decode cc pc = .ok (.ifCond .gt off, 3)) (ht : (pc : Int) + off = (tgt : Int))
    (kt : 0 < x → wo_W p l e R s m args below meth c A D cells slots nL Q tgt ls st ws) (kf : ¬ 0 < x → wo_W p l e R s m args below meth c A D cells slots nL Q (pc + 3) ls st ws) : wo_W p l e R s m args below meth c A D cells slots nL Q pc ls (.int x :: st) ws := fun H locs hP hD hS lv hl => lv_if_gt C.1 C.2.1 dg ht (fun z => kt z H locs hP hD hS lv hl) (fun z => kf z H locs hP hD hS lv hl)
theorem x_icmp_le (C : wo_C p s m args meth c A D cc nL own tys ret) {x y : Int32} {off : Int} {tgt : Nat} (dg : decode cc pc = .ok (.if_icmp .le off, 3)) (ht : (pc : Int) + off = (tgt : Int))
    (kt : x ≤ y → wo_W p l e R s m args below meth c A D cells slots nL Q tgt ls st ws) (kf : ¬ x ≤ y → wo_W p l e R s m args below meth c A D cells slots nL Q (pc + 3) ls st ws) : wo_W p l e R s m args below meth c A D cells slots nL Q pc ls (.int y :: .int x :: st) ws := fun H locs hP hD hS lv hl => lv_icmp_le C.1 C.2.1 dg ht (fun z => kt z H locs hP hD hS lv hl) (fun z => kf z H locs hP hD hS lv hl)
theorem x_if_le (C : wo_C p s m args meth c A D cc nL own tys ret) {x : Int32} {off : Int} {tgt : Nat} (dg : decode cc pc = .ok (.ifCond .le off, 3)) (ht : (pc : Int) + off = (tgt : Int))
    (kt : x ≤ 0 → wo_W p l e R s m args below meth c A D cells slots nL Q tgt ls st ws) (kf : ¬ x ≤ 0 → wo_W p l e R s m args below meth c A D cells slots nL Q (pc + 3) ls st ws) : wo_W p l e R s m args below meth c A D cells slots nL Q pc ls (.int x :: st) ws := fun H locs hP hD hS lv hl => lv_if_le C.1 C.2.1 dg ht (fun z => kt z H locs hP hD hS lv hl) (fun z => kf z H locs hP hD hS lv hl)
theorem x_tableIn (C : wo_C p s m args meth c A D cc nL own tys ret) {dflt lo hi : Int} {offs : Array Int} {len : Nat} {x : Int32} {off : Int} {tgt : Nat} (dg : decode cc pc = .ok (.tableswitch dflt lo hi offs, len)) (h1 : ¬ x.toInt < lo) (h2 : ¬ hi < x.toInt) (ho : offs[(x.toInt - lo).toNat]? = some off) (ht : (pc : Int) + off = (tgt : Int))
    (kk : wo_W p l e R s m args below meth c A D cells slots nL Q tgt ls st ws) : wo_W p l e R s m args below meth c A D cells slots nL Q pc ls (.int x :: st) ws := fun H locs hP hD hS lv hl => lv_tableIn C.1 C.2.1 dg h1 h2 ho ht (kk H locs hP hD hS lv hl)
theorem x_tableOut (C : wo_C p s m args meth c A D cc nL own tys ret) {dflt lo hi : Int} {offs : Array Int} {len : Nat} {x : Int32} {tgt : Nat} (dg : decode cc pc = .ok (.tableswitch dflt lo hi offs, len)) (h : x.toInt < lo ∨ hi < x.toInt) (ht : (pc : Int) + dflt = (tgt : Int))
    (kk : wo_W p l e R s m args below meth c A D cells slots nL Q tgt ls st ws) : wo_W p l e R s m args below meth c A D cells slots nL Q pc ls (.int x :: st) ws := fun H locs hP hD hS lv hl => lv_tableOut C.1 C.2.1 dg h ht (kk H locs hP hD hS lv hl)
theorem x_top {x y : Int32} (h : x = y) (kk : wo_W p l e R s m args below meth c A D cells slots nL Q pc ls (.int y :: st) ws) : wo_W p l e R s m args below meth c A D cells slots nL Q pc ls (.int x :: st) ws := by subst h; exact kk
theorem x_ls {ls2 : List (Option Value)} (h : ls = ls2) (kk : wo_W p l e R s m args below meth c A D cells slots nL Q pc ls2 st ws) : wo_W p l e R s m args below meth c A D cells slots nL Q pc ls st ws := by subst h; exact kk
theorem x_ws {ws2 : va_W} (h : ws = ws2) (kk : wo_W p l e R s m args below meth c A D cells slots nL Q pc ls st ws2) : wo_W p l e R s m args below meth c A D cells slots nL Q pc ls st ws := by subst h; exact kk
theorem x_get (C : wo_C p s m args meth c A D cc nL own tys ret) {C0 : String} {T : u_T} {N ci a idx : Nat} {fs : List Value} {v : Value} (hin : ∀ w ∈ u_ws C0 T N, w ∈ wo_BG) (k : Nat) (hlk : Cond.fieldLink own idx (T k).1 (T k).2.1 (T k).2.2.1 ∈ wo_BG) (q : Nat) (hq : ws[q]? = some (a, .inr (ci, fs))) (hci : vwCl[ci]? = some (C0, T, N)) (hk : k < N) (hv : fs[k]? = some v) (dg : decode cc pc = .ok (.getfield idx, 3))
    (kk : wo_W p l e R s m args below meth c A D cells slots nL Q (pc + 3) ls (v :: st) ws) : wo_W p l e R s m args below meth c A D cells slots nL Q pc ls (.ref a :: st) ws := fun H locs hP hD hS lv hl => va_get C.1 C.2.1 C.2.2.2.2.1 hin C.2.2.2.1 C.2.2.2.2.2.1 hP q hq hci k hk (C.2.2.2.2.1 _ hlk) (fun _ h9 => h9) hv dg (kk H locs hP hD hS lv hl)
theorem x_put (C : wo_C p s m args meth c A D cc nL own tys ret) {C0 : String} {T : u_T} {N ci a idx : Nat} {fs : List Value} {v : Value} {ty : FieldType} {ws2 : va_W} (hin : ∀ w ∈ u_ws C0 T N, w ∈ wo_BG) (ty0 : Nat → FieldType) (hty : ∀ k, k < N → parseFieldDescriptor (T k).2.2.1 = some (ty0 k)) (hnm : ∀ a, a < N → ∀ b, b < N → a ≠ b → (T a).2.1 ≠ (T b).2.1) (k : Nat) (hlk : Cond.fieldLink own idx (T k).1 (T k).2.1 (T k).2.2.1 ∈ wo_BG) (q : Nat) (hq : ws[q]? = some (a, .inr (ci, fs))) (hci : vwCl[ci]? = some (C0, T, N)) (hk : k < N) (hfin : (T k).2.2.2 = false) (hd : parseFieldDescriptor (T k).2.2.1 = some ty) (hn : narrow ty v = v) (hfit : fits ty v = true) (hl0 : k < fs.length) (hws : ws.set q (a, .inr (ci, fs.set k v)) = ws2) (dg : decode cc pc = .ok (.putfield idx, 3))
    (kk : wo_W p l e R s m args below meth c A D cells slots nL Q (pc + 3) ls st ws2) : wo_W p l e R s m args below meth c A D cells slots nL Q pc ls (v :: .ref a :: st) ws := by
  subst hws
  exact fun H locs hP hD hS lv hl => va_put C.1 C.2.1 C.2.2.2.2.1 hin ty0 hty hnm C.2.2.2.1 C.2.2.2.2.2.1 hP hD hS q hq hci k hk (C.2.2.2.2.1 _ hlk) (fun _ h9 => h9) hfin hd hn hfit hl0 dg (fun H1 locs1 hP1 hD1 hS1 => kk H1 locs1 hP1 hD1 hS1 lv hl)
theorem x_iald (C : wo_C p s m args meth c A D cc nL own tys ret) {cA : ClassId} {a n : Nat} {f : Nat → Int32} {x : Int32} (q t0 i : Nat) (hq : ws[q]? = some (a, .inl (cA, n, .inl f))) (ht : tys[t0]? = some (cA, .int)) (hx : x = nI i) (hi : i < n) (hn : n < 2 ^ 31) (dg : decode cc pc = .ok (.iaload, 1))
    (kk : wo_W p l e R s m args below meth c A D cells slots nL Q (pc + 1) ls (.int (f i) :: st) ws) : wo_W p l e R s m args below meth c A D cells slots nL Q pc ls (.int x :: .ref a :: st) ws := by
  subst hx
  intro H locs hP hD hS lv hl
  refine va_iald C.1 C.2.1 C.2.2.2.2.2.1 hP q t0 hq ht (vp_in_nI hi hn) dg ?_
  rw [nI_clamp (Nat.lt_trans hi hn)]
  exact kk H locs hP hD hS lv hl
theorem x_zald (C : wo_C p s m args meth c A D cc nL own tys ret) {cA : ClassId} {a n : Nat} {f : Nat → Int32} {x : Int32} (q t0 i : Nat) (hq : ws[q]? = some (a, .inl (cA, n, .inl f))) (ht : tys[t0]? = some (cA, .boolean)) (hx : x = nI i) (hi : i < n) (hn : n < 2 ^ 31) (dg : decode cc pc = .ok (.baload, 1))
    (kk : wo_W p l e R s m args below meth c A D cells slots nL Q (pc + 1) ls (.int (f i) :: st) ws) : wo_W p l e R s m args below meth c A D cells slots nL Q pc ls (.int x :: .ref a :: st) ws := by
  subst hx
  intro H locs hP hD hS lv hl
  refine va_zald C.1 C.2.1 C.2.2.2.2.2.1 hP q t0 hq ht (vp_in_nI hi hn) dg ?_
  rw [nI_clamp (Nat.lt_trans hi hn)]
  exact kk H locs hP hD hS lv hl
theorem x_lald (C : wo_C p s m args meth c A D cc nL own tys ret) {cA : ClassId} {a n : Nat} {f : Nat → Int64} {x : Int32} (q t0 i : Nat) (hq : ws[q]? = some (a, .inl (cA, n, .inr (.inl f)))) (ht : tys[t0]? = some (cA, .long)) (hx : x = nI i) (hi : i < n) (hn : n < 2 ^ 31) (dg : decode cc pc = .ok (.laload, 1))
    (kk : wo_W p l e R s m args below meth c A D cells slots nL Q (pc + 1) ls (.long (f i) :: st) ws) : wo_W p l e R s m args below meth c A D cells slots nL Q pc ls (.int x :: .ref a :: st) ws := by
  subst hx
  intro H locs hP hD hS lv hl
  refine va_lald C.1 C.2.1 C.2.2.2.2.2.1 hP q t0 hq ht (vp_in_nI hi hn) dg ?_
  rw [nI_clamp (Nat.lt_trans hi hn)]
  exact kk H locs hP hD hS lv hl
theorem x_iast (C : wo_C p s m args meth c A D cc nL own tys ret) {cA : ClassId} {a n : Nat} {f : Nat → Int32} {x : Int32} {v : Int32} {ws2 : va_W} (q t0 i : Nat) (hq : ws[q]? = some (a, .inl (cA, n, .inl (f)))) (ht : tys[t0]? = some (cA, .int)) (hx : x = nI i) (hi : i < n) (hn : n < 2 ^ 31) (hws : ws.set q (a, .inl (cA, n, .inl (upd f i v))) = ws2) (dg : decode cc pc = .ok (.iastore, 1))
    (kk : wo_W p l e R s m args below meth c A D cells slots nL Q (pc + 1) ls st ws2) : wo_W p l e R s m args below meth c A D cells slots nL Q pc ls (.int v :: .int x :: .ref a :: st) ws := by
  subst hx
  subst hws
  intro H locs hP hD hS lv hl
  refine va_iast C.1 C.2.1 C.2.2.2.2.2.1 hP hD hS q t0 hq ht (vp_in_nI hi hn) dg ?_
  rw [nI_clamp (Nat.lt_trans hi hn)]
  exact fun H1 locs1 hP1 hD1 hS1 => kk H1 locs1 hP1 hD1 hS1 lv hl
theorem x_zast (C : wo_C p s m args meth c A D cc nL own tys ret) {cA : ClassId} {a n : Nat} {f : Nat → Int32} {x : Int32} {v : Int32} {ws2 : va_W} (q t0 i : Nat) (hq : ws[q]? = some (a, .inl (cA, n, .inl (f)))) (ht : tys[t0]? = some (cA, .boolean)) (hx : x = nI i) (hi : i < n) (hn : n < 2 ^ 31) (hws : ws.set q (a, .inl (cA, n, .inl (upd f i (vp_nar .boolean v)))) = ws2) (dg : decode cc pc = .ok (.bastore, 1))
    (kk : wo_W p l e R s m args below meth c A D cells slots nL Q (pc + 1) ls st ws2) : wo_W p l e R s m args below meth c A D cells slots nL Q pc ls (.int v :: .int x :: .ref a :: st) ws := by
  subst hx
  subst hws
  intro H locs hP hD hS lv hl
  refine va_zast C.1 C.2.1 C.2.2.2.2.2.1 hP hD hS q t0 hq ht (vp_in_nI hi hn) dg ?_
  rw [nI_clamp (Nat.lt_trans hi hn)]
  exact fun H1 locs1 hP1 hD1 hS1 => kk H1 locs1 hP1 hD1 hS1 lv hl
theorem x_last (C : wo_C p s m args meth c A D cc nL own tys ret) {cA : ClassId} {a n : Nat} {f : Nat → Int64} {x : Int32} {v : Int64} {ws2 : va_W} (q t0 i : Nat) (hq : ws[q]? = some (a, .inl (cA, n, .inr (.inl (f))))) (ht : tys[t0]? = some (cA, .long)) (hx : x = nI i) (hi : i < n) (hn : n < 2 ^ 31) (hws : ws.set q (a, .inl (cA, n, .inr (.inl (vp_updL f i v)))) = ws2) (dg : decode cc pc = .ok (.lastore, 1))
    (kk : wo_W p l e R s m args below meth c A D cells slots nL Q (pc + 1) ls st ws2) : wo_W p l e R s m args below meth c A D cells slots nL Q pc ls (.long v :: .int x :: .ref a :: st) ws := by
  subst hx
  subst hws
  intro H locs hP hD hS lv hl
  refine va_last C.1 C.2.1 C.2.2.2.2.2.1 hP hD hS q t0 hq ht (vp_in_nI hi hn) dg ?_
  rw [nI_clamp (Nat.lt_trans hi hn)]
  exact fun H1 locs1 hP1 hD1 hS1 => kk H1 locs1 hP1 hD1 hS1 lv hl
theorem x_callSi (C : wo_C p s m args meth c A D cc nL own tys ret) {idx maxL n d : Nat} {y : MethodName} {bytes : ByteArray} {ret' : Option FieldType} {As rest : List Value} {v : Value} {ws' : va_W} (G : wo_GS own idx y bytes maxL ret' n) (hM : wo_E l y bytes maxL ret' d D tys As ws (some v) ws') (hst : st = As.reverse ++ rest) (hn : As.length = n) (hc : (rest.map fun v => v.category).sum ≤ 8) (hR : d + 1 ≤ R.frames ∧ 8 + (maxL + 11) + 36 * d ≤ R.locals) (hf : cells ≤ R.cells ∧ slots ≤ R.slots) (dg : decode cc pc = .ok (.invokestatic idx, 3))
    (kk : wo_W p l e R s m args below meth c A D cells slots nL Q (pc + 3) ls (v :: rest) ws') : wo_W p l e R s m args below meth c A D cells slots nL Q pc ls st ws := x_callS C G hM hst hn hc hR hf dg kk
theorem x_callSv (C : wo_C p s m args meth c A D cc nL own tys ret) {idx maxL n d : Nat} {y : MethodName} {bytes : ByteArray} {ret' : Option FieldType} {As rest : List Value} {ws' : va_W} (G : wo_GS own idx y bytes maxL ret' n) (hM : wo_E l y bytes maxL ret' d D tys As ws none ws') (hst : st = As.reverse ++ rest) (hn : As.length = n) (hc : (rest.map fun v => v.category).sum ≤ 8) (hR : d + 1 ≤ R.frames ∧ 8 + (maxL + 11) + 36 * d ≤ R.locals) (hf : cells ≤ R.cells ∧ slots ≤ R.slots) (dg : decode cc pc = .ok (.invokestatic idx, 3))
    (kk : wo_W p l e R s m args below meth c A D cells slots nL Q (pc + 3) ls rest ws') : wo_W p l e R s m args below meth c A D cells slots nL Q pc ls st ws := x_callS C G hM hst hn hc hR hf dg kk
theorem x_callVi (C : wo_C p s m args meth c A D cc nL own tys ret) {idx maxL n d ci : Nat} {y : MethodName} {C0 : String} {T0 : u_T} {N0 : Nat} {fs : List Value} {bytes : ByteArray} {ret' : Option FieldType} {b : Nat} {As rest : List Value} {v : Value} {ws' : va_W} (G : wo_GV own idx C0 y bytes maxL ret' n) (hM : wo_E l y bytes maxL ret' d D tys (.ref b :: As) ws (some v) ws') (q : Nat) (hq : ws[q]? = some (b, .inr (ci, fs))) (hci : vwCl[ci]? = some (C0, T0, N0)) (hst : st = As.reverse ++ .ref b :: rest) (hn : As.length = n) (hc : (rest.map fun v => v.category).sum ≤ 8) (hR : d + 1 ≤ R.frames ∧ 8 + (maxL + 11) + 36 * d ≤ R.locals) (hf : cells ≤ R.cells ∧ slots ≤ R.slots) (dg : decode cc pc = .ok (.invokevirtual idx, 3))
    (kk : wo_W p l e R s m args below meth c A D cells slots nL Q (pc + 3) ls (v :: rest) ws') : wo_W p l e R s m args below meth c A D cells slots nL Q pc ls st ws := x_callV C G hM q hq hci hst hn hc hR hf dg kk
theorem x_callVv (C : wo_C p s m args meth c A D cc nL own tys ret) {idx maxL n d ci : Nat} {y : MethodName} {C0 : String} {T0 : u_T} {N0 : Nat} {fs : List Value} {bytes : ByteArray} {ret' : Option FieldType} {b : Nat} {As rest : List Value} {ws' : va_W} (G : wo_GV own idx C0 y bytes maxL ret' n) (hM : wo_E l y bytes maxL ret' d D tys (.ref b :: As) ws none ws') (q : Nat) (hq : ws[q]? = some (b, .inr (ci, fs))) (hci : vwCl[ci]? = some (C0, T0, N0)) (hst : st = As.reverse ++ .ref b :: rest) (hn : As.length = n) (hc : (rest.map fun v => v.category).sum ≤ 8) (hR : d + 1 ≤ R.frames ∧ 8 + (maxL + 11) + 36 * d ≤ R.locals) (hf : cells ≤ R.cells ∧ slots ≤ R.slots) (dg : decode cc pc = .ok (.invokevirtual idx, 3))
    (kk : wo_W p l e R s m args below meth c A D cells slots nL Q (pc + 3) ls rest ws') : wo_W p l e R s m args below meth c A D cells slots nL Q pc ls st ws := x_callV C G hM q hq hci hst hn hc hR hf dg kk
end WOR
end
section
theorem kn_X0 : Cond.initialized RX0 ∈ wo_BG := wo_b1 (i := 3) rfl rfl
theorem kn_X1 : Cond.initialized RX1 ∈ wo_BG := wo_b1 (i := 2) rfl rfl
theorem kn_X2 : Cond.initialized RX2 ∈ wo_BG := wo_b1 (i := 1) rfl rfl
theorem kn_X3 : Cond.initialized RX3 ∈ wo_BG := wo_b1 (i := 4) rfl rfl
theorem kn_L : Cond.initialized RL ∈ wo_BG := wo_b1 (i := 0) rfl rfl
theorem kn_IAE : Cond.initialized "java/lang/IllegalArgumentException" ∈ wo_BG := wo_b1 (i := 8) rfl rfl
theorem kn_ISE : Cond.initialized "java/lang/IllegalStateException" ∈ wo_BG := wo_b1 (i := 9) rfl rfl
theorem ku_X0 : ∀ w ∈ u_ws RX0 TX0 9, w ∈ wo_BG := fun w h => wo_bg ((by decide +kernel : ∀ w ∈ u_ws RX0 TX0 9, w ∈ lw_tbl) w h) ((by decide +kernel : ∀ w ∈ u_ws RX0 TX0 9, goodWord w = true) w h)
theorem ku_X1 : ∀ w ∈ u_ws RX1 TX1 6, w ∈ wo_BG := fun w h => wo_bg ((by decide +kernel : ∀ w ∈ u_ws RX1 TX1 6, w ∈ lw_tbl) w h) ((by decide +kernel : ∀ w ∈ u_ws RX1 TX1 6, goodWord w = true) w h)
theorem ku_X2 : ∀ w ∈ u_ws RX2 TX2 6, w ∈ wo_BG := fun w h => wo_bg ((by decide +kernel : ∀ w ∈ u_ws RX2 TX2 6, w ∈ lw_tbl) w h) ((by decide +kernel : ∀ w ∈ u_ws RX2 TX2 6, goodWord w = true) w h)
theorem ku_X3 : ∀ w ∈ u_ws RX3 TX3 22, w ∈ wo_BG := fun w h => wo_bg ((by decide +kernel : ∀ w ∈ u_ws RX3 TX3 22, w ∈ lw_tbl) w h) ((by decide +kernel : ∀ w ∈ u_ws RX3 TX3 22, goodWord w = true) w h)
theorem kf_X0_9 : Cond.fieldLink RX0 9 "WeighOff$Course" "sheet" "LWeighOff$Sheet;" ∈ wo_BG := wo_b1 (i := 50) rfl rfl
theorem kf_X0_15 : Cond.fieldLink RX0 15 "WeighOff$Course" "line" "[I" ∈ wo_BG := wo_b1 (i := 52) rfl rfl
theorem kf_X0_19 : Cond.fieldLink RX0 19 "WeighOff$Course" "left" "[Z" ∈ wo_BG := wo_b1 (i := 55) rfl rfl
theorem kf_X0_23 : Cond.fieldLink RX0 23 "WeighOff$Course" "throughCut" "[Z" ∈ wo_BG := wo_b1 (i := 57) rfl rfl
theorem kf_X0_26 : Cond.fieldLink RX0 26 "WeighOff$Course" "takenPlaces" "[I" ∈ wo_BG := wo_b1 (i := 58) rfl rfl
theorem kf_X0_29 : Cond.fieldLink RX0 29 "WeighOff$Course" "leftCount" "I" ∈ wo_BG := wo_b1 (i := 56) rfl rfl
theorem kf_X0_33 : Cond.fieldLink RX0 33 "WeighOff$Course" "day" "I" ∈ wo_BG := wo_b1 (i := 51) rfl rfl
theorem kf_X0_39 : Cond.fieldLink RX0 39 "WeighOff$Course" "position" "I" ∈ wo_BG := wo_b1 (i := 54) rfl rfl
theorem kf_X0_42 : Cond.fieldLink RX0 42 "WeighOff$Course" "lineLength" "I" ∈ wo_BG := wo_b1 (i := 53) rfl rfl
theorem kf_X1_9 : Cond.fieldLink RX1 9 "WeighOff$Sheet" "marks" "[I" ∈ wo_BG := wo_b1 (i := 26) rfl rfl
theorem kf_X1_15 : Cond.fieldLink RX1 15 "WeighOff$Sheet" "tilts" "[I" ∈ wo_BG := wo_b1 (i := 27) rfl rfl
theorem kf_X1_18 : Cond.fieldLink RX1 18 "WeighOff$Sheet" "measured" "[I" ∈ wo_BG := wo_b1 (i := 28) rfl rfl
theorem kf_X1_21 : Cond.fieldLink RX1 21 "WeighOff$Sheet" "ranked" "[I" ∈ wo_BG := wo_b1 (i := 29) rfl rfl
theorem kf_X1_24 : Cond.fieldLink RX1 24 "WeighOff$Sheet" "growers" "I" ∈ wo_BG := wo_b1 (i := 24) rfl rfl
theorem kf_X1_28 : Cond.fieldLink RX1 28 "WeighOff$Sheet" "entries" "I" ∈ wo_BG := wo_b1 (i := 25) rfl rfl
theorem kf_X2_10 : Cond.fieldLink RX2 10 "WeighOff" "sheet" "LWeighOff$Sheet;" ∈ wo_BG := wo_b1 (i := 116) rfl rfl
theorem kf_X2_21 : Cond.fieldLink RX2 21 "WeighOff" "course" "LWeighOff$Course;" ∈ wo_BG := wo_b1 (i := 117) rfl rfl
theorem kf_X2_25 : Cond.fieldLink RX2 25 "WeighOff" "levelOn" "Z" ∈ wo_BG := wo_b1 (i := 118) rfl rfl
theorem kf_X2_30 : Cond.fieldLink RX2 30 "WeighOff" "recordPounds" "I" ∈ wo_BG := wo_b1 (i := 119) rfl rfl
theorem kf_X2_34 : Cond.fieldLink RX2 34 "WeighOff" "recordCount" "I" ∈ wo_BG := wo_b1 (i := 120) rfl rfl
theorem kf_X2_37 : Cond.fieldLink RX2 37 "WeighOff" "prizePounds" "I" ∈ wo_BG := wo_b1 (i := 121) rfl rfl
theorem kf_X3_7 : Cond.fieldLink RX3 7 "WeighOffModel" "kind" "[I" ∈ wo_BG := wo_b3 (i := 94) rfl rfl
theorem kf_X3_13 : Cond.fieldLink RX3 13 "WeighOffModel" "worth" "[I" ∈ wo_BG := wo_b3 (i := 95) rfl rfl
theorem kf_X3_16 : Cond.fieldLink RX3 16 "WeighOffModel" "measured" "[Z" ∈ wo_BG := wo_b3 (i := 96) rfl rfl
theorem kf_X3_20 : Cond.fieldLink RX3 20 "WeighOffModel" "tilt" "[I" ∈ wo_BG := wo_b3 (i := 97) rfl rfl
theorem kf_X3_23 : Cond.fieldLink RX3 23 "WeighOffModel" "tilted" "[Z" ∈ wo_BG := wo_b3 (i := 98) rfl rfl
theorem kf_X3_26 : Cond.fieldLink RX3 26 "WeighOffModel" "latest" "[I" ∈ wo_BG := wo_b3 (i := 99) rfl rfl
theorem kf_X3_29 : Cond.fieldLink RX3 29 "WeighOffModel" "gone" "[Z" ∈ wo_BG := wo_b3 (i := 100) rfl rfl
theorem kf_X3_32 : Cond.fieldLink RX3 32 "WeighOffModel" "kept" "[Z" ∈ wo_BG := wo_b3 (i := 101) rfl rfl
theorem kf_X3_35 : Cond.fieldLink RX3 35 "WeighOffModel" "order" "[I" ∈ wo_BG := wo_b3 (i := 102) rfl rfl
theorem kf_X3_38 : Cond.fieldLink RX3 38 "WeighOffModel" "level" "Z" ∈ wo_BG := wo_b3 (i := 105) rfl rfl
theorem kf_X3_42 : Cond.fieldLink RX3 42 "WeighOffModel" "one" "[I" ∈ wo_BG := wo_b3 (i := 111) rfl rfl
theorem kf_X3_45 : Cond.fieldLink RX3 45 "WeighOffModel" "two" "[I" ∈ wo_BG := wo_b3 (i := 112) rfl rfl
theorem kf_X3_56 : Cond.fieldLink RX3 56 "WeighOffModel" "code" "I" ∈ wo_BG := wo_b3 (i := 91) rfl rfl
theorem kf_X3_60 : Cond.fieldLink RX3 60 "WeighOffModel" "growers" "I" ∈ wo_BG := wo_b3 (i := 92) rfl rfl
theorem kf_X3_63 : Cond.fieldLink RX3 63 "WeighOffModel" "day" "I" ∈ wo_BG := wo_b3 (i := 93) rfl rfl
theorem kf_X3_77 : Cond.fieldLink RX3 77 "WeighOffModel" "ordered" "I" ∈ wo_BG := wo_b3 (i := 103) rfl rfl
theorem kf_X3_83 : Cond.fieldLink RX3 83 "WeighOffModel" "at" "I" ∈ wo_BG := wo_b3 (i := 104) rfl rfl
theorem kf_X3_102 : Cond.fieldLink RX3 102 "WeighOffModel" "hasRecord" "Z" ∈ wo_BG := wo_b3 (i := 106) rfl rfl
theorem kf_X3_105 : Cond.fieldLink RX3 105 "WeighOffModel" "record" "I" ∈ wo_BG := wo_b3 (i := 107) rfl rfl
theorem kf_X3_108 : Cond.fieldLink RX3 108 "WeighOffModel" "records" "I" ∈ wo_BG := wo_b3 (i := 108) rfl rfl
theorem kf_X3_115 : Cond.fieldLink RX3 115 "WeighOffModel" "hasPrize" "Z" ∈ wo_BG := wo_b3 (i := 109) rfl rfl
theorem kf_X3_118 : Cond.fieldLink RX3 118 "WeighOffModel" "prize" "I" ∈ wo_BG := wo_b3 (i := 110) rfl rfl
theorem kk_X0_45 : Cond.constant RX0 45 (-1000000 : Int32) ∈ wo_BG := wo_b1 (i := 147) rfl rfl
theorem kk_X1_31 : Cond.constant RX1 31 (-1000000 : Int32) ∈ wo_BG := wo_b1 (i := 91) rfl rfl
theorem kk_X2_29 : Cond.constant RX2 29 (-1000000 : Int32) ∈ wo_BG := wo_b1 (i := 79) rfl rfl
theorem kk_X3_124 : Cond.constant RX3 124 (-1000000 : Int32) ∈ wo_BG := wo_b3 (i := 218) rfl rfl
theorem kl_L_8 : Cond.classLink RL 8 "WeighOff" ∈ wo_BG := wo_b1 (i := 10) rfl rfl
theorem kl_L_13 : Cond.classLink RL 13 "java/lang/IllegalArgumentException" ∈ wo_BG := wo_b1 (i := 162) rfl rfl
theorem kl_L_19 : Cond.classLink RL 19 "java/lang/IllegalStateException" ∈ wo_BG := wo_b1 (i := 237) rfl rfl
theorem kl_L_85 : Cond.classLink RL 85 "WeighOffModel" ∈ wo_BG := wo_b3 (i := 50) rfl rfl
theorem kl_X2_7 : Cond.classLink RX2 7 "WeighOff$Sheet" ∈ wo_BG := wo_b1 (i := 18) rfl rfl
theorem kl_X2_16 : Cond.classLink RX2 16 "WeighOff$Course" ∈ wo_BG := wo_b1 (i := 44) rfl rfl
theorem kl_X2_48 : Cond.classLink RX2 48 "java/lang/IllegalArgumentException" ∈ wo_BG := wo_b1 (i := 167) rfl rfl
theorem kl_X2_89 : Cond.classLink RX2 89 "java/lang/IllegalStateException" ∈ wo_BG := wo_b2 (i := 14) rfl rfl
theorem gv_L_7 : wo_GV RL 7 RX2 yX2_open cX2_open 2 (none) 1 := ⟨⟨wo_b1 (i := 163) rfl rfl, kn_X2, wo_b1 (i := 166) rfl rfl, by decide, by decide, by decide +kernel⟩, wo_b1 (i := 164) rfl rfl, wo_b1 (i := 165) rfl rfl⟩
theorem gv_L_15 : wo_GV RL 15 RX2 yX2_weigh cX2_weigh 6 (some .int) 2 := ⟨⟨wo_b1 (i := 238) rfl rfl, kn_X2, wo_b2 (i := 1) rfl rfl, by decide, by decide, by decide +kernel⟩, wo_b1 (i := 239) rfl rfl, wo_b2 (i := 0) rfl rfl⟩
theorem gv_L_21 : wo_GV RL 21 RX2 yX2_crack cX2_crack 4 (none) 2 := ⟨⟨wo_b2 (i := 83) rfl rfl, kn_X2, wo_b2 (i := 86) rfl rfl, by decide, by decide, by decide +kernel⟩, wo_b2 (i := 84) rfl rfl, wo_b2 (i := 85) rfl rfl⟩
theorem gv_L_25 : wo_GV RL 25 RX2 yX2_pass cX2_pass 2 (none) 0 := ⟨⟨wo_b2 (i := 90) rfl rfl, kn_X2, wo_b2 (i := 93) rfl rfl, by decide, by decide, by decide +kernel⟩, wo_b2 (i := 91) rfl rfl, wo_b2 (i := 92) rfl rfl⟩
theorem gv_L_28 : wo_GV RL 28 RX2 yX2_leave cX2_leave 2 (none) 1 := ⟨⟨wo_b2 (i := 97) rfl rfl, kn_X2, wo_b2 (i := 100) rfl rfl, by decide, by decide, by decide +kernel⟩, wo_b2 (i := 98) rfl rfl, wo_b2 (i := 99) rfl rfl⟩
theorem gv_L_31 : wo_GV RL 31 RX2 yX2_appeal cX2_appeal 4 (some .int) 2 := ⟨⟨wo_b2 (i := 121) rfl rfl, kn_X2, wo_b2 (i := 124) rfl rfl, by decide, by decide, by decide +kernel⟩, wo_b2 (i := 122) rfl rfl, wo_b2 (i := 123) rfl rfl⟩
theorem gv_L_34 : wo_GV RL 34 RX2 yX2_record cX2_record 2 (none) 1 := ⟨⟨wo_b2 (i := 145) rfl rfl, kn_X2, wo_b2 (i := 148) rfl rfl, by decide, by decide, by decide +kernel⟩, wo_b2 (i := 146) rfl rfl, wo_b2 (i := 147) rfl rfl⟩
theorem gv_L_37 : wo_GV RL 37 RX2 yX2_prize cX2_prize 2 (none) 1 := ⟨⟨wo_b2 (i := 159) rfl rfl, kn_X2, wo_b2 (i := 162) rfl rfl, by decide, by decide, by decide +kernel⟩, wo_b2 (i := 160) rfl rfl, wo_b2 (i := 161) rfl rfl⟩
theorem gv_L_40 : wo_GV RL 40 RX2 yX2_weight cX2_weight 3 (some .int) 2 := ⟨⟨wo_b2 (i := 166) rfl rfl, kn_X2, wo_b2 (i := 169) rfl rfl, by decide, by decide, by decide +kernel⟩, wo_b2 (i := 167) rfl rfl, wo_b2 (i := 168) rfl rfl⟩
theorem gv_L_43 : wo_GV RL 43 RX2 yX2_tilt cX2_tilt 3 (some .int) 2 := ⟨⟨wo_b2 (i := 177) rfl rfl, kn_X2, wo_b2 (i := 180) rfl rfl, by decide, by decide, by decide +kernel⟩, wo_b2 (i := 178) rfl rfl, wo_b2 (i := 179) rfl rfl⟩
theorem gv_L_46 : wo_GV RL 46 RX2 yX2_best cX2_best 2 (some .int) 1 := ⟨⟨wo_b2 (i := 184) rfl rfl, kn_X2, wo_b2 (i := 187) rfl rfl, by decide, by decide, by decide +kernel⟩, wo_b2 (i := 185) rfl rfl, wo_b2 (i := 186) rfl rfl⟩
theorem gv_L_50 : wo_GV RL 50 RX2 yX2_place cX2_place 2 (some .int) 1 := ⟨⟨wo_b2 (i := 192) rfl rfl, kn_X2, wo_b2 (i := 195) rfl rfl, by decide, by decide, by decide +kernel⟩, wo_b2 (i := 193) rfl rfl, wo_b2 (i := 194) rfl rfl⟩
theorem gv_L_53 : wo_GV RL 53 RX2 yX2_wins cX2_wins 3 (some .boolean) 1 := ⟨⟨wo_b2 (i := 200) rfl rfl, kn_X2, wo_b2 (i := 203) rfl rfl, by decide, by decide, by decide +kernel⟩, wo_b2 (i := 201) rfl rfl, wo_b2 (i := 202) rfl rfl⟩
theorem gv_L_57 : wo_GV RL 57 RX2 yX2_count cX2_count 7 (some .int) 3 := ⟨⟨wo_b2 (i := 207) rfl rfl, kn_X2, wo_b2 (i := 210) rfl rfl, by decide, by decide, by decide +kernel⟩, wo_b2 (i := 208) rfl rfl, wo_b2 (i := 209) rfl rfl⟩
theorem gv_L_61 : wo_GV RL 61 RX2 yX2_first cX2_first 6 (some .int) 3 := ⟨⟨wo_b2 (i := 235) rfl rfl, kn_X2, wo_b2 (i := 238) rfl rfl, by decide, by decide, by decide +kernel⟩, wo_b2 (i := 236) rfl rfl, wo_b2 (i := 237) rfl rfl⟩
theorem gv_L_64 : wo_GV RL 64 RX2 yX2_lamps cX2_lamps 6 (some .int) 3 := ⟨⟨wo_b3 (i := 7) rfl rfl, kn_X2, wo_b3 (i := 10) rfl rfl, by decide, by decide, by decide +kernel⟩, wo_b3 (i := 8) rfl rfl, wo_b3 (i := 9) rfl rfl⟩
theorem gv_L_67 : wo_GV RL 67 RX2 yX2_stands cX2_stands 8 (some .int) 3 := ⟨⟨wo_b3 (i := 23) rfl rfl, kn_X2, wo_b3 (i := 26) rfl rfl, by decide, by decide, by decide +kernel⟩, wo_b3 (i := 24) rfl rfl, wo_b3 (i := 25) rfl rfl⟩
theorem gv_L_70 : wo_GV RL 70 RX2 yX2_lean cX2_lean 6 (some .int) 2 := ⟨⟨wo_b3 (i := 30) rfl rfl, kn_X2, wo_b3 (i := 33) rfl rfl, by decide, by decide, by decide +kernel⟩, wo_b3 (i := 31) rfl rfl, wo_b3 (i := 32) rfl rfl⟩
theorem gv_L_74 : wo_GV RL 74 RX2 yX2_look cX2_look 2 (some .int) 1 := ⟨⟨wo_b3 (i := 37) rfl rfl, kn_X2, wo_b3 (i := 40) rfl rfl, by decide, by decide, by decide +kernel⟩, wo_b3 (i := 38) rfl rfl, wo_b3 (i := 39) rfl rfl⟩
theorem gs_L_77 : wo_GS RL 77 yL_cell cL_cell 2 (some .int) 2 := ⟨⟨wo_b1 (i := 156) rfl rfl, kn_L, wo_b1 (i := 158) rfl rfl, by decide, by decide, by decide +kernel⟩, wo_b1 (i := 157) rfl rfl⟩
theorem gi_L_83 : wo_GB RL 83 yX2_init cX2_init 2 (none) 1 := ⟨wo_b1 (i := 12) rfl rfl, kn_X2, wo_b1 (i := 14) rfl rfl, by decide, by decide, by decide +kernel⟩
theorem ki_L_83 : Cond.instanceMethod yX2_init ∈ wo_BG := wo_b1 (i := 13) rfl rfl
theorem gi_L_87 : wo_GB RL 87 yX3_init cX3_init 2 (none) 1 := ⟨wo_b3 (i := 52) rfl rfl, kn_X3, wo_b3 (i := 54) rfl rfl, by decide, by decide, by decide +kernel⟩
theorem ki_L_87 : Cond.instanceMethod yX3_init ∈ wo_BG := wo_b3 (i := 53) rfl rfl
theorem kc_L_open : Cond.codeWith yL_open cL_open 3 (some .int) [(0, 5, 8, 13)] ∈ wo_BG := wo_b1 (i := 161) rfl rfl
theorem km_L_88 : Cond.methodLink RL 88 yL_open ∈ wo_BG := wo_b1 (i := 159) rfl rfl
theorem ks_L_open : Cond.static yL_open ∈ wo_BG := wo_b1 (i := 160) rfl rfl
theorem gv_L_91 : wo_GV RL 91 RX3 yX3_open cX3_open 2 (none) 1 := ⟨⟨wo_b3 (i := 162) rfl rfl, kn_X3, wo_b3 (i := 165) rfl rfl, by decide, by decide, by decide +kernel⟩, wo_b3 (i := 163) rfl rfl, wo_b3 (i := 164) rfl rfl⟩
theorem gv_L_92 : wo_GV RL 92 RX3 yX3_thrown cX3_thrown 1 (some .int) 0 := ⟨⟨wo_b3 (i := 158) rfl rfl, kn_X3, wo_b3 (i := 161) rfl rfl, by decide, by decide, by decide +kernel⟩, wo_b3 (i := 159) rfl rfl, wo_b3 (i := 160) rfl rfl⟩
theorem kc_L_weigh : Cond.codeWith yL_weigh cL_weigh 5 (some .int) [(0, 10, 13, 13), (0, 10, 17, 19)] ∈ wo_BG := wo_b1 (i := 236) rfl rfl
theorem km_L_96 : Cond.methodLink RL 96 yL_weigh ∈ wo_BG := wo_b1 (i := 234) rfl rfl
theorem ks_L_weigh : Cond.static yL_weigh ∈ wo_BG := wo_b1 (i := 235) rfl rfl
theorem gv_L_99 : wo_GV RL 99 RX3 yX3_weigh cX3_weigh 5 (some .int) 2 := ⟨⟨wo_b3 (i := 166) rfl rfl, kn_X3, wo_b3 (i := 169) rfl rfl, by decide, by decide, by decide +kernel⟩, wo_b3 (i := 167) rfl rfl, wo_b3 (i := 168) rfl rfl⟩
theorem kc_L_crack : Cond.codeWith yL_crack cL_crack 4 (some .int) [(0, 6, 9, 13), (0, 6, 12, 19)] ∈ wo_BG := wo_b2 (i := 82) rfl rfl
theorem km_L_100 : Cond.methodLink RL 100 yL_crack ∈ wo_BG := wo_b2 (i := 80) rfl rfl
theorem ks_L_crack : Cond.static yL_crack ∈ wo_BG := wo_b2 (i := 81) rfl rfl
theorem gv_L_103 : wo_GV RL 103 RX3 yX3_crack cX3_crack 4 (none) 2 := ⟨⟨wo_b3 (i := 182) rfl rfl, kn_X3, wo_b3 (i := 185) rfl rfl, by decide, by decide, by decide +kernel⟩, wo_b3 (i := 183) rfl rfl, wo_b3 (i := 184) rfl rfl⟩
theorem kc_L_pass : Cond.codeWith yL_pass cL_pass 2 (some .int) [(0, 4, 7, 19)] ∈ wo_BG := wo_b2 (i := 89) rfl rfl
theorem km_L_104 : Cond.methodLink RL 104 yL_pass ∈ wo_BG := wo_b2 (i := 87) rfl rfl
theorem ks_L_pass : Cond.static yL_pass ∈ wo_BG := wo_b2 (i := 88) rfl rfl
theorem gv_L_107 : wo_GV RL 107 RX3 yX3_pass cX3_pass 2 (none) 0 := ⟨⟨wo_b3 (i := 186) rfl rfl, kn_X3, wo_b3 (i := 189) rfl rfl, by decide, by decide, by decide +kernel⟩, wo_b3 (i := 187) rfl rfl, wo_b3 (i := 188) rfl rfl⟩
theorem kc_L_leave : Cond.codeWith yL_leave cL_leave 3 (some .int) [(0, 5, 8, 13), (0, 5, 11, 19)] ∈ wo_BG := wo_b2 (i := 96) rfl rfl
theorem km_L_108 : Cond.methodLink RL 108 yL_leave ∈ wo_BG := wo_b2 (i := 94) rfl rfl
theorem ks_L_leave : Cond.static yL_leave ∈ wo_BG := wo_b2 (i := 95) rfl rfl
theorem gv_L_110 : wo_GV RL 110 RX3 yX3_leave cX3_leave 2 (none) 1 := ⟨⟨wo_b3 (i := 190) rfl rfl, kn_X3, wo_b3 (i := 193) rfl rfl, by decide, by decide, by decide +kernel⟩, wo_b3 (i := 191) rfl rfl, wo_b3 (i := 192) rfl rfl⟩
theorem kc_L_appeal : Cond.codeWith yL_appeal cL_appeal 5 (some .int) [(0, 10, 13, 13), (0, 10, 17, 19)] ∈ wo_BG := wo_b2 (i := 120) rfl rfl
theorem km_L_111 : Cond.methodLink RL 111 yL_appeal ∈ wo_BG := wo_b2 (i := 118) rfl rfl
theorem ks_L_appeal : Cond.static yL_appeal ∈ wo_BG := wo_b2 (i := 119) rfl rfl
theorem gv_L_113 : wo_GV RL 113 RX3 yX3_appeal cX3_appeal 4 (some .int) 2 := ⟨⟨wo_b3 (i := 194) rfl rfl, kn_X3, wo_b3 (i := 197) rfl rfl, by decide, by decide, by decide +kernel⟩, wo_b3 (i := 195) rfl rfl, wo_b3 (i := 196) rfl rfl⟩
theorem gv_L_114 : wo_GV RL 114 RX2 yX2_level cX2_level 3 (some .boolean) 1 := ⟨⟨wo_b1 (i := 135) rfl rfl, kn_X2, wo_b1 (i := 138) rfl rfl, by decide, by decide, by decide +kernel⟩, wo_b1 (i := 136) rfl rfl, wo_b1 (i := 137) rfl rfl⟩
theorem gv_L_118 : wo_GV RL 118 RX3 yX3_level cX3_level 3 (some .boolean) 1 := ⟨⟨wo_b3 (i := 202) rfl rfl, kn_X3, wo_b3 (i := 205) rfl rfl, by decide, by decide, by decide +kernel⟩, wo_b3 (i := 203) rfl rfl, wo_b3 (i := 204) rfl rfl⟩
theorem kc_L_record : Cond.codeWith yL_record cL_record 3 (some .int) [(0, 5, 8, 13)] ∈ wo_BG := wo_b2 (i := 144) rfl rfl
theorem km_L_119 : Cond.methodLink RL 119 yL_record ∈ wo_BG := wo_b2 (i := 142) rfl rfl
theorem ks_L_record : Cond.static yL_record ∈ wo_BG := wo_b2 (i := 143) rfl rfl
theorem gv_L_121 : wo_GV RL 121 RX3 yX3_record cX3_record 2 (none) 1 := ⟨⟨wo_b3 (i := 206) rfl rfl, kn_X3, wo_b3 (i := 209) rfl rfl, by decide, by decide, by decide +kernel⟩, wo_b3 (i := 207) rfl rfl, wo_b3 (i := 208) rfl rfl⟩
theorem kc_L_prize : Cond.codeWith yL_prize cL_prize 3 (some .int) [(0, 5, 8, 13)] ∈ wo_BG := wo_b2 (i := 158) rfl rfl
theorem km_L_122 : Cond.methodLink RL 122 yL_prize ∈ wo_BG := wo_b2 (i := 156) rfl rfl
theorem ks_L_prize : Cond.static yL_prize ∈ wo_BG := wo_b2 (i := 157) rfl rfl
theorem gv_L_124 : wo_GV RL 124 RX3 yX3_prize cX3_prize 2 (none) 1 := ⟨⟨wo_b3 (i := 210) rfl rfl, kn_X3, wo_b3 (i := 213) rfl rfl, by decide, by decide, by decide +kernel⟩, wo_b3 (i := 211) rfl rfl, wo_b3 (i := 212) rfl rfl⟩
theorem gv_L_125 : wo_GV RL 125 RX2 yX2_turn cX2_turn 1 (some .int) 0 := ⟨⟨wo_b1 (i := 139) rfl rfl, kn_X2, wo_b1 (i := 142) rfl rfl, by decide, by decide, by decide +kernel⟩, wo_b1 (i := 140) rfl rfl, wo_b1 (i := 141) rfl rfl⟩
theorem gv_L_128 : wo_GV RL 128 RX3 yX3_turn cX3_turn 1 (some .int) 0 := ⟨⟨wo_b3 (i := 214) rfl rfl, kn_X3, wo_b3 (i := 217) rfl rfl, by decide, by decide, by decide +kernel⟩, wo_b3 (i := 215) rfl rfl, wo_b3 (i := 216) rfl rfl⟩
theorem gv_L_129 : wo_GV RL 129 RX2 yX2_day cX2_day 1 (some .int) 0 := ⟨⟨wo_b1 (i := 148) rfl rfl, kn_X2, wo_b1 (i := 151) rfl rfl, by decide, by decide, by decide +kernel⟩, wo_b1 (i := 149) rfl rfl, wo_b1 (i := 150) rfl rfl⟩
theorem gv_L_132 : wo_GV RL 132 RX3 yX3_day cX3_day 1 (some .int) 0 := ⟨⟨wo_b3 (i := 219) rfl rfl, kn_X3, wo_b3 (i := 222) rfl rfl, by decide, by decide, by decide +kernel⟩, wo_b3 (i := 220) rfl rfl, wo_b3 (i := 221) rfl rfl⟩
theorem kc_L_weight : Cond.codeWith yL_weight cL_weight 5 (some .int) [(0, 10, 13, 13)] ∈ wo_BG := wo_b2 (i := 165) rfl rfl
theorem km_L_133 : Cond.methodLink RL 133 yL_weight ∈ wo_BG := wo_b2 (i := 163) rfl rfl
theorem ks_L_weight : Cond.static yL_weight ∈ wo_BG := wo_b2 (i := 164) rfl rfl
theorem gv_L_135 : wo_GV RL 135 RX3 yX3_weight cX3_weight 4 (some .int) 2 := ⟨⟨wo_b3 (i := 223) rfl rfl, kn_X3, wo_b3 (i := 226) rfl rfl, by decide, by decide, by decide +kernel⟩, wo_b3 (i := 224) rfl rfl, wo_b3 (i := 225) rfl rfl⟩
theorem kc_L_tilt : Cond.codeWith yL_tilt cL_tilt 5 (some .int) [(0, 10, 13, 13)] ∈ wo_BG := wo_b2 (i := 176) rfl rfl
theorem km_L_136 : Cond.methodLink RL 136 yL_tilt ∈ wo_BG := wo_b2 (i := 174) rfl rfl
theorem ks_L_tilt : Cond.static yL_tilt ∈ wo_BG := wo_b2 (i := 175) rfl rfl
theorem gv_L_138 : wo_GV RL 138 RX3 yX3_tilt cX3_tilt 3 (some .int) 2 := ⟨⟨wo_b3 (i := 227) rfl rfl, kn_X3, wo_b3 (i := 230) rfl rfl, by decide, by decide, by decide +kernel⟩, wo_b3 (i := 228) rfl rfl, wo_b3 (i := 229) rfl rfl⟩
theorem kc_L_best : Cond.codeWith yL_best cL_best 4 (some .int) [(0, 9, 12, 13)] ∈ wo_BG := wo_b2 (i := 183) rfl rfl
theorem km_L_139 : Cond.methodLink RL 139 yL_best ∈ wo_BG := wo_b2 (i := 181) rfl rfl
theorem ks_L_best : Cond.static yL_best ∈ wo_BG := wo_b2 (i := 182) rfl rfl
theorem gv_L_142 : wo_GV RL 142 RX3 yX3_best cX3_best 2 (some .int) 1 := ⟨⟨wo_b3 (i := 231) rfl rfl, kn_X3, wo_b3 (i := 234) rfl rfl, by decide, by decide, by decide +kernel⟩, wo_b3 (i := 232) rfl rfl, wo_b3 (i := 233) rfl rfl⟩
theorem kc_L_place : Cond.codeWith yL_place cL_place 4 (some .int) [(0, 9, 12, 13)] ∈ wo_BG := wo_b2 (i := 191) rfl rfl
theorem km_L_143 : Cond.methodLink RL 143 yL_place ∈ wo_BG := wo_b2 (i := 189) rfl rfl
theorem ks_L_place : Cond.static yL_place ∈ wo_BG := wo_b2 (i := 190) rfl rfl
theorem gv_L_145 : wo_GV RL 145 RX3 yX3_place cX3_place 2 (some .int) 1 := ⟨⟨wo_b3 (i := 235) rfl rfl, kn_X3, wo_b3 (i := 238) rfl rfl, by decide, by decide, by decide +kernel⟩, wo_b3 (i := 236) rfl rfl, wo_b3 (i := 237) rfl rfl⟩
theorem kc_L_wins : Cond.codeWith yL_wins cL_wins 4 (some .int) [(0, 16, 19, 13)] ∈ wo_BG := wo_b2 (i := 199) rfl rfl
theorem km_L_146 : Cond.methodLink RL 146 yL_wins ∈ wo_BG := wo_b2 (i := 197) rfl rfl
theorem ks_L_wins : Cond.static yL_wins ∈ wo_BG := wo_b2 (i := 198) rfl rfl
theorem gv_L_148 : wo_GV RL 148 RX3 yX3_wins cX3_wins 2 (some .boolean) 1 := ⟨⟨wo_b3 (i := 239) rfl rfl, kn_X3, wo_b4 (i := 2) rfl rfl, by decide, by decide, by decide +kernel⟩, wo_b4 (i := 0) rfl rfl, wo_b4 (i := 1) rfl rfl⟩
theorem kc_L_count : Cond.codeWith yL_count cL_count 6 (some .int) [(0, 12, 15, 13)] ∈ wo_BG := wo_b2 (i := 206) rfl rfl
theorem km_L_149 : Cond.methodLink RL 149 yL_count ∈ wo_BG := wo_b2 (i := 204) rfl rfl
theorem ks_L_count : Cond.static yL_count ∈ wo_BG := wo_b2 (i := 205) rfl rfl
theorem gv_L_152 : wo_GV RL 152 RX3 yX3_count cX3_count 6 (some .int) 3 := ⟨⟨wo_b4 (i := 3) rfl rfl, kn_X3, wo_b4 (i := 6) rfl rfl, by decide, by decide, by decide +kernel⟩, wo_b4 (i := 4) rfl rfl, wo_b4 (i := 5) rfl rfl⟩
theorem kc_L_first : Cond.codeWith yL_first cL_first 6 (some .int) [(0, 12, 15, 13)] ∈ wo_BG := wo_b2 (i := 234) rfl rfl
theorem km_L_153 : Cond.methodLink RL 153 yL_first ∈ wo_BG := wo_b2 (i := 232) rfl rfl
theorem ks_L_first : Cond.static yL_first ∈ wo_BG := wo_b2 (i := 233) rfl rfl
theorem gv_L_155 : wo_GV RL 155 RX3 yX3_first cX3_first 5 (some .int) 3 := ⟨⟨wo_b4 (i := 18) rfl rfl, kn_X3, wo_b4 (i := 21) rfl rfl, by decide, by decide, by decide +kernel⟩, wo_b4 (i := 19) rfl rfl, wo_b4 (i := 20) rfl rfl⟩
theorem kc_L_lamps : Cond.codeWith yL_lamps cL_lamps 6 (some .int) [(0, 12, 15, 13)] ∈ wo_BG := wo_b3 (i := 6) rfl rfl
theorem km_L_156 : Cond.methodLink RL 156 yL_lamps ∈ wo_BG := wo_b3 (i := 4) rfl rfl
theorem ks_L_lamps : Cond.static yL_lamps ∈ wo_BG := wo_b3 (i := 5) rfl rfl
theorem gv_L_158 : wo_GV RL 158 RX3 yX3_lamps cX3_lamps 6 (some .int) 3 := ⟨⟨wo_b4 (i := 22) rfl rfl, kn_X3, wo_b4 (i := 25) rfl rfl, by decide, by decide, by decide +kernel⟩, wo_b4 (i := 23) rfl rfl, wo_b4 (i := 24) rfl rfl⟩
theorem kc_L_stands : Cond.codeWith yL_stands cL_stands 6 (some .int) [(0, 12, 15, 13)] ∈ wo_BG := wo_b3 (i := 22) rfl rfl
theorem km_L_159 : Cond.methodLink RL 159 yL_stands ∈ wo_BG := wo_b3 (i := 20) rfl rfl
theorem ks_L_stands : Cond.static yL_stands ∈ wo_BG := wo_b3 (i := 21) rfl rfl
theorem gv_L_161 : wo_GV RL 161 RX3 yX3_stands cX3_stands 6 (some .int) 3 := ⟨⟨wo_b4 (i := 34) rfl rfl, kn_X3, wo_b4 (i := 37) rfl rfl, by decide, by decide, by decide +kernel⟩, wo_b4 (i := 35) rfl rfl, wo_b4 (i := 36) rfl rfl⟩
theorem kc_L_lean : Cond.codeWith yL_lean cL_lean 5 (some .int) [(0, 10, 13, 13)] ∈ wo_BG := wo_b3 (i := 29) rfl rfl
theorem km_L_162 : Cond.methodLink RL 162 yL_lean ∈ wo_BG := wo_b3 (i := 27) rfl rfl
theorem ks_L_lean : Cond.static yL_lean ∈ wo_BG := wo_b3 (i := 28) rfl rfl
theorem gv_L_165 : wo_GV RL 165 RX3 yX3_lean cX3_lean 6 (some .int) 2 := ⟨⟨wo_b4 (i := 38) rfl rfl, kn_X3, wo_b4 (i := 41) rfl rfl, by decide, by decide, by decide +kernel⟩, wo_b4 (i := 39) rfl rfl, wo_b4 (i := 40) rfl rfl⟩
theorem kc_L_look : Cond.codeWith yL_look cL_look 4 (some .int) [(0, 9, 12, 13)] ∈ wo_BG := wo_b3 (i := 36) rfl rfl
theorem km_L_166 : Cond.methodLink RL 166 yL_look ∈ wo_BG := wo_b3 (i := 34) rfl rfl
theorem ks_L_look : Cond.static yL_look ∈ wo_BG := wo_b3 (i := 35) rfl rfl
theorem gv_L_168 : wo_GV RL 168 RX3 yX3_look cX3_look 4 (some .int) 1 := ⟨⟨wo_b4 (i := 42) rfl rfl, kn_X3, wo_b4 (i := 45) rfl rfl, by decide, by decide, by decide +kernel⟩, wo_b4 (i := 43) rfl rfl, wo_b4 (i := 44) rfl rfl⟩
theorem gv_X0_36 : wo_GV RX0 36 RX0 yX0_lineUp cX0_lineUp 1 (none) 0 := ⟨⟨wo_b1 (i := 96) rfl rfl, kn_X0, wo_b1 (i := 99) rfl rfl, by decide, by decide, by decide +kernel⟩, wo_b1 (i := 98) rfl rfl, wo_b0 (i := 1) rfl rfl⟩
theorem gv_X0_46 : wo_GV RX0 46 RX0 yX0_whoseTurn cX0_whoseTurn 1 (some .int) 0 := ⟨⟨wo_b2 (i := 116) rfl rfl, kn_X0, wo_b1 (i := 146) rfl rfl, by decide, by decide, by decide +kernel⟩, wo_b1 (i := 144) rfl rfl, wo_b1 (i := 145) rfl rfl⟩
theorem gv_X0_50 : wo_GV RX0 50 RX0 yX0_goOn cX0_goOn 1 (none) 0 := ⟨⟨wo_b2 (i := 117) rfl rfl, kn_X0, wo_b2 (i := 55) rfl rfl, by decide, by decide, by decide +kernel⟩, wo_b2 (i := 53) rfl rfl, wo_b2 (i := 54) rfl rfl⟩
theorem gv_X0_53 : wo_GV RX0 53 RX0 yX0_endDay cX0_endDay 1 (none) 0 := ⟨⟨wo_b2 (i := 56) rfl rfl, kn_X0, wo_b2 (i := 59) rfl rfl, by decide, by decide, by decide +kernel⟩, wo_b2 (i := 58) rfl rfl, wo_b0 (i := 10) rfl rfl⟩
theorem gv_X0_56 : wo_GV RX0 56 RX0 yX0_takePlaces cX0_takePlaces 2 (none) 0 := ⟨⟨wo_b2 (i := 60) rfl rfl, kn_X0, wo_b2 (i := 63) rfl rfl, by decide, by decide, by decide +kernel⟩, wo_b2 (i := 62) rfl rfl, wo_b0 (i := 11) rfl rfl⟩
theorem gv_X0_59 : wo_GV RX0 59 RX0 yX0_makeCut cX0_makeCut 2 (none) 0 := ⟨⟨wo_b2 (i := 72) rfl rfl, kn_X0, wo_b2 (i := 75) rfl rfl, by decide, by decide, by decide +kernel⟩, wo_b2 (i := 74) rfl rfl, wo_b0 (i := 13) rfl rfl⟩
theorem gv_X0_62 : wo_GV RX0 62 RX1 yX1_howManyGrowers cX1_howManyGrowers 1 (some .int) 0 := ⟨⟨wo_b1 (i := 104) rfl rfl, kn_X1, wo_b1 (i := 107) rfl rfl, by decide, by decide, by decide +kernel⟩, wo_b1 (i := 105) rfl rfl, wo_b1 (i := 106) rfl rfl⟩
theorem gv_X0_67 : wo_GV RX0 67 RX1 yX1_placeOf cX1_placeOf 4 (some .int) 1 := ⟨⟨wo_b2 (i := 64) rfl rfl, kn_X1, wo_b2 (i := 67) rfl rfl, by decide, by decide, by decide +kernel⟩, wo_b2 (i := 65) rfl rfl, wo_b2 (i := 66) rfl rfl⟩
theorem gv_X0_71 : wo_GV RX0 71 RX1 yX1_bestOf cX1_bestOf 2 (some .int) 1 := ⟨⟨wo_b2 (i := 76) rfl rfl, kn_X1, wo_b2 (i := 79) rfl rfl, by decide, by decide, by decide +kernel⟩, wo_b2 (i := 77) rfl rfl, wo_b2 (i := 78) rfl rfl⟩
theorem gv_X0_74 : wo_GV RX0 74 RX0 yX0_lineUpByNumber cX0_lineUpByNumber 2 (none) 0 := ⟨⟨wo_b1 (i := 100) rfl rfl, kn_X0, wo_b1 (i := 103) rfl rfl, by decide, by decide, by decide +kernel⟩, wo_b1 (i := 102) rfl rfl, wo_b0 (i := 2) rfl rfl⟩
theorem gv_X0_77 : wo_GV RX0 77 RX0 yX0_lineUpByPlace cX0_lineUpByPlace 3 (none) 0 := ⟨⟨wo_b1 (i := 112) rfl rfl, kn_X0, wo_b1 (i := 115) rfl rfl, by decide, by decide, by decide +kernel⟩, wo_b1 (i := 114) rfl rfl, wo_b0 (i := 4) rfl rfl⟩
theorem gv_X0_80 : wo_GV RX0 80 RX0 yX0_putInLine cX0_putInLine 2 (none) 1 := ⟨⟨wo_b1 (i := 108) rfl rfl, kn_X0, wo_b1 (i := 111) rfl rfl, by decide, by decide, by decide +kernel⟩, wo_b1 (i := 110) rfl rfl, wo_b0 (i := 3) rfl rfl⟩
theorem gs_X1_32 : wo_GS RX1 32 yX1_slot cX1_slot 2 (some .int) 2 := ⟨⟨wo_b2 (i := 38) rfl rfl, kn_X1, wo_b2 (i := 40) rfl rfl, by decide, by decide, by decide +kernel⟩, wo_b2 (i := 39) rfl rfl⟩
theorem gs_X1_36 : wo_GS RX1 36 yX1_isWeight cX1_isWeight 1 (some .boolean) 1 := ⟨⟨wo_b2 (i := 41) rfl rfl, kn_X1, wo_b2 (i := 43) rfl rfl, by decide, by decide, by decide +kernel⟩, wo_b2 (i := 42) rfl rfl⟩
theorem gv_X1_40 : wo_GV RX1 40 RX1 yX1_rank cX1_rank 5 (none) 2 := ⟨⟨wo_b2 (i := 44) rfl rfl, kn_X1, wo_b2 (i := 47) rfl rfl, by decide, by decide, by decide +kernel⟩, wo_b2 (i := 46) rfl rfl, wo_b0 (i := 8) rfl rfl⟩
theorem gv_X1_44 : wo_GV RX1 44 RX1 yX1_tiltOn cX1_tiltOn 3 (some .int) 2 := ⟨⟨wo_b2 (i := 227) rfl rfl, kn_X1, wo_b2 (i := 141) rfl rfl, by decide, by decide, by decide +kernel⟩, wo_b2 (i := 139) rfl rfl, wo_b2 (i := 140) rfl rfl⟩
theorem gv_X1_47 : wo_GV RX1 47 RX1 yX1_markOn cX1_markOn 3 (some .int) 2 := ⟨⟨wo_b2 (i := 228) rfl rfl, kn_X1, wo_b2 (i := 173) rfl rfl, by decide, by decide, by decide +kernel⟩, wo_b2 (i := 171) rfl rfl, wo_b2 (i := 172) rfl rfl⟩
theorem gv_X1_50 : wo_GV RX1 50 RX1 yX1_hasEntry cX1_hasEntry 3 (some .boolean) 2 := ⟨⟨wo_b3 (i := 3) rfl rfl, kn_X1, wo_b2 (i := 222) rfl rfl, by decide, by decide, by decide +kernel⟩, wo_b2 (i := 220) rfl rfl, wo_b2 (i := 221) rfl rfl⟩
theorem gv_X1_54 : wo_GV RX1 54 RX1 yX1_latestDayOf cX1_latestDayOf 3 (some .int) 1 := ⟨⟨wo_b3 (i := 19) rfl rfl, kn_X1, wo_b3 (i := 2) rfl rfl, by decide, by decide, by decide +kernel⟩, wo_b3 (i := 0) rfl rfl, wo_b3 (i := 1) rfl rfl⟩
theorem gv_X1_58 : wo_GV RX1 58 RX1 yX1_isBefore cX1_isBefore 6 (some .boolean) 2 := ⟨⟨wo_b2 (i := 68) rfl rfl, kn_X1, wo_b2 (i := 71) rfl rfl, by decide, by decide, by decide +kernel⟩, wo_b2 (i := 70) rfl rfl, wo_b0 (i := 12) rfl rfl⟩
theorem gi_X2_9 : wo_GB RX2 9 yX1_init cX1_init 1 (none) 0 := ⟨wo_b1 (i := 20) rfl rfl, kn_X1, wo_b1 (i := 22) rfl rfl, by decide, by decide, by decide +kernel⟩
theorem ki_X2_9 : Cond.instanceMethod yX1_init ∈ wo_BG := wo_b1 (i := 21) rfl rfl
theorem gi_X2_18 : wo_GB RX2 18 yX0_init cX0_init 2 (none) 1 := ⟨wo_b1 (i := 46) rfl rfl, kn_X0, wo_b1 (i := 48) rfl rfl, by decide, by decide, by decide +kernel⟩
theorem ki_X2_18 : Cond.instanceMethod yX0_init ∈ wo_BG := wo_b1 (i := 47) rfl rfl
theorem gs_X2_40 : wo_GS RX2 40 yX2_mayTakePart cX2_mayTakePart 1 (some .boolean) 1 := ⟨⟨wo_b1 (i := 80) rfl rfl, kn_X2, wo_b1 (i := 82) rfl rfl, by decide, by decide, by decide +kernel⟩, wo_b1 (i := 81) rfl rfl⟩
theorem gv_X2_44 : wo_GV RX2 44 RX2 yX2_begin cX2_begin 2 (none) 1 := ⟨⟨wo_b1 (i := 83) rfl rfl, kn_X2, wo_b1 (i := 86) rfl rfl, by decide, by decide, by decide +kernel⟩, wo_b1 (i := 85) rfl rfl, wo_b0 (i := 0) rfl rfl⟩
theorem gs_X2_55 : wo_GS RX2 55 yX2_requireTenthPounds cX2_requireTenthPounds 1 (none) 1 := ⟨⟨wo_b2 (i := 2) rfl rfl, kn_X2, wo_b2 (i := 4) rfl rfl, by decide, by decide, by decide +kernel⟩, wo_b2 (i := 3) rfl rfl⟩
theorem gs_X2_58 : wo_GS RX2 58 yX2_requireTenths cX2_requireTenths 1 (none) 1 := ⟨⟨wo_b2 (i := 6) rfl rfl, kn_X2, wo_b2 (i := 8) rfl rfl, by decide, by decide, by decide +kernel⟩, wo_b2 (i := 7) rfl rfl⟩
theorem gv_X2_61 : wo_GV RX2 61 RX2 yX2_requireTurn cX2_requireTurn 2 (some .int) 0 := ⟨⟨wo_b2 (i := 10) rfl rfl, kn_X2, wo_b2 (i := 13) rfl rfl, by decide, by decide, by decide +kernel⟩, wo_b2 (i := 12) rfl rfl, wo_b0 (i := 6) rfl rfl⟩
theorem gv_X2_65 : wo_GV RX2 65 RX2 yX2_tiltIfLevel cX2_tiltIfLevel 2 (some .int) 1 := ⟨⟨wo_b2 (i := 30) rfl rfl, kn_X2, wo_b2 (i := 33) rfl rfl, by decide, by decide, by decide +kernel⟩, wo_b2 (i := 32) rfl rfl, wo_b0 (i := 7) rfl rfl⟩
theorem gv_X2_69 : wo_GV RX2 69 RX0 yX0_today cX0_today 1 (some .int) 0 := ⟨⟨wo_b1 (i := 152) rfl rfl, kn_X0, wo_b1 (i := 155) rfl rfl, by decide, by decide, by decide +kernel⟩, wo_b1 (i := 153) rfl rfl, wo_b1 (i := 154) rfl rfl⟩
theorem gv_X2_72 : wo_GV RX2 72 RX1 yX1_enter cX1_enter 7 (none) 5 := ⟨⟨wo_b2 (i := 34) rfl rfl, kn_X1, wo_b2 (i := 37) rfl rfl, by decide, by decide, by decide +kernel⟩, wo_b2 (i := 35) rfl rfl, wo_b2 (i := 36) rfl rfl⟩
theorem gv_X2_76 : wo_GV RX2 76 RX2 yX2_noteRecord cX2_noteRecord 3 (none) 2 := ⟨⟨wo_b2 (i := 48) rfl rfl, kn_X2, wo_b2 (i := 51) rfl rfl, by decide, by decide, by decide +kernel⟩, wo_b2 (i := 50) rfl rfl, wo_b0 (i := 9) rfl rfl⟩
theorem gv_X2_80 : wo_GV RX2 80 RX0 yX0_goOn cX0_goOn 1 (none) 0 := ⟨⟨wo_b2 (i := 52) rfl rfl, kn_X0, wo_b2 (i := 55) rfl rfl, by decide, by decide, by decide +kernel⟩, wo_b2 (i := 53) rfl rfl, wo_b2 (i := 54) rfl rfl⟩
theorem gv_X2_83 : wo_GV RX2 83 RX2 yX2_requireGrower cX2_requireGrower 2 (none) 1 := ⟨⟨wo_b2 (i := 101) rfl rfl, kn_X2, wo_b2 (i := 104) rfl rfl, by decide, by decide, by decide +kernel⟩, wo_b2 (i := 103) rfl rfl, wo_b0 (i := 14) rfl rfl⟩
theorem gv_X2_86 : wo_GV RX2 86 RX0 yX0_hasLeft cX0_hasLeft 2 (some .boolean) 1 := ⟨⟨wo_b2 (i := 107) rfl rfl, kn_X0, wo_b2 (i := 110) rfl rfl, by decide, by decide, by decide +kernel⟩, wo_b2 (i := 108) rfl rfl, wo_b2 (i := 109) rfl rfl⟩
theorem gv_X2_94 : wo_GV RX2 94 RX0 yX0_dismiss cX0_dismiss 2 (none) 1 := ⟨⟨wo_b2 (i := 112) rfl rfl, kn_X0, wo_b2 (i := 115) rfl rfl, by decide, by decide, by decide +kernel⟩, wo_b2 (i := 113) rfl rfl, wo_b2 (i := 114) rfl rfl⟩
theorem gs_X2_97 : wo_GS RX2 97 yX2_requireDay cX2_requireDay 1 (none) 1 := ⟨⟨wo_b2 (i := 125) rfl rfl, kn_X2, wo_b2 (i := 127) rfl rfl, by decide, by decide, by decide +kernel⟩, wo_b2 (i := 126) rfl rfl⟩
theorem gv_X2_100 : wo_GV RX2 100 RX1 yX1_isMeasuredCrack cX1_isMeasuredCrack 4 (some .boolean) 2 := ⟨⟨wo_b2 (i := 129) rfl rfl, kn_X1, wo_b2 (i := 132) rfl rfl, by decide, by decide, by decide +kernel⟩, wo_b2 (i := 130) rfl rfl, wo_b2 (i := 131) rfl rfl⟩
theorem gv_X2_106 : wo_GV RX2 106 RX1 yX1_makeSound cX1_makeSound 4 (some .int) 2 := ⟨⟨wo_b2 (i := 134) rfl rfl, kn_X1, wo_b2 (i := 137) rfl rfl, by decide, by decide, by decide +kernel⟩, wo_b2 (i := 135) rfl rfl, wo_b2 (i := 136) rfl rfl⟩
theorem gv_X2_110 : wo_GV RX2 110 RX1 yX1_tiltOn cX1_tiltOn 3 (some .int) 2 := ⟨⟨wo_b2 (i := 138) rfl rfl, kn_X1, wo_b2 (i := 141) rfl rfl, by decide, by decide, by decide +kernel⟩, wo_b2 (i := 139) rfl rfl, wo_b2 (i := 140) rfl rfl⟩
theorem gs_X2_113 : wo_GS RX2 113 yX2_requirePounds cX2_requirePounds 1 (none) 1 := ⟨⟨wo_b2 (i := 149) rfl rfl, kn_X2, wo_b2 (i := 151) rfl rfl, by decide, by decide, by decide +kernel⟩, wo_b2 (i := 150) rfl rfl⟩
theorem gs_X2_116 : wo_GS RX2 116 yX2_poundsOrNone cX2_poundsOrNone 1 (some .int) 1 := ⟨⟨wo_b2 (i := 153) rfl rfl, kn_X2, wo_b2 (i := 155) rfl rfl, by decide, by decide, by decide +kernel⟩, wo_b2 (i := 154) rfl rfl⟩
theorem gv_X2_119 : wo_GV RX2 119 RX0 yX0_whoseTurn cX0_whoseTurn 1 (some .int) 0 := ⟨⟨wo_b1 (i := 143) rfl rfl, kn_X0, wo_b1 (i := 146) rfl rfl, by decide, by decide, by decide +kernel⟩, wo_b1 (i := 144) rfl rfl, wo_b1 (i := 145) rfl rfl⟩
theorem gv_X2_122 : wo_GV RX2 122 RX1 yX1_markOn cX1_markOn 3 (some .int) 2 := ⟨⟨wo_b2 (i := 170) rfl rfl, kn_X1, wo_b2 (i := 173) rfl rfl, by decide, by decide, by decide +kernel⟩, wo_b2 (i := 171) rfl rfl, wo_b2 (i := 172) rfl rfl⟩
theorem gv_X2_125 : wo_GV RX2 125 RX1 yX1_bestOf cX1_bestOf 2 (some .int) 1 := ⟨⟨wo_b2 (i := 188) rfl rfl, kn_X1, wo_b2 (i := 79) rfl rfl, by decide, by decide, by decide +kernel⟩, wo_b2 (i := 77) rfl rfl, wo_b2 (i := 78) rfl rfl⟩
theorem gv_X2_128 : wo_GV RX2 128 RX1 yX1_placeOf cX1_placeOf 4 (some .int) 1 := ⟨⟨wo_b2 (i := 196) rfl rfl, kn_X1, wo_b2 (i := 67) rfl rfl, by decide, by decide, by decide +kernel⟩, wo_b2 (i := 65) rfl rfl, wo_b2 (i := 66) rfl rfl⟩
theorem gs_X2_131 : wo_GS RX2 131 yX2_requireWhat cX2_requireWhat 1 (none) 1 := ⟨⟨wo_b2 (i := 211) rfl rfl, kn_X2, wo_b2 (i := 213) rfl rfl, by decide, by decide, by decide +kernel⟩, wo_b2 (i := 212) rfl rfl⟩
theorem gs_X2_134 : wo_GS RX2 134 yX2_requireSign cX2_requireSign 1 (none) 1 := ⟨⟨wo_b2 (i := 215) rfl rfl, kn_X2, wo_b2 (i := 217) rfl rfl, by decide, by decide, by decide +kernel⟩, wo_b2 (i := 216) rfl rfl⟩
theorem gv_X2_137 : wo_GV RX2 137 RX1 yX1_howManyGrowers cX1_howManyGrowers 1 (some .int) 0 := ⟨⟨wo_b2 (i := 105) rfl rfl, kn_X1, wo_b1 (i := 107) rfl rfl, by decide, by decide, by decide +kernel⟩, wo_b1 (i := 105) rfl rfl, wo_b1 (i := 106) rfl rfl⟩
theorem gv_X2_140 : wo_GV RX2 140 RX1 yX1_hasEntry cX1_hasEntry 3 (some .boolean) 2 := ⟨⟨wo_b2 (i := 219) rfl rfl, kn_X1, wo_b2 (i := 222) rfl rfl, by decide, by decide, by decide +kernel⟩, wo_b2 (i := 220) rfl rfl, wo_b2 (i := 221) rfl rfl⟩
theorem gv_X2_143 : wo_GV RX2 143 RX1 yX1_valueOn cX1_valueOn 5 (some .int) 3 := ⟨⟨wo_b2 (i := 223) rfl rfl, kn_X1, wo_b2 (i := 226) rfl rfl, by decide, by decide, by decide +kernel⟩, wo_b2 (i := 224) rfl rfl, wo_b2 (i := 225) rfl rfl⟩
theorem gs_X2_147 : wo_GS RX2 147 yX2_holds cX2_holds 3 (some .boolean) 3 := ⟨⟨wo_b2 (i := 229) rfl rfl, kn_X2, wo_b2 (i := 231) rfl rfl, by decide, by decide, by decide +kernel⟩, wo_b2 (i := 230) rfl rfl⟩
theorem gv_X2_151 : wo_GV RX2 151 RX1 yX1_latestDayOf cX1_latestDayOf 3 (some .int) 1 := ⟨⟨wo_b2 (i := 239) rfl rfl, kn_X1, wo_b3 (i := 2) rfl rfl, by decide, by decide, by decide +kernel⟩, wo_b3 (i := 0) rfl rfl, wo_b3 (i := 1) rfl rfl⟩
theorem gv_X2_154 : wo_GV RX2 154 RX2 yX2_bestOrLatestTilt cX2_bestOrLatestTilt 3 (some .int) 2 := ⟨⟨wo_b3 (i := 11) rfl rfl, kn_X2, wo_b3 (i := 14) rfl rfl, by decide, by decide, by decide +kernel⟩, wo_b3 (i := 13) rfl rfl, wo_b0 (i := 15) rfl rfl⟩
theorem gv_X2_157 : wo_GV RX2 157 RX1 yX1_howManyEntries cX1_howManyEntries 1 (some .int) 0 := ⟨⟨wo_b3 (i := 41) rfl rfl, kn_X1, wo_b3 (i := 44) rfl rfl, by decide, by decide, by decide +kernel⟩, wo_b3 (i := 42) rfl rfl, wo_b3 (i := 43) rfl rfl⟩
theorem gv_X2_160 : wo_GV RX2 160 RX0 yX0_howManyLeft cX0_howManyLeft 1 (some .int) 0 := ⟨⟨wo_b3 (i := 45) rfl rfl, kn_X0, wo_b3 (i := 48) rfl rfl, by decide, by decide, by decide +kernel⟩, wo_b3 (i := 46) rfl rfl, wo_b3 (i := 47) rfl rfl⟩
theorem gv_X2_165 : wo_GV RX2 165 RX1 yX1_clearFor cX1_clearFor 3 (none) 1 := ⟨⟨wo_b1 (i := 87) rfl rfl, kn_X1, wo_b1 (i := 90) rfl rfl, by decide, by decide, by decide +kernel⟩, wo_b1 (i := 88) rfl rfl, wo_b1 (i := 89) rfl rfl⟩
theorem gv_X2_168 : wo_GV RX2 168 RX0 yX0_restart cX0_restart 2 (none) 0 := ⟨⟨wo_b1 (i := 92) rfl rfl, kn_X0, wo_b1 (i := 95) rfl rfl, by decide, by decide, by decide +kernel⟩, wo_b1 (i := 93) rfl rfl, wo_b1 (i := 94) rfl rfl⟩
theorem gv_X2_171 : wo_GV RX2 171 RX1 yX1_latestTiltOf cX1_latestTiltOf 3 (some .int) 1 := ⟨⟨wo_b3 (i := 15) rfl rfl, kn_X1, wo_b3 (i := 18) rfl rfl, by decide, by decide, by decide +kernel⟩, wo_b3 (i := 16) rfl rfl, wo_b3 (i := 17) rfl rfl⟩
theorem gs_X3_48 : wo_GS RX3 48 yX3_in cX3_in 3 (some .boolean) 3 := ⟨⟨wo_b3 (i := 56) rfl rfl, kn_X3, wo_b3 (i := 58) rfl rfl, by decide, by decide, by decide +kernel⟩, wo_b3 (i := 57) rfl rfl⟩
theorem gv_X3_52 : wo_GV RX3 52 RX3 yX3_begin cX3_begin 3 (none) 1 := ⟨⟨wo_b3 (i := 59) rfl rfl, kn_X3, wo_b3 (i := 62) rfl rfl, by decide, by decide, by decide +kernel⟩, wo_b3 (i := 61) rfl rfl, wo_b0 (i := 16) rfl rfl⟩
theorem gv_X3_66 : wo_GV RX3 66 RX3 yX3_nextDay cX3_nextDay 2 (none) 0 := ⟨⟨wo_b3 (i := 63) rfl rfl, kn_X3, wo_b3 (i := 66) rfl rfl, by decide, by decide, by decide +kernel⟩, wo_b3 (i := 65) rfl rfl, wo_b0 (i := 17) rfl rfl⟩
theorem gv_X3_69 : wo_GV RX3 69 RX3 yX3_weightsOf cX3_weightsOf 7 (some .int) 2 := ⟨⟨wo_b3 (i := 67) rfl rfl, kn_X3, wo_b3 (i := 70) rfl rfl, by decide, by decide, by decide +kernel⟩, wo_b3 (i := 69) rfl rfl, wo_b0 (i := 18) rfl rfl⟩
theorem gv_X3_73 : wo_GV RX3 73 RX3 yX3_placeOf cX3_placeOf 4 (some .int) 1 := ⟨⟨wo_b3 (i := 71) rfl rfl, kn_X3, wo_b3 (i := 74) rfl rfl, by decide, by decide, by decide +kernel⟩, wo_b3 (i := 73) rfl rfl, wo_b0 (i := 19) rfl rfl⟩
theorem gv_X3_80 : wo_GV RX3 80 RX3 yX3_byPlaces cX3_byPlaces 3 (none) 0 := ⟨⟨wo_b3 (i := 79) rfl rfl, kn_X3, wo_b3 (i := 82) rfl rfl, by decide, by decide, by decide +kernel⟩, wo_b3 (i := 81) rfl rfl, wo_b0 (i := 21) rfl rfl⟩
theorem gv_X3_86 : wo_GV RX3 86 RX3 yX3_forward cX3_forward 1 (none) 0 := ⟨⟨wo_b3 (i := 83) rfl rfl, kn_X3, wo_b3 (i := 86) rfl rfl, by decide, by decide, by decide +kernel⟩, wo_b3 (i := 85) rfl rfl, wo_b0 (i := 22) rfl rfl⟩
theorem gv_X3_89 : wo_GV RX3 89 RX3 yX3_isIn cX3_isIn 2 (some .boolean) 1 := ⟨⟨wo_b3 (i := 87) rfl rfl, kn_X3, wo_b3 (i := 90) rfl rfl, by decide, by decide, by decide +kernel⟩, wo_b3 (i := 89) rfl rfl, wo_b0 (i := 23) rfl rfl⟩
theorem gv_X3_93 : wo_GV RX3 93 RX3 yX3_entry cX3_entry 4 (some .int) 1 := ⟨⟨wo_b3 (i := 170) rfl rfl, kn_X3, wo_b3 (i := 173) rfl rfl, by decide, by decide, by decide +kernel⟩, wo_b3 (i := 172) rfl rfl, wo_b0 (i := 24) rfl rfl⟩
theorem gv_X3_96 : wo_GV RX3 96 RX3 yX3_asRecord cX3_asRecord 2 (none) 1 := ⟨⟨wo_b3 (i := 174) rfl rfl, kn_X3, wo_b3 (i := 177) rfl rfl, by decide, by decide, by decide +kernel⟩, wo_b3 (i := 176) rfl rfl, wo_b0 (i := 25) rfl rfl⟩
theorem gv_X3_99 : wo_GV RX3 99 RX3 yX3_passOn cX3_passOn 1 (none) 0 := ⟨⟨wo_b3 (i := 178) rfl rfl, kn_X3, wo_b3 (i := 181) rfl rfl, by decide, by decide, by decide +kernel⟩, wo_b3 (i := 180) rfl rfl, wo_b0 (i := 26) rfl rfl⟩
theorem gv_X3_111 : wo_GV RX3 111 RX3 yX3_isEntry cX3_isEntry 3 (some .boolean) 2 := ⟨⟨wo_b3 (i := 198) rfl rfl, kn_X3, wo_b3 (i := 201) rfl rfl, by decide, by decide, by decide +kernel⟩, wo_b3 (i := 200) rfl rfl, wo_b0 (i := 27) rfl rfl⟩
theorem gv_X3_121 : wo_GV RX3 121 RX3 yX3_isBefore cX3_isBefore 6 (some .boolean) 2 := ⟨⟨wo_b3 (i := 75) rfl rfl, kn_X3, wo_b3 (i := 78) rfl rfl, by decide, by decide, by decide +kernel⟩, wo_b3 (i := 77) rfl rfl, wo_b0 (i := 20) rfl rfl⟩
theorem gs_X3_125 : wo_GS RX3 125 yX3_stand cX3_stand 5 (some .boolean) 5 := ⟨⟨wo_b4 (i := 15) rfl rfl, kn_X3, wo_b4 (i := 17) rfl rfl, by decide, by decide, by decide +kernel⟩, wo_b4 (i := 16) rfl rfl⟩
theorem gv_X3_129 : wo_GV RX3 129 RX3 yX3_isAsked cX3_isAsked 3 (some .boolean) 2 := ⟨⟨wo_b4 (i := 7) rfl rfl, kn_X3, wo_b4 (i := 10) rfl rfl, by decide, by decide, by decide +kernel⟩, wo_b4 (i := 9) rfl rfl, wo_b0 (i := 28) rfl rfl⟩
theorem gv_X3_132 : wo_GV RX3 132 RX3 yX3_entryStands cX3_entryStands 6 (some .boolean) 4 := ⟨⟨wo_b4 (i := 11) rfl rfl, kn_X3, wo_b4 (i := 14) rfl rfl, by decide, by decide, by decide +kernel⟩, wo_b4 (i := 13) rfl rfl, wo_b0 (i := 29) rfl rfl⟩
theorem gv_X3_136 : wo_GV RX3 136 RX3 yX3_has cX3_has 3 (some .boolean) 2 := ⟨⟨wo_b4 (i := 26) rfl rfl, kn_X3, wo_b4 (i := 29) rfl rfl, by decide, by decide, by decide +kernel⟩, wo_b4 (i := 28) rfl rfl, wo_b0 (i := 30) rfl rfl⟩
theorem gv_X3_139 : wo_GV RX3 139 RX3 yX3_told cX3_told 4 (some .int) 2 := ⟨⟨wo_b4 (i := 30) rfl rfl, kn_X3, wo_b4 (i := 33) rfl rfl, by decide, by decide, by decide +kernel⟩, wo_b4 (i := 32) rfl rfl, wo_b0 (i := 31) rfl rfl⟩
end
section
theorem wo_upn (f : Nat → Nat) (i v : Nat) : upd (fun k => nI (f k)) i (nI v) = fun k => nI (va_up f i v k) := by funext j; unfold upd va_up; split <;> rfl
theorem wo_upb (f : Nat → Bool) (i : Nat) (v : Bool) : upd (fun k => bz (f k)) i (vp_nar .boolean (bz v)) = fun k => bz (va_up f i v k) := by rw [bz_vp]; funext j; unfold upd va_up; split <;> rfl
theorem wo_upi (f : Nat → Int32) (i : Nat) (v : Int32) : upd f i v = va_up f i v := rfl
def wA (cI cZ : ClassId) (a : Nat → Nat) (gr : Nat) (en : Nat) (mk : Nat → Int32) (tl : Nat → Int32) (me : Nat → Int32) (rk : Nat → Int32) (dy : Nat) (ln : Nat → Nat) (ll : Nat) (ps : Nat) (lf : Nat → Bool) (lc : Nat) (tc : Nat → Bool) (tp : Nat → Nat) (lv : Bool) (rp : Int32) (rc : Int32) (pp : Int32) : va_W := [
  (a 0, .inr (2, [.ref (a 1), .ref (a 6), .int (bz lv), .int rp, .int rc, .int pp])),
  (a 1, .inr (1, [.int (nI gr), .int (nI en), .ref (a 2), .ref (a 3), .ref (a 4), .ref (a 5)])),
  (a 2, .inl (cI, 72, .inl (mk))),
  (a 3, .inl (cI, 72, .inl (tl))),
  (a 4, .inl (cI, 72, .inl (me))),
  (a 5, .inl (cI, 72, .inl (rk))),
  (a 6, .inr (0, [.ref (a 1), .int (nI dy), .ref (a 7), .int (nI ll), .int (nI ps), .ref (a 8), .int (nI lc), .ref (a 9), .ref (a 10)])),
  (a 7, .inl (cI, 12, .inl (fun k => nI (ln k)))),
  (a 8, .inl (cZ, 12, .inl (fun k => bz (lf k)))),
  (a 9, .inl (cZ, 12, .inl (fun k => bz (tc k)))),
  (a 10, .inl (cI, 12, .inl (fun k => nI (tp k))))]
section WOA
variable {p : Program} {l : Launch} {e : Env} {R : Room} {s : State} {m : MethodId} {args : Array Value} {below : List Frame} {meth : Method} {c : Code} {A : Nat → Prop} {D : va_G} {cells slots nL : Nat} {Q : State → Prop} {cc : ByteArray} {ret : Option FieldType}
variable {pc : Nat} {ls : List (Option Value)} {st : List Value} {Y : va_W} {cI cZ : ClassId} {a : Nat → Nat} {tys : List (ClassId × FieldType)}
variable {gr : Nat} {en : Nat} {mk : Nat → Int32} {tl : Nat → Int32} {me : Nat → Int32} {rk : Nat → Int32} {dy : Nat} {ln : Nat → Nat} {ll : Nat} {ps : Nat} {lf : Nat → Bool} {lc : Nat} {tc : Nat → Bool} {tp : Nat → Nat} {lv : Bool} {rp : Int32} {rc : Int32} {pp : Int32}
theorem gA0_sheet (C : wo_C p s m args meth c A D cc nL RX2 ((cI, .int) :: (cZ, .boolean) :: tys) ret) (dg : decode cc pc = .ok (.getfield 10, 3)) (kk : wo_W p l e R s m args below meth c A D cells slots nL Q (pc + 3) ls (.ref (a 1) :: st) (wA cI cZ a gr en mk tl me rk dy ln ll ps lf lc tc tp lv rp rc pp ++ Y)) : wo_W p l e R s m args below meth c A D cells slots nL Q pc ls (.ref (a 0) :: st) (wA cI cZ a gr en mk tl me rk dy ln ll ps lf lc tc tp lv rp rc pp ++ Y) := x_get C ku_X2 0 kf_X2_10 0 rfl rfl (by decide) rfl dg kk
theorem gA0_course (C : wo_C p s m args meth c A D cc nL RX2 ((cI, .int) :: (cZ, .boolean) :: tys) ret) (dg : decode cc pc = .ok (.getfield 21, 3)) (kk : wo_W p l e R s m args below meth c A D cells slots nL Q (pc + 3) ls (.ref (a 6) :: st) (wA cI cZ a gr en mk tl me rk dy ln ll ps lf lc tc tp lv rp rc pp ++ Y)) : wo_W p l e R s m args below meth c A D cells slots nL Q pc ls (.ref (a 0) :: st) (wA cI cZ a gr en mk tl me rk dy ln ll ps lf lc tc tp lv rp rc pp ++ Y) := x_get C ku_X2 1 kf_X2_21 0 rfl rfl (by decide) rfl dg kk
theorem gA0_levelOn (C : wo_C p s m args meth c A D cc nL RX2 ((cI, .int) :: (cZ, .boolean) :: tys) ret) (dg : decode cc pc = .ok (.getfield 25, 3)) (kk : wo_W p l e R s m args below meth c A D cells slots nL Q (pc + 3) ls (.int (bz lv) :: st) (wA cI cZ a gr en mk tl me rk dy ln ll ps lf lc tc tp lv rp rc pp ++ Y)) : wo_W p l e R s m args below meth c A D cells slots nL Q pc ls (.ref (a 0) :: st) (wA cI cZ a gr en mk tl me rk dy ln ll ps lf lc tc tp lv rp rc pp ++ Y) := x_get C ku_X2 2 kf_X2_25 0 rfl rfl (by decide) rfl dg kk
theorem pA0_levelOn (C : wo_C p s m args meth c A D cc nL RX2 ((cI, .int) :: (cZ, .boolean) :: tys) ret) {v : Int32} (n : Bool) (hv : v = bz n) (dg : decode cc pc = .ok (.putfield 25, 3)) (kk : wo_W p l e R s m args below meth c A D cells slots nL Q (pc + 3) ls st (wA cI cZ a gr en mk tl me rk dy ln ll ps lf lc tc tp n rp rc pp ++ Y)) : wo_W p l e R s m args below meth c A D cells slots nL Q pc ls (.int v :: .ref (a 0) :: st) (wA cI cZ a gr en mk tl me rk dy ln ll ps lf lc tc tp lv rp rc pp ++ Y) := by
  subst hv
  exact x_put C ku_X2 tyX2 tyX2_ok nmX2 2 kf_X2_25 0 rfl rfl (by decide) rfl (ty := .boolean) (by decide +kernel) (bz_nar n) (by cases n <;> rfl) (Nat.le_of_ble_eq_true rfl) rfl dg kk
theorem gA0_recordPounds (C : wo_C p s m args meth c A D cc nL RX2 ((cI, .int) :: (cZ, .boolean) :: tys) ret) (dg : decode cc pc = .ok (.getfield 30, 3)) (kk : wo_W p l e R s m args below meth c A D cells slots nL Q (pc + 3) ls (.int rp :: st) (wA cI cZ a gr en mk tl me rk dy ln ll ps lf lc tc tp lv rp rc pp ++ Y)) : wo_W p l e R s m args below meth c A D cells slots nL Q pc ls (.ref (a 0) :: st) (wA cI cZ a gr en mk tl me rk dy ln ll ps lf lc tc tp lv rp rc pp ++ Y) := x_get C ku_X2 3 kf_X2_30 0 rfl rfl (by decide) rfl dg kk
theorem pA0_recordPounds (C : wo_C p s m args meth c A D cc nL RX2 ((cI, .int) :: (cZ, .boolean) :: tys) ret) (n : Int32) (dg : decode cc pc = .ok (.putfield 30, 3)) (kk : wo_W p l e R s m args below meth c A D cells slots nL Q (pc + 3) ls st (wA cI cZ a gr en mk tl me rk dy ln ll ps lf lc tc tp lv n rc pp ++ Y)) : wo_W p l e R s m args below meth c A D cells slots nL Q pc ls (.int n :: .ref (a 0) :: st) (wA cI cZ a gr en mk tl me rk dy ln ll ps lf lc tc tp lv rp rc pp ++ Y) := x_put C ku_X2 tyX2 tyX2_ok nmX2 3 kf_X2_30 0 rfl rfl (by decide) rfl (ty := .int) (by decide +kernel) rfl rfl (Nat.le_of_ble_eq_true rfl) rfl dg kk
theorem gA0_recordCount (C : wo_C p s m args meth c A D cc nL RX2 ((cI, .int) :: (cZ, .boolean) :: tys) ret) (dg : decode cc pc = .ok (.getfield 34, 3)) (kk : wo_W p l e R s m args below meth c A D cells slots nL Q (pc + 3) ls (.int rc :: st) (wA cI cZ a gr en mk tl me rk dy ln ll ps lf lc tc tp lv rp rc pp ++ Y)) : wo_W p l e R s m args below meth c A D cells slots nL Q pc ls (.ref (a 0) :: st) (wA cI cZ a gr en mk tl me rk dy ln ll ps lf lc tc tp lv rp rc pp ++ Y) := x_get C ku_X2 4 kf_X2_34 0 rfl rfl (by decide) rfl dg kk
theorem pA0_recordCount (C : wo_C p s m args meth c A D cc nL RX2 ((cI, .int) :: (cZ, .boolean) :: tys) ret) (n : Int32) (dg : decode cc pc = .ok (.putfield 34, 3)) (kk : wo_W p l e R s m args below meth c A D cells slots nL Q (pc + 3) ls st (wA cI cZ a gr en mk tl me rk dy ln ll ps lf lc tc tp lv rp n pp ++ Y)) : wo_W p l e R s m args below meth c A D cells slots nL Q pc ls (.int n :: .ref (a 0) :: st) (wA cI cZ a gr en mk tl me rk dy ln ll ps lf lc tc tp lv rp rc pp ++ Y) := x_put C ku_X2 tyX2 tyX2_ok nmX2 4 kf_X2_34 0 rfl rfl (by decide) rfl (ty := .int) (by decide +kernel) rfl rfl (Nat.le_of_ble_eq_true rfl) rfl dg kk
theorem gA0_prizePounds (C : wo_C p s m args meth c A D cc nL RX2 ((cI, .int) :: (cZ, .boolean) :: tys) ret) (dg : decode cc pc = .ok (.getfield 37, 3)) (kk : wo_W p l e R s m args below meth c A D cells slots nL Q (pc + 3) ls (.int pp :: st) (wA cI cZ a gr en mk tl me rk dy ln ll ps lf lc tc tp lv rp rc pp ++ Y)) : wo_W p l e R s m args below meth c A D cells slots nL Q pc ls (.ref (a 0) :: st) (wA cI cZ a gr en mk tl me rk dy ln ll ps lf lc tc tp lv rp rc pp ++ Y) := x_get C ku_X2 5 kf_X2_37 0 rfl rfl (by decide) rfl dg kk
theorem pA0_prizePounds (C : wo_C p s m args meth c A D cc nL RX2 ((cI, .int) :: (cZ, .boolean) :: tys) ret) (n : Int32) (dg : decode cc pc = .ok (.putfield 37, 3)) (kk : wo_W p l e R s m args below meth c A D cells slots nL Q (pc + 3) ls st (wA cI cZ a gr en mk tl me rk dy ln ll ps lf lc tc tp lv rp rc n ++ Y)) : wo_W p l e R s m args below meth c A D cells slots nL Q pc ls (.int n :: .ref (a 0) :: st) (wA cI cZ a gr en mk tl me rk dy ln ll ps lf lc tc tp lv rp rc pp ++ Y) := x_put C ku_X2 tyX2 tyX2_ok nmX2 5 kf_X2_37 0 rfl rfl (by decide) rfl (ty := .int) (by decide +kernel) rfl rfl (Nat.le_of_ble_eq_true rfl) rfl dg kk
theorem gA1_growers (C : wo_C p s m args meth c A D cc nL RX1 ((cI, .int) :: (cZ, .boolean) :: tys) ret) (dg : decode cc pc = .ok (.getfield 24, 3)) (kk : wo_W p l e R s m args below meth c A D cells slots nL Q (pc + 3) ls (.int (nI gr) :: st) (wA cI cZ a gr en mk tl me rk dy ln ll ps lf lc tc tp lv rp rc pp ++ Y)) : wo_W p l e R s m args below meth c A D cells slots nL Q pc ls (.ref (a 1) :: st) (wA cI cZ a gr en mk tl me rk dy ln ll ps lf lc tc tp lv rp rc pp ++ Y) := x_get C ku_X1 0 kf_X1_24 1 rfl rfl (by decide) rfl dg kk
theorem pA1_growers (C : wo_C p s m args meth c A D cc nL RX1 ((cI, .int) :: (cZ, .boolean) :: tys) ret) {v : Int32} (n : Nat) (hv : v = nI n) (dg : decode cc pc = .ok (.putfield 24, 3)) (kk : wo_W p l e R s m args below meth c A D cells slots nL Q (pc + 3) ls st (wA cI cZ a n en mk tl me rk dy ln ll ps lf lc tc tp lv rp rc pp ++ Y)) : wo_W p l e R s m args below meth c A D cells slots nL Q pc ls (.int v :: .ref (a 1) :: st) (wA cI cZ a gr en mk tl me rk dy ln ll ps lf lc tc tp lv rp rc pp ++ Y) := by
  subst hv
  exact x_put C ku_X1 tyX1 tyX1_ok nmX1 0 kf_X1_24 1 rfl rfl (by decide) rfl (ty := .int) (by decide +kernel) rfl rfl (Nat.le_of_ble_eq_true rfl) rfl dg kk
theorem gA1_entries (C : wo_C p s m args meth c A D cc nL RX1 ((cI, .int) :: (cZ, .boolean) :: tys) ret) (dg : decode cc pc = .ok (.getfield 28, 3)) (kk : wo_W p l e R s m args below meth c A D cells slots nL Q (pc + 3) ls (.int (nI en) :: st) (wA cI cZ a gr en mk tl me rk dy ln ll ps lf lc tc tp lv rp rc pp ++ Y)) : wo_W p l e R s m args below meth c A D cells slots nL Q pc ls (.ref (a 1) :: st) (wA cI cZ a gr en mk tl me rk dy ln ll ps lf lc tc tp lv rp rc pp ++ Y) := x_get C ku_X1 1 kf_X1_28 1 rfl rfl (by decide) rfl dg kk
theorem pA1_entries (C : wo_C p s m args meth c A D cc nL RX1 ((cI, .int) :: (cZ, .boolean) :: tys) ret) {v : Int32} (n : Nat) (hv : v = nI n) (dg : decode cc pc = .ok (.putfield 28, 3)) (kk : wo_W p l e R s m args below meth c A D cells slots nL Q (pc + 3) ls st (wA cI cZ a gr n mk tl me rk dy ln ll ps lf lc tc tp lv rp rc pp ++ Y)) : wo_W p l e R s m args below meth c A D cells slots nL Q pc ls (.int v :: .ref (a 1) :: st) (wA cI cZ a gr en mk tl me rk dy ln ll ps lf lc tc tp lv rp rc pp ++ Y) := by
  subst hv
  exact x_put C ku_X1 tyX1 tyX1_ok nmX1 1 kf_X1_28 1 rfl rfl (by decide) rfl (ty := .int) (by decide +kernel) rfl rfl (Nat.le_of_ble_eq_true rfl) rfl dg kk
theorem gA1_marks (C : wo_C p s m args meth c A D cc nL RX1 ((cI, .int) :: (cZ, .boolean) :: tys) ret) (dg : decode cc pc = .ok (.getfield 9, 3)) (kk : wo_W p l e R s m args below meth c A D cells slots nL Q (pc + 3) ls (.ref (a 2) :: st) (wA cI cZ a gr en mk tl me rk dy ln ll ps lf lc tc tp lv rp rc pp ++ Y)) : wo_W p l e R s m args below meth c A D cells slots nL Q pc ls (.ref (a 1) :: st) (wA cI cZ a gr en mk tl me rk dy ln ll ps lf lc tc tp lv rp rc pp ++ Y) := x_get C ku_X1 2 kf_X1_9 1 rfl rfl (by decide) rfl dg kk
theorem gA1_tilts (C : wo_C p s m args meth c A D cc nL RX1 ((cI, .int) :: (cZ, .boolean) :: tys) ret) (dg : decode cc pc = .ok (.getfield 15, 3)) (kk : wo_W p l e R s m args below meth c A D cells slots nL Q (pc + 3) ls (.ref (a 3) :: st) (wA cI cZ a gr en mk tl me rk dy ln ll ps lf lc tc tp lv rp rc pp ++ Y)) : wo_W p l e R s m args below meth c A D cells slots nL Q pc ls (.ref (a 1) :: st) (wA cI cZ a gr en mk tl me rk dy ln ll ps lf lc tc tp lv rp rc pp ++ Y) := x_get C ku_X1 3 kf_X1_15 1 rfl rfl (by decide) rfl dg kk
theorem gA1_measured (C : wo_C p s m args meth c A D cc nL RX1 ((cI, .int) :: (cZ, .boolean) :: tys) ret) (dg : decode cc pc = .ok (.getfield 18, 3)) (kk : wo_W p l e R s m args below meth c A D cells slots nL Q (pc + 3) ls (.ref (a 4) :: st) (wA cI cZ a gr en mk tl me rk dy ln ll ps lf lc tc tp lv rp rc pp ++ Y)) : wo_W p l e R s m args below meth c A D cells slots nL Q pc ls (.ref (a 1) :: st) (wA cI cZ a gr en mk tl me rk dy ln ll ps lf lc tc tp lv rp rc pp ++ Y) := x_get C ku_X1 4 kf_X1_18 1 rfl rfl (by decide) rfl dg kk
theorem gA1_ranked (C : wo_C p s m args meth c A D cc nL RX1 ((cI, .int) :: (cZ, .boolean) :: tys) ret) (dg : decode cc pc = .ok (.getfield 21, 3)) (kk : wo_W p l e R s m args below meth c A D cells slots nL Q (pc + 3) ls (.ref (a 5) :: st) (wA cI cZ a gr en mk tl me rk dy ln ll ps lf lc tc tp lv rp rc pp ++ Y)) : wo_W p l e R s m args below meth c A D cells slots nL Q pc ls (.ref (a 1) :: st) (wA cI cZ a gr en mk tl me rk dy ln ll ps lf lc tc tp lv rp rc pp ++ Y) := x_get C ku_X1 5 kf_X1_21 1 rfl rfl (by decide) rfl dg kk
theorem gA6_sheet (C : wo_C p s m args meth c A D cc nL RX0 ((cI, .int) :: (cZ, .boolean) :: tys) ret) (dg : decode cc pc = .ok (.getfield 9, 3)) (kk : wo_W p l e R s m args below meth c A D cells slots nL Q (pc + 3) ls (.ref (a 1) :: st) (wA cI cZ a gr en mk tl me rk dy ln ll ps lf lc tc tp lv rp rc pp ++ Y)) : wo_W p l e R s m args below meth c A D cells slots nL Q pc ls (.ref (a 6) :: st) (wA cI cZ a gr en mk tl me rk dy ln ll ps lf lc tc tp lv rp rc pp ++ Y) := x_get C ku_X0 0 kf_X0_9 6 rfl rfl (by decide) rfl dg kk
theorem gA6_day (C : wo_C p s m args meth c A D cc nL RX0 ((cI, .int) :: (cZ, .boolean) :: tys) ret) (dg : decode cc pc = .ok (.getfield 33, 3)) (kk : wo_W p l e R s m args below meth c A D cells slots nL Q (pc + 3) ls (.int (nI dy) :: st) (wA cI cZ a gr en mk tl me rk dy ln ll ps lf lc tc tp lv rp rc pp ++ Y)) : wo_W p l e R s m args below meth c A D cells slots nL Q pc ls (.ref (a 6) :: st) (wA cI cZ a gr en mk tl me rk dy ln ll ps lf lc tc tp lv rp rc pp ++ Y) := x_get C ku_X0 1 kf_X0_33 6 rfl rfl (by decide) rfl dg kk
theorem pA6_day (C : wo_C p s m args meth c A D cc nL RX0 ((cI, .int) :: (cZ, .boolean) :: tys) ret) {v : Int32} (n : Nat) (hv : v = nI n) (dg : decode cc pc = .ok (.putfield 33, 3)) (kk : wo_W p l e R s m args below meth c A D cells slots nL Q (pc + 3) ls st (wA cI cZ a gr en mk tl me rk n ln ll ps lf lc tc tp lv rp rc pp ++ Y)) : wo_W p l e R s m args below meth c A D cells slots nL Q pc ls (.int v :: .ref (a 6) :: st) (wA cI cZ a gr en mk tl me rk dy ln ll ps lf lc tc tp lv rp rc pp ++ Y) := by
  subst hv
  exact x_put C ku_X0 tyX0 tyX0_ok nmX0 1 kf_X0_33 6 rfl rfl (by decide) rfl (ty := .int) (by decide +kernel) rfl rfl (Nat.le_of_ble_eq_true rfl) rfl dg kk
theorem gA6_line (C : wo_C p s m args meth c A D cc nL RX0 ((cI, .int) :: (cZ, .boolean) :: tys) ret) (dg : decode cc pc = .ok (.getfield 15, 3)) (kk : wo_W p l e R s m args below meth c A D cells slots nL Q (pc + 3) ls (.ref (a 7) :: st) (wA cI cZ a gr en mk tl me rk dy ln ll ps lf lc tc tp lv rp rc pp ++ Y)) : wo_W p l e R s m args below meth c A D cells slots nL Q pc ls (.ref (a 6) :: st) (wA cI cZ a gr en mk tl me rk dy ln ll ps lf lc tc tp lv rp rc pp ++ Y) := x_get C ku_X0 2 kf_X0_15 6 rfl rfl (by decide) rfl dg kk
theorem gA6_lineLength (C : wo_C p s m args meth c A D cc nL RX0 ((cI, .int) :: (cZ, .boolean) :: tys) ret) (dg : decode cc pc = .ok (.getfield 42, 3)) (kk : wo_W p l e R s m args below meth c A D cells slots nL Q (pc + 3) ls (.int (nI ll) :: st) (wA cI cZ a gr en mk tl me rk dy ln ll ps lf lc tc tp lv rp rc pp ++ Y)) : wo_W p l e R s m args below meth c A D cells slots nL Q pc ls (.ref (a 6) :: st) (wA cI cZ a gr en mk tl me rk dy ln ll ps lf lc tc tp lv rp rc pp ++ Y) := x_get C ku_X0 3 kf_X0_42 6 rfl rfl (by decide) rfl dg kk
theorem pA6_lineLength (C : wo_C p s m args meth c A D cc nL RX0 ((cI, .int) :: (cZ, .boolean) :: tys) ret) {v : Int32} (n : Nat) (hv : v = nI n) (dg : decode cc pc = .ok (.putfield 42, 3)) (kk : wo_W p l e R s m args below meth c A D cells slots nL Q (pc + 3) ls st (wA cI cZ a gr en mk tl me rk dy ln n ps lf lc tc tp lv rp rc pp ++ Y)) : wo_W p l e R s m args below meth c A D cells slots nL Q pc ls (.int v :: .ref (a 6) :: st) (wA cI cZ a gr en mk tl me rk dy ln ll ps lf lc tc tp lv rp rc pp ++ Y) := by
  subst hv
  exact x_put C ku_X0 tyX0 tyX0_ok nmX0 3 kf_X0_42 6 rfl rfl (by decide) rfl (ty := .int) (by decide +kernel) rfl rfl (Nat.le_of_ble_eq_true rfl) rfl dg kk
theorem gA6_position (C : wo_C p s m args meth c A D cc nL RX0 ((cI, .int) :: (cZ, .boolean) :: tys) ret) (dg : decode cc pc = .ok (.getfield 39, 3)) (kk : wo_W p l e R s m args below meth c A D cells slots nL Q (pc + 3) ls (.int (nI ps) :: st) (wA cI cZ a gr en mk tl me rk dy ln ll ps lf lc tc tp lv rp rc pp ++ Y)) : wo_W p l e R s m args below meth c A D cells slots nL Q pc ls (.ref (a 6) :: st) (wA cI cZ a gr en mk tl me rk dy ln ll ps lf lc tc tp lv rp rc pp ++ Y) := x_get C ku_X0 4 kf_X0_39 6 rfl rfl (by decide) rfl dg kk
theorem pA6_position (C : wo_C p s m args meth c A D cc nL RX0 ((cI, .int) :: (cZ, .boolean) :: tys) ret) {v : Int32} (n : Nat) (hv : v = nI n) (dg : decode cc pc = .ok (.putfield 39, 3)) (kk : wo_W p l e R s m args below meth c A D cells slots nL Q (pc + 3) ls st (wA cI cZ a gr en mk tl me rk dy ln ll n lf lc tc tp lv rp rc pp ++ Y)) : wo_W p l e R s m args below meth c A D cells slots nL Q pc ls (.int v :: .ref (a 6) :: st) (wA cI cZ a gr en mk tl me rk dy ln ll ps lf lc tc tp lv rp rc pp ++ Y) := by
  subst hv
  exact x_put C ku_X0 tyX0 tyX0_ok nmX0 4 kf_X0_39 6 rfl rfl (by decide) rfl (ty := .int) (by decide +kernel) rfl rfl (Nat.le_of_ble_eq_true rfl) rfl dg kk
theorem gA6_left (C : wo_C p s m args meth c A D cc nL RX0 ((cI, .int) :: (cZ, .boolean) :: tys) ret) (dg : decode cc pc = .ok (.getfield 19, 3)) (kk : wo_W p l e R s m args below meth c A D cells slots nL Q (pc + 3) ls (.ref (a 8) :: st) (wA cI cZ a gr en mk tl me rk dy ln ll ps lf lc tc tp lv rp rc pp ++ Y)) : wo_W p l e R s m args below meth c A D cells slots nL Q pc ls (.ref (a 6) :: st) (wA cI cZ a gr en mk tl me rk dy ln ll ps lf lc tc tp lv rp rc pp ++ Y) := x_get C ku_X0 5 kf_X0_19 6 rfl rfl (by decide) rfl dg kk
theorem gA6_leftCount (C : wo_C p s m args meth c A D cc nL RX0 ((cI, .int) :: (cZ, .boolean) :: tys) ret) (dg : decode cc pc = .ok (.getfield 29, 3)) (kk : wo_W p l e R s m args below meth c A D cells slots nL Q (pc + 3) ls (.int (nI lc) :: st) (wA cI cZ a gr en mk tl me rk dy ln ll ps lf lc tc tp lv rp rc pp ++ Y)) : wo_W p l e R s m args below meth c A D cells slots nL Q pc ls (.ref (a 6) :: st) (wA cI cZ a gr en mk tl me rk dy ln ll ps lf lc tc tp lv rp rc pp ++ Y) := x_get C ku_X0 6 kf_X0_29 6 rfl rfl (by decide) rfl dg kk
theorem pA6_leftCount (C : wo_C p s m args meth c A D cc nL RX0 ((cI, .int) :: (cZ, .boolean) :: tys) ret) {v : Int32} (n : Nat) (hv : v = nI n) (dg : decode cc pc = .ok (.putfield 29, 3)) (kk : wo_W p l e R s m args below meth c A D cells slots nL Q (pc + 3) ls st (wA cI cZ a gr en mk tl me rk dy ln ll ps lf n tc tp lv rp rc pp ++ Y)) : wo_W p l e R s m args below meth c A D cells slots nL Q pc ls (.int v :: .ref (a 6) :: st) (wA cI cZ a gr en mk tl me rk dy ln ll ps lf lc tc tp lv rp rc pp ++ Y) := by
  subst hv
  exact x_put C ku_X0 tyX0 tyX0_ok nmX0 6 kf_X0_29 6 rfl rfl (by decide) rfl (ty := .int) (by decide +kernel) rfl rfl (Nat.le_of_ble_eq_true rfl) rfl dg kk
theorem gA6_throughCut (C : wo_C p s m args meth c A D cc nL RX0 ((cI, .int) :: (cZ, .boolean) :: tys) ret) (dg : decode cc pc = .ok (.getfield 23, 3)) (kk : wo_W p l e R s m args below meth c A D cells slots nL Q (pc + 3) ls (.ref (a 9) :: st) (wA cI cZ a gr en mk tl me rk dy ln ll ps lf lc tc tp lv rp rc pp ++ Y)) : wo_W p l e R s m args below meth c A D cells slots nL Q pc ls (.ref (a 6) :: st) (wA cI cZ a gr en mk tl me rk dy ln ll ps lf lc tc tp lv rp rc pp ++ Y) := x_get C ku_X0 7 kf_X0_23 6 rfl rfl (by decide) rfl dg kk
theorem gA6_takenPlaces (C : wo_C p s m args meth c A D cc nL RX0 ((cI, .int) :: (cZ, .boolean) :: tys) ret) (dg : decode cc pc = .ok (.getfield 26, 3)) (kk : wo_W p l e R s m args below meth c A D cells slots nL Q (pc + 3) ls (.ref (a 10) :: st) (wA cI cZ a gr en mk tl me rk dy ln ll ps lf lc tc tp lv rp rc pp ++ Y)) : wo_W p l e R s m args below meth c A D cells slots nL Q pc ls (.ref (a 6) :: st) (wA cI cZ a gr en mk tl me rk dy ln ll ps lf lc tc tp lv rp rc pp ++ Y) := x_get C ku_X0 8 kf_X0_26 6 rfl rfl (by decide) rfl dg kk
theorem lA_mk {own : String} (C : wo_C p s m args meth c A D cc nL own ((cI, .int) :: (cZ, .boolean) :: tys) ret) {x : Int32} (i : Nat) (hx : x = nI i) (hi : i < 72) (dg : decode cc pc = .ok (.iaload, 1)) (kk : wo_W p l e R s m args below meth c A D cells slots nL Q (pc + 1) ls (.int (mk i) :: st) (wA cI cZ a gr en mk tl me rk dy ln ll ps lf lc tc tp lv rp rc pp ++ Y)) : wo_W p l e R s m args below meth c A D cells slots nL Q pc ls (.int x :: .ref (a 2) :: st) (wA cI cZ a gr en mk tl me rk dy ln ll ps lf lc tc tp lv rp rc pp ++ Y) := x_iald C 2 0 i rfl rfl hx hi (by decide) dg kk
theorem sA_mk {own : String} (C : wo_C p s m args meth c A D cc nL own ((cI, .int) :: (cZ, .boolean) :: tys) ret) {x : Int32} (n : Int32) (i : Nat) (hx : x = nI i) (hi : i < 72) (dg : decode cc pc = .ok (.iastore, 1)) (kk : wo_W p l e R s m args below meth c A D cells slots nL Q (pc + 1) ls st (wA cI cZ a gr en (va_up mk i n) tl me rk dy ln ll ps lf lc tc tp lv rp rc pp ++ Y)) : wo_W p l e R s m args below meth c A D cells slots nL Q pc ls (.int n :: .int x :: .ref (a 2) :: st) (wA cI cZ a gr en mk tl me rk dy ln ll ps lf lc tc tp lv rp rc pp ++ Y) := by
  refine x_iast C 2 0 i rfl rfl hx hi (by decide) ?_ dg kk
  rw [wo_upi mk i n]
  rfl
theorem lA_tl {own : String} (C : wo_C p s m args meth c A D cc nL own ((cI, .int) :: (cZ, .boolean) :: tys) ret) {x : Int32} (i : Nat) (hx : x = nI i) (hi : i < 72) (dg : decode cc pc = .ok (.iaload, 1)) (kk : wo_W p l e R s m args below meth c A D cells slots nL Q (pc + 1) ls (.int (tl i) :: st) (wA cI cZ a gr en mk tl me rk dy ln ll ps lf lc tc tp lv rp rc pp ++ Y)) : wo_W p l e R s m args below meth c A D cells slots nL Q pc ls (.int x :: .ref (a 3) :: st) (wA cI cZ a gr en mk tl me rk dy ln ll ps lf lc tc tp lv rp rc pp ++ Y) := x_iald C 3 0 i rfl rfl hx hi (by decide) dg kk
theorem sA_tl {own : String} (C : wo_C p s m args meth c A D cc nL own ((cI, .int) :: (cZ, .boolean) :: tys) ret) {x : Int32} (n : Int32) (i : Nat) (hx : x = nI i) (hi : i < 72) (dg : decode cc pc = .ok (.iastore, 1)) (kk : wo_W p l e R s m args below meth c A D cells slots nL Q (pc + 1) ls st (wA cI cZ a gr en mk (va_up tl i n) me rk dy ln ll ps lf lc tc tp lv rp rc pp ++ Y)) : wo_W p l e R s m args below meth c A D cells slots nL Q pc ls (.int n :: .int x :: .ref (a 3) :: st) (wA cI cZ a gr en mk tl me rk dy ln ll ps lf lc tc tp lv rp rc pp ++ Y) := by
  refine x_iast C 3 0 i rfl rfl hx hi (by decide) ?_ dg kk
  rw [wo_upi tl i n]
  rfl
theorem lA_me {own : String} (C : wo_C p s m args meth c A D cc nL own ((cI, .int) :: (cZ, .boolean) :: tys) ret) {x : Int32} (i : Nat) (hx : x = nI i) (hi : i < 72) (dg : decode cc pc = .ok (.iaload, 1)) (kk : wo_W p l e R s m args below meth c A D cells slots nL Q (pc + 1) ls (.int (me i) :: st) (wA cI cZ a gr en mk tl me rk dy ln ll ps lf lc tc tp lv rp rc pp ++ Y)) : wo_W p l e R s m args below meth c A D cells slots nL Q pc ls (.int x :: .ref (a 4) :: st) (wA cI cZ a gr en mk tl me rk dy ln ll ps lf lc tc tp lv rp rc pp ++ Y) := x_iald C 4 0 i rfl rfl hx hi (by decide) dg kk
theorem sA_me {own : String} (C : wo_C p s m args meth c A D cc nL own ((cI, .int) :: (cZ, .boolean) :: tys) ret) {x : Int32} (n : Int32) (i : Nat) (hx : x = nI i) (hi : i < 72) (dg : decode cc pc = .ok (.iastore, 1)) (kk : wo_W p l e R s m args below meth c A D cells slots nL Q (pc + 1) ls st (wA cI cZ a gr en mk tl (va_up me i n) rk dy ln ll ps lf lc tc tp lv rp rc pp ++ Y)) : wo_W p l e R s m args below meth c A D cells slots nL Q pc ls (.int n :: .int x :: .ref (a 4) :: st) (wA cI cZ a gr en mk tl me rk dy ln ll ps lf lc tc tp lv rp rc pp ++ Y) := by
  refine x_iast C 4 0 i rfl rfl hx hi (by decide) ?_ dg kk
  rw [wo_upi me i n]
  rfl
theorem lA_rk {own : String} (C : wo_C p s m args meth c A D cc nL own ((cI, .int) :: (cZ, .boolean) :: tys) ret) {x : Int32} (i : Nat) (hx : x = nI i) (hi : i < 72) (dg : decode cc pc = .ok (.iaload, 1)) (kk : wo_W p l e R s m args below meth c A D cells slots nL Q (pc + 1) ls (.int (rk i) :: st) (wA cI cZ a gr en mk tl me rk dy ln ll ps lf lc tc tp lv rp rc pp ++ Y)) : wo_W p l e R s m args below meth c A D cells slots nL Q pc ls (.int x :: .ref (a 5) :: st) (wA cI cZ a gr en mk tl me rk dy ln ll ps lf lc tc tp lv rp rc pp ++ Y) := x_iald C 5 0 i rfl rfl hx hi (by decide) dg kk
theorem sA_rk {own : String} (C : wo_C p s m args meth c A D cc nL own ((cI, .int) :: (cZ, .boolean) :: tys) ret) {x : Int32} (n : Int32) (i : Nat) (hx : x = nI i) (hi : i < 72) (dg : decode cc pc = .ok (.iastore, 1)) (kk : wo_W p l e R s m args below meth c A D cells slots nL Q (pc + 1) ls st (wA cI cZ a gr en mk tl me (va_up rk i n) dy ln ll ps lf lc tc tp lv rp rc pp ++ Y)) : wo_W p l e R s m args below meth c A D cells slots nL Q pc ls (.int n :: .int x :: .ref (a 5) :: st) (wA cI cZ a gr en mk tl me rk dy ln ll ps lf lc tc tp lv rp rc pp ++ Y) := by
  refine x_iast C 5 0 i rfl rfl hx hi (by decide) ?_ dg kk
  rw [wo_upi rk i n]
  rfl
theorem lA_ln {own : String} (C : wo_C p s m args meth c A D cc nL own ((cI, .int) :: (cZ, .boolean) :: tys) ret) {x : Int32} (i : Nat) (hx : x = nI i) (hi : i < 12) (dg : decode cc pc = .ok (.iaload, 1)) (kk : wo_W p l e R s m args below meth c A D cells slots nL Q (pc + 1) ls (.int (nI (ln i)) :: st) (wA cI cZ a gr en mk tl me rk dy ln ll ps lf lc tc tp lv rp rc pp ++ Y)) : wo_W p l e R s m args below meth c A D cells slots nL Q pc ls (.int x :: .ref (a 7) :: st) (wA cI cZ a gr en mk tl me rk dy ln ll ps lf lc tc tp lv rp rc pp ++ Y) := x_iald C 7 0 i rfl rfl hx hi (by decide) dg kk
theorem sA_ln {own : String} (C : wo_C p s m args meth c A D cc nL own ((cI, .int) :: (cZ, .boolean) :: tys) ret) {x : Int32} {v : Int32} (n : Nat) (hv : v = nI n) (i : Nat) (hx : x = nI i) (hi : i < 12) (dg : decode cc pc = .ok (.iastore, 1)) (kk : wo_W p l e R s m args below meth c A D cells slots nL Q (pc + 1) ls st (wA cI cZ a gr en mk tl me rk dy (va_up ln i n) ll ps lf lc tc tp lv rp rc pp ++ Y)) : wo_W p l e R s m args below meth c A D cells slots nL Q pc ls (.int v :: .int x :: .ref (a 7) :: st) (wA cI cZ a gr en mk tl me rk dy ln ll ps lf lc tc tp lv rp rc pp ++ Y) := by
  subst hv
  refine x_iast C 7 0 i rfl rfl hx hi (by decide) ?_ dg kk
  rw [wo_upn ln i n]
  rfl
theorem lA_lf {own : String} (C : wo_C p s m args meth c A D cc nL own ((cI, .int) :: (cZ, .boolean) :: tys) ret) {x : Int32} (i : Nat) (hx : x = nI i) (hi : i < 12) (dg : decode cc pc = .ok (.baload, 1)) (kk : wo_W p l e R s m args below meth c A D cells slots nL Q (pc + 1) ls (.int (bz (lf i)) :: st) (wA cI cZ a gr en mk tl me rk dy ln ll ps lf lc tc tp lv rp rc pp ++ Y)) : wo_W p l e R s m args below meth c A D cells slots nL Q pc ls (.int x :: .ref (a 8) :: st) (wA cI cZ a gr en mk tl me rk dy ln ll ps lf lc tc tp lv rp rc pp ++ Y) := x_zald C 8 1 i rfl rfl hx hi (by decide) dg kk
theorem sA_lf {own : String} (C : wo_C p s m args meth c A D cc nL own ((cI, .int) :: (cZ, .boolean) :: tys) ret) {x : Int32} {v : Int32} (n : Bool) (hv : v = bz n) (i : Nat) (hx : x = nI i) (hi : i < 12) (dg : decode cc pc = .ok (.bastore, 1)) (kk : wo_W p l e R s m args below meth c A D cells slots nL Q (pc + 1) ls st (wA cI cZ a gr en mk tl me rk dy ln ll ps (va_up lf i n) lc tc tp lv rp rc pp ++ Y)) : wo_W p l e R s m args below meth c A D cells slots nL Q pc ls (.int v :: .int x :: .ref (a 8) :: st) (wA cI cZ a gr en mk tl me rk dy ln ll ps lf lc tc tp lv rp rc pp ++ Y) := by
  subst hv
  refine x_zast C 8 1 i rfl rfl hx hi (by decide) ?_ dg kk
  rw [wo_upb lf i n]
  rfl
theorem lA_tc {own : String} (C : wo_C p s m args meth c A D cc nL own ((cI, .int) :: (cZ, .boolean) :: tys) ret) {x : Int32} (i : Nat) (hx : x = nI i) (hi : i < 12) (dg : decode cc pc = .ok (.baload, 1)) (kk : wo_W p l e R s m args below meth c A D cells slots nL Q (pc + 1) ls (.int (bz (tc i)) :: st) (wA cI cZ a gr en mk tl me rk dy ln ll ps lf lc tc tp lv rp rc pp ++ Y)) : wo_W p l e R s m args below meth c A D cells slots nL Q pc ls (.int x :: .ref (a 9) :: st) (wA cI cZ a gr en mk tl me rk dy ln ll ps lf lc tc tp lv rp rc pp ++ Y) := x_zald C 9 1 i rfl rfl hx hi (by decide) dg kk
theorem sA_tc {own : String} (C : wo_C p s m args meth c A D cc nL own ((cI, .int) :: (cZ, .boolean) :: tys) ret) {x : Int32} {v : Int32} (n : Bool) (hv : v = bz n) (i : Nat) (hx : x = nI i) (hi : i < 12) (dg : decode cc pc = .ok (.bastore, 1)) (kk : wo_W p l e R s m args below meth c A D cells slots nL Q (pc + 1) ls st (wA cI cZ a gr en mk tl me rk dy ln ll ps lf lc (va_up tc i n) tp lv rp rc pp ++ Y)) : wo_W p l e R s m args below meth c A D cells slots nL Q pc ls (.int v :: .int x :: .ref (a 9) :: st) (wA cI cZ a gr en mk tl me rk dy ln ll ps lf lc tc tp lv rp rc pp ++ Y) := by
  subst hv
  refine x_zast C 9 1 i rfl rfl hx hi (by decide) ?_ dg kk
  rw [wo_upb tc i n]
  rfl
theorem lA_tp {own : String} (C : wo_C p s m args meth c A D cc nL own ((cI, .int) :: (cZ, .boolean) :: tys) ret) {x : Int32} (i : Nat) (hx : x = nI i) (hi : i < 12) (dg : decode cc pc = .ok (.iaload, 1)) (kk : wo_W p l e R s m args below meth c A D cells slots nL Q (pc + 1) ls (.int (nI (tp i)) :: st) (wA cI cZ a gr en mk tl me rk dy ln ll ps lf lc tc tp lv rp rc pp ++ Y)) : wo_W p l e R s m args below meth c A D cells slots nL Q pc ls (.int x :: .ref (a 10) :: st) (wA cI cZ a gr en mk tl me rk dy ln ll ps lf lc tc tp lv rp rc pp ++ Y) := x_iald C 10 0 i rfl rfl hx hi (by decide) dg kk
theorem sA_tp {own : String} (C : wo_C p s m args meth c A D cc nL own ((cI, .int) :: (cZ, .boolean) :: tys) ret) {x : Int32} {v : Int32} (n : Nat) (hv : v = nI n) (i : Nat) (hx : x = nI i) (hi : i < 12) (dg : decode cc pc = .ok (.iastore, 1)) (kk : wo_W p l e R s m args below meth c A D cells slots nL Q (pc + 1) ls st (wA cI cZ a gr en mk tl me rk dy ln ll ps lf lc tc (va_up tp i n) lv rp rc pp ++ Y)) : wo_W p l e R s m args below meth c A D cells slots nL Q pc ls (.int v :: .int x :: .ref (a 10) :: st) (wA cI cZ a gr en mk tl me rk dy ln ll ps lf lc tc tp lv rp rc pp ++ Y) := by
  subst hv
  refine x_iast C 10 0 i rfl rfl hx hi (by decide) ?_ dg kk
  rw [wo_upn tp i n]
  rfl
end WOA
def wB (cI cZ : ClassId) (a : Nat → Nat) (co : Int32) (gr : Nat) (dy : Nat) (kd : Nat → Int32) (wo : Nat → Int32) (me : Nat → Bool) (ti : Nat → Int32) (td : Nat → Bool) (la : Nat → Nat) (go : Nat → Bool) (kp : Nat → Bool) (od : Nat → Nat) (no : Nat) (ax : Int32) (lv : Bool) (rh : Bool) (re : Int32) (rs : Int32) (ph : Bool) (pr : Int32) (o1 : Nat → Int32) (o2 : Nat → Int32) : va_W := [
  (a 0, .inr (3, [.int co, .int (nI gr), .int (nI dy), .ref (a 1), .ref (a 2), .ref (a 3), .ref (a 4), .ref (a 5), .ref (a 6), .ref (a 7), .ref (a 8), .ref (a 9), .int (nI no), .int ax, .int (bz lv), .int (bz rh), .int re, .int rs, .int (bz ph), .int pr, .ref (a 10), .ref (a 11)])),
  (a 1, .inl (cI, 84, .inl (kd))),
  (a 2, .inl (cI, 84, .inl (wo))),
  (a 3, .inl (cZ, 84, .inl (fun k => bz (me k)))),
  (a 4, .inl (cI, 84, .inl (ti))),
  (a 5, .inl (cZ, 84, .inl (fun k => bz (td k)))),
  (a 6, .inl (cI, 12, .inl (fun k => nI (la k)))),
  (a 7, .inl (cZ, 12, .inl (fun k => bz (go k)))),
  (a 8, .inl (cZ, 12, .inl (fun k => bz (kp k)))),
  (a 9, .inl (cI, 12, .inl (fun k => nI (od k)))),
  (a 10, .inl (cI, 6, .inl (o1))),
  (a 11, .inl (cI, 6, .inl (o2)))]
section WOB
variable {p : Program} {l : Launch} {e : Env} {R : Room} {s : State} {m : MethodId} {args : Array Value} {below : List Frame} {meth : Method} {c : Code} {A : Nat → Prop} {D : va_G} {cells slots nL : Nat} {Q : State → Prop} {cc : ByteArray} {ret : Option FieldType}
variable {pc : Nat} {ls : List (Option Value)} {st : List Value} {Y : va_W} {cI cZ : ClassId} {a : Nat → Nat} {tys : List (ClassId × FieldType)}
variable {co : Int32} {gr : Nat} {dy : Nat} {kd : Nat → Int32} {wo : Nat → Int32} {me : Nat → Bool} {ti : Nat → Int32} {td : Nat → Bool} {la : Nat → Nat} {go : Nat → Bool} {kp : Nat → Bool} {od : Nat → Nat} {no : Nat} {ax : Int32} {lv : Bool} {rh : Bool} {re : Int32} {rs : Int32} {ph : Bool} {pr : Int32} {o1 : Nat → Int32} {o2 : Nat → Int32}
theorem gB0_code (C : wo_C p s m args meth c A D cc nL RX3 ((cI, .int) :: (cZ, .boolean) :: tys) ret) (dg : decode cc pc = .ok (.getfield 56, 3)) (kk : wo_W p l e R s m args below meth c A D cells slots nL Q (pc + 3) ls (.int co :: st) (wB cI cZ a co gr dy kd wo me ti td la go kp od no ax lv rh re rs ph pr o1 o2 ++ Y)) : wo_W p l e R s m args below meth c A D cells slots nL Q pc ls (.ref (a 0) :: st) (wB cI cZ a co gr dy kd wo me ti td la go kp od no ax lv rh re rs ph pr o1 o2 ++ Y) := x_get C ku_X3 0 kf_X3_56 0 rfl rfl (by decide) rfl dg kk
theorem pB0_code (C : wo_C p s m args meth c A D cc nL RX3 ((cI, .int) :: (cZ, .boolean) :: tys) ret) (n : Int32) (dg : decode cc pc = .ok (.putfield 56, 3)) (kk : wo_W p l e R s m args below meth c A D cells slots nL Q (pc + 3) ls st (wB cI cZ a n gr dy kd wo me ti td la go kp od no ax lv rh re rs ph pr o1 o2 ++ Y)) : wo_W p l e R s m args below meth c A D cells slots nL Q pc ls (.int n :: .ref (a 0) :: st) (wB cI cZ a co gr dy kd wo me ti td la go kp od no ax lv rh re rs ph pr o1 o2 ++ Y) := x_put C ku_X3 tyX3 tyX3_ok nmX3 0 kf_X3_56 0 rfl rfl (by decide) rfl (ty := .int) (by decide +kernel) rfl rfl (Nat.le_of_ble_eq_true rfl) rfl dg kk
theorem gB0_growers (C : wo_C p s m args meth c A D cc nL RX3 ((cI, .int) :: (cZ, .boolean) :: tys) ret) (dg : decode cc pc = .ok (.getfield 60, 3)) (kk : wo_W p l e R s m args below meth c A D cells slots nL Q (pc + 3) ls (.int (nI gr) :: st) (wB cI cZ a co gr dy kd wo me ti td la go kp od no ax lv rh re rs ph pr o1 o2 ++ Y)) : wo_W p l e R s m args below meth c A D cells slots nL Q pc ls (.ref (a 0) :: st) (wB cI cZ a co gr dy kd wo me ti td la go kp od no ax lv rh re rs ph pr o1 o2 ++ Y) := x_get C ku_X3 1 kf_X3_60 0 rfl rfl (by decide) rfl dg kk
theorem pB0_growers (C : wo_C p s m args meth c A D cc nL RX3 ((cI, .int) :: (cZ, .boolean) :: tys) ret) {v : Int32} (n : Nat) (hv : v = nI n) (dg : decode cc pc = .ok (.putfield 60, 3)) (kk : wo_W p l e R s m args below meth c A D cells slots nL Q (pc + 3) ls st (wB cI cZ a co n dy kd wo me ti td la go kp od no ax lv rh re rs ph pr o1 o2 ++ Y)) : wo_W p l e R s m args below meth c A D cells slots nL Q pc ls (.int v :: .ref (a 0) :: st) (wB cI cZ a co gr dy kd wo me ti td la go kp od no ax lv rh re rs ph pr o1 o2 ++ Y) := by
  subst hv
  exact x_put C ku_X3 tyX3 tyX3_ok nmX3 1 kf_X3_60 0 rfl rfl (by decide) rfl (ty := .int) (by decide +kernel) rfl rfl (Nat.le_of_ble_eq_true rfl) rfl dg kk
theorem gB0_day (C : wo_C p s m args meth c A D cc nL RX3 ((cI, .int) :: (cZ, .boolean) :: tys) ret) (dg : decode cc pc = .ok (.getfield 63, 3)) (kk : wo_W p l e R s m args below meth c A D cells slots nL Q (pc + 3) ls (.int (nI dy) :: st) (wB cI cZ a co gr dy kd wo me ti td la go kp od no ax lv rh re rs ph pr o1 o2 ++ Y)) : wo_W p l e R s m args below meth c A D cells slots nL Q pc ls (.ref (a 0) :: st) (wB cI cZ a co gr dy kd wo me ti td la go kp od no ax lv rh re rs ph pr o1 o2 ++ Y) := x_get C ku_X3 2 kf_X3_63 0 rfl rfl (by decide) rfl dg kk
theorem pB0_day (C : wo_C p s m args meth c A D cc nL RX3 ((cI, .int) :: (cZ, .boolean) :: tys) ret) {v : Int32} (n : Nat) (hv : v = nI n) (dg : decode cc pc = .ok (.putfield 63, 3)) (kk : wo_W p l e R s m args below meth c A D cells slots nL Q (pc + 3) ls st (wB cI cZ a co gr n kd wo me ti td la go kp od no ax lv rh re rs ph pr o1 o2 ++ Y)) : wo_W p l e R s m args below meth c A D cells slots nL Q pc ls (.int v :: .ref (a 0) :: st) (wB cI cZ a co gr dy kd wo me ti td la go kp od no ax lv rh re rs ph pr o1 o2 ++ Y) := by
  subst hv
  exact x_put C ku_X3 tyX3 tyX3_ok nmX3 2 kf_X3_63 0 rfl rfl (by decide) rfl (ty := .int) (by decide +kernel) rfl rfl (Nat.le_of_ble_eq_true rfl) rfl dg kk
theorem gB0_kind (C : wo_C p s m args meth c A D cc nL RX3 ((cI, .int) :: (cZ, .boolean) :: tys) ret) (dg : decode cc pc = .ok (.getfield 7, 3)) (kk : wo_W p l e R s m args below meth c A D cells slots nL Q (pc + 3) ls (.ref (a 1) :: st) (wB cI cZ a co gr dy kd wo me ti td la go kp od no ax lv rh re rs ph pr o1 o2 ++ Y)) : wo_W p l e R s m args below meth c A D cells slots nL Q pc ls (.ref (a 0) :: st) (wB cI cZ a co gr dy kd wo me ti td la go kp od no ax lv rh re rs ph pr o1 o2 ++ Y) := x_get C ku_X3 3 kf_X3_7 0 rfl rfl (by decide) rfl dg kk
theorem gB0_worth (C : wo_C p s m args meth c A D cc nL RX3 ((cI, .int) :: (cZ, .boolean) :: tys) ret) (dg : decode cc pc = .ok (.getfield 13, 3)) (kk : wo_W p l e R s m args below meth c A D cells slots nL Q (pc + 3) ls (.ref (a 2) :: st) (wB cI cZ a co gr dy kd wo me ti td la go kp od no ax lv rh re rs ph pr o1 o2 ++ Y)) : wo_W p l e R s m args below meth c A D cells slots nL Q pc ls (.ref (a 0) :: st) (wB cI cZ a co gr dy kd wo me ti td la go kp od no ax lv rh re rs ph pr o1 o2 ++ Y) := x_get C ku_X3 4 kf_X3_13 0 rfl rfl (by decide) rfl dg kk
theorem gB0_measured (C : wo_C p s m args meth c A D cc nL RX3 ((cI, .int) :: (cZ, .boolean) :: tys) ret) (dg : decode cc pc = .ok (.getfield 16, 3)) (kk : wo_W p l e R s m args below meth c A D cells slots nL Q (pc + 3) ls (.ref (a 3) :: st) (wB cI cZ a co gr dy kd wo me ti td la go kp od no ax lv rh re rs ph pr o1 o2 ++ Y)) : wo_W p l e R s m args below meth c A D cells slots nL Q pc ls (.ref (a 0) :: st) (wB cI cZ a co gr dy kd wo me ti td la go kp od no ax lv rh re rs ph pr o1 o2 ++ Y) := x_get C ku_X3 5 kf_X3_16 0 rfl rfl (by decide) rfl dg kk
theorem gB0_tilt (C : wo_C p s m args meth c A D cc nL RX3 ((cI, .int) :: (cZ, .boolean) :: tys) ret) (dg : decode cc pc = .ok (.getfield 20, 3)) (kk : wo_W p l e R s m args below meth c A D cells slots nL Q (pc + 3) ls (.ref (a 4) :: st) (wB cI cZ a co gr dy kd wo me ti td la go kp od no ax lv rh re rs ph pr o1 o2 ++ Y)) : wo_W p l e R s m args below meth c A D cells slots nL Q pc ls (.ref (a 0) :: st) (wB cI cZ a co gr dy kd wo me ti td la go kp od no ax lv rh re rs ph pr o1 o2 ++ Y) := x_get C ku_X3 6 kf_X3_20 0 rfl rfl (by decide) rfl dg kk
theorem gB0_tilted (C : wo_C p s m args meth c A D cc nL RX3 ((cI, .int) :: (cZ, .boolean) :: tys) ret) (dg : decode cc pc = .ok (.getfield 23, 3)) (kk : wo_W p l e R s m args below meth c A D cells slots nL Q (pc + 3) ls (.ref (a 5) :: st) (wB cI cZ a co gr dy kd wo me ti td la go kp od no ax lv rh re rs ph pr o1 o2 ++ Y)) : wo_W p l e R s m args below meth c A D cells slots nL Q pc ls (.ref (a 0) :: st) (wB cI cZ a co gr dy kd wo me ti td la go kp od no ax lv rh re rs ph pr o1 o2 ++ Y) := x_get C ku_X3 7 kf_X3_23 0 rfl rfl (by decide) rfl dg kk
theorem gB0_latest (C : wo_C p s m args meth c A D cc nL RX3 ((cI, .int) :: (cZ, .boolean) :: tys) ret) (dg : decode cc pc = .ok (.getfield 26, 3)) (kk : wo_W p l e R s m args below meth c A D cells slots nL Q (pc + 3) ls (.ref (a 6) :: st) (wB cI cZ a co gr dy kd wo me ti td la go kp od no ax lv rh re rs ph pr o1 o2 ++ Y)) : wo_W p l e R s m args below meth c A D cells slots nL Q pc ls (.ref (a 0) :: st) (wB cI cZ a co gr dy kd wo me ti td la go kp od no ax lv rh re rs ph pr o1 o2 ++ Y) := x_get C ku_X3 8 kf_X3_26 0 rfl rfl (by decide) rfl dg kk
theorem gB0_gone (C : wo_C p s m args meth c A D cc nL RX3 ((cI, .int) :: (cZ, .boolean) :: tys) ret) (dg : decode cc pc = .ok (.getfield 29, 3)) (kk : wo_W p l e R s m args below meth c A D cells slots nL Q (pc + 3) ls (.ref (a 7) :: st) (wB cI cZ a co gr dy kd wo me ti td la go kp od no ax lv rh re rs ph pr o1 o2 ++ Y)) : wo_W p l e R s m args below meth c A D cells slots nL Q pc ls (.ref (a 0) :: st) (wB cI cZ a co gr dy kd wo me ti td la go kp od no ax lv rh re rs ph pr o1 o2 ++ Y) := x_get C ku_X3 9 kf_X3_29 0 rfl rfl (by decide) rfl dg kk
theorem gB0_kept (C : wo_C p s m args meth c A D cc nL RX3 ((cI, .int) :: (cZ, .boolean) :: tys) ret) (dg : decode cc pc = .ok (.getfield 32, 3)) (kk : wo_W p l e R s m args below meth c A D cells slots nL Q (pc + 3) ls (.ref (a 8) :: st) (wB cI cZ a co gr dy kd wo me ti td la go kp od no ax lv rh re rs ph pr o1 o2 ++ Y)) : wo_W p l e R s m args below meth c A D cells slots nL Q pc ls (.ref (a 0) :: st) (wB cI cZ a co gr dy kd wo me ti td la go kp od no ax lv rh re rs ph pr o1 o2 ++ Y) := x_get C ku_X3 10 kf_X3_32 0 rfl rfl (by decide) rfl dg kk
theorem gB0_order (C : wo_C p s m args meth c A D cc nL RX3 ((cI, .int) :: (cZ, .boolean) :: tys) ret) (dg : decode cc pc = .ok (.getfield 35, 3)) (kk : wo_W p l e R s m args below meth c A D cells slots nL Q (pc + 3) ls (.ref (a 9) :: st) (wB cI cZ a co gr dy kd wo me ti td la go kp od no ax lv rh re rs ph pr o1 o2 ++ Y)) : wo_W p l e R s m args below meth c A D cells slots nL Q pc ls (.ref (a 0) :: st) (wB cI cZ a co gr dy kd wo me ti td la go kp od no ax lv rh re rs ph pr o1 o2 ++ Y) := x_get C ku_X3 11 kf_X3_35 0 rfl rfl (by decide) rfl dg kk
theorem gB0_ordered (C : wo_C p s m args meth c A D cc nL RX3 ((cI, .int) :: (cZ, .boolean) :: tys) ret) (dg : decode cc pc = .ok (.getfield 77, 3)) (kk : wo_W p l e R s m args below meth c A D cells slots nL Q (pc + 3) ls (.int (nI no) :: st) (wB cI cZ a co gr dy kd wo me ti td la go kp od no ax lv rh re rs ph pr o1 o2 ++ Y)) : wo_W p l e R s m args below meth c A D cells slots nL Q pc ls (.ref (a 0) :: st) (wB cI cZ a co gr dy kd wo me ti td la go kp od no ax lv rh re rs ph pr o1 o2 ++ Y) := x_get C ku_X3 12 kf_X3_77 0 rfl rfl (by decide) rfl dg kk
theorem pB0_ordered (C : wo_C p s m args meth c A D cc nL RX3 ((cI, .int) :: (cZ, .boolean) :: tys) ret) {v : Int32} (n : Nat) (hv : v = nI n) (dg : decode cc pc = .ok (.putfield 77, 3)) (kk : wo_W p l e R s m args below meth c A D cells slots nL Q (pc + 3) ls st (wB cI cZ a co gr dy kd wo me ti td la go kp od n ax lv rh re rs ph pr o1 o2 ++ Y)) : wo_W p l e R s m args below meth c A D cells slots nL Q pc ls (.int v :: .ref (a 0) :: st) (wB cI cZ a co gr dy kd wo me ti td la go kp od no ax lv rh re rs ph pr o1 o2 ++ Y) := by
  subst hv
  exact x_put C ku_X3 tyX3 tyX3_ok nmX3 12 kf_X3_77 0 rfl rfl (by decide) rfl (ty := .int) (by decide +kernel) rfl rfl (Nat.le_of_ble_eq_true rfl) rfl dg kk
theorem gB0_at (C : wo_C p s m args meth c A D cc nL RX3 ((cI, .int) :: (cZ, .boolean) :: tys) ret) (dg : decode cc pc = .ok (.getfield 83, 3)) (kk : wo_W p l e R s m args below meth c A D cells slots nL Q (pc + 3) ls (.int ax :: st) (wB cI cZ a co gr dy kd wo me ti td la go kp od no ax lv rh re rs ph pr o1 o2 ++ Y)) : wo_W p l e R s m args below meth c A D cells slots nL Q pc ls (.ref (a 0) :: st) (wB cI cZ a co gr dy kd wo me ti td la go kp od no ax lv rh re rs ph pr o1 o2 ++ Y) := x_get C ku_X3 13 kf_X3_83 0 rfl rfl (by decide) rfl dg kk
theorem pB0_at (C : wo_C p s m args meth c A D cc nL RX3 ((cI, .int) :: (cZ, .boolean) :: tys) ret) (n : Int32) (dg : decode cc pc = .ok (.putfield 83, 3)) (kk : wo_W p l e R s m args below meth c A D cells slots nL Q (pc + 3) ls st (wB cI cZ a co gr dy kd wo me ti td la go kp od no n lv rh re rs ph pr o1 o2 ++ Y)) : wo_W p l e R s m args below meth c A D cells slots nL Q pc ls (.int n :: .ref (a 0) :: st) (wB cI cZ a co gr dy kd wo me ti td la go kp od no ax lv rh re rs ph pr o1 o2 ++ Y) := x_put C ku_X3 tyX3 tyX3_ok nmX3 13 kf_X3_83 0 rfl rfl (by decide) rfl (ty := .int) (by decide +kernel) rfl rfl (Nat.le_of_ble_eq_true rfl) rfl dg kk
theorem gB0_level (C : wo_C p s m args meth c A D cc nL RX3 ((cI, .int) :: (cZ, .boolean) :: tys) ret) (dg : decode cc pc = .ok (.getfield 38, 3)) (kk : wo_W p l e R s m args below meth c A D cells slots nL Q (pc + 3) ls (.int (bz lv) :: st) (wB cI cZ a co gr dy kd wo me ti td la go kp od no ax lv rh re rs ph pr o1 o2 ++ Y)) : wo_W p l e R s m args below meth c A D cells slots nL Q pc ls (.ref (a 0) :: st) (wB cI cZ a co gr dy kd wo me ti td la go kp od no ax lv rh re rs ph pr o1 o2 ++ Y) := x_get C ku_X3 14 kf_X3_38 0 rfl rfl (by decide) rfl dg kk
theorem pB0_level (C : wo_C p s m args meth c A D cc nL RX3 ((cI, .int) :: (cZ, .boolean) :: tys) ret) {v : Int32} (n : Bool) (hv : v = bz n) (dg : decode cc pc = .ok (.putfield 38, 3)) (kk : wo_W p l e R s m args below meth c A D cells slots nL Q (pc + 3) ls st (wB cI cZ a co gr dy kd wo me ti td la go kp od no ax n rh re rs ph pr o1 o2 ++ Y)) : wo_W p l e R s m args below meth c A D cells slots nL Q pc ls (.int v :: .ref (a 0) :: st) (wB cI cZ a co gr dy kd wo me ti td la go kp od no ax lv rh re rs ph pr o1 o2 ++ Y) := by
  subst hv
  exact x_put C ku_X3 tyX3 tyX3_ok nmX3 14 kf_X3_38 0 rfl rfl (by decide) rfl (ty := .boolean) (by decide +kernel) (bz_nar n) (by cases n <;> rfl) (Nat.le_of_ble_eq_true rfl) rfl dg kk
theorem gB0_hasRecord (C : wo_C p s m args meth c A D cc nL RX3 ((cI, .int) :: (cZ, .boolean) :: tys) ret) (dg : decode cc pc = .ok (.getfield 102, 3)) (kk : wo_W p l e R s m args below meth c A D cells slots nL Q (pc + 3) ls (.int (bz rh) :: st) (wB cI cZ a co gr dy kd wo me ti td la go kp od no ax lv rh re rs ph pr o1 o2 ++ Y)) : wo_W p l e R s m args below meth c A D cells slots nL Q pc ls (.ref (a 0) :: st) (wB cI cZ a co gr dy kd wo me ti td la go kp od no ax lv rh re rs ph pr o1 o2 ++ Y) := x_get C ku_X3 15 kf_X3_102 0 rfl rfl (by decide) rfl dg kk
theorem pB0_hasRecord (C : wo_C p s m args meth c A D cc nL RX3 ((cI, .int) :: (cZ, .boolean) :: tys) ret) {v : Int32} (n : Bool) (hv : v = bz n) (dg : decode cc pc = .ok (.putfield 102, 3)) (kk : wo_W p l e R s m args below meth c A D cells slots nL Q (pc + 3) ls st (wB cI cZ a co gr dy kd wo me ti td la go kp od no ax lv n re rs ph pr o1 o2 ++ Y)) : wo_W p l e R s m args below meth c A D cells slots nL Q pc ls (.int v :: .ref (a 0) :: st) (wB cI cZ a co gr dy kd wo me ti td la go kp od no ax lv rh re rs ph pr o1 o2 ++ Y) := by
  subst hv
  exact x_put C ku_X3 tyX3 tyX3_ok nmX3 15 kf_X3_102 0 rfl rfl (by decide) rfl (ty := .boolean) (by decide +kernel) (bz_nar n) (by cases n <;> rfl) (Nat.le_of_ble_eq_true rfl) rfl dg kk
theorem gB0_record (C : wo_C p s m args meth c A D cc nL RX3 ((cI, .int) :: (cZ, .boolean) :: tys) ret) (dg : decode cc pc = .ok (.getfield 105, 3)) (kk : wo_W p l e R s m args below meth c A D cells slots nL Q (pc + 3) ls (.int re :: st) (wB cI cZ a co gr dy kd wo me ti td la go kp od no ax lv rh re rs ph pr o1 o2 ++ Y)) : wo_W p l e R s m args below meth c A D cells slots nL Q pc ls (.ref (a 0) :: st) (wB cI cZ a co gr dy kd wo me ti td la go kp od no ax lv rh re rs ph pr o1 o2 ++ Y) := x_get C ku_X3 16 kf_X3_105 0 rfl rfl (by decide) rfl dg kk
theorem pB0_record (C : wo_C p s m args meth c A D cc nL RX3 ((cI, .int) :: (cZ, .boolean) :: tys) ret) (n : Int32) (dg : decode cc pc = .ok (.putfield 105, 3)) (kk : wo_W p l e R s m args below meth c A D cells slots nL Q (pc + 3) ls st (wB cI cZ a co gr dy kd wo me ti td la go kp od no ax lv rh n rs ph pr o1 o2 ++ Y)) : wo_W p l e R s m args below meth c A D cells slots nL Q pc ls (.int n :: .ref (a 0) :: st) (wB cI cZ a co gr dy kd wo me ti td la go kp od no ax lv rh re rs ph pr o1 o2 ++ Y) := x_put C ku_X3 tyX3 tyX3_ok nmX3 16 kf_X3_105 0 rfl rfl (by decide) rfl (ty := .int) (by decide +kernel) rfl rfl (Nat.le_of_ble_eq_true rfl) rfl dg kk
theorem gB0_records (C : wo_C p s m args meth c A D cc nL RX3 ((cI, .int) :: (cZ, .boolean) :: tys) ret) (dg : decode cc pc = .ok (.getfield 108, 3)) (kk : wo_W p l e R s m args below meth c A D cells slots nL Q (pc + 3) ls (.int rs :: st) (wB cI cZ a co gr dy kd wo me ti td la go kp od no ax lv rh re rs ph pr o1 o2 ++ Y)) : wo_W p l e R s m args below meth c A D cells slots nL Q pc ls (.ref (a 0) :: st) (wB cI cZ a co gr dy kd wo me ti td la go kp od no ax lv rh re rs ph pr o1 o2 ++ Y) := x_get C ku_X3 17 kf_X3_108 0 rfl rfl (by decide) rfl dg kk
theorem pB0_records (C : wo_C p s m args meth c A D cc nL RX3 ((cI, .int) :: (cZ, .boolean) :: tys) ret) (n : Int32) (dg : decode cc pc = .ok (.putfield 108, 3)) (kk : wo_W p l e R s m args below meth c A D cells slots nL Q (pc + 3) ls st (wB cI cZ a co gr dy kd wo me ti td la go kp od no ax lv rh re n ph pr o1 o2 ++ Y)) : wo_W p l e R s m args below meth c A D cells slots nL Q pc ls (.int n :: .ref (a 0) :: st) (wB cI cZ a co gr dy kd wo me ti td la go kp od no ax lv rh re rs ph pr o1 o2 ++ Y) := x_put C ku_X3 tyX3 tyX3_ok nmX3 17 kf_X3_108 0 rfl rfl (by decide) rfl (ty := .int) (by decide +kernel) rfl rfl (Nat.le_of_ble_eq_true rfl) rfl dg kk
theorem gB0_hasPrize (C : wo_C p s m args meth c A D cc nL RX3 ((cI, .int) :: (cZ, .boolean) :: tys) ret) (dg : decode cc pc = .ok (.getfield 115, 3)) (kk : wo_W p l e R s m args below meth c A D cells slots nL Q (pc + 3) ls (.int (bz ph) :: st) (wB cI cZ a co gr dy kd wo me ti td la go kp od no ax lv rh re rs ph pr o1 o2 ++ Y)) : wo_W p l e R s m args below meth c A D cells slots nL Q pc ls (.ref (a 0) :: st) (wB cI cZ a co gr dy kd wo me ti td la go kp od no ax lv rh re rs ph pr o1 o2 ++ Y) := x_get C ku_X3 18 kf_X3_115 0 rfl rfl (by decide) rfl dg kk
theorem pB0_hasPrize (C : wo_C p s m args meth c A D cc nL RX3 ((cI, .int) :: (cZ, .boolean) :: tys) ret) {v : Int32} (n : Bool) (hv : v = bz n) (dg : decode cc pc = .ok (.putfield 115, 3)) (kk : wo_W p l e R s m args below meth c A D cells slots nL Q (pc + 3) ls st (wB cI cZ a co gr dy kd wo me ti td la go kp od no ax lv rh re rs n pr o1 o2 ++ Y)) : wo_W p l e R s m args below meth c A D cells slots nL Q pc ls (.int v :: .ref (a 0) :: st) (wB cI cZ a co gr dy kd wo me ti td la go kp od no ax lv rh re rs ph pr o1 o2 ++ Y) := by
  subst hv
  exact x_put C ku_X3 tyX3 tyX3_ok nmX3 18 kf_X3_115 0 rfl rfl (by decide) rfl (ty := .boolean) (by decide +kernel) (bz_nar n) (by cases n <;> rfl) (Nat.le_of_ble_eq_true rfl) rfl dg kk
theorem gB0_prize (C : wo_C p s m args meth c A D cc nL RX3 ((cI, .int) :: (cZ, .boolean) :: tys) ret) (dg : decode cc pc = .ok (.getfield 118, 3)) (kk : wo_W p l e R s m args below meth c A D cells slots nL Q (pc + 3) ls (.int pr :: st) (wB cI cZ a co gr dy kd wo me ti td la go kp od no ax lv rh re rs ph pr o1 o2 ++ Y)) : wo_W p l e R s m args below meth c A D cells slots nL Q pc ls (.ref (a 0) :: st) (wB cI cZ a co gr dy kd wo me ti td la go kp od no ax lv rh re rs ph pr o1 o2 ++ Y) := x_get C ku_X3 19 kf_X3_118 0 rfl rfl (by decide) rfl dg kk
theorem pB0_prize (C : wo_C p s m args meth c A D cc nL RX3 ((cI, .int) :: (cZ, .boolean) :: tys) ret) (n : Int32) (dg : decode cc pc = .ok (.putfield 118, 3)) (kk : wo_W p l e R s m args below meth c A D cells slots nL Q (pc + 3) ls st (wB cI cZ a co gr dy kd wo me ti td la go kp od no ax lv rh re rs ph n o1 o2 ++ Y)) : wo_W p l e R s m args below meth c A D cells slots nL Q pc ls (.int n :: .ref (a 0) :: st) (wB cI cZ a co gr dy kd wo me ti td la go kp od no ax lv rh re rs ph pr o1 o2 ++ Y) := x_put C ku_X3 tyX3 tyX3_ok nmX3 19 kf_X3_118 0 rfl rfl (by decide) rfl (ty := .int) (by decide +kernel) rfl rfl (Nat.le_of_ble_eq_true rfl) rfl dg kk
theorem gB0_one (C : wo_C p s m args meth c A D cc nL RX3 ((cI, .int) :: (cZ, .boolean) :: tys) ret) (dg : decode cc pc = .ok (.getfield 42, 3)) (kk : wo_W p l e R s m args below meth c A D cells slots nL Q (pc + 3) ls (.ref (a 10) :: st) (wB cI cZ a co gr dy kd wo me ti td la go kp od no ax lv rh re rs ph pr o1 o2 ++ Y)) : wo_W p l e R s m args below meth c A D cells slots nL Q pc ls (.ref (a 0) :: st) (wB cI cZ a co gr dy kd wo me ti td la go kp od no ax lv rh re rs ph pr o1 o2 ++ Y) := x_get C ku_X3 20 kf_X3_42 0 rfl rfl (by decide) rfl dg kk
theorem gB0_two (C : wo_C p s m args meth c A D cc nL RX3 ((cI, .int) :: (cZ, .boolean) :: tys) ret) (dg : decode cc pc = .ok (.getfield 45, 3)) (kk : wo_W p l e R s m args below meth c A D cells slots nL Q (pc + 3) ls (.ref (a 11) :: st) (wB cI cZ a co gr dy kd wo me ti td la go kp od no ax lv rh re rs ph pr o1 o2 ++ Y)) : wo_W p l e R s m args below meth c A D cells slots nL Q pc ls (.ref (a 0) :: st) (wB cI cZ a co gr dy kd wo me ti td la go kp od no ax lv rh re rs ph pr o1 o2 ++ Y) := x_get C ku_X3 21 kf_X3_45 0 rfl rfl (by decide) rfl dg kk
theorem lB_kd {own : String} (C : wo_C p s m args meth c A D cc nL own ((cI, .int) :: (cZ, .boolean) :: tys) ret) {x : Int32} (i : Nat) (hx : x = nI i) (hi : i < 84) (dg : decode cc pc = .ok (.iaload, 1)) (kk : wo_W p l e R s m args below meth c A D cells slots nL Q (pc + 1) ls (.int (kd i) :: st) (wB cI cZ a co gr dy kd wo me ti td la go kp od no ax lv rh re rs ph pr o1 o2 ++ Y)) : wo_W p l e R s m args below meth c A D cells slots nL Q pc ls (.int x :: .ref (a 1) :: st) (wB cI cZ a co gr dy kd wo me ti td la go kp od no ax lv rh re rs ph pr o1 o2 ++ Y) := x_iald C 1 0 i rfl rfl hx hi (by decide) dg kk
theorem sB_kd {own : String} (C : wo_C p s m args meth c A D cc nL own ((cI, .int) :: (cZ, .boolean) :: tys) ret) {x : Int32} (n : Int32) (i : Nat) (hx : x = nI i) (hi : i < 84) (dg : decode cc pc = .ok (.iastore, 1)) (kk : wo_W p l e R s m args below meth c A D cells slots nL Q (pc + 1) ls st (wB cI cZ a co gr dy (va_up kd i n) wo me ti td la go kp od no ax lv rh re rs ph pr o1 o2 ++ Y)) : wo_W p l e R s m args below meth c A D cells slots nL Q pc ls (.int n :: .int x :: .ref (a 1) :: st) (wB cI cZ a co gr dy kd wo me ti td la go kp od no ax lv rh re rs ph pr o1 o2 ++ Y) := by
  refine x_iast C 1 0 i rfl rfl hx hi (by decide) ?_ dg kk
  rw [wo_upi kd i n]
  rfl
theorem lB_wo {own : String} (C : wo_C p s m args meth c A D cc nL own ((cI, .int) :: (cZ, .boolean) :: tys) ret) {x : Int32} (i : Nat) (hx : x = nI i) (hi : i < 84) (dg : decode cc pc = .ok (.iaload, 1)) (kk : wo_W p l e R s m args below meth c A D cells slots nL Q (pc + 1) ls (.int (wo i) :: st) (wB cI cZ a co gr dy kd wo me ti td la go kp od no ax lv rh re rs ph pr o1 o2 ++ Y)) : wo_W p l e R s m args below meth c A D cells slots nL Q pc ls (.int x :: .ref (a 2) :: st) (wB cI cZ a co gr dy kd wo me ti td la go kp od no ax lv rh re rs ph pr o1 o2 ++ Y) := x_iald C 2 0 i rfl rfl hx hi (by decide) dg kk
theorem sB_wo {own : String} (C : wo_C p s m args meth c A D cc nL own ((cI, .int) :: (cZ, .boolean) :: tys) ret) {x : Int32} (n : Int32) (i : Nat) (hx : x = nI i) (hi : i < 84) (dg : decode cc pc = .ok (.iastore, 1)) (kk : wo_W p l e R s m args below meth c A D cells slots nL Q (pc + 1) ls st (wB cI cZ a co gr dy kd (va_up wo i n) me ti td la go kp od no ax lv rh re rs ph pr o1 o2 ++ Y)) : wo_W p l e R s m args below meth c A D cells slots nL Q pc ls (.int n :: .int x :: .ref (a 2) :: st) (wB cI cZ a co gr dy kd wo me ti td la go kp od no ax lv rh re rs ph pr o1 o2 ++ Y) := by
  refine x_iast C 2 0 i rfl rfl hx hi (by decide) ?_ dg kk
  rw [wo_upi wo i n]
  rfl
theorem lB_me {own : String} (C : wo_C p s m args meth c A D cc nL own ((cI, .int) :: (cZ, .boolean) :: tys) ret) {x : Int32} (i : Nat) (hx : x = nI i) (hi : i < 84) (dg : decode cc pc = .ok (.baload, 1)) (kk : wo_W p l e R s m args below meth c A D cells slots nL Q (pc + 1) ls (.int (bz (me i)) :: st) (wB cI cZ a co gr dy kd wo me ti td la go kp od no ax lv rh re rs ph pr o1 o2 ++ Y)) : wo_W p l e R s m args below meth c A D cells slots nL Q pc ls (.int x :: .ref (a 3) :: st) (wB cI cZ a co gr dy kd wo me ti td la go kp od no ax lv rh re rs ph pr o1 o2 ++ Y) := x_zald C 3 1 i rfl rfl hx hi (by decide) dg kk
theorem sB_me {own : String} (C : wo_C p s m args meth c A D cc nL own ((cI, .int) :: (cZ, .boolean) :: tys) ret) {x : Int32} {v : Int32} (n : Bool) (hv : v = bz n) (i : Nat) (hx : x = nI i) (hi : i < 84) (dg : decode cc pc = .ok (.bastore, 1)) (kk : wo_W p l e R s m args below meth c A D cells slots nL Q (pc + 1) ls st (wB cI cZ a co gr dy kd wo (va_up me i n) ti td la go kp od no ax lv rh re rs ph pr o1 o2 ++ Y)) : wo_W p l e R s m args below meth c A D cells slots nL Q pc ls (.int v :: .int x :: .ref (a 3) :: st) (wB cI cZ a co gr dy kd wo me ti td la go kp od no ax lv rh re rs ph pr o1 o2 ++ Y) := by
  subst hv
  refine x_zast C 3 1 i rfl rfl hx hi (by decide) ?_ dg kk
  rw [wo_upb me i n]
  rfl
theorem lB_ti {own : String} (C : wo_C p s m args meth c A D cc nL own ((cI, .int) :: (cZ, .boolean) :: tys) ret) {x : Int32} (i : Nat) (hx : x = nI i) (hi : i < 84) (dg : decode cc pc = .ok (.iaload, 1)) (kk : wo_W p l e R s m args below meth c A D cells slots nL Q (pc + 1) ls (.int (ti i) :: st) (wB cI cZ a co gr dy kd wo me ti td la go kp od no ax lv rh re rs ph pr o1 o2 ++ Y)) : wo_W p l e R s m args below meth c A D cells slots nL Q pc ls (.int x :: .ref (a 4) :: st) (wB cI cZ a co gr dy kd wo me ti td la go kp od no ax lv rh re rs ph pr o1 o2 ++ Y) := x_iald C 4 0 i rfl rfl hx hi (by decide) dg kk
theorem sB_ti {own : String} (C : wo_C p s m args meth c A D cc nL own ((cI, .int) :: (cZ, .boolean) :: tys) ret) {x : Int32} (n : Int32) (i : Nat) (hx : x = nI i) (hi : i < 84) (dg : decode cc pc = .ok (.iastore, 1)) (kk : wo_W p l e R s m args below meth c A D cells slots nL Q (pc + 1) ls st (wB cI cZ a co gr dy kd wo me (va_up ti i n) td la go kp od no ax lv rh re rs ph pr o1 o2 ++ Y)) : wo_W p l e R s m args below meth c A D cells slots nL Q pc ls (.int n :: .int x :: .ref (a 4) :: st) (wB cI cZ a co gr dy kd wo me ti td la go kp od no ax lv rh re rs ph pr o1 o2 ++ Y) := by
  refine x_iast C 4 0 i rfl rfl hx hi (by decide) ?_ dg kk
  rw [wo_upi ti i n]
  rfl
theorem lB_td {own : String} (C : wo_C p s m args meth c A D cc nL own ((cI, .int) :: (cZ, .boolean) :: tys) ret) {x : Int32} (i : Nat) (hx : x = nI i) (hi : i < 84) (dg : decode cc pc = .ok (.baload, 1)) (kk : wo_W p l e R s m args below meth c A D cells slots nL Q (pc + 1) ls (.int (bz (td i)) :: st) (wB cI cZ a co gr dy kd wo me ti td la go kp od no ax lv rh re rs ph pr o1 o2 ++ Y)) : wo_W p l e R s m args below meth c A D cells slots nL Q pc ls (.int x :: .ref (a 5) :: st) (wB cI cZ a co gr dy kd wo me ti td la go kp od no ax lv rh re rs ph pr o1 o2 ++ Y) := x_zald C 5 1 i rfl rfl hx hi (by decide) dg kk
theorem sB_td {own : String} (C : wo_C p s m args meth c A D cc nL own ((cI, .int) :: (cZ, .boolean) :: tys) ret) {x : Int32} {v : Int32} (n : Bool) (hv : v = bz n) (i : Nat) (hx : x = nI i) (hi : i < 84) (dg : decode cc pc = .ok (.bastore, 1)) (kk : wo_W p l e R s m args below meth c A D cells slots nL Q (pc + 1) ls st (wB cI cZ a co gr dy kd wo me ti (va_up td i n) la go kp od no ax lv rh re rs ph pr o1 o2 ++ Y)) : wo_W p l e R s m args below meth c A D cells slots nL Q pc ls (.int v :: .int x :: .ref (a 5) :: st) (wB cI cZ a co gr dy kd wo me ti td la go kp od no ax lv rh re rs ph pr o1 o2 ++ Y) := by
  subst hv
  refine x_zast C 5 1 i rfl rfl hx hi (by decide) ?_ dg kk
  rw [wo_upb td i n]
  rfl
theorem lB_la {own : String} (C : wo_C p s m args meth c A D cc nL own ((cI, .int) :: (cZ, .boolean) :: tys) ret) {x : Int32} (i : Nat) (hx : x = nI i) (hi : i < 12) (dg : decode cc pc = .ok (.iaload, 1)) (kk : wo_W p l e R s m args below meth c A D cells slots nL Q (pc + 1) ls (.int (nI (la i)) :: st) (wB cI cZ a co gr dy kd wo me ti td la go kp od no ax lv rh re rs ph pr o1 o2 ++ Y)) : wo_W p l e R s m args below meth c A D cells slots nL Q pc ls (.int x :: .ref (a 6) :: st) (wB cI cZ a co gr dy kd wo me ti td la go kp od no ax lv rh re rs ph pr o1 o2 ++ Y) := x_iald C 6 0 i rfl rfl hx hi (by decide) dg kk
theorem sB_la {own : String} (C : wo_C p s m args meth c A D cc nL own ((cI, .int) :: (cZ, .boolean) :: tys) ret) {x : Int32} {v : Int32} (n : Nat) (hv : v = nI n) (i : Nat) (hx : x = nI i) (hi : i < 12) (dg : decode cc pc = .ok (.iastore, 1)) (kk : wo_W p l e R s m args below meth c A D cells slots nL Q (pc + 1) ls st (wB cI cZ a co gr dy kd wo me ti td (va_up la i n) go kp od no ax lv rh re rs ph pr o1 o2 ++ Y)) : wo_W p l e R s m args below meth c A D cells slots nL Q pc ls (.int v :: .int x :: .ref (a 6) :: st) (wB cI cZ a co gr dy kd wo me ti td la go kp od no ax lv rh re rs ph pr o1 o2 ++ Y) := by
  subst hv
  refine x_iast C 6 0 i rfl rfl hx hi (by decide) ?_ dg kk
  rw [wo_upn la i n]
  rfl
theorem lB_go {own : String} (C : wo_C p s m args meth c A D cc nL own ((cI, .int) :: (cZ, .boolean) :: tys) ret) {x : Int32} (i : Nat) (hx : x = nI i) (hi : i < 12) (dg : decode cc pc = .ok (.baload, 1)) (kk : wo_W p l e R s m args below meth c A D cells slots nL Q (pc + 1) ls (.int (bz (go i)) :: st) (wB cI cZ a co gr dy kd wo me ti td la go kp od no ax lv rh re rs ph pr o1 o2 ++ Y)) : wo_W p l e R s m args below meth c A D cells slots nL Q pc ls (.int x :: .ref (a 7) :: st) (wB cI cZ a co gr dy kd wo me ti td la go kp od no ax lv rh re rs ph pr o1 o2 ++ Y) := x_zald C 7 1 i rfl rfl hx hi (by decide) dg kk
theorem sB_go {own : String} (C : wo_C p s m args meth c A D cc nL own ((cI, .int) :: (cZ, .boolean) :: tys) ret) {x : Int32} {v : Int32} (n : Bool) (hv : v = bz n) (i : Nat) (hx : x = nI i) (hi : i < 12) (dg : decode cc pc = .ok (.bastore, 1)) (kk : wo_W p l e R s m args below meth c A D cells slots nL Q (pc + 1) ls st (wB cI cZ a co gr dy kd wo me ti td la (va_up go i n) kp od no ax lv rh re rs ph pr o1 o2 ++ Y)) : wo_W p l e R s m args below meth c A D cells slots nL Q pc ls (.int v :: .int x :: .ref (a 7) :: st) (wB cI cZ a co gr dy kd wo me ti td la go kp od no ax lv rh re rs ph pr o1 o2 ++ Y) := by
  subst hv
  refine x_zast C 7 1 i rfl rfl hx hi (by decide) ?_ dg kk
  rw [wo_upb go i n]
  rfl
theorem lB_kp {own : String} (C : wo_C p s m args meth c A D cc nL own ((cI, .int) :: (cZ, .boolean) :: tys) ret) {x : Int32} (i : Nat) (hx : x = nI i) (hi : i < 12) (dg : decode cc pc = .ok (.baload, 1)) (kk : wo_W p l e R s m args below meth c A D cells slots nL Q (pc + 1) ls (.int (bz (kp i)) :: st) (wB cI cZ a co gr dy kd wo me ti td la go kp od no ax lv rh re rs ph pr o1 o2 ++ Y)) : wo_W p l e R s m args below meth c A D cells slots nL Q pc ls (.int x :: .ref (a 8) :: st) (wB cI cZ a co gr dy kd wo me ti td la go kp od no ax lv rh re rs ph pr o1 o2 ++ Y) := x_zald C 8 1 i rfl rfl hx hi (by decide) dg kk
theorem sB_kp {own : String} (C : wo_C p s m args meth c A D cc nL own ((cI, .int) :: (cZ, .boolean) :: tys) ret) {x : Int32} {v : Int32} (n : Bool) (hv : v = bz n) (i : Nat) (hx : x = nI i) (hi : i < 12) (dg : decode cc pc = .ok (.bastore, 1)) (kk : wo_W p l e R s m args below meth c A D cells slots nL Q (pc + 1) ls st (wB cI cZ a co gr dy kd wo me ti td la go (va_up kp i n) od no ax lv rh re rs ph pr o1 o2 ++ Y)) : wo_W p l e R s m args below meth c A D cells slots nL Q pc ls (.int v :: .int x :: .ref (a 8) :: st) (wB cI cZ a co gr dy kd wo me ti td la go kp od no ax lv rh re rs ph pr o1 o2 ++ Y) := by
  subst hv
  refine x_zast C 8 1 i rfl rfl hx hi (by decide) ?_ dg kk
  rw [wo_upb kp i n]
  rfl
theorem lB_od {own : String} (C : wo_C p s m args meth c A D cc nL own ((cI, .int) :: (cZ, .boolean) :: tys) ret) {x : Int32} (i : Nat) (hx : x = nI i) (hi : i < 12) (dg : decode cc pc = .ok (.iaload, 1)) (kk : wo_W p l e R s m args below meth c A D cells slots nL Q (pc + 1) ls (.int (nI (od i)) :: st) (wB cI cZ a co gr dy kd wo me ti td la go kp od no ax lv rh re rs ph pr o1 o2 ++ Y)) : wo_W p l e R s m args below meth c A D cells slots nL Q pc ls (.int x :: .ref (a 9) :: st) (wB cI cZ a co gr dy kd wo me ti td la go kp od no ax lv rh re rs ph pr o1 o2 ++ Y) := x_iald C 9 0 i rfl rfl hx hi (by decide) dg kk
theorem sB_od {own : String} (C : wo_C p s m args meth c A D cc nL own ((cI, .int) :: (cZ, .boolean) :: tys) ret) {x : Int32} {v : Int32} (n : Nat) (hv : v = nI n) (i : Nat) (hx : x = nI i) (hi : i < 12) (dg : decode cc pc = .ok (.iastore, 1)) (kk : wo_W p l e R s m args below meth c A D cells slots nL Q (pc + 1) ls st (wB cI cZ a co gr dy kd wo me ti td la go kp (va_up od i n) no ax lv rh re rs ph pr o1 o2 ++ Y)) : wo_W p l e R s m args below meth c A D cells slots nL Q pc ls (.int v :: .int x :: .ref (a 9) :: st) (wB cI cZ a co gr dy kd wo me ti td la go kp od no ax lv rh re rs ph pr o1 o2 ++ Y) := by
  subst hv
  refine x_iast C 9 0 i rfl rfl hx hi (by decide) ?_ dg kk
  rw [wo_upn od i n]
  rfl
theorem lB_o1 {own : String} (C : wo_C p s m args meth c A D cc nL own ((cI, .int) :: (cZ, .boolean) :: tys) ret) {x : Int32} (i : Nat) (hx : x = nI i) (hi : i < 6) (dg : decode cc pc = .ok (.iaload, 1)) (kk : wo_W p l e R s m args below meth c A D cells slots nL Q (pc + 1) ls (.int (o1 i) :: st) (wB cI cZ a co gr dy kd wo me ti td la go kp od no ax lv rh re rs ph pr o1 o2 ++ Y)) : wo_W p l e R s m args below meth c A D cells slots nL Q pc ls (.int x :: .ref (a 10) :: st) (wB cI cZ a co gr dy kd wo me ti td la go kp od no ax lv rh re rs ph pr o1 o2 ++ Y) := x_iald C 10 0 i rfl rfl hx hi (by decide) dg kk
theorem sB_o1 {own : String} (C : wo_C p s m args meth c A D cc nL own ((cI, .int) :: (cZ, .boolean) :: tys) ret) {x : Int32} (n : Int32) (i : Nat) (hx : x = nI i) (hi : i < 6) (dg : decode cc pc = .ok (.iastore, 1)) (kk : wo_W p l e R s m args below meth c A D cells slots nL Q (pc + 1) ls st (wB cI cZ a co gr dy kd wo me ti td la go kp od no ax lv rh re rs ph pr (va_up o1 i n) o2 ++ Y)) : wo_W p l e R s m args below meth c A D cells slots nL Q pc ls (.int n :: .int x :: .ref (a 10) :: st) (wB cI cZ a co gr dy kd wo me ti td la go kp od no ax lv rh re rs ph pr o1 o2 ++ Y) := by
  refine x_iast C 10 0 i rfl rfl hx hi (by decide) ?_ dg kk
  rw [wo_upi o1 i n]
  rfl
theorem lB_o2 {own : String} (C : wo_C p s m args meth c A D cc nL own ((cI, .int) :: (cZ, .boolean) :: tys) ret) {x : Int32} (i : Nat) (hx : x = nI i) (hi : i < 6) (dg : decode cc pc = .ok (.iaload, 1)) (kk : wo_W p l e R s m args below meth c A D cells slots nL Q (pc + 1) ls (.int (o2 i) :: st) (wB cI cZ a co gr dy kd wo me ti td la go kp od no ax lv rh re rs ph pr o1 o2 ++ Y)) : wo_W p l e R s m args below meth c A D cells slots nL Q pc ls (.int x :: .ref (a 11) :: st) (wB cI cZ a co gr dy kd wo me ti td la go kp od no ax lv rh re rs ph pr o1 o2 ++ Y) := x_iald C 11 0 i rfl rfl hx hi (by decide) dg kk
theorem sB_o2 {own : String} (C : wo_C p s m args meth c A D cc nL own ((cI, .int) :: (cZ, .boolean) :: tys) ret) {x : Int32} (n : Int32) (i : Nat) (hx : x = nI i) (hi : i < 6) (dg : decode cc pc = .ok (.iastore, 1)) (kk : wo_W p l e R s m args below meth c A D cells slots nL Q (pc + 1) ls st (wB cI cZ a co gr dy kd wo me ti td la go kp od no ax lv rh re rs ph pr o1 (va_up o2 i n) ++ Y)) : wo_W p l e R s m args below meth c A D cells slots nL Q pc ls (.int n :: .int x :: .ref (a 11) :: st) (wB cI cZ a co gr dy kd wo me ti td la go kp od no ax lv rh re rs ph pr o1 o2 ++ Y) := by
  refine x_iast C 11 0 i rfl rfl hx hi (by decide) ?_ dg kk
  rw [wo_upi o2 i n]
  rfl
end WOB
end
section
/-! ===== contracts that leave the two scratch rows open ===== -/
abbrev wo_sw : Type := (Nat → Int32) → (Nat → Int32) → va_W
def wo_QS (D : va_G) (tys : List (ClassId × FieldType)) (r : Option Value) (ws : wo_sw) (A : Nat → Prop) : Array Value → State → Outcome → State → Prop := fun _ st oc t => (oc = .returned r ∧ ∃ o1 o2, va_P D vwCl (ws o1 o2) t.heap ∧ va_K D vwCl tys t ∧ va_D A (ws o1 o2)) ∧ va_F A st t
def wo_S (l : Launch) (y : MethodName) (cd : ByteArray) (n : Nat) (ret : Option FieldType) (d : Nat) (D : va_G) (tys : List (ClassId × FieldType)) (As : List Value) (ws : va_W) (r : Option Value) (ws' : wo_sw) : Prop :=
  ∀ sz : Nat, Met l y (.code y cd n ret :: wo_BG) (wo_rm d) (va_Pc As (wo_pre D tys ws sz)) (wo_QS D tys r ws' (va_A ws sz)) 0 0 (va_A ws sz)
section WOS
variable {p : Program} {l : Launch} {e : Env} {R : Room} {s : State} {m : MethodId} {args : Array Value} {below : List Frame} {meth : Method} {c : Code} {A : Nat → Prop} {D : va_G} {cells slots nL : Nat} {Q : State → Prop} {cc : ByteArray} {own : String} {tys : List (ClassId × FieldType)} {ret : Option FieldType}
variable {pc : Nat} {ls : List (Option Value)} {st : List Value} {ws : va_W}
theorem wo_backS {lv : Array Slot} {st0 rest : List Value} {a : Array Value} {H : Heap} {locs : List Loc} {A1 : Nat → Prop} {r : Option Value} {ws' : wo_sw}
    (hr : va_Run p l e R s m args below meth c H locs cells slots 0 0 (F0 m pc lv st0) rest (wo_QS D tys r ws' A1 a) A1) (hS : va_S A s.heap H locs) (hA : ∀ q, A1 q → A q) (hl : lv_has lv nL (wo_lp 0 ls))
    (kk : ∀ o1 o2, wo_W p l e R s m args below meth c A D cells slots nL Q (pc + 3) ls (r.toList ++ rest) (ws' o1 o2)) : W p l e R s m args below meth c H locs cells slots Q (F0 m pc lv st0) := by
  intro T hT X
  obtain ⟨v, st₀, t, T', L, h0, X', hL, e1, e2, ⟨⟨hv, o1, o2, hp, -, hd⟩, hz, hk⟩, st⟩ := hr T hT X
  cases hv
  rw [h0] at hz hk
  obtain ⟨t2, a1, b1⟩ := kk o1 o2 T'.heap (locs ++ L) (by rw [e1]; exact hp) (hd.weaken (fun _ q _ h => hA q.1 h))
    ⟨Nat.le_trans hS.1 (by rw [e1]; exact hz), fun q h1 h2 => by rw [e1, hk q (Nat.lt_of_lt_of_le h1 hS.1) (fun z => h2 (hA q z))]; exact hS.2.1 q h1 h2, fun q hq => by
      rcases List.mem_append.mp hq with h | h
      · exact hS.2.2 q h
      · exact hA _ (hL q h)⟩ lv hl T' rfl X'
  exact ⟨t2, st t2 a1, b1⟩
theorem x_callVSi {idx maxL n d ci : Nat} {y : MethodName} {C0 : String} {T0 : u_T} {N0 : Nat} {fs : List Value} {bytes : ByteArray} {ret' : Option FieldType} {b : Nat} {As rest : List Value} {v : Value} {ws' : wo_sw} (C : wo_C p s m args meth c A D cc nL own tys ret) (G : wo_GV own idx C0 y bytes maxL ret' n) (hM : wo_S l y bytes maxL ret' d D tys (.ref b :: As) ws (some v) ws')
    (q : Nat) (hq : ws[q]? = some (b, .inr (ci, fs))) (hci : vwCl[ci]? = some (C0, T0, N0)) (hst : st = As.reverse ++ .ref b :: rest) (hn : As.length = n) (hc : (rest.map fun v => v.category).sum ≤ 8) (hR : d + 1 ≤ R.frames ∧ 8 + (maxL + 11) + 36 * d ≤ R.locals) (hf : cells ≤ R.cells ∧ slots ≤ R.slots) (dg : decode cc pc = .ok (.invokevirtual idx, 3))
    (kk : ∀ o1 o2, wo_W p l e R s m args below meth c A D cells slots nL Q (pc + 3) ls (v :: rest) (ws' o1 o2)) : wo_W p l e R s m args below meth c A D cells slots nL Q pc ls st ws := by
  intro H locs hP hD hS lv hl
  have cb := wo_callB (R := R) C G.1 hR
  obtain ⟨hx, hb, hml, hown, hts, hK, hA, hlk, hr⟩ := C
  exact wo_backS (va_runV (As := As) (rest := rest) (Ts := wo_BG) ⟨hx, hb, hml, hown, hts⟩ (hM H.size) ⟨cb, hts _ G.2.1, hts _ G.2.2⟩
    ⟨wo_blind, va_recv hK hP hci hq, fun U hU hW => ⟨rfl, by rw [hU], by rw [hU]; exact hP, va_K.moved hW.alike hK, hD.weaken (fun _ _ _ _ => trivial)⟩⟩ rfl hn (hl.1) hst (lv_room hc) dg hf) hS (wo_sub hD hS hA) hl kk
theorem x_callVSv {idx maxL n d ci : Nat} {y : MethodName} {C0 : String} {T0 : u_T} {N0 : Nat} {fs : List Value} {bytes : ByteArray} {ret' : Option FieldType} {b : Nat} {As rest : List Value} {ws' : wo_sw} (C : wo_C p s m args meth c A D cc nL own tys ret) (G : wo_GV own idx C0 y bytes maxL ret' n) (hM : wo_S l y bytes maxL ret' d D tys (.ref b :: As) ws none ws')
    (q : Nat) (hq : ws[q]? = some (b, .inr (ci, fs))) (hci : vwCl[ci]? = some (C0, T0, N0)) (hst : st = As.reverse ++ .ref b :: rest) (hn : As.length = n) (hc : (rest.map fun v => v.category).sum ≤ 8) (hR : d + 1 ≤ R.frames ∧ 8 + (maxL + 11) + 36 * d ≤ R.locals) (hf : cells ≤ R.cells ∧ slots ≤ R.slots) (dg : decode cc pc = .ok (.invokevirtual idx, 3))
    (kk : ∀ o1 o2, wo_W p l e R s m args below meth c A D cells slots nL Q (pc + 3) ls rest (ws' o1 o2)) : wo_W p l e R s m args below meth c A D cells slots nL Q pc ls st ws := by
  intro H locs hP hD hS lv hl
  have cb := wo_callB (R := R) C G.1 hR
  obtain ⟨hx, hb, hml, hown, hts, hK, hA, hlk, hr⟩ := C
  exact wo_backS (va_runV (As := As) (rest := rest) (Ts := wo_BG) ⟨hx, hb, hml, hown, hts⟩ (hM H.size) ⟨cb, hts _ G.2.1, hts _ G.2.2⟩
    ⟨wo_blind, va_recv hK hP hci hq, fun U hU hW => ⟨rfl, by rw [hU], by rw [hU]; exact hP, va_K.moved hW.alike hK, hD.weaken (fun _ _ _ _ => trivial)⟩⟩ rfl hn (hl.1) hst (lv_room hc) dg hf) hS (wo_sub hD hS hA) hl kk
theorem wo_ofS {y : MethodName} {n d : Nat} {As : List Value} {r : Option Value} {ws' : wo_sw} (hy : plainName y.cls = true) (hn : (lg_sl As).length ≤ n) (hls : lv_args 0 As = wo_lp 0 ls)
    (body : ∀ (p : Program) (e : Env) (s : State) (m : MethodId) (args : Array Value) (below : List Frame) (meth : Method) (c : Code) (A : Nat → Prop), wo_C p s m args meth c A D cc n y.cls tys ret → wo_W p l e (wo_rm d) s m args below meth c A D 0 0 n (MQ below (wo_QS D tys r ws' A) args s 0 0 A) 0 ls [] ws) : wo_S l y cc n ret d D tys As ws r ws' := by
  intro sz
  refine Met.ofW (cc := cc) (maxL := n) (ret := ret) hy rfl ?_
  intro p e s m args below meth c s₁ B hml hv
  obtain ⟨rfl, hsz, hP, hK, hD0⟩ := hv
  subst hsz
  have hts := atoms_spec (ws := .code y cc n ret :: wo_BG) B.pre
  have hown : s.vm.findClass y.cls = some m.cls := findClass_of_methodNamed B.named
  have hl := lv_entry As (n := n) hn
  rw [lg_entry_eq]
  rw [hls] at hl
  exact body p e s m As.toArray below meth c (va_A ws s.heap.size) ⟨B.exec, B.bytes, hml, hown, fun w h => hts w (List.mem_cons_of_mem _ h), hK, fun q h => Or.inr h, B.notSynchronized, B.returns⟩ s.heap [] hP (hD0.self) va_S.rf _ hl
theorem x_iretS {v : Int32} {ws' : wo_sw} {r : Option Value} {o1 o2 : Nat → Int32} (C : wo_C p s m args meth c A D cc nL own tys (some .int)) (dg : decode cc pc = .ok (.ireturn, 1)) (hr : r = some (.int v)) (hw : ws = ws' o1 o2) : wo_W p l e R s m args below meth c A D 0 0 nL (MQ below (wo_QS D tys r ws' A) args s 0 0 A) pc ls [.int v] ws := by
  intro H locs hP hD hS lv hl
  obtain ⟨hx, hb, hml, hown, hts, hK, hA, hlk, hrt⟩ := C
  subst hr; subst hw
  exact W.iret (v := v) hx hb hrt (fun t ht hW => ⟨⟨rfl, o1, o2, by rw [ht]; exact hP, va_K.moved hW.alike hK, hD⟩, hS.F ht⟩) hS.2.2 dg hlk
theorem x_vretS {ws' : wo_sw} {r : Option Value} {o1 o2 : Nat → Int32} (C : wo_C p s m args meth c A D cc nL own tys none) (dg : decode cc pc = .ok (.return_, 1)) (hr : r = none) (hw : ws = ws' o1 o2) : wo_W p l e R s m args below meth c A D 0 0 nL (MQ below (wo_QS D tys r ws' A) args s 0 0 A) pc ls [] ws := by
  intro H locs hP hD hS lv hl
  obtain ⟨hx, hb, hml, hown, hts, hK, hA, hlk, hrt⟩ := C
  subst hr; subst hw
  exact W.vret hx hb hrt (fun t ht hW => ⟨⟨rfl, o1, o2, by rw [ht]; exact hP, va_K.moved hW.alike hK, hD⟩, hS.F ht⟩) hS.2.2 dg hlk
theorem x_zretS {b : Bool} {v : Int32} {ws' : wo_sw} {r : Option Value} {o1 o2 : Nat → Int32} (C : wo_C p s m args meth c A D cc nL own tys (some .boolean)) (dg : decode cc pc = .ok (.ireturn, 1)) (hv : v = bz b) (hr : r = some (.int (bz b))) (hw : ws = ws' o1 o2) : wo_W p l e R s m args below meth c A D 0 0 nL (MQ below (wo_QS D tys r ws' A) args s 0 0 A) pc ls [.int v] ws := by
  intro H locs hP hD hS lv hl
  obtain ⟨hx, hb, hml, hown, hts, hK, hA, hlk, hrt⟩ := C
  subst hr; subst hw; subst hv
  exact W.zret (v := bz b) hx hb hrt (bz_nar b) (fun t ht hW => ⟨⟨rfl, o1, o2, by rw [ht]; exact hP, va_K.moved hW.alike hK, hD⟩, hS.F ht⟩) hS.2.2 dg hlk
end WOS
end
section
/-! ===== the sheet: mirror functions and contracts ===== -/
theorem bz_f {b : Bool} (h : bz b = 0) : b = false := by cases b; rfl; exact absurd h (by decide)
theorem bz_t {b : Bool} (h : ¬ bz b = 0) : b = true := by cases b; exact absurd rfl h; rfl
theorem wo_lt {a b : Nat} (hb : b < 2147483648) (ha : a < 2147483648) (h : nI a < nI b) : a < b := (nI_ltI (by omega) (by omega)).mp h
theorem wo_le {a b : Nat} (hb : b < 2147483648) (ha : a < 2147483648) (h : nI a ≤ nI b) : a ≤ b := (nI_leI (by omega) (by omega)).mp h
theorem wo_nlt {a b : Nat} (hb : b < 2147483648) (ha : a < 2147483648) (h : ¬ nI a < nI b) : b ≤ a := Nat.le_of_not_lt fun q => h ((nI_ltI (by omega) (by omega)).mpr q)
theorem wo_nle {a b : Nat} (hb : b < 2147483648) (ha : a < 2147483648) (h : ¬ nI a ≤ nI b) : b < a := Nat.lt_of_not_le fun q => h ((nI_leI (by omega) (by omega)).mpr q)
theorem wo_ieq {a b : Nat} (hb : b < 2147483648) (ha : a < 2147483648) (h : nI a = nI b) : a = b := (nI_eq (by omega) (by omega)).mp h
theorem wo_m1 {a b : Nat} (h : a = b + 1) : nI a - 1 = nI b := by subst h; exact nI_pred b
theorem wo_m1' {a b : Nat} (h : a = b + 1) : nI a + Int32.ofInt (-1) = nI b := by subst h; exact pk_m1 b
def wo_none : Int32 := -1000000
/-- the shifts of rank: from place fr + k down -/
def rk_ins : Nat → (Nat → Int32) → Nat → Int32 → (Nat → Int32)
  | 0, f, fr, v => va_up f fr v
  | k + 1, f, fr, v => if f (fr + k) < v then rk_ins k (va_up f (fr + k + 1) (f (fr + k))) fr v else va_up f (fr + k + 1) v
def lx_A (f : Nat → Int32) (x y : Nat) : Nat → Nat → Bool
  | 0, _ => false
  | n + 1, k => if f (x + k) = f (y + k) then lx_A f x y n (k + 1) else decide (f (y + k) < f (x + k))
def wo_cnt (p : Nat → Bool) : Nat → Nat
  | 0 => 0
  | n + 1 => wo_cnt p n + (if p n then 1 else 0)
def pl_A (rk : Nat → Int32) (g w : Nat) : Nat := 1 + wo_cnt (fun o => lx_A rk (o * 6) (w * 6) 6 0) g
def lt_A (mk : Nat → Int32) (w : Nat) : Nat → Nat
  | 0 => 0
  | d + 1 => if mk (w * 6 + d) = -1000000 then lt_A mk w d else d + 1
def wo_dN (d : Nat) : Int32 := if d = 0 then -1000000 else nI d
def vl_A (mk tl : Nat → Int32) (what : Int32) (i : Nat) : Int32 := if what = 1 then tl i else if 0 < mk i then mk i else -1000000
section SHT
variable {l : Launch} {D : va_G} {tys : List (ClassId × FieldType)} {cI cZ : ClassId} {a : Nat → Nat} {Y : va_W} {gr : Nat} {en : Nat} {mk : Nat → Int32} {tl : Nat → Int32} {me : Nat → Int32} {rk : Nat → Int32} {dy : Nat} {ln : Nat → Nat} {ll : Nat} {ps : Nat} {lf : Nat → Bool} {lc : Nat} {tc : Nat → Bool} {tp : Nat → Nat} {lv : Bool} {rp : Int32} {rc : Int32} {pp : Int32}
set_option maxRecDepth 100000 in
set_option maxHeartbeats 4000000 in
theorem c_X1_slot {ws : va_W} (w d k : Nat) (hk : k + 1 = w * 6 + d) : wo_E l yX1_slot cX1_slot 2 (some .int) 0 D ((cI, .int) :: (cZ, .boolean) :: tys) [.int (nI w), .int (nI d)] (ws) (some (.int (nI k))) (ws) := by
  refine wo_of (ls := [some (.int (nI w)), some (.int (nI d))]) (by decide) (Nat.le_of_ble_eq_true rfl) rfl ?_
  intro p e s m args below meth c A C
  refine x_iload_n C dX1_slot_0 rfl rfl ?_
  refine x_bipush C (v := 6) dX1_slot_1 (by decide) ?_
  refine x_imul C dX1_slot_3 ?_
  refine x_iload_n C dX1_slot_4 rfl rfl ?_
  refine x_iadd C dX1_slot_5 ?_
  refine x_iconst C (v := 1) dX1_slot_6 (by decide) ?_
  refine x_isub C dX1_slot_7 ?_
  exact x_iret C dX1_slot_8 (by rw [show (6 : Int32) = nI 6 from rfl, pk_mul, nI_add, ← hk, nI_pred]) rfl
set_option maxRecDepth 100000 in
set_option maxHeartbeats 4000000 in
theorem c_X1_isWeight {ws : va_W} (v : Int32) : wo_E l yX1_isWeight cX1_isWeight 1 (some .boolean) 0 D ((cI, .int) :: (cZ, .boolean) :: tys) [.int v] (ws) (some (.int (bz (decide (0 < v))))) (ws) := by
  refine wo_of (ls := [some (.int v)]) (by decide) (Nat.le_of_ble_eq_true rfl) rfl ?_
  intro p e s m args below meth c A C
  refine x_iload_n C dX1_isWeight_0 rfl rfl ?_
  refine x_if_le C (tgt := 8) dX1_isWeight_1 (by decide) (fun h => ?_) (fun h => ?_)
  · refine x_iconst C (v := 0) dX1_isWeight_8 (by decide) ?_
    exact x_zret C dX1_isWeight_9 (b := false) rfl (by rw [decide_eq_false (Int32.not_lt.mpr h)]) rfl
  · refine x_iconst C (v := 1) dX1_isWeight_4 (by decide) ?_
    refine x_goto C (tgt := 9) dX1_isWeight_5 (by decide) ?_
    exact x_zret C dX1_isWeight_9 (b := true) rfl (by rw [decide_eq_true (Int32.not_le.mp h)]) rfl
set_option maxRecDepth 100000 in
set_option maxHeartbeats 4000000 in
theorem c_X1_rank (w : Nat) (v : Int32) (hw : w < 12) : wo_E l yX1_rank cX1_rank 5 (none) 1 D ((cI, .int) :: (cZ, .boolean) :: tys) [.ref (a 1), .int (nI w), .int v] (wA cI cZ a gr en mk tl me rk dy ln ll ps lf lc tc tp lv rp rc pp ++ Y) none (wA cI cZ a gr en mk tl me (rk_ins 5 rk (w * 6) v) dy ln ll ps lf lc tc tp lv rp rc pp ++ Y) := by
  refine wo_of (ls := [some (.ref (a 1)), some (.int (nI w)), some (.int v), none, none]) (by decide) (Nat.le_of_ble_eq_true rfl) rfl ?_
  intro p e s m args below meth c A C
  refine x_iload_n C dX1_rank_0 rfl rfl ?_
  refine x_iconst C (v := 1) dX1_rank_1 (by decide) ?_
  refine x_callSi C gs_X1_32 (c_X1_slot w 1 (w * 6) (by omega)) rfl rfl (Nat.le_of_ble_eq_true rfl) ⟨(Nat.le_of_ble_eq_true rfl), (Nat.le_of_ble_eq_true rfl)⟩ ⟨Nat.zero_le _, Nat.zero_le _⟩ dX1_rank_2 ?_
  refine x_istore_n C dX1_rank_5 rfl (by decide) ?_
  refine x_iload_n C dX1_rank_6 rfl rfl ?_
  refine x_bipush C (v := 6) dX1_rank_7 (by decide) ?_
  refine x_callSi C gs_X1_32 (c_X1_slot w 6 (w * 6 + 5) (by omega)) rfl rfl (Nat.le_of_ble_eq_true rfl) ⟨(Nat.le_of_ble_eq_true rfl), (Nat.le_of_ble_eq_true rfl)⟩ ⟨Nat.zero_le _, Nat.zero_le _⟩ dX1_rank_9 ?_
  refine x_istore C dX1_rank_12 (by decide) ?_
  have loop : ∀ (k : Nat) (f : Nat → Int32), k ≤ 5 → rk_ins k f (w * 6) v = rk_ins 5 rk (w * 6) v → wo_W p l e (wo_rm 1) s m args below meth c A D 0 0 5 (MQ below (wo_Q D ((cI, .int) :: (cZ, .boolean) :: tys) none (wA cI cZ a gr en mk tl me (rk_ins 5 rk (w * 6) v) dy ln ll ps lf lc tc tp lv rp rc pp ++ Y) A) args s 0 0 A) 14 [some (.ref (a 1)), some (.int (nI w)), some (.int v), some (.int (nI (w * 6))), some (.int (nI (w * 6 + k)))] [] (wA cI cZ a gr en mk tl me (f) dy ln ll ps lf lc tc tp lv rp rc pp ++ Y) := by
    intro k
    induction k with
    | zero =>
      intro f hk he
      refine x_iload C dX1_rank_14 rfl ?_
      refine x_iload_n C dX1_rank_16 rfl rfl ?_
      refine x_icmp_le C (tgt := 55) dX1_rank_17 (by decide) (fun h => ?_) (fun h => ?_)
      · refine x_aload_n C dX1_rank_55 rfl rfl ?_
        refine gA1_ranked C dX1_rank_56 ?_
        refine x_iload C dX1_rank_59 rfl ?_
        refine x_iload_n C dX1_rank_61 rfl rfl ?_
        refine sA_rk C _ (w * 6) rfl (by omega) dX1_rank_62 ?_
        exact x_vret C dX1_rank_63 rfl (by rw [← he]; rfl)
      · exact absurd (Int32.le_refl _) h
    | succ k ih =>
      intro f hk he
      refine x_iload C dX1_rank_14 rfl ?_
      refine x_iload_n C dX1_rank_16 rfl rfl ?_
      refine x_icmp_le C (tgt := 55) dX1_rank_17 (by decide) (fun h => ?_) (fun h => ?_)
      · exact absurd (wo_le (by omega) (by omega) h) (by omega)
      · refine x_aload_n C dX1_rank_20 rfl rfl ?_
        refine gA1_ranked C dX1_rank_21 ?_
        refine x_iload C dX1_rank_24 rfl ?_
        refine x_iconst C (v := 1) dX1_rank_26 (by decide) ?_
        refine x_isub C dX1_rank_27 ?_
        refine lA_rk C (w * 6 + k) (wo_m1 rfl) (by omega) dX1_rank_28 ?_
        refine x_iload_n C dX1_rank_29 rfl rfl ?_
        refine x_icmp_ge C (tgt := 55) dX1_rank_30 (by decide) (fun h2 => ?_) (fun h2 => ?_)
        · refine x_aload_n C dX1_rank_55 rfl rfl ?_
          refine gA1_ranked C dX1_rank_56 ?_
          refine x_iload C dX1_rank_59 rfl ?_
          refine x_iload_n C dX1_rank_61 rfl rfl ?_
          refine sA_rk C _ (w * 6 + (k + 1)) rfl (by omega) dX1_rank_62 ?_
          exact x_vret C dX1_rank_63 rfl (by rw [← he]; unfold rk_ins; rw [if_neg (Int32.not_lt.mpr h2)]; rfl)
        · have h3 : f (w * 6 + k) < v := Int32.not_le.mp h2
          refine x_aload_n C dX1_rank_33 rfl rfl ?_
          refine gA1_ranked C dX1_rank_34 ?_
          refine x_iload C dX1_rank_37 rfl ?_
          refine x_aload_n C dX1_rank_39 rfl rfl ?_
          refine gA1_ranked C dX1_rank_40 ?_
          refine x_iload C dX1_rank_43 rfl ?_
          refine x_iconst C (v := 1) dX1_rank_45 (by decide) ?_
          refine x_isub C dX1_rank_46 ?_
          refine lA_rk C (w * 6 + k) (wo_m1 rfl) (by omega) dX1_rank_47 ?_
          refine sA_rk C _ (w * 6 + (k + 1)) rfl (by omega) dX1_rank_48 ?_
          refine x_iinc C dX1_rank_49 rfl (wo_m1' (b := w * 6 + k) rfl) (by decide) ?_
          refine x_goto C (tgt := 14) dX1_rank_52 (by decide) ?_
          exact ih _ (by omega) (by rw [← he]; show _ = rk_ins (k + 1) f (w * 6) v; rw [rk_ins, if_pos h3]; rfl)
  exact loop 5 rk (Nat.le_refl 5) rfl
set_option maxRecDepth 100000 in
set_option maxHeartbeats 4000000 in
theorem c_X1_enter (w d : Nat) (v t q : Int32) (hw : w < 12) (h1 : 1 ≤ d) (h6 : d ≤ 6) : wo_E l yX1_enter cX1_enter 7 (none) 2 D ((cI, .int) :: (cZ, .boolean) :: tys) [.ref (a 1), .int (nI w), .int (nI d), .int v, .int t, .int q] (wA cI cZ a gr en mk tl me rk dy ln ll ps lf lc tc tp lv rp rc pp ++ Y) none (wA cI cZ a gr (en + 1) (va_up mk (w * 6 + d - 1) v) (va_up tl (w * 6 + d - 1) t) (va_up me (w * 6 + d - 1) q) (if 0 < v then rk_ins 5 rk (w * 6) v else rk) dy ln ll ps lf lc tc tp lv rp rc pp ++ Y) := by
  refine wo_of (ls := [some (.ref (a 1)), some (.int (nI w)), some (.int (nI d)), some (.int v), some (.int t), some (.int q), none]) (by decide) (Nat.le_of_ble_eq_true rfl) rfl ?_
  intro p e s m args below meth c A C
  refine x_iload_n C dX1_enter_0 rfl rfl ?_
  refine x_iload_n C dX1_enter_1 rfl rfl ?_
  refine x_callSi C gs_X1_32 (c_X1_slot w d (w * 6 + d - 1) (by omega)) rfl rfl (Nat.le_of_ble_eq_true rfl) ⟨(Nat.le_of_ble_eq_true rfl), (Nat.le_of_ble_eq_true rfl)⟩ ⟨Nat.zero_le _, Nat.zero_le _⟩ dX1_enter_2 ?_
  refine x_istore C dX1_enter_5 (by decide) ?_
  refine x_aload_n C dX1_enter_7 rfl rfl ?_
  refine gA1_marks C dX1_enter_8 ?_
  refine x_iload C dX1_enter_11 rfl ?_
  refine x_iload_n C dX1_enter_13 rfl rfl ?_
  refine sA_mk C _ _ rfl (by omega) dX1_enter_14 ?_
  refine x_aload_n C dX1_enter_15 rfl rfl ?_
  refine gA1_tilts C dX1_enter_16 ?_
  refine x_iload C dX1_enter_19 rfl ?_
  refine x_iload C dX1_enter_21 rfl ?_
  refine sA_tl C _ _ rfl (by omega) dX1_enter_23 ?_
  refine x_aload_n C dX1_enter_24 rfl rfl ?_
  refine gA1_measured C dX1_enter_25 ?_
  refine x_iload C dX1_enter_28 rfl ?_
  refine x_iload C dX1_enter_30 rfl ?_
  refine sA_me C _ _ rfl (by omega) dX1_enter_32 ?_
  refine x_aload_n C dX1_enter_33 rfl rfl ?_
  refine x_dup C dX1_enter_34 rfl ?_
  refine gA1_entries C dX1_enter_35 ?_
  refine x_iconst C (v := 1) dX1_enter_38 (by decide) ?_
  refine x_iadd C dX1_enter_39 ?_
  refine pA1_entries C (en + 1) (nI_1 en) dX1_enter_40 ?_
  refine x_iload_n C dX1_enter_43 rfl rfl ?_
  refine x_callSi C gs_X1_36 (c_X1_isWeight v) rfl rfl (Nat.le_of_ble_eq_true rfl) ⟨(Nat.le_of_ble_eq_true rfl), (Nat.le_of_ble_eq_true rfl)⟩ ⟨Nat.zero_le _, Nat.zero_le _⟩ dX1_enter_44 ?_
  refine x_if_eq C (tgt := 56) dX1_enter_47 (by decide) (fun h => ?_) (fun h => ?_)
  · have h2 : ¬ 0 < v := of_decide_eq_false (bz_f h)
    exact x_vret C dX1_enter_56 rfl (by rw [if_neg h2])
  · have h2 : 0 < v := of_decide_eq_true (bz_t h)
    refine x_aload_n C dX1_enter_50 rfl rfl ?_
    refine x_iload_n C dX1_enter_51 rfl rfl ?_
    refine x_iload_n C dX1_enter_52 rfl rfl ?_
    refine x_callVv C gv_X1_40 (c_X1_rank w v hw) 1 rfl rfl rfl rfl (Nat.le_of_ble_eq_true rfl) ⟨(Nat.le_of_ble_eq_true rfl), (Nat.le_of_ble_eq_true rfl)⟩ ⟨Nat.zero_le _, Nat.zero_le _⟩ dX1_enter_53 ?_
    exact x_vret C dX1_enter_56 rfl (by rw [if_pos h2])
set_option maxRecDepth 100000 in
set_option maxHeartbeats 4000000 in
theorem c_X1_isMeasuredCrack (w d : Nat) (hw : w < 12) (h1 : 1 ≤ d) (h6 : d ≤ 6) : wo_E l yX1_isMeasuredCrack cX1_isMeasuredCrack 4 (some .boolean) 1 D ((cI, .int) :: (cZ, .boolean) :: tys) [.ref (a 1), .int (nI w), .int (nI d)] (wA cI cZ a gr en mk tl me rk dy ln ll ps lf lc tc tp lv rp rc pp ++ Y) (some (.int (bz (decide (mk (w * 6 + d - 1) = -1 ∧ ¬ me (w * 6 + d - 1) = 0))))) (wA cI cZ a gr en mk tl me rk dy ln ll ps lf lc tc tp lv rp rc pp ++ Y) := by
  refine wo_of (ls := [some (.ref (a 1)), some (.int (nI w)), some (.int (nI d)), none]) (by decide) (Nat.le_of_ble_eq_true rfl) rfl ?_
  intro p e s m args below meth c A C
  refine x_iload_n C dX1_isMeasuredCrack_0 rfl rfl ?_
  refine x_iload_n C dX1_isMeasuredCrack_1 rfl rfl ?_
  refine x_callSi C gs_X1_32 (c_X1_slot w d (w * 6 + d - 1) (by omega)) rfl rfl (Nat.le_of_ble_eq_true rfl) ⟨(Nat.le_of_ble_eq_true rfl), (Nat.le_of_ble_eq_true rfl)⟩ ⟨Nat.zero_le _, Nat.zero_le _⟩ dX1_isMeasuredCrack_2 ?_
  refine x_istore_n C dX1_isMeasuredCrack_5 rfl (by decide) ?_
  refine x_aload_n C dX1_isMeasuredCrack_6 rfl rfl ?_
  refine gA1_marks C dX1_isMeasuredCrack_7 ?_
  refine x_iload_n C dX1_isMeasuredCrack_10 rfl rfl ?_
  refine lA_mk C _ rfl (by omega) dX1_isMeasuredCrack_11 ?_
  refine x_iconst C (v := -1) dX1_isMeasuredCrack_12 (by decide) ?_
  refine x_icmp_ne C (tgt := 29) dX1_isMeasuredCrack_13 (by decide) (fun h => ?_) (fun h => ?_)
  · refine x_iconst C (v := 0) dX1_isMeasuredCrack_29 (by decide) ?_
    exact x_zret C dX1_isMeasuredCrack_30 (b := false) rfl (by rw [decide_eq_false (fun z => h z.1)]) rfl
  · refine x_aload_n C dX1_isMeasuredCrack_16 rfl rfl ?_
    refine gA1_measured C dX1_isMeasuredCrack_17 ?_
    refine x_iload_n C dX1_isMeasuredCrack_20 rfl rfl ?_
    refine lA_me C _ rfl (by omega) dX1_isMeasuredCrack_21 ?_
    refine x_if_eq C (tgt := 29) dX1_isMeasuredCrack_22 (by decide) (fun h2 => ?_) (fun h2 => ?_)
    · refine x_iconst C (v := 0) dX1_isMeasuredCrack_29 (by decide) ?_
      exact x_zret C dX1_isMeasuredCrack_30 (b := false) rfl (by rw [decide_eq_false (fun z => z.2 h2)]) rfl
    · refine x_iconst C (v := 1) dX1_isMeasuredCrack_25 (by decide) ?_
      refine x_goto C (tgt := 30) dX1_isMeasuredCrack_26 (by decide) ?_
      exact x_zret C dX1_isMeasuredCrack_30 (b := true) rfl (by rw [decide_eq_true ⟨h, h2⟩]) rfl
set_option maxRecDepth 100000 in
set_option maxHeartbeats 4000000 in
theorem c_X1_makeSound (w d : Nat) (hw : w < 12) (h1 : 1 ≤ d) (h6 : d ≤ 6) : wo_E l yX1_makeSound cX1_makeSound 4 (some .int) 2 D ((cI, .int) :: (cZ, .boolean) :: tys) [.ref (a 1), .int (nI w), .int (nI d)] (wA cI cZ a gr en mk tl me rk dy ln ll ps lf lc tc tp lv rp rc pp ++ Y) (some (.int (me (w * 6 + d - 1)))) (wA cI cZ a gr en (va_up mk (w * 6 + d - 1) (me (w * 6 + d - 1))) tl me (rk_ins 5 rk (w * 6) (me (w * 6 + d - 1))) dy ln ll ps lf lc tc tp lv rp rc pp ++ Y) := by
  refine wo_of (ls := [some (.ref (a 1)), some (.int (nI w)), some (.int (nI d)), none]) (by decide) (Nat.le_of_ble_eq_true rfl) rfl ?_
  intro p e s m args below meth c A C
  refine x_iload_n C dX1_makeSound_0 rfl rfl ?_
  refine x_iload_n C dX1_makeSound_1 rfl rfl ?_
  refine x_callSi C gs_X1_32 (c_X1_slot w d (w * 6 + d - 1) (by omega)) rfl rfl (Nat.le_of_ble_eq_true rfl) ⟨(Nat.le_of_ble_eq_true rfl), (Nat.le_of_ble_eq_true rfl)⟩ ⟨Nat.zero_le _, Nat.zero_le _⟩ dX1_makeSound_2 ?_
  refine x_istore_n C dX1_makeSound_5 rfl (by decide) ?_
  refine x_aload_n C dX1_makeSound_6 rfl rfl ?_
  refine gA1_marks C dX1_makeSound_7 ?_
  refine x_iload_n C dX1_makeSound_10 rfl rfl ?_
  refine x_aload_n C dX1_makeSound_11 rfl rfl ?_
  refine gA1_measured C dX1_makeSound_12 ?_
  refine x_iload_n C dX1_makeSound_15 rfl rfl ?_
  refine lA_me C _ rfl (by omega) dX1_makeSound_16 ?_
  refine sA_mk C _ _ rfl (by omega) dX1_makeSound_17 ?_
  refine x_aload_n C dX1_makeSound_18 rfl rfl ?_
  refine x_iload_n C dX1_makeSound_19 rfl rfl ?_
  refine x_aload_n C dX1_makeSound_20 rfl rfl ?_
  refine gA1_marks C dX1_makeSound_21 ?_
  refine x_iload_n C dX1_makeSound_24 rfl rfl ?_
  refine lA_mk C _ rfl (by omega) dX1_makeSound_25 ?_
  refine x_top (y := me (w * 6 + d - 1)) (va_up_self ..) ?_
  refine x_callVv C gv_X1_40 (c_X1_rank w _ hw) 1 rfl rfl rfl rfl (Nat.le_of_ble_eq_true rfl) ⟨(Nat.le_of_ble_eq_true rfl), (Nat.le_of_ble_eq_true rfl)⟩ ⟨Nat.zero_le _, Nat.zero_le _⟩ dX1_makeSound_26 ?_
  refine x_aload_n C dX1_makeSound_29 rfl rfl ?_
  refine gA1_marks C dX1_makeSound_30 ?_
  refine x_iload_n C dX1_makeSound_33 rfl rfl ?_
  refine lA_mk C _ rfl (by omega) dX1_makeSound_34 ?_
  exact x_iret C dX1_makeSound_35 (by rw [va_up_self]) rfl
set_option maxRecDepth 100000 in
set_option maxHeartbeats 4000000 in
theorem c_X1_howManyGrowers  : wo_E l yX1_howManyGrowers cX1_howManyGrowers 1 (some .int) 0 D ((cI, .int) :: (cZ, .boolean) :: tys) [.ref (a 1)] (wA cI cZ a gr en mk tl me rk dy ln ll ps lf lc tc tp lv rp rc pp ++ Y) (some (.int (nI gr))) (wA cI cZ a gr en mk tl me rk dy ln ll ps lf lc tc tp lv rp rc pp ++ Y) := by
  refine wo_of (ls := [some (.ref (a 1))]) (by decide) (Nat.le_of_ble_eq_true rfl) rfl ?_
  intro p e s m args below meth c A C
  refine x_aload_n C dX1_howManyGrowers_0 rfl rfl ?_
  refine gA1_growers C dX1_howManyGrowers_1 ?_
  exact x_iret C dX1_howManyGrowers_4 rfl rfl
set_option maxRecDepth 100000 in
set_option maxHeartbeats 4000000 in
theorem c_X1_howManyEntries  : wo_E l yX1_howManyEntries cX1_howManyEntries 1 (some .int) 0 D ((cI, .int) :: (cZ, .boolean) :: tys) [.ref (a 1)] (wA cI cZ a gr en mk tl me rk dy ln ll ps lf lc tc tp lv rp rc pp ++ Y) (some (.int (nI en))) (wA cI cZ a gr en mk tl me rk dy ln ll ps lf lc tc tp lv rp rc pp ++ Y) := by
  refine wo_of (ls := [some (.ref (a 1))]) (by decide) (Nat.le_of_ble_eq_true rfl) rfl ?_
  intro p e s m args below meth c A C
  refine x_aload_n C dX1_howManyEntries_0 rfl rfl ?_
  refine gA1_entries C dX1_howManyEntries_1 ?_
  exact x_iret C dX1_howManyEntries_4 rfl rfl
set_option maxRecDepth 100000 in
set_option maxHeartbeats 4000000 in
theorem c_X1_hasEntry (w d : Nat) (hw : w < 12) (h1 : 1 ≤ d) (h6 : d ≤ 6) : wo_E l yX1_hasEntry cX1_hasEntry 3 (some .boolean) 1 D ((cI, .int) :: (cZ, .boolean) :: tys) [.ref (a 1), .int (nI w), .int (nI d)] (wA cI cZ a gr en mk tl me rk dy ln ll ps lf lc tc tp lv rp rc pp ++ Y) (some (.int (bz (decide (¬ mk (w * 6 + d - 1) = -1000000))))) (wA cI cZ a gr en mk tl me rk dy ln ll ps lf lc tc tp lv rp rc pp ++ Y) := by
  refine wo_of (ls := [some (.ref (a 1)), some (.int (nI w)), some (.int (nI d))]) (by decide) (Nat.le_of_ble_eq_true rfl) rfl ?_
  intro p e s m args below meth c A C
  refine x_aload_n C dX1_hasEntry_0 rfl rfl ?_
  refine gA1_marks C dX1_hasEntry_1 ?_
  refine x_iload_n C dX1_hasEntry_4 rfl rfl ?_
  refine x_iload_n C dX1_hasEntry_5 rfl rfl ?_
  refine x_callSi C gs_X1_32 (c_X1_slot w d (w * 6 + d - 1) (by omega)) rfl rfl (Nat.le_of_ble_eq_true rfl) ⟨(Nat.le_of_ble_eq_true rfl), (Nat.le_of_ble_eq_true rfl)⟩ ⟨Nat.zero_le _, Nat.zero_le _⟩ dX1_hasEntry_6 ?_
  refine lA_mk C _ rfl (by omega) dX1_hasEntry_9 ?_
  refine x_ldc C kk_X1_31 dX1_hasEntry_10 ?_
  refine x_icmp_eq C (tgt := 19) dX1_hasEntry_12 (by decide) (fun h => ?_) (fun h => ?_)
  · refine x_iconst C (v := 0) dX1_hasEntry_19 (by decide) ?_
    exact x_zret C dX1_hasEntry_20 (b := false) rfl (by rw [decide_eq_false (fun z => z h)]) rfl
  · refine x_iconst C (v := 1) dX1_hasEntry_15 (by decide) ?_
    refine x_goto C (tgt := 20) dX1_hasEntry_16 (by decide) ?_
    exact x_zret C dX1_hasEntry_20 (b := true) rfl (by rw [decide_eq_true h]) rfl
set_option maxRecDepth 100000 in
set_option maxHeartbeats 4000000 in
theorem c_X1_markOn (w d : Nat) (hw : w < 12) (h1 : 1 ≤ d) (h6 : d ≤ 6) : wo_E l yX1_markOn cX1_markOn 3 (some .int) 1 D ((cI, .int) :: (cZ, .boolean) :: tys) [.ref (a 1), .int (nI w), .int (nI d)] (wA cI cZ a gr en mk tl me rk dy ln ll ps lf lc tc tp lv rp rc pp ++ Y) (some (.int (mk (w * 6 + d - 1)))) (wA cI cZ a gr en mk tl me rk dy ln ll ps lf lc tc tp lv rp rc pp ++ Y) := by
  refine wo_of (ls := [some (.ref (a 1)), some (.int (nI w)), some (.int (nI d))]) (by decide) (Nat.le_of_ble_eq_true rfl) rfl ?_
  intro p e s m args below meth c A C
  refine x_aload_n C dX1_markOn_0 rfl rfl ?_
  refine gA1_marks C dX1_markOn_1 ?_
  refine x_iload_n C dX1_markOn_4 rfl rfl ?_
  refine x_iload_n C dX1_markOn_5 rfl rfl ?_
  refine x_callSi C gs_X1_32 (c_X1_slot w d (w * 6 + d - 1) (by omega)) rfl rfl (Nat.le_of_ble_eq_true rfl) ⟨(Nat.le_of_ble_eq_true rfl), (Nat.le_of_ble_eq_true rfl)⟩ ⟨Nat.zero_le _, Nat.zero_le _⟩ dX1_markOn_6 ?_
  refine lA_mk C _ rfl (by omega) dX1_markOn_9 ?_
  exact x_iret C dX1_markOn_10 rfl rfl
set_option maxRecDepth 100000 in
set_option maxHeartbeats 4000000 in
theorem c_X1_tiltOn (w d : Nat) (hw : w < 12) (h1 : 1 ≤ d) (h6 : d ≤ 6) : wo_E l yX1_tiltOn cX1_tiltOn 3 (some .int) 1 D ((cI, .int) :: (cZ, .boolean) :: tys) [.ref (a 1), .int (nI w), .int (nI d)] (wA cI cZ a gr en mk tl me rk dy ln ll ps lf lc tc tp lv rp rc pp ++ Y) (some (.int (tl (w * 6 + d - 1)))) (wA cI cZ a gr en mk tl me rk dy ln ll ps lf lc tc tp lv rp rc pp ++ Y) := by
  refine wo_of (ls := [some (.ref (a 1)), some (.int (nI w)), some (.int (nI d))]) (by decide) (Nat.le_of_ble_eq_true rfl) rfl ?_
  intro p e s m args below meth c A C
  refine x_aload_n C dX1_tiltOn_0 rfl rfl ?_
  refine gA1_tilts C dX1_tiltOn_1 ?_
  refine x_iload_n C dX1_tiltOn_4 rfl rfl ?_
  refine x_iload_n C dX1_tiltOn_5 rfl rfl ?_
  refine x_callSi C gs_X1_32 (c_X1_slot w d (w * 6 + d - 1) (by omega)) rfl rfl (Nat.le_of_ble_eq_true rfl) ⟨(Nat.le_of_ble_eq_true rfl), (Nat.le_of_ble_eq_true rfl)⟩ ⟨Nat.zero_le _, Nat.zero_le _⟩ dX1_tiltOn_6 ?_
  refine lA_tl C _ rfl (by omega) dX1_tiltOn_9 ?_
  exact x_iret C dX1_tiltOn_10 rfl rfl
set_option maxRecDepth 100000 in
set_option maxHeartbeats 4000000 in
theorem c_X1_valueOn (what : Int32) (w d : Nat) (hw : w < 12) (h1 : 1 ≤ d) (h6 : d ≤ 6) : wo_E l yX1_valueOn cX1_valueOn 5 (some .int) 2 D ((cI, .int) :: (cZ, .boolean) :: tys) [.ref (a 1), .int what, .int (nI w), .int (nI d)] (wA cI cZ a gr en mk tl me rk dy ln ll ps lf lc tc tp lv rp rc pp ++ Y) (some (.int (vl_A mk tl what (w * 6 + d - 1)))) (wA cI cZ a gr en mk tl me rk dy ln ll ps lf lc tc tp lv rp rc pp ++ Y) := by
  refine wo_of (ls := [some (.ref (a 1)), some (.int what), some (.int (nI w)), some (.int (nI d)), none]) (by decide) (Nat.le_of_ble_eq_true rfl) rfl ?_
  intro p e s m args below meth c A C
  refine x_iload_n C dX1_valueOn_0 rfl rfl ?_
  refine x_iconst C (v := 1) dX1_valueOn_1 (by decide) ?_
  refine x_icmp_ne C (tgt := 12) dX1_valueOn_2 (by decide) (fun h => ?_) (fun h => ?_)
  · refine x_aload_n C dX1_valueOn_12 rfl rfl ?_
    refine x_iload_n C dX1_valueOn_13 rfl rfl ?_
    refine x_iload_n C dX1_valueOn_14 rfl rfl ?_
    refine x_callVi C gv_X1_47 (c_X1_markOn w d hw h1 h6) 1 rfl rfl rfl rfl (Nat.le_of_ble_eq_true rfl) ⟨(Nat.le_of_ble_eq_true rfl), (Nat.le_of_ble_eq_true rfl)⟩ ⟨Nat.zero_le _, Nat.zero_le _⟩ dX1_valueOn_15 ?_
    refine x_istore C dX1_valueOn_18 (by decide) ?_
    refine x_iload C dX1_valueOn_20 rfl ?_
    refine x_callSi C gs_X1_36 (c_X1_isWeight _) rfl rfl (Nat.le_of_ble_eq_true rfl) ⟨(Nat.le_of_ble_eq_true rfl), (Nat.le_of_ble_eq_true rfl)⟩ ⟨Nat.zero_le _, Nat.zero_le _⟩ dX1_valueOn_22 ?_
    refine x_if_eq C (tgt := 33) dX1_valueOn_25 (by decide) (fun h2 => ?_) (fun h2 => ?_)
    · have h3 := of_decide_eq_false (bz_f h2)
      refine x_ldc C kk_X1_31 dX1_valueOn_33 ?_
      exact x_iret C dX1_valueOn_35 (by unfold vl_A; rw [if_neg h, if_neg h3]) rfl
    · have h3 := of_decide_eq_true (bz_t h2)
      refine x_iload C dX1_valueOn_28 rfl ?_
      refine x_goto C (tgt := 35) dX1_valueOn_30 (by decide) ?_
      exact x_iret C dX1_valueOn_35 (by unfold vl_A; rw [if_neg h, if_pos h3]) rfl
  · refine x_aload_n C dX1_valueOn_5 rfl rfl ?_
    refine x_iload_n C dX1_valueOn_6 rfl rfl ?_
    refine x_iload_n C dX1_valueOn_7 rfl rfl ?_
    refine x_callVi C gv_X1_44 (c_X1_tiltOn w d hw h1 h6) 1 rfl rfl rfl rfl (Nat.le_of_ble_eq_true rfl) ⟨(Nat.le_of_ble_eq_true rfl), (Nat.le_of_ble_eq_true rfl)⟩ ⟨Nat.zero_le _, Nat.zero_le _⟩ dX1_valueOn_8 ?_
    exact x_iret C dX1_valueOn_11 (by unfold vl_A; rw [if_pos h]) rfl
set_option maxRecDepth 100000 in
set_option maxHeartbeats 4000000 in
theorem c_X1_latestDayOf (w : Nat) (hw : w < 12) : wo_E l yX1_latestDayOf cX1_latestDayOf 3 (some .int) 2 D ((cI, .int) :: (cZ, .boolean) :: tys) [.ref (a 1), .int (nI w)] (wA cI cZ a gr en mk tl me rk dy ln ll ps lf lc tc tp lv rp rc pp ++ Y) (some (.int (wo_dN (lt_A mk w 6)))) (wA cI cZ a gr en mk tl me rk dy ln ll ps lf lc tc tp lv rp rc pp ++ Y) := by
  refine wo_of (ls := [some (.ref (a 1)), some (.int (nI w)), none]) (by decide) (Nat.le_of_ble_eq_true rfl) rfl ?_
  intro p e s m args below meth c A C
  refine x_bipush C (v := 6) dX1_latestDayOf_0 (by decide) ?_
  refine x_istore_n C dX1_latestDayOf_2 rfl (by decide) ?_
  have loop : ∀ (d : Nat), d ≤ 6 → lt_A mk w d = lt_A mk w 6 → wo_W p l e (wo_rm 2) s m args below meth c A D 0 0 3 (MQ below (wo_Q D ((cI, .int) :: (cZ, .boolean) :: tys) (some (.int (wo_dN (lt_A mk w 6)))) (wA cI cZ a gr en mk tl me rk dy ln ll ps lf lc tc tp lv rp rc pp ++ Y) A) args s 0 0 A) 3 [some (.ref (a 1)), some (.int (nI w)), some (.int (nI d))] [] (wA cI cZ a gr en mk tl me rk dy ln ll ps lf lc tc tp lv rp rc pp ++ Y) := by
    intro d
    induction d with
    | zero =>
      intro hd he
      refine x_iload_n C dX1_latestDayOf_3 rfl rfl ?_
      refine x_iconst C (v := 1) dX1_latestDayOf_4 (by decide) ?_
      refine x_icmp_lt C (tgt := 25) dX1_latestDayOf_5 (by decide) (fun h => ?_) (fun h => ?_)
      · refine x_ldc C kk_X1_31 dX1_latestDayOf_25 ?_
        exact x_iret C dX1_latestDayOf_27 (by rw [← he]; rfl) rfl
      · exact absurd (show nI 0 < nI 1 by decide) h
    | succ d ih =>
      intro hd he
      refine x_iload_n C dX1_latestDayOf_3 rfl rfl ?_
      refine x_iconst C (v := 1) dX1_latestDayOf_4 (by decide) ?_
      refine x_icmp_lt C (tgt := 25) dX1_latestDayOf_5 (by decide) (fun h => ?_) (fun h => ?_)
      · exact absurd (wo_lt (a := d + 1) (b := 1) (by omega) (by omega) h) (by omega)
      · refine x_aload_n C dX1_latestDayOf_8 rfl rfl ?_
        refine x_iload_n C dX1_latestDayOf_9 rfl rfl ?_
        refine x_iload_n C dX1_latestDayOf_10 rfl rfl ?_
        refine x_callVi C gv_X1_50 (c_X1_hasEntry w (d + 1) hw (by omega) (by omega)) 1 rfl rfl rfl rfl (Nat.le_of_ble_eq_true rfl) ⟨(Nat.le_of_ble_eq_true rfl), (Nat.le_of_ble_eq_true rfl)⟩ ⟨Nat.zero_le _, Nat.zero_le _⟩ dX1_latestDayOf_11 ?_
        refine x_if_eq C (tgt := 19) dX1_latestDayOf_14 (by decide) (fun h2 => ?_) (fun h2 => ?_)
        · have h3 := of_decide_eq_false (bz_f h2)
          have h4 : mk (w * 6 + d) = -1000000 := Classical.not_not.mp h3
          refine x_iinc C dX1_latestDayOf_19 rfl (wo_m1' (b := d) rfl) (by decide) ?_
          refine x_goto C (tgt := 3) dX1_latestDayOf_22 (by decide) ?_
          exact ih (by omega) (by rw [← he]; show _ = lt_A mk w (d + 1); rw [lt_A, if_pos h4])
        · have h3 := of_decide_eq_true (bz_t h2)
          have h4 : ¬ mk (w * 6 + d) = -1000000 := h3
          refine x_iload_n C dX1_latestDayOf_17 rfl rfl ?_
          exact x_iret C dX1_latestDayOf_18 (by rw [← he]; show _ = some (Value.int (nI (d + 1))); rw [lt_A, if_neg h4]; rfl) rfl
  exact loop 6 (Nat.le_refl 6) rfl
theorem wo_lt_le (mk : Nat → Int32) (w : Nat) : ∀ d, lt_A mk w d ≤ d
  | 0 => Nat.le_refl 0
  | d + 1 => by
    unfold lt_A
    split
    · exact Nat.le_succ_of_le (wo_lt_le mk w d)
    · exact Nat.le_refl _
theorem wo_dN_0 {d : Nat} (hd : d ≤ 6) : wo_dN d = -1000000 ↔ d = 0 := by
  unfold wo_dN
  split
  · next h => exact ⟨fun _ => h, fun _ => rfl⟩
  · next h =>
    refine ⟨fun z => ?_, fun z => absurd z h⟩
    have h1 := congrArg Int32.toInt z
    rw [nI_toInt (by omega)] at h1
    rw [show (-1000000 : Int32).toInt = -1000000 by decide] at h1
    omega
theorem wo_dN_s {d : Nat} (h : ¬ d = 0) : wo_dN d = nI d := by unfold wo_dN; rw [if_neg h]
set_option maxRecDepth 100000 in
set_option maxHeartbeats 4000000 in
theorem c_X1_latestTiltOf (w : Nat) (hw : w < 12) : wo_E l yX1_latestTiltOf cX1_latestTiltOf 3 (some .int) 3 D ((cI, .int) :: (cZ, .boolean) :: tys) [.ref (a 1), .int (nI w)] (wA cI cZ a gr en mk tl me rk dy ln ll ps lf lc tc tp lv rp rc pp ++ Y) (some (.int (if lt_A mk w 6 = 0 then -1000000 else tl (w * 6 + lt_A mk w 6 - 1)))) (wA cI cZ a gr en mk tl me rk dy ln ll ps lf lc tc tp lv rp rc pp ++ Y) := by
  refine wo_of (ls := [some (.ref (a 1)), some (.int (nI w)), none]) (by decide) (Nat.le_of_ble_eq_true rfl) rfl ?_
  intro p e s m args below meth c A C
  have hle := wo_lt_le mk w 6
  refine x_aload_n C dX1_latestTiltOf_0 rfl rfl ?_
  refine x_iload_n C dX1_latestTiltOf_1 rfl rfl ?_
  refine x_callVi C gv_X1_54 (c_X1_latestDayOf w hw) 1 rfl rfl rfl rfl (Nat.le_of_ble_eq_true rfl) ⟨(Nat.le_of_ble_eq_true rfl), (Nat.le_of_ble_eq_true rfl)⟩ ⟨Nat.zero_le _, Nat.zero_le _⟩ dX1_latestTiltOf_2 ?_
  refine x_istore_n C dX1_latestTiltOf_5 rfl (by decide) ?_
  refine x_iload_n C dX1_latestTiltOf_6 rfl rfl ?_
  refine x_ldc C kk_X1_31 dX1_latestTiltOf_7 ?_
  refine x_icmp_ne C (tgt := 17) dX1_latestTiltOf_9 (by decide) (fun h => ?_) (fun h => ?_)
  · have h2 : ¬ lt_A mk w 6 = 0 := fun z => h ((wo_dN_0 hle).mpr z)
    refine x_aload_n C dX1_latestTiltOf_17 rfl rfl ?_
    refine x_iload_n C dX1_latestTiltOf_18 rfl rfl ?_
    refine x_iload_n C dX1_latestTiltOf_19 rfl rfl ?_
    refine x_top (y := nI (lt_A mk w 6)) (wo_dN_s h2) ?_
    refine x_callVi C gv_X1_44 (c_X1_tiltOn w (lt_A mk w 6) hw (by omega) hle) 1 rfl rfl rfl rfl (Nat.le_of_ble_eq_true rfl) ⟨(Nat.le_of_ble_eq_true rfl), (Nat.le_of_ble_eq_true rfl)⟩ ⟨Nat.zero_le _, Nat.zero_le _⟩ dX1_latestTiltOf_20 ?_
    exact x_iret C dX1_latestTiltOf_23 (by rw [if_neg h2]) rfl
  · have h2 : lt_A mk w 6 = 0 := (wo_dN_0 hle).mp h
    refine x_ldc C kk_X1_31 dX1_latestTiltOf_12 ?_
    refine x_goto C (tgt := 23) dX1_latestTiltOf_14 (by decide) ?_
    exact x_iret C dX1_latestTiltOf_23 (by rw [if_pos h2]) rfl
set_option maxRecDepth 100000 in
set_option maxHeartbeats 4000000 in
theorem c_X1_bestOf (w : Nat) (hw : w < 12) : wo_E l yX1_bestOf cX1_bestOf 2 (some .int) 1 D ((cI, .int) :: (cZ, .boolean) :: tys) [.ref (a 1), .int (nI w)] (wA cI cZ a gr en mk tl me rk dy ln ll ps lf lc tc tp lv rp rc pp ++ Y) (some (.int (rk (w * 6)))) (wA cI cZ a gr en mk tl me rk dy ln ll ps lf lc tc tp lv rp rc pp ++ Y) := by
  refine wo_of (ls := [some (.ref (a 1)), some (.int (nI w))]) (by decide) (Nat.le_of_ble_eq_true rfl) rfl ?_
  intro p e s m args below meth c A C
  refine x_aload_n C dX1_bestOf_0 rfl rfl ?_
  refine gA1_ranked C dX1_bestOf_1 ?_
  refine x_iload_n C dX1_bestOf_4 rfl rfl ?_
  refine x_iconst C (v := 1) dX1_bestOf_5 (by decide) ?_
  refine x_callSi C gs_X1_32 (c_X1_slot w 1 (w * 6) (by omega)) rfl rfl (Nat.le_of_ble_eq_true rfl) ⟨(Nat.le_of_ble_eq_true rfl), (Nat.le_of_ble_eq_true rfl)⟩ ⟨Nat.zero_le _, Nat.zero_le _⟩ dX1_bestOf_6 ?_
  refine lA_rk C _ rfl (by omega) dX1_bestOf_9 ?_
  exact x_iret C dX1_bestOf_10 rfl rfl
set_option maxRecDepth 100000 in
set_option maxHeartbeats 4000000 in
theorem c_X1_isBefore (u w : Nat) (hu : u < 12) (hw : w < 12) : wo_E l yX1_isBefore cX1_isBefore 6 (some .boolean) 1 D ((cI, .int) :: (cZ, .boolean) :: tys) [.ref (a 1), .int (nI u), .int (nI w)] (wA cI cZ a gr en mk tl me rk dy ln ll ps lf lc tc tp lv rp rc pp ++ Y) (some (.int (bz (lx_A rk (u * 6) (w * 6) 6 0)))) (wA cI cZ a gr en mk tl me rk dy ln ll ps lf lc tc tp lv rp rc pp ++ Y) := by
  refine wo_of (ls := [some (.ref (a 1)), some (.int (nI u)), some (.int (nI w)), none, none, none]) (by decide) (Nat.le_of_ble_eq_true rfl) rfl ?_
  intro p e s m args below meth c A C
  refine x_iconst C (v := 1) dX1_isBefore_0 (by decide) ?_
  refine x_istore_n C dX1_isBefore_1 rfl (by decide) ?_
  have loop : ∀ (n k : Nat) (x4 x5 : Option Value), n + k = 6 → lx_A rk (u * 6) (w * 6) n k = lx_A rk (u * 6) (w * 6) 6 0 → wo_W p l e (wo_rm 1) s m args below meth c A D 0 0 6 (MQ below (wo_Q D ((cI, .int) :: (cZ, .boolean) :: tys) (some (.int (bz (lx_A rk (u * 6) (w * 6) 6 0)))) (wA cI cZ a gr en mk tl me rk dy ln ll ps lf lc tc tp lv rp rc pp ++ Y) A) args s 0 0 A) 2 [some (.ref (a 1)), some (.int (nI u)), some (.int (nI w)), some (.int (nI (k + 1))), x4, x5] [] (wA cI cZ a gr en mk tl me rk dy ln ll ps lf lc tc tp lv rp rc pp ++ Y) := by
    intro n
    induction n with
    | zero =>
      intro k x4 x5 hk he
      refine x_iload_n C dX1_isBefore_2 rfl rfl ?_
      refine x_bipush C (v := 6) dX1_isBefore_3 (by decide) ?_
      refine x_icmp_gt C (tgt := 58) dX1_isBefore_5 (by decide) (fun h => ?_) (fun h => ?_)
      · refine x_iconst C (v := 0) dX1_isBefore_58 (by decide) ?_
        exact x_zret C dX1_isBefore_59 (b := false) rfl (by rw [← he]; rfl) rfl
      · exact absurd (show nI 6 < nI (k + 1) from nI_lt (by omega) (by omega)) h
    | succ n ih =>
      intro k x4 x5 hk he
      refine x_iload_n C dX1_isBefore_2 rfl rfl ?_
      refine x_bipush C (v := 6) dX1_isBefore_3 (by decide) ?_
      refine x_icmp_gt C (tgt := 58) dX1_isBefore_5 (by decide) (fun h => ?_) (fun h => ?_)
      · exact absurd (wo_lt (a := 6) (b := k + 1) (by omega) (by omega) h) (by omega)
      · refine x_aload_n C dX1_isBefore_8 rfl rfl ?_
        refine gA1_ranked C dX1_isBefore_9 ?_
        refine x_iload_n C dX1_isBefore_12 rfl rfl ?_
        refine x_iload_n C dX1_isBefore_13 rfl rfl ?_
        refine x_callSi C gs_X1_32 (c_X1_slot u (k + 1) (u * 6 + k) (by omega)) rfl rfl (Nat.le_of_ble_eq_true rfl) ⟨(Nat.le_of_ble_eq_true rfl), (Nat.le_of_ble_eq_true rfl)⟩ ⟨Nat.zero_le _, Nat.zero_le _⟩ dX1_isBefore_14 ?_
        refine lA_rk C _ rfl (by omega) dX1_isBefore_17 ?_
        refine x_istore C dX1_isBefore_18 (by decide) ?_
        refine x_aload_n C dX1_isBefore_20 rfl rfl ?_
        refine gA1_ranked C dX1_isBefore_21 ?_
        refine x_iload_n C dX1_isBefore_24 rfl rfl ?_
        refine x_iload_n C dX1_isBefore_25 rfl rfl ?_
        refine x_callSi C gs_X1_32 (c_X1_slot w (k + 1) (w * 6 + k) (by omega)) rfl rfl (Nat.le_of_ble_eq_true rfl) ⟨(Nat.le_of_ble_eq_true rfl), (Nat.le_of_ble_eq_true rfl)⟩ ⟨Nat.zero_le _, Nat.zero_le _⟩ dX1_isBefore_26 ?_
        refine lA_rk C _ rfl (by omega) dX1_isBefore_29 ?_
        refine x_istore C dX1_isBefore_30 (by decide) ?_
        refine x_iload C dX1_isBefore_32 rfl ?_
        refine x_iload C dX1_isBefore_34 rfl ?_
        refine x_icmp_eq C (tgt := 52) dX1_isBefore_36 (by decide) (fun h2 => ?_) (fun h2 => ?_)
        · refine x_iinc C dX1_isBefore_52 rfl (nI_1 (k + 1)) (by decide) ?_
          refine x_goto C (tgt := 2) dX1_isBefore_55 (by decide) ?_
          exact ih (k + 1) _ _ (by omega) (by rw [← he]; show _ = lx_A rk (u * 6) (w * 6) (n + 1) k; rw [lx_A, if_pos h2])
        · refine x_iload C dX1_isBefore_39 rfl ?_
          refine x_iload C dX1_isBefore_41 rfl ?_
          refine x_icmp_le C (tgt := 50) dX1_isBefore_43 (by decide) (fun h3 => ?_) (fun h3 => ?_)
          · refine x_iconst C (v := 0) dX1_isBefore_50 (by decide) ?_
            exact x_zret C dX1_isBefore_51 (b := false) rfl (by rw [← he, lx_A, if_neg h2, decide_eq_false (Int32.not_lt.mpr h3)]) rfl
          · refine x_iconst C (v := 1) dX1_isBefore_46 (by decide) ?_
            refine x_goto C (tgt := 51) dX1_isBefore_47 (by decide) ?_
            exact x_zret C dX1_isBefore_51 (b := true) rfl (by rw [← he, lx_A, if_neg h2, decide_eq_true (Int32.not_le.mp h3)]) rfl
  exact loop 6 0 _ _ rfl rfl
theorem wo_cnt_f {q : Nat → Bool} {n : Nat} (h : q n = false) : wo_cnt q (n + 1) = wo_cnt q n := by rw [wo_cnt, h]; rfl
theorem wo_cnt_t {q : Nat → Bool} {n : Nat} (h : q n = true) : wo_cnt q (n + 1) = wo_cnt q n + 1 := by rw [wo_cnt, h]; rfl
theorem wo_cnt_le (q : Nat → Bool) : ∀ n, wo_cnt q n ≤ n
  | 0 => Nat.le_refl 0
  | n + 1 => by
    have h := wo_cnt_le q n
    unfold wo_cnt
    split <;> omega
set_option maxRecDepth 100000 in
set_option maxHeartbeats 4000000 in
theorem c_X1_placeOf (w : Nat) (hw : w < 12) (hg : gr ≤ 12) : wo_E l yX1_placeOf cX1_placeOf 4 (some .int) 2 D ((cI, .int) :: (cZ, .boolean) :: tys) [.ref (a 1), .int (nI w)] (wA cI cZ a gr en mk tl me rk dy ln ll ps lf lc tc tp lv rp rc pp ++ Y) (some (.int (nI (pl_A rk gr w)))) (wA cI cZ a gr en mk tl me rk dy ln ll ps lf lc tc tp lv rp rc pp ++ Y) := by
  refine wo_of (ls := [some (.ref (a 1)), some (.int (nI w)), none, none]) (by decide) (Nat.le_of_ble_eq_true rfl) rfl ?_
  intro p e s m args below meth c A C
  refine x_iconst C (v := 0) dX1_placeOf_0 (by decide) ?_
  refine x_istore_n C dX1_placeOf_1 rfl (by decide) ?_
  refine x_iconst C (v := 0) dX1_placeOf_2 (by decide) ?_
  refine x_istore_n C dX1_placeOf_3 rfl (by decide) ?_
  have loop : ∀ (n k : Nat), n + k = gr → wo_W p l e (wo_rm 2) s m args below meth c A D 0 0 4 (MQ below (wo_Q D ((cI, .int) :: (cZ, .boolean) :: tys) (some (.int (nI (pl_A rk gr w)))) (wA cI cZ a gr en mk tl me rk dy ln ll ps lf lc tc tp lv rp rc pp ++ Y) A) args s 0 0 A) 4 [some (.ref (a 1)), some (.int (nI w)), some (.int (nI (wo_cnt (fun o => lx_A rk (o * 6) (w * 6) 6 0) k))), some (.int (nI k))] [] (wA cI cZ a gr en mk tl me rk dy ln ll ps lf lc tc tp lv rp rc pp ++ Y) := by
    intro n
    induction n with
    | zero =>
      intro k hk
      refine x_iload_n C dX1_placeOf_4 rfl rfl ?_
      refine x_aload_n C dX1_placeOf_5 rfl rfl ?_
      refine gA1_growers C dX1_placeOf_6 ?_
      refine x_icmp_ge C (tgt := 30) dX1_placeOf_9 (by decide) (fun h => ?_) (fun h => ?_)
      · refine x_iconst C (v := 1) dX1_placeOf_30 (by decide) ?_
        refine x_iload_n C dX1_placeOf_31 rfl rfl ?_
        refine x_iadd C dX1_placeOf_32 ?_
        have hk2 : k = gr := by omega
        exact x_iret C dX1_placeOf_33 (by subst hk2; unfold pl_A; rw [show (1 : Int32) = nI 1 from rfl, nI_add]) rfl
      · exact absurd (show nI gr ≤ nI k from nI_le (by omega) (by omega)) h
    | succ n ih =>
      intro k hk
      refine x_iload_n C dX1_placeOf_4 rfl rfl ?_
      refine x_aload_n C dX1_placeOf_5 rfl rfl ?_
      refine gA1_growers C dX1_placeOf_6 ?_
      refine x_icmp_ge C (tgt := 30) dX1_placeOf_9 (by decide) (fun h => ?_) (fun h => ?_)
      · exact absurd (wo_le (by omega) (by omega) h) (by omega)
      · refine x_aload_n C dX1_placeOf_12 rfl rfl ?_
        refine x_iload_n C dX1_placeOf_13 rfl rfl ?_
        refine x_iload_n C dX1_placeOf_14 rfl rfl ?_
        refine x_callVi C gv_X1_58 (c_X1_isBefore k w (by omega) hw) 1 rfl rfl rfl rfl (Nat.le_of_ble_eq_true rfl) ⟨(Nat.le_of_ble_eq_true rfl), (Nat.le_of_ble_eq_true rfl)⟩ ⟨Nat.zero_le _, Nat.zero_le _⟩ dX1_placeOf_15 ?_
        refine x_if_eq C (tgt := 24) dX1_placeOf_18 (by decide) (fun h2 => ?_) (fun h2 => ?_)
        · have h3 := bz_f h2
          refine x_iinc C dX1_placeOf_24 rfl (nI_1 k) (by decide) ?_
          refine x_goto C (tgt := 4) dX1_placeOf_27 (by decide) ?_
          exact x_ls (by rw [wo_cnt_f (q := fun o => lx_A rk (o * 6) (w * 6) 6 0) h3]; rfl) (ih (k + 1) (by omega))
        · have h3 := bz_t h2
          refine x_iinc C dX1_placeOf_21 rfl (nI_1 _) (by decide) ?_
          refine x_iinc C dX1_placeOf_24 rfl (nI_1 k) (by decide) ?_
          refine x_goto C (tgt := 4) dX1_placeOf_27 (by decide) ?_
          exact x_ls (by rw [wo_cnt_t (q := fun o => lx_A rk (o * 6) (w * 6) 6 0) h3]; rfl) (ih (k + 1) (by omega))
  exact loop gr 0 (by omega)
/-- clearFor: rows of all 72 places -/
def wo_fill (f : Nat → Int32) (v : Int32) (n : Nat) : Nat → Int32 := fun j => if j < n then v else f j
theorem wo_fill_up (f : Nat → Int32) (v : Int32) (n : Nat) : va_up (wo_fill f v n) n v = wo_fill f v (n + 1) := by
  funext j; unfold va_up wo_fill
  by_cases h : j = n
  · rw [if_pos h, if_pos (by omega)]
  · rw [if_neg h]
    by_cases h2 : j < n
    · rw [if_pos h2, if_pos (by omega)]
    · rw [if_neg h2, if_neg (by omega)]
theorem wo_fill_0 (f : Nat → Int32) (v : Int32) : wo_fill f v 0 = f := by funext j; unfold wo_fill; rw [if_neg (by omega)]
set_option maxRecDepth 100000 in
set_option maxHeartbeats 4000000 in
theorem c_X1_clearFor (g : Nat) : wo_E l yX1_clearFor cX1_clearFor 3 (none) 0 D ((cI, .int) :: (cZ, .boolean) :: tys) [.ref (a 1), .int (nI g)] (wA cI cZ a gr en mk tl me rk dy ln ll ps lf lc tc tp lv rp rc pp ++ Y) none (wA cI cZ a (g) (0) (wo_fill mk (-1000000) 72) (wo_fill tl (-1000000) 72) (wo_fill me 0 72) (wo_fill rk (-1000000) 72) dy ln ll ps lf lc tc tp lv rp rc pp ++ Y) := by
  refine wo_of (ls := [some (.ref (a 1)), some (.int (nI g)), none]) (by decide) (Nat.le_of_ble_eq_true rfl) rfl ?_
  intro p e s m args below meth c A C
  refine x_aload_n C dX1_clearFor_0 rfl rfl ?_
  refine x_iload_n C dX1_clearFor_1 rfl rfl ?_
  refine pA1_growers C _ rfl dX1_clearFor_2 ?_
  refine x_aload_n C dX1_clearFor_5 rfl rfl ?_
  refine x_iconst C (v := 0) dX1_clearFor_6 (by decide) ?_
  refine pA1_entries C 0 rfl dX1_clearFor_7 ?_
  refine x_iconst C (v := 0) dX1_clearFor_10 (by decide) ?_
  refine x_istore_n C dX1_clearFor_11 rfl (by decide) ?_
  have loop : ∀ (n k : Nat), n + k = 72 → wo_W p l e (wo_rm 0) s m args below meth c A D 0 0 3 (MQ below (wo_Q D ((cI, .int) :: (cZ, .boolean) :: tys) none (wA cI cZ a (g) (0) (wo_fill mk (-1000000) 72) (wo_fill tl (-1000000) 72) (wo_fill me 0 72) (wo_fill rk (-1000000) 72) dy ln ll ps lf lc tc tp lv rp rc pp ++ Y) A) args s 0 0 A) 12 [some (.ref (a 1)), some (.int (nI g)), some (.int (nI k))] [] (wA cI cZ a (g) (0) (wo_fill mk (-1000000) k) (wo_fill tl (-1000000) k) (wo_fill me 0 k) (wo_fill rk (-1000000) k) dy ln ll ps lf lc tc tp lv rp rc pp ++ Y) := by
    intro n
    induction n with
    | zero =>
      intro k hk
      refine x_iload_n C dX1_clearFor_12 rfl rfl ?_
      refine x_bipush C (v := 72) dX1_clearFor_13 (by decide) ?_
      refine x_icmp_ge C (tgt := 55) dX1_clearFor_15 (by decide) (fun h => ?_) (fun h => ?_)
      · have hk2 : k = 72 := by omega
        subst hk2
        exact x_vret C dX1_clearFor_55 rfl rfl
      · exact absurd (show nI 72 ≤ nI k from nI_le (by omega) (by omega)) h
    | succ n ih =>
      intro k hk
      refine x_iload_n C dX1_clearFor_12 rfl rfl ?_
      refine x_bipush C (v := 72) dX1_clearFor_13 (by decide) ?_
      refine x_icmp_ge C (tgt := 55) dX1_clearFor_15 (by decide) (fun h => ?_) (fun h => ?_)
      · exact absurd (wo_le (a := 72) (b := k) (by omega) (by omega) h) (by omega)
      · refine x_aload_n C dX1_clearFor_18 rfl rfl ?_
        refine gA1_marks C dX1_clearFor_19 ?_
        refine x_iload_n C dX1_clearFor_22 rfl rfl ?_
        refine x_ldc C kk_X1_31 dX1_clearFor_23 ?_
        refine sA_mk C _ _ rfl (by omega) dX1_clearFor_25 ?_
        refine x_aload_n C dX1_clearFor_26 rfl rfl ?_
        refine gA1_tilts C dX1_clearFor_27 ?_
        refine x_iload_n C dX1_clearFor_30 rfl rfl ?_
        refine x_ldc C kk_X1_31 dX1_clearFor_31 ?_
        refine sA_tl C _ _ rfl (by omega) dX1_clearFor_33 ?_
        refine x_aload_n C dX1_clearFor_34 rfl rfl ?_
        refine gA1_measured C dX1_clearFor_35 ?_
        refine x_iload_n C dX1_clearFor_38 rfl rfl ?_
        refine x_iconst C (v := 0) dX1_clearFor_39 (by decide) ?_
        refine sA_me C _ _ rfl (by omega) dX1_clearFor_40 ?_
        refine x_aload_n C dX1_clearFor_41 rfl rfl ?_
        refine gA1_ranked C dX1_clearFor_42 ?_
        refine x_iload_n C dX1_clearFor_45 rfl rfl ?_
        refine x_ldc C kk_X1_31 dX1_clearFor_46 ?_
        refine sA_rk C _ _ rfl (by omega) dX1_clearFor_48 ?_
        refine x_iinc C dX1_clearFor_49 rfl (nI_1 k) (by decide) ?_
        refine x_goto C (tgt := 12) dX1_clearFor_52 (by decide) ?_
        exact x_ws (by rw [wo_fill_up, wo_fill_up, wo_fill_up, wo_fill_up]) (ih (k + 1) (by omega))
  exact x_ws (by rw [wo_fill_0, wo_fill_0, wo_fill_0, wo_fill_0]) (loop 72 0 rfl)
end SHT
end
section
/-! ===== the course: mirror functions and contracts ===== -/
theorem wo_dec (x : Int32) : x + Int32.ofInt (-1) = x - 1 := by rw [Int32.sub_eq_add_neg]; rfl
def wo_ff {α : Type} (f g : Nat → α) (n : Nat) : Nat → α := fun j => if j < n then g j else f j
theorem wo_ff_up {α : Type} (f g : Nat → α) (n : Nat) : va_up (wo_ff f g n) n (g n) = wo_ff f g (n + 1) := by
  funext j; unfold va_up wo_ff
  by_cases h : j = n
  · rw [if_pos h, if_pos (by omega), h]
  · rw [if_neg h]
    by_cases h2 : j < n
    · rw [if_pos h2, if_pos (by omega)]
    · rw [if_neg h2, if_neg (by omega)]
theorem wo_ff_0 {α : Type} (f g : Nat → α) : wo_ff f g 0 = f := by funext j; unfold wo_ff; rw [if_neg (by omega)]
theorem wo_ff_ge {α : Type} {f g : Nat → α} {n j : Nat} (h : n ≤ j) : wo_ff f g n j = f j := by unfold wo_ff; rw [if_neg (by omega)]
theorem wo_ff_lt {α : Type} {f g : Nat → α} {n j : Nat} (h : j < n) : wo_ff f g n j = g j := by unfold wo_ff; rw [if_pos h]
def pu_A (s : (Nat → Nat) × Nat) (w : Nat) : (Nat → Nat) × Nat := if s.2 < 12 then (va_up s.1 s.2 w, s.2 + 1) else s
def ln_num (lf : Nat → Bool) (s : (Nat → Nat) × Nat) : Nat → (Nat → Nat) × Nat
  | 0 => s
  | n + 1 => if lf n then ln_num lf s n else pu_A (ln_num lf s n) n
def ln_ok (tp : Nat → Nat) (tc lf : Nat → Bool) (pl w : Nat) : Bool := decide (nI (tp w) = nI pl) && tc w && !lf w
def ln_w (tp : Nat → Nat) (tc lf : Nat → Bool) (pl : Nat) : Nat → (Nat → Nat) × Nat → (Nat → Nat) × Nat
  | 0, s => s
  | n + 1, s => ln_w tp tc lf pl n (if ln_ok tp tc lf pl n then pu_A s n else s)
def ln_p (tp : Nat → Nat) (tc lf : Nat → Bool) (g : Nat) : Nat → (Nat → Nat) × Nat → (Nat → Nat) × Nat
  | 0, s => s
  | n + 1, s => ln_p tp tc lf g n (ln_w tp tc lf (n + 1) g s)
def lu_A (g dy : Nat) (ln : Nat → Nat) (lf tc : Nat → Bool) (tp : Nat → Nat) : (Nat → Nat) × Nat := if dy ≤ 3 then ln_num lf (ln, 0) g else if dy ≤ 6 then ln_p tp tc lf g g (ln, 0) else (ln, 0)
theorem pu_le {s : (Nat → Nat) × Nat} {w : Nat} (h : s.2 ≤ 12) : (pu_A s w).2 ≤ 12 := by unfold pu_A; split; show s.2 + 1 ≤ 12; omega; exact h
theorem ln_num_le {lf : Nat → Bool} {s : (Nat → Nat) × Nat} (h : s.2 ≤ 12) : ∀ n, (ln_num lf s n).2 ≤ 12
  | 0 => h
  | n + 1 => by
    unfold ln_num
    split
    · exact ln_num_le h n
    · exact pu_le (ln_num_le h n)
def ct_A (rk : Nat → Int32) (tp : Nat → Nat) (j : Nat) : Bool := decide (¬ rk (j * 6) = -1000000 ∧ nI (tp j) ≤ 8)
section CRS
variable {l : Launch} {D : va_G} {tys : List (ClassId × FieldType)} {cI cZ : ClassId} {a : Nat → Nat} {Y : va_W} {gr : Nat} {en : Nat} {mk : Nat → Int32} {tl : Nat → Int32} {me : Nat → Int32} {rk : Nat → Int32} {dy : Nat} {ln : Nat → Nat} {ll : Nat} {ps : Nat} {lf : Nat → Bool} {lc : Nat} {tc : Nat → Bool} {tp : Nat → Nat} {lv : Bool} {rp : Int32} {rc : Int32} {pp : Int32}
set_option maxRecDepth 100000 in
set_option maxHeartbeats 4000000 in
theorem c_X0_today  : wo_E l yX0_today cX0_today 1 (some .int) 0 D ((cI, .int) :: (cZ, .boolean) :: tys) [.ref (a 6)] (wA cI cZ a gr en mk tl me rk dy ln ll ps lf lc tc tp lv rp rc pp ++ Y) (some (.int (nI dy))) (wA cI cZ a gr en mk tl me rk dy ln ll ps lf lc tc tp lv rp rc pp ++ Y) := by
  refine wo_of (ls := [some (.ref (a 6))]) (by decide) (Nat.le_of_ble_eq_true rfl) rfl ?_
  intro p e s m args below meth c A C
  refine x_aload_n C dX0_today_0 rfl rfl ?_
  refine gA6_day C dX0_today_1 ?_
  exact x_iret C dX0_today_4 rfl rfl
set_option maxRecDepth 100000 in
set_option maxHeartbeats 4000000 in
theorem c_X0_howManyLeft  : wo_E l yX0_howManyLeft cX0_howManyLeft 1 (some .int) 0 D ((cI, .int) :: (cZ, .boolean) :: tys) [.ref (a 6)] (wA cI cZ a gr en mk tl me rk dy ln ll ps lf lc tc tp lv rp rc pp ++ Y) (some (.int (nI lc))) (wA cI cZ a gr en mk tl me rk dy ln ll ps lf lc tc tp lv rp rc pp ++ Y) := by
  refine wo_of (ls := [some (.ref (a 6))]) (by decide) (Nat.le_of_ble_eq_true rfl) rfl ?_
  intro p e s m args below meth c A C
  refine x_aload_n C dX0_howManyLeft_0 rfl rfl ?_
  refine gA6_leftCount C dX0_howManyLeft_1 ?_
  exact x_iret C dX0_howManyLeft_4 rfl rfl
set_option maxRecDepth 100000 in
set_option maxHeartbeats 4000000 in
theorem c_X0_hasLeft (w : Nat) (hw : w < 12) : wo_E l yX0_hasLeft cX0_hasLeft 2 (some .boolean) 0 D ((cI, .int) :: (cZ, .boolean) :: tys) [.ref (a 6), .int (nI w)] (wA cI cZ a gr en mk tl me rk dy ln ll ps lf lc tc tp lv rp rc pp ++ Y) (some (.int (bz (lf w)))) (wA cI cZ a gr en mk tl me rk dy ln ll ps lf lc tc tp lv rp rc pp ++ Y) := by
  refine wo_of (ls := [some (.ref (a 6)), some (.int (nI w))]) (by decide) (Nat.le_of_ble_eq_true rfl) rfl ?_
  intro p e s m args below meth c A C
  refine x_aload_n C dX0_hasLeft_0 rfl rfl ?_
  refine gA6_left C dX0_hasLeft_1 ?_
  refine x_iload_n C dX0_hasLeft_4 rfl rfl ?_
  refine lA_lf C _ rfl (by omega) dX0_hasLeft_5 ?_
  exact x_zret C dX0_hasLeft_6 rfl rfl rfl
set_option maxRecDepth 100000 in
set_option maxHeartbeats 4000000 in
theorem c_X0_whoseTurn (hp : ps ≤ 12) (hl : ll ≤ 12) : wo_E l yX0_whoseTurn cX0_whoseTurn 1 (some .int) 0 D ((cI, .int) :: (cZ, .boolean) :: tys) [.ref (a 6)] (wA cI cZ a gr en mk tl me rk dy ln ll ps lf lc tc tp lv rp rc pp ++ Y) (some (.int (if ps < ll then nI (ln ps) else -1000000))) (wA cI cZ a gr en mk tl me rk dy ln ll ps lf lc tc tp lv rp rc pp ++ Y) := by
  refine wo_of (ls := [some (.ref (a 6))]) (by decide) (Nat.le_of_ble_eq_true rfl) rfl ?_
  intro p e s m args below meth c A C
  refine x_aload_n C dX0_whoseTurn_0 rfl rfl ?_
  refine gA6_position C dX0_whoseTurn_1 ?_
  refine x_aload_n C dX0_whoseTurn_4 rfl rfl ?_
  refine gA6_lineLength C dX0_whoseTurn_5 ?_
  refine x_icmp_ge C (tgt := 23) dX0_whoseTurn_8 (by decide) (fun h => ?_) (fun h => ?_)
  · have h2 := wo_le (by omega) (by omega) h
    refine x_ldc C kk_X0_45 dX0_whoseTurn_23 ?_
    exact x_iret C dX0_whoseTurn_25 (by rw [if_neg (by omega)]) rfl
  · have h2 := wo_nle (by omega) (by omega) h
    refine x_aload_n C dX0_whoseTurn_11 rfl rfl ?_
    refine gA6_line C dX0_whoseTurn_12 ?_
    refine x_aload_n C dX0_whoseTurn_15 rfl rfl ?_
    refine gA6_position C dX0_whoseTurn_16 ?_
    refine lA_ln C _ rfl (by omega) dX0_whoseTurn_19 ?_
    refine x_goto C (tgt := 25) dX0_whoseTurn_20 (by decide) ?_
    exact x_iret C dX0_whoseTurn_25 (by rw [if_pos h2]) rfl
set_option maxRecDepth 100000 in
set_option maxHeartbeats 4000000 in
theorem c_X0_putInLine (w : Nat) (hl : ll ≤ 12) : wo_E l yX0_putInLine cX0_putInLine 2 (none) 0 D ((cI, .int) :: (cZ, .boolean) :: tys) [.ref (a 6), .int (nI w)] (wA cI cZ a gr en mk tl me rk dy ln ll ps lf lc tc tp lv rp rc pp ++ Y) none (wA cI cZ a gr en mk tl me rk dy ((pu_A (ln, ll) w).1) ((pu_A (ln, ll) w).2) ps lf lc tc tp lv rp rc pp ++ Y) := by
  refine wo_of (ls := [some (.ref (a 6)), some (.int (nI w))]) (by decide) (Nat.le_of_ble_eq_true rfl) rfl ?_
  intro p e s m args below meth c A C
  refine x_aload_n C dX0_putInLine_0 rfl rfl ?_
  refine gA6_lineLength C dX0_putInLine_1 ?_
  refine x_bipush C (v := 12) dX0_putInLine_4 (by decide) ?_
  refine x_icmp_ge C (tgt := 29) dX0_putInLine_6 (by decide) (fun h => ?_) (fun h => ?_)
  · have h2 := wo_le (a := 12) (b := ll) (by omega) (by omega) h
    exact x_vret C dX0_putInLine_29 rfl (by unfold pu_A; rw [if_neg (show ¬ (ln, ll).2 < 12 from by show ¬ ll < 12; omega)])
  · have h2 := wo_nle (a := 12) (b := ll) (by omega) (by omega) h
    refine x_aload_n C dX0_putInLine_9 rfl rfl ?_
    refine gA6_line C dX0_putInLine_10 ?_
    refine x_aload_n C dX0_putInLine_13 rfl rfl ?_
    refine gA6_lineLength C dX0_putInLine_14 ?_
    refine x_iload_n C dX0_putInLine_17 rfl rfl ?_
    refine sA_ln C _ rfl _ rfl (by omega) dX0_putInLine_18 ?_
    refine x_aload_n C dX0_putInLine_19 rfl rfl ?_
    refine x_dup C dX0_putInLine_20 rfl ?_
    refine gA6_lineLength C dX0_putInLine_21 ?_
    refine x_iconst C (v := 1) dX0_putInLine_24 (by decide) ?_
    refine x_iadd C dX0_putInLine_25 ?_
    refine pA6_lineLength C (ll + 1) (nI_1 ll) dX0_putInLine_26 ?_
    exact x_vret C dX0_putInLine_29 rfl (by unfold pu_A; rw [if_pos (show (ln, ll).2 < 12 from h2)])
set_option maxRecDepth 100000 in
set_option maxHeartbeats 4000000 in
theorem c_X0_takePlaces (hg : gr ≤ 12) : wo_E l yX0_takePlaces cX0_takePlaces 2 (none) 3 D ((cI, .int) :: (cZ, .boolean) :: tys) [.ref (a 6)] (wA cI cZ a gr en mk tl me rk dy ln ll ps lf lc tc tp lv rp rc pp ++ Y) none (wA cI cZ a gr en mk tl me rk dy ln ll ps lf lc tc (wo_ff tp (pl_A rk gr) gr) lv rp rc pp ++ Y) := by
  refine wo_of (ls := [some (.ref (a 6)), none]) (by decide) (Nat.le_of_ble_eq_true rfl) rfl ?_
  intro p e s m args below meth c A C
  refine x_iconst C (v := 0) dX0_takePlaces_0 (by decide) ?_
  refine x_istore_n C dX0_takePlaces_1 rfl (by decide) ?_
  have loop : ∀ (n k : Nat), n + k = gr → wo_W p l e (wo_rm 3) s m args below meth c A D 0 0 2 (MQ below (wo_Q D ((cI, .int) :: (cZ, .boolean) :: tys) none (wA cI cZ a gr en mk tl me rk dy ln ll ps lf lc tc (wo_ff tp (pl_A rk gr) gr) lv rp rc pp ++ Y) A) args s 0 0 A) 2 [some (.ref (a 6)), some (.int (nI k))] [] (wA cI cZ a gr en mk tl me rk dy ln ll ps lf lc tc (wo_ff tp (pl_A rk gr) k) lv rp rc pp ++ Y) := by
    intro n
    induction n with
    | zero =>
      intro k hk
      refine x_iload_n C dX0_takePlaces_2 rfl rfl ?_
      refine x_aload_n C dX0_takePlaces_3 rfl rfl ?_
      refine gA6_sheet C dX0_takePlaces_4 ?_
      refine x_callVi C gv_X0_62 (c_X1_howManyGrowers) 1 rfl rfl rfl rfl (Nat.le_of_ble_eq_true rfl) ⟨(Nat.le_of_ble_eq_true rfl), (Nat.le_of_ble_eq_true rfl)⟩ ⟨Nat.zero_le _, Nat.zero_le _⟩ dX0_takePlaces_7 ?_
      refine x_icmp_ge C (tgt := 33) dX0_takePlaces_10 (by decide) (fun h => ?_) (fun h => ?_)
      · have hk2 : k = gr := by omega
        subst hk2
        exact x_vret C dX0_takePlaces_33 rfl rfl
      · exact absurd (show nI gr ≤ nI k from nI_le (by omega) (by omega)) h
    | succ n ih =>
      intro k hk
      refine x_iload_n C dX0_takePlaces_2 rfl rfl ?_
      refine x_aload_n C dX0_takePlaces_3 rfl rfl ?_
      refine gA6_sheet C dX0_takePlaces_4 ?_
      refine x_callVi C gv_X0_62 (c_X1_howManyGrowers) 1 rfl rfl rfl rfl (Nat.le_of_ble_eq_true rfl) ⟨(Nat.le_of_ble_eq_true rfl), (Nat.le_of_ble_eq_true rfl)⟩ ⟨Nat.zero_le _, Nat.zero_le _⟩ dX0_takePlaces_7 ?_
      refine x_icmp_ge C (tgt := 33) dX0_takePlaces_10 (by decide) (fun h => ?_) (fun h => ?_)
      · exact absurd (wo_le (by omega) (by omega) h) (by omega)
      · refine x_aload_n C dX0_takePlaces_13 rfl rfl ?_
        refine gA6_takenPlaces C dX0_takePlaces_14 ?_
        refine x_iload_n C dX0_takePlaces_17 rfl rfl ?_
        refine x_aload_n C dX0_takePlaces_18 rfl rfl ?_
        refine gA6_sheet C dX0_takePlaces_19 ?_
        refine x_iload_n C dX0_takePlaces_22 rfl rfl ?_
        refine x_callVi C gv_X0_67 (c_X1_placeOf k (by omega) hg) 1 rfl rfl rfl rfl (Nat.le_of_ble_eq_true rfl) ⟨(Nat.le_of_ble_eq_true rfl), (Nat.le_of_ble_eq_true rfl)⟩ ⟨Nat.zero_le _, Nat.zero_le _⟩ dX0_takePlaces_23 ?_
        refine sA_tp C _ rfl _ rfl (by omega) dX0_takePlaces_26 ?_
        refine x_iinc C dX0_takePlaces_27 rfl (nI_1 k) (by decide) ?_
        refine x_goto C (tgt := 2) dX0_takePlaces_30 (by decide) ?_
        exact x_ws (by rw [wo_ff_up]) (ih (k + 1) (by omega))
  exact x_ws (by rw [wo_ff_0]) (loop gr 0 (by omega))
set_option maxRecDepth 100000 in
set_option maxHeartbeats 4000000 in
theorem c_X0_makeCut (hg : gr ≤ 12) : wo_E l yX0_makeCut cX0_makeCut 2 (none) 2 D ((cI, .int) :: (cZ, .boolean) :: tys) [.ref (a 6)] (wA cI cZ a gr en mk tl me rk dy ln ll ps lf lc tc tp lv rp rc pp ++ Y) none (wA cI cZ a gr en mk tl me rk dy ln ll ps lf lc (wo_ff tc (ct_A rk tp) gr) tp lv rp rc pp ++ Y) := by
  refine wo_of (ls := [some (.ref (a 6)), none]) (by decide) (Nat.le_of_ble_eq_true rfl) rfl ?_
  intro p e s m args below meth c A C
  refine x_iconst C (v := 0) dX0_makeCut_0 (by decide) ?_
  refine x_istore_n C dX0_makeCut_1 rfl (by decide) ?_
  have loop : ∀ (n k : Nat), n + k = gr → wo_W p l e (wo_rm 2) s m args below meth c A D 0 0 2 (MQ below (wo_Q D ((cI, .int) :: (cZ, .boolean) :: tys) none (wA cI cZ a gr en mk tl me rk dy ln ll ps lf lc (wo_ff tc (ct_A rk tp) gr) tp lv rp rc pp ++ Y) A) args s 0 0 A) 2 [some (.ref (a 6)), some (.int (nI k))] [] (wA cI cZ a gr en mk tl me rk dy ln ll ps lf lc (wo_ff tc (ct_A rk tp) k) tp lv rp rc pp ++ Y) := by
    intro n
    induction n with
    | zero =>
      intro k hk
      refine x_iload_n C dX0_makeCut_2 rfl rfl ?_
      refine x_aload_n C dX0_makeCut_3 rfl rfl ?_
      refine gA6_sheet C dX0_makeCut_4 ?_
      refine x_callVi C gv_X0_62 (c_X1_howManyGrowers) 1 rfl rfl rfl rfl (Nat.le_of_ble_eq_true rfl) ⟨(Nat.le_of_ble_eq_true rfl), (Nat.le_of_ble_eq_true rfl)⟩ ⟨Nat.zero_le _, Nat.zero_le _⟩ dX0_makeCut_7 ?_
      refine x_icmp_ge C (tgt := 54) dX0_makeCut_10 (by decide) (fun h => ?_) (fun h => ?_)
      · have hk2 : k = gr := by omega
        subst hk2
        exact x_vret C dX0_makeCut_54 rfl rfl
      · exact absurd (show nI gr ≤ nI k from nI_le (by omega) (by omega)) h
    | succ n ih =>
      intro k hk
      refine x_iload_n C dX0_makeCut_2 rfl rfl ?_
      refine x_aload_n C dX0_makeCut_3 rfl rfl ?_
      refine gA6_sheet C dX0_makeCut_4 ?_
      refine x_callVi C gv_X0_62 (c_X1_howManyGrowers) 1 rfl rfl rfl rfl (Nat.le_of_ble_eq_true rfl) ⟨(Nat.le_of_ble_eq_true rfl), (Nat.le_of_ble_eq_true rfl)⟩ ⟨Nat.zero_le _, Nat.zero_le _⟩ dX0_makeCut_7 ?_
      refine x_icmp_ge C (tgt := 54) dX0_makeCut_10 (by decide) (fun h => ?_) (fun h => ?_)
      · exact absurd (wo_le (by omega) (by omega) h) (by omega)
      · refine x_aload_n C dX0_makeCut_13 rfl rfl ?_
        refine gA6_throughCut C dX0_makeCut_14 ?_
        refine x_iload_n C dX0_makeCut_17 rfl rfl ?_
        refine x_aload_n C dX0_makeCut_18 rfl rfl ?_
        refine gA6_sheet C dX0_makeCut_19 ?_
        refine x_iload_n C dX0_makeCut_22 rfl rfl ?_
        refine x_callVi C gv_X0_71 (c_X1_bestOf k (by omega)) 1 rfl rfl rfl rfl (Nat.le_of_ble_eq_true rfl) ⟨(Nat.le_of_ble_eq_true rfl), (Nat.le_of_ble_eq_true rfl)⟩ ⟨Nat.zero_le _, Nat.zero_le _⟩ dX0_makeCut_23 ?_
        refine x_ldc C kk_X0_45 dX0_makeCut_26 ?_
        refine x_icmp_eq C (tgt := 46) dX0_makeCut_28 (by decide) (fun h2 => ?_) (fun h2 => ?_)
        · have h3 : ct_A rk tp k = false := decide_eq_false (fun z => z.1 h2)
          refine x_iconst C (v := 0) dX0_makeCut_46 (by decide) ?_
          refine sA_tc C (ct_A rk tp k) (by rw [h3]; rfl) k rfl (by omega) dX0_makeCut_47 ?_
          refine x_iinc C dX0_makeCut_48 rfl (nI_1 k) (by decide) ?_
          refine x_goto C (tgt := 2) dX0_makeCut_51 (by decide) ?_
          exact x_ws (by rw [wo_ff_up]) (ih (k + 1) (by omega))
        · refine x_aload_n C dX0_makeCut_31 rfl rfl ?_
          refine gA6_takenPlaces C dX0_makeCut_32 ?_
          refine x_iload_n C dX0_makeCut_35 rfl rfl ?_
          refine lA_tp C _ rfl (by omega) dX0_makeCut_36 ?_
          refine x_bipush C (v := 8) dX0_makeCut_37 (by decide) ?_
          refine x_icmp_gt C (tgt := 46) dX0_makeCut_39 (by decide) (fun h3 => ?_) (fun h3 => ?_)
          · have h4 : ct_A rk tp k = false := decide_eq_false (fun z => Int32.not_le.mpr h3 z.2)
            refine x_iconst C (v := 0) dX0_makeCut_46 (by decide) ?_
            refine sA_tc C (ct_A rk tp k) (by rw [h4]; rfl) k rfl (by omega) dX0_makeCut_47 ?_
            refine x_iinc C dX0_makeCut_48 rfl (nI_1 k) (by decide) ?_
            refine x_goto C (tgt := 2) dX0_makeCut_51 (by decide) ?_
            exact x_ws (by rw [wo_ff_up]) (ih (k + 1) (by omega))
          · have h4 : ct_A rk tp k = true := decide_eq_true ⟨h2, Int32.not_lt.mp h3⟩
            refine x_iconst C (v := 1) dX0_makeCut_42 (by decide) ?_
            refine x_goto C (tgt := 47) dX0_makeCut_43 (by decide) ?_
            refine sA_tc C (ct_A rk tp k) (by rw [h4]; rfl) k rfl (by omega) dX0_makeCut_47 ?_
            refine x_iinc C dX0_makeCut_48 rfl (nI_1 k) (by decide) ?_
            refine x_goto C (tgt := 2) dX0_makeCut_51 (by decide) ?_
            exact x_ws (by rw [wo_ff_up]) (ih (k + 1) (by omega))
  exact x_ws (by rw [wo_ff_0]) (loop gr 0 (by omega))
set_option maxRecDepth 100000 in
set_option maxHeartbeats 4000000 in
theorem c_X0_lineUpByNumber (hg : gr ≤ 12) (hl : ll ≤ 12) : wo_E l yX0_lineUpByNumber cX0_lineUpByNumber 2 (none) 1 D ((cI, .int) :: (cZ, .boolean) :: tys) [.ref (a 6)] (wA cI cZ a gr en mk tl me rk dy ln ll ps lf lc tc tp lv rp rc pp ++ Y) none (wA cI cZ a gr en mk tl me rk dy ((ln_num lf (ln, ll) gr).1) ((ln_num lf (ln, ll) gr).2) ps lf lc tc tp lv rp rc pp ++ Y) := by
  refine wo_of (ls := [some (.ref (a 6)), none]) (by decide) (Nat.le_of_ble_eq_true rfl) rfl ?_
  intro p e s m args below meth c A C
  refine x_iconst C (v := 0) dX0_lineUpByNumber_0 (by decide) ?_
  refine x_istore_n C dX0_lineUpByNumber_1 rfl (by decide) ?_
  have loop : ∀ (n k : Nat), n + k = gr → wo_W p l e (wo_rm 1) s m args below meth c A D 0 0 2 (MQ below (wo_Q D ((cI, .int) :: (cZ, .boolean) :: tys) none (wA cI cZ a gr en mk tl me rk dy ((ln_num lf (ln, ll) gr).1) ((ln_num lf (ln, ll) gr).2) ps lf lc tc tp lv rp rc pp ++ Y) A) args s 0 0 A) 2 [some (.ref (a 6)), some (.int (nI k))] [] (wA cI cZ a gr en mk tl me rk dy ((ln_num lf (ln, ll) k).1) ((ln_num lf (ln, ll) k).2) ps lf lc tc tp lv rp rc pp ++ Y) := by
    intro n
    induction n with
    | zero =>
      intro k hk
      refine x_iload_n C dX0_lineUpByNumber_2 rfl rfl ?_
      refine x_aload_n C dX0_lineUpByNumber_3 rfl rfl ?_
      refine gA6_sheet C dX0_lineUpByNumber_4 ?_
      refine x_callVi C gv_X0_62 (c_X1_howManyGrowers) 1 rfl rfl rfl rfl (Nat.le_of_ble_eq_true rfl) ⟨(Nat.le_of_ble_eq_true rfl), (Nat.le_of_ble_eq_true rfl)⟩ ⟨Nat.zero_le _, Nat.zero_le _⟩ dX0_lineUpByNumber_7 ?_
      refine x_icmp_ge C (tgt := 33) dX0_lineUpByNumber_10 (by decide) (fun h => ?_) (fun h => ?_)
      · have hk2 : k = gr := by omega
        subst hk2
        exact x_vret C dX0_lineUpByNumber_33 rfl rfl
      · exact absurd (show nI gr ≤ nI k from nI_le (by omega) (by omega)) h
    | succ n ih =>
      intro k hk
      refine x_iload_n C dX0_lineUpByNumber_2 rfl rfl ?_
      refine x_aload_n C dX0_lineUpByNumber_3 rfl rfl ?_
      refine gA6_sheet C dX0_lineUpByNumber_4 ?_
      refine x_callVi C gv_X0_62 (c_X1_howManyGrowers) 1 rfl rfl rfl rfl (Nat.le_of_ble_eq_true rfl) ⟨(Nat.le_of_ble_eq_true rfl), (Nat.le_of_ble_eq_true rfl)⟩ ⟨Nat.zero_le _, Nat.zero_le _⟩ dX0_lineUpByNumber_7 ?_
      refine x_icmp_ge C (tgt := 33) dX0_lineUpByNumber_10 (by decide) (fun h => ?_) (fun h => ?_)
      · exact absurd (wo_le (by omega) (by omega) h) (by omega)
      · refine x_aload_n C dX0_lineUpByNumber_13 rfl rfl ?_
        refine gA6_left C dX0_lineUpByNumber_14 ?_
        refine x_iload_n C dX0_lineUpByNumber_17 rfl rfl ?_
        refine lA_lf C _ rfl (by omega) dX0_lineUpByNumber_18 ?_
        refine x_if_ne C (tgt := 27) dX0_lineUpByNumber_19 (by decide) (fun h2 => ?_) (fun h2 => ?_)
        · have h3 : lf k = true := bz_t h2
          refine x_iinc C dX0_lineUpByNumber_27 rfl (nI_1 k) (by decide) ?_
          refine x_goto C (tgt := 2) dX0_lineUpByNumber_30 (by decide) ?_
          exact x_ws (by rw [ln_num, if_pos h3]) (ih (k + 1) (by omega))
        · have h3 : lf k = false := bz_f h2
          refine x_aload_n C dX0_lineUpByNumber_22 rfl rfl ?_
          refine x_iload_n C dX0_lineUpByNumber_23 rfl rfl ?_
          refine x_callVv C gv_X0_80 (c_X0_putInLine k (ln_num_le hl k)) 6 rfl rfl rfl rfl (Nat.le_of_ble_eq_true rfl) ⟨(Nat.le_of_ble_eq_true rfl), (Nat.le_of_ble_eq_true rfl)⟩ ⟨Nat.zero_le _, Nat.zero_le _⟩ dX0_lineUpByNumber_24 ?_
          refine x_iinc C dX0_lineUpByNumber_27 rfl (nI_1 k) (by decide) ?_
          refine x_goto C (tgt := 2) dX0_lineUpByNumber_30 (by decide) ?_
          exact x_ws (by rw [ln_num, if_neg (by rw [h3]; decide)]) (ih (k + 1) (by omega))
  exact loop gr 0 (by omega)
theorem ln_w_le {tp : Nat → Nat} {tc lf : Nat → Bool} {pl : Nat} : ∀ (n : Nat) (s : (Nat → Nat) × Nat), s.2 ≤ 12 → (ln_w tp tc lf pl n s).2 ≤ 12
  | 0, s, h => h
  | n + 1, s, h => by
    unfold ln_w
    refine ln_w_le n _ ?_
    split
    · exact pu_le h
    · exact h
set_option maxRecDepth 100000 in
set_option maxHeartbeats 4000000 in
theorem c_X0_lineUpByPlace (hg : gr ≤ 12) (hl : ll ≤ 12) : wo_E l yX0_lineUpByPlace cX0_lineUpByPlace 3 (none) 1 D ((cI, .int) :: (cZ, .boolean) :: tys) [.ref (a 6)] (wA cI cZ a gr en mk tl me rk dy ln ll ps lf lc tc tp lv rp rc pp ++ Y) none (wA cI cZ a gr en mk tl me rk dy ((ln_p tp tc lf gr gr (ln, ll)).1) ((ln_p tp tc lf gr gr (ln, ll)).2) ps lf lc tc tp lv rp rc pp ++ Y) := by
  refine wo_of (ls := [some (.ref (a 6)), none, none]) (by decide) (Nat.le_of_ble_eq_true rfl) rfl ?_
  intro p e s m args below meth c A C
  refine x_aload_n C dX0_lineUpByPlace_0 rfl rfl ?_
  refine gA6_sheet C dX0_lineUpByPlace_1 ?_
  refine x_callVi C gv_X0_62 (c_X1_howManyGrowers) 1 rfl rfl rfl rfl (Nat.le_of_ble_eq_true rfl) ⟨(Nat.le_of_ble_eq_true rfl), (Nat.le_of_ble_eq_true rfl)⟩ ⟨Nat.zero_le _, Nat.zero_le _⟩ dX0_lineUpByPlace_4 ?_
  refine x_istore_n C dX0_lineUpByPlace_7 rfl (by decide) ?_
  have outer : ∀ (q : Nat) (S : (Nat → Nat) × Nat) (x2 : Option Value), q ≤ 12 → S.2 ≤ 12 → ln_p tp tc lf gr q S = ln_p tp tc lf gr gr (ln, ll) → wo_W p l e (wo_rm 1) s m args below meth c A D 0 0 3 (MQ below (wo_Q D ((cI, .int) :: (cZ, .boolean) :: tys) none (wA cI cZ a gr en mk tl me rk dy ((ln_p tp tc lf gr gr (ln, ll)).1) ((ln_p tp tc lf gr gr (ln, ll)).2) ps lf lc tc tp lv rp rc pp ++ Y) A) args s 0 0 A) 8 [some (.ref (a 6)), some (.int (nI q)), x2] [] (wA cI cZ a gr en mk tl me rk dy (S.1) (S.2) ps lf lc tc tp lv rp rc pp ++ Y) := by
    intro q
    induction q with
    | zero =>
      intro S x2 hq hS he
      refine x_iload_n C dX0_lineUpByPlace_8 rfl rfl ?_
      refine x_iconst C (v := 1) dX0_lineUpByPlace_9 (by decide) ?_
      refine x_icmp_lt C (tgt := 72) dX0_lineUpByPlace_10 (by decide) (fun h => ?_) (fun h => ?_)
      · exact x_vret C dX0_lineUpByPlace_72 rfl (by rw [← he]; rfl)
      · exact absurd (show nI 0 < nI 1 by decide) h
    | succ q ihq =>
      intro S x2 hq hS he
      refine x_iload_n C dX0_lineUpByPlace_8 rfl rfl ?_
      refine x_iconst C (v := 1) dX0_lineUpByPlace_9 (by decide) ?_
      refine x_icmp_lt C (tgt := 72) dX0_lineUpByPlace_10 (by decide) (fun h => ?_) (fun h => ?_)
      · exact absurd (wo_lt (a := q + 1) (b := 1) (by omega) (by omega) h) (by omega)
      · refine x_aload_n C dX0_lineUpByPlace_13 rfl rfl ?_
        refine gA6_sheet C dX0_lineUpByPlace_14 ?_
        refine x_callVi C gv_X0_62 (c_X1_howManyGrowers) 1 rfl rfl rfl rfl (Nat.le_of_ble_eq_true rfl) ⟨(Nat.le_of_ble_eq_true rfl), (Nat.le_of_ble_eq_true rfl)⟩ ⟨Nat.zero_le _, Nat.zero_le _⟩ dX0_lineUpByPlace_17 ?_
        refine x_iconst C (v := 1) dX0_lineUpByPlace_20 (by decide) ?_
        refine x_isub C dX0_lineUpByPlace_21 ?_
        refine x_istore_n C dX0_lineUpByPlace_22 rfl (by decide) ?_
        have inner : ∀ (n : Nat) (S2 : (Nat → Nat) × Nat), n ≤ 12 → S2.2 ≤ 12 → ln_w tp tc lf (q + 1) n S2 = ln_w tp tc lf (q + 1) gr S → wo_W p l e (wo_rm 1) s m args below meth c A D 0 0 3 (MQ below (wo_Q D ((cI, .int) :: (cZ, .boolean) :: tys) none (wA cI cZ a gr en mk tl me rk dy ((ln_p tp tc lf gr gr (ln, ll)).1) ((ln_p tp tc lf gr gr (ln, ll)).2) ps lf lc tc tp lv rp rc pp ++ Y) A) args s 0 0 A) 23 [some (.ref (a 6)), some (.int (nI (q + 1))), some (.int (nI n - 1))] [] (wA cI cZ a gr en mk tl me rk dy (S2.1) (S2.2) ps lf lc tc tp lv rp rc pp ++ Y) := by
          intro n
          induction n with
          | zero =>
            intro S2 hn hS2 he2
            refine x_iload_n C dX0_lineUpByPlace_23 rfl rfl ?_
            refine x_if_lt C (tgt := 66) dX0_lineUpByPlace_24 (by decide) (fun h2 => ?_) (fun h2 => ?_)
            · refine x_iinc C dX0_lineUpByPlace_66 rfl (wo_m1' (b := q) rfl) (by decide) ?_
              refine x_goto C (tgt := 8) dX0_lineUpByPlace_69 (by decide) ?_
              exact ihq S2 _ (by omega) hS2 (by rw [← he, show S2 = ln_w tp tc lf (q + 1) gr S from he2]; rfl)
            · exact absurd (show nI 0 - 1 < 0 by decide) h2
          | succ n ihn =>
            intro S2 hn hS2 he2
            refine x_ls (ls2 := [some (.ref (a 6)), some (.int (nI (q + 1))), some (.int (nI n))]) (by rw [nI_pred]) ?_
            refine x_iload_n C dX0_lineUpByPlace_23 rfl rfl ?_
            refine x_if_lt C (tgt := 66) dX0_lineUpByPlace_24 (by decide) (fun h2 => ?_) (fun h2 => ?_)
            · exact absurd h2 (nI_pos (by omega))
            · refine x_aload_n C dX0_lineUpByPlace_27 rfl rfl ?_
              refine gA6_takenPlaces C dX0_lineUpByPlace_28 ?_
              refine x_iload_n C dX0_lineUpByPlace_31 rfl rfl ?_
              refine lA_tp C _ rfl (by omega) dX0_lineUpByPlace_32 ?_
              refine x_iload_n C dX0_lineUpByPlace_33 rfl rfl ?_
              refine x_icmp_ne C (tgt := 60) dX0_lineUpByPlace_34 (by decide) (fun h3 => ?_) (fun h3 => ?_)
              · have h9 : ln_ok tp tc lf (q + 1) n = false := by unfold ln_ok; rw [decide_eq_false h3]; rfl
                refine x_iinc C dX0_lineUpByPlace_60 rfl (wo_dec _) (by decide) ?_
                refine x_goto C (tgt := 23) dX0_lineUpByPlace_63 (by decide) ?_
                exact ihn S2 (by omega) hS2 (by rw [← he2]; show _ = ln_w tp tc lf (q + 1) (n + 1) S2; rw [ln_w, if_neg (by rw [h9]; decide)])
              · refine x_aload_n C dX0_lineUpByPlace_37 rfl rfl ?_
                refine gA6_throughCut C dX0_lineUpByPlace_38 ?_
                refine x_iload_n C dX0_lineUpByPlace_41 rfl rfl ?_
                refine lA_tc C _ rfl (by omega) dX0_lineUpByPlace_42 ?_
                refine x_if_eq C (tgt := 60) dX0_lineUpByPlace_43 (by decide) (fun h4 => ?_) (fun h4 => ?_)
                · have h9 : ln_ok tp tc lf (q + 1) n = false := by unfold ln_ok; rw [bz_f h4]; simp
                  refine x_iinc C dX0_lineUpByPlace_60 rfl (wo_dec _) (by decide) ?_
                  refine x_goto C (tgt := 23) dX0_lineUpByPlace_63 (by decide) ?_
                  exact ihn S2 (by omega) hS2 (by rw [← he2]; show _ = ln_w tp tc lf (q + 1) (n + 1) S2; rw [ln_w, if_neg (by rw [h9]; decide)])
                · refine x_aload_n C dX0_lineUpByPlace_46 rfl rfl ?_
                  refine gA6_left C dX0_lineUpByPlace_47 ?_
                  refine x_iload_n C dX0_lineUpByPlace_50 rfl rfl ?_
                  refine lA_lf C _ rfl (by omega) dX0_lineUpByPlace_51 ?_
                  refine x_if_ne C (tgt := 60) dX0_lineUpByPlace_52 (by decide) (fun h5 => ?_) (fun h5 => ?_)
                  · have h9 : ln_ok tp tc lf (q + 1) n = false := by unfold ln_ok; rw [bz_t h5]; simp
                    refine x_iinc C dX0_lineUpByPlace_60 rfl (wo_dec _) (by decide) ?_
                    refine x_goto C (tgt := 23) dX0_lineUpByPlace_63 (by decide) ?_
                    exact ihn S2 (by omega) hS2 (by rw [← he2]; show _ = ln_w tp tc lf (q + 1) (n + 1) S2; rw [ln_w, if_neg (by rw [h9]; decide)])
                  · have h9 : ln_ok tp tc lf (q + 1) n = true := by unfold ln_ok; rw [decide_eq_true h3, bz_t h4, bz_f h5]; rfl
                    refine x_aload_n C dX0_lineUpByPlace_55 rfl rfl ?_
                    refine x_iload_n C dX0_lineUpByPlace_56 rfl rfl ?_
                    refine x_callVv C gv_X0_80 (c_X0_putInLine n hS2) 6 rfl rfl rfl rfl (Nat.le_of_ble_eq_true rfl) ⟨(Nat.le_of_ble_eq_true rfl), (Nat.le_of_ble_eq_true rfl)⟩ ⟨Nat.zero_le _, Nat.zero_le _⟩ dX0_lineUpByPlace_57 ?_
                    refine x_iinc C dX0_lineUpByPlace_60 rfl (wo_dec _) (by decide) ?_
                    refine x_goto C (tgt := 23) dX0_lineUpByPlace_63 (by decide) ?_
                    exact ihn (pu_A S2 n) (by omega) (pu_le hS2) (by rw [← he2]; show _ = ln_w tp tc lf (q + 1) (n + 1) S2; rw [ln_w, if_pos h9])
        exact inner gr S hg hS rfl
  exact outer gr (ln, ll) _ hg hl rfl
theorem ln_p_le {tp : Nat → Nat} {tc lf : Nat → Bool} {g : Nat} : ∀ (n : Nat) (s : (Nat → Nat) × Nat), s.2 ≤ 12 → (ln_p tp tc lf g n s).2 ≤ 12
  | 0, s, h => h
  | n + 1, s, h => by
    unfold ln_p
    exact ln_p_le n _ (ln_w_le g s h)
theorem lu_le (g dy : Nat) (ln : Nat → Nat) (lf tc : Nat → Bool) (tp : Nat → Nat) : (lu_A g dy ln lf tc tp).2 ≤ 12 := by
  unfold lu_A
  split
  · exact ln_num_le (Nat.zero_le 12) _
  · split
    · exact ln_p_le _ _ (Nat.zero_le 12)
    · exact Nat.zero_le 12
set_option maxRecDepth 100000 in
set_option maxHeartbeats 4000000 in
theorem c_X0_lineUp (hg : gr ≤ 12) (hd : dy ≤ 7) : wo_E l yX0_lineUp cX0_lineUp 1 (none) 2 D ((cI, .int) :: (cZ, .boolean) :: tys) [.ref (a 6)] (wA cI cZ a gr en mk tl me rk dy ln ll ps lf lc tc tp lv rp rc pp ++ Y) none (wA cI cZ a gr en mk tl me rk (if (lu_A gr dy ln lf tc tp).2 = 0 then 7 else dy) ((lu_A gr dy ln lf tc tp).1) ((lu_A gr dy ln lf tc tp).2) (0) lf lc tc tp lv rp rc pp ++ Y) := by
  refine wo_of (ls := [some (.ref (a 6))]) (by decide) (Nat.le_of_ble_eq_true rfl) rfl ?_
  intro p e s m args below meth c A C
  refine x_aload_n C dX0_lineUp_0 rfl rfl ?_
  refine x_iconst C (v := 0) dX0_lineUp_1 (by decide) ?_
  refine pA6_position C 0 rfl dX0_lineUp_2 ?_
  refine x_aload_n C dX0_lineUp_5 rfl rfl ?_
  refine x_iconst C (v := 0) dX0_lineUp_6 (by decide) ?_
  refine pA6_lineLength C 0 rfl dX0_lineUp_7 ?_
  refine x_aload_n C dX0_lineUp_10 rfl rfl ?_
  refine gA6_day C dX0_lineUp_11 ?_
  refine x_iconst C (v := 3) dX0_lineUp_14 (by decide) ?_
  have fin : ∀ (S : (Nat → Nat) × Nat), S = lu_A gr dy ln lf tc tp → wo_W p l e (wo_rm 2) s m args below meth c A D 0 0 1 (MQ below (wo_Q D ((cI, .int) :: (cZ, .boolean) :: tys) none (wA cI cZ a gr en mk tl me rk (if (lu_A gr dy ln lf tc tp).2 = 0 then 7 else dy) ((lu_A gr dy ln lf tc tp).1) ((lu_A gr dy ln lf tc tp).2) (0) lf lc tc tp lv rp rc pp ++ Y) A) args s 0 0 A) 38 [some (.ref (a 6))] [] (wA cI cZ a gr en mk tl me rk dy (S.1) (S.2) (0) lf lc tc tp lv rp rc pp ++ Y) := by
    intro S hS
    have hSl : S.2 ≤ 12 := by rw [hS]; exact lu_le ..
    refine x_aload_n C dX0_lineUp_38 rfl rfl ?_
    refine gA6_lineLength C dX0_lineUp_39 ?_
    refine x_if_ne C (tgt := 51) dX0_lineUp_42 (by decide) (fun h => ?_) (fun h => ?_)
    · have h2 : ¬ S.2 = 0 := fun z => h (by rw [z]; rfl)
      exact x_vret C dX0_lineUp_51 rfl (by rw [← hS, if_neg h2])
    · have h2 : S.2 = 0 := wo_ieq (a := S.2) (b := 0) (by omega) (by omega) h
      refine x_aload_n C dX0_lineUp_45 rfl rfl ?_
      refine x_bipush C (v := 7) dX0_lineUp_46 (by decide) ?_
      refine pA6_day C 7 rfl dX0_lineUp_48 ?_
      exact x_vret C dX0_lineUp_51 rfl (by rw [← hS, if_pos h2])
  refine x_icmp_gt C (tgt := 25) dX0_lineUp_15 (by decide) (fun h => ?_) (fun h => ?_)
  · have h2 := wo_lt (a := 3) (b := dy) (by omega) (by omega) h
    refine x_aload_n C dX0_lineUp_25 rfl rfl ?_
    refine gA6_day C dX0_lineUp_26 ?_
    refine x_bipush C (v := 6) dX0_lineUp_29 (by decide) ?_
    refine x_icmp_gt C (tgt := 38) dX0_lineUp_31 (by decide) (fun h3 => ?_) (fun h3 => ?_)
    · have h4 := wo_lt (a := 6) (b := dy) (by omega) (by omega) h3
      exact fin (ln, 0) (by unfold lu_A; rw [if_neg (by omega), if_neg (by omega)])
    · have h4 := wo_nlt (a := 6) (b := dy) (by omega) (by omega) h3
      refine x_aload_n C dX0_lineUp_34 rfl rfl ?_
      refine x_callVv C gv_X0_77 (c_X0_lineUpByPlace hg (by omega)) 6 rfl rfl rfl rfl (Nat.le_of_ble_eq_true rfl) ⟨(Nat.le_of_ble_eq_true rfl), (Nat.le_of_ble_eq_true rfl)⟩ ⟨Nat.zero_le _, Nat.zero_le _⟩ dX0_lineUp_35 ?_
      exact fin (ln_p tp tc lf gr gr (ln, 0)) (by unfold lu_A; rw [if_neg (by omega), if_pos h4])
  · have h2 := wo_nlt (a := 3) (b := dy) (by omega) (by omega) h
    refine x_aload_n C dX0_lineUp_18 rfl rfl ?_
    refine x_callVv C gv_X0_74 (c_X0_lineUpByNumber hg (by omega)) 6 rfl rfl rfl rfl (Nat.le_of_ble_eq_true rfl) ⟨(Nat.le_of_ble_eq_true rfl), (Nat.le_of_ble_eq_true rfl)⟩ ⟨Nat.zero_le _, Nat.zero_le _⟩ dX0_lineUp_19 ?_
    refine x_goto C (tgt := 38) dX0_lineUp_22 (by decide) ?_
    exact fin (ln_num lf (ln, 0) gr) (by unfold lu_A; rw [if_pos h2])
set_option maxRecDepth 100000 in
set_option maxHeartbeats 4000000 in
theorem c_X0_restart (hg : gr ≤ 12) : wo_E l yX0_restart cX0_restart 2 (none) 3 D ((cI, .int) :: (cZ, .boolean) :: tys) [.ref (a 6)] (wA cI cZ a gr en mk tl me rk dy ln ll ps lf lc tc tp lv rp rc pp ++ Y) none (wA cI cZ a gr en mk tl me rk (if (lu_A gr 1 ln (wo_ff lf (fun _ => false) 12) (wo_ff tc (fun _ => false) 12) (wo_ff tp (fun _ => 0) 12)).2 = 0 then 7 else 1) ((lu_A gr 1 ln (wo_ff lf (fun _ => false) 12) (wo_ff tc (fun _ => false) 12) (wo_ff tp (fun _ => 0) 12)).1) ((lu_A gr 1 ln (wo_ff lf (fun _ => false) 12) (wo_ff tc (fun _ => false) 12) (wo_ff tp (fun _ => 0) 12)).2) (0) (wo_ff lf (fun _ => false) 12) (0) (wo_ff tc (fun _ => false) 12) (wo_ff tp (fun _ => 0) 12) lv rp rc pp ++ Y) := by
  refine wo_of (ls := [some (.ref (a 6)), none]) (by decide) (Nat.le_of_ble_eq_true rfl) rfl ?_
  intro p e s m args below meth c A C
  refine x_iconst C (v := 0) dX0_restart_0 (by decide) ?_
  refine x_istore_n C dX0_restart_1 rfl (by decide) ?_
  have loop : ∀ (n k : Nat), n + k = 12 → wo_W p l e (wo_rm 3) s m args below meth c A D 0 0 2 (MQ below (wo_Q D ((cI, .int) :: (cZ, .boolean) :: tys) none (wA cI cZ a gr en mk tl me rk (if (lu_A gr 1 ln (wo_ff lf (fun _ => false) 12) (wo_ff tc (fun _ => false) 12) (wo_ff tp (fun _ => 0) 12)).2 = 0 then 7 else 1) ((lu_A gr 1 ln (wo_ff lf (fun _ => false) 12) (wo_ff tc (fun _ => false) 12) (wo_ff tp (fun _ => 0) 12)).1) ((lu_A gr 1 ln (wo_ff lf (fun _ => false) 12) (wo_ff tc (fun _ => false) 12) (wo_ff tp (fun _ => 0) 12)).2) (0) (wo_ff lf (fun _ => false) 12) (0) (wo_ff tc (fun _ => false) 12) (wo_ff tp (fun _ => 0) 12) lv rp rc pp ++ Y) A) args s 0 0 A) 2 [some (.ref (a 6)), some (.int (nI k))] [] (wA cI cZ a gr en mk tl me rk dy ln ll ps (wo_ff lf (fun _ => false) k) lc (wo_ff tc (fun _ => false) k) (wo_ff tp (fun _ => 0) k) lv rp rc pp ++ Y) := by
    intro n
    induction n with
    | zero =>
      intro k hk
      refine x_iload_n C dX0_restart_2 rfl rfl ?_
      refine x_bipush C (v := 12) dX0_restart_3 (by decide) ?_
      refine x_icmp_ge C (tgt := 35) dX0_restart_5 (by decide) (fun h => ?_) (fun h => ?_)
      · have hk2 : k = 12 := by omega
        subst hk2
        refine x_aload_n C dX0_restart_35 rfl rfl ?_
        refine x_iconst C (v := 0) dX0_restart_36 (by decide) ?_
        refine pA6_leftCount C 0 rfl dX0_restart_37 ?_
        refine x_aload_n C dX0_restart_40 rfl rfl ?_
        refine x_iconst C (v := 1) dX0_restart_41 (by decide) ?_
        refine pA6_day C 1 rfl dX0_restart_42 ?_
        refine x_aload_n C dX0_restart_45 rfl rfl ?_
        refine x_callVv C gv_X0_36 (c_X0_lineUp hg (by omega)) 6 rfl rfl rfl rfl (Nat.le_of_ble_eq_true rfl) ⟨(Nat.le_of_ble_eq_true rfl), (Nat.le_of_ble_eq_true rfl)⟩ ⟨Nat.zero_le _, Nat.zero_le _⟩ dX0_restart_46 ?_
        exact x_vret C dX0_restart_49 rfl rfl
      · exact absurd (show nI 12 ≤ nI k from nI_le (by omega) (by omega)) h
    | succ n ih =>
      intro k hk
      refine x_iload_n C dX0_restart_2 rfl rfl ?_
      refine x_bipush C (v := 12) dX0_restart_3 (by decide) ?_
      refine x_icmp_ge C (tgt := 35) dX0_restart_5 (by decide) (fun h => ?_) (fun h => ?_)
      · exact absurd (wo_le (a := 12) (b := k) (by omega) (by omega) h) (by omega)
      · refine x_aload_n C dX0_restart_8 rfl rfl ?_
        refine gA6_left C dX0_restart_9 ?_
        refine x_iload_n C dX0_restart_12 rfl rfl ?_
        refine x_iconst C (v := 0) dX0_restart_13 (by decide) ?_
        refine sA_lf C false rfl k rfl (by omega) dX0_restart_14 ?_
        refine x_aload_n C dX0_restart_15 rfl rfl ?_
        refine gA6_throughCut C dX0_restart_16 ?_
        refine x_iload_n C dX0_restart_19 rfl rfl ?_
        refine x_iconst C (v := 0) dX0_restart_20 (by decide) ?_
        refine sA_tc C false rfl k rfl (by omega) dX0_restart_21 ?_
        refine x_aload_n C dX0_restart_22 rfl rfl ?_
        refine gA6_takenPlaces C dX0_restart_23 ?_
        refine x_iload_n C dX0_restart_26 rfl rfl ?_
        refine x_iconst C (v := 0) dX0_restart_27 (by decide) ?_
        refine sA_tp C 0 rfl k rfl (by omega) dX0_restart_28 ?_
        refine x_iinc C dX0_restart_29 rfl (nI_1 k) (by decide) ?_
        refine x_goto C (tgt := 2) dX0_restart_32 (by decide) ?_
        refine x_ws ?_ (ih (k + 1) (by omega))
        rw [wo_ff_up lf (fun _ => false), wo_ff_up tc (fun _ => false), wo_ff_up tp (fun _ => 0)]
  exact x_ws (by rw [wo_ff_0, wo_ff_0, wo_ff_0]) (loop 12 0 rfl)
/-- the day's end: places taken, the cut, the next line -/
def tp_E (rk : Nat → Int32) (g dy : Nat) (tp : Nat → Nat) : Nat → Nat := if dy = 3 ∨ dy = 5 then wo_ff tp (pl_A rk g) g else tp
def tc_E (rk : Nat → Int32) (g dy : Nat) (tp : Nat → Nat) (tc : Nat → Bool) : Nat → Bool := if dy = 3 then wo_ff tc (ct_A rk (tp_E rk g dy tp)) g else tc
def lu_E (rk : Nat → Int32) (g dy : Nat) (ln : Nat → Nat) (lf tc : Nat → Bool) (tp : Nat → Nat) : (Nat → Nat) × Nat := lu_A g (dy + 1) ln lf (tc_E rk g dy tp tc) (tp_E rk g dy tp)
set_option maxRecDepth 100000 in
set_option maxHeartbeats 4000000 in
theorem c_X0_endDay (hg : gr ≤ 12) (hd : dy ≤ 6) : wo_E l yX0_endDay cX0_endDay 1 (none) 4 D ((cI, .int) :: (cZ, .boolean) :: tys) [.ref (a 6)] (wA cI cZ a gr en mk tl me rk dy ln ll ps lf lc tc tp lv rp rc pp ++ Y) none (wA cI cZ a gr en mk tl me rk (if (lu_E rk gr dy ln lf tc tp).2 = 0 then 7 else dy + 1) ((lu_E rk gr dy ln lf tc tp).1) ((lu_E rk gr dy ln lf tc tp).2) (0) lf lc (tc_E rk gr dy tp tc) (tp_E rk gr dy tp) lv rp rc pp ++ Y) := by
  refine wo_of (ls := [some (.ref (a 6))]) (by decide) (Nat.le_of_ble_eq_true rfl) rfl ?_
  intro p e s m args below meth c A C
  have fin : ∀ (tp2 : Nat → Nat) (tc2 : Nat → Bool), tp2 = tp_E rk gr dy tp → tc2 = tc_E rk gr dy tp tc → wo_W p l e (wo_rm 4) s m args below meth c A D 0 0 1 (MQ below (wo_Q D ((cI, .int) :: (cZ, .boolean) :: tys) none (wA cI cZ a gr en mk tl me rk (if (lu_E rk gr dy ln lf tc tp).2 = 0 then 7 else dy + 1) ((lu_E rk gr dy ln lf tc tp).1) ((lu_E rk gr dy ln lf tc tp).2) (0) lf lc (tc_E rk gr dy tp tc) (tp_E rk gr dy tp) lv rp rc pp ++ Y) A) args s 0 0 A) 28 [some (.ref (a 6))] [] (wA cI cZ a gr en mk tl me rk dy ln ll ps lf lc (tc2) (tp2) lv rp rc pp ++ Y) := by
    intro tp2 tc2 h1 h2
    subst h1; subst h2
    refine x_aload_n C dX0_endDay_28 rfl rfl ?_
    refine x_dup C dX0_endDay_29 rfl ?_
    refine gA6_day C dX0_endDay_30 ?_
    refine x_iconst C (v := 1) dX0_endDay_33 (by decide) ?_
    refine x_iadd C dX0_endDay_34 ?_
    refine pA6_day C (dy + 1) (nI_1 dy) dX0_endDay_35 ?_
    refine x_aload_n C dX0_endDay_38 rfl rfl ?_
    refine x_callVv C gv_X0_36 (c_X0_lineUp hg (by omega)) 6 rfl rfl rfl rfl (Nat.le_of_ble_eq_true rfl) ⟨(Nat.le_of_ble_eq_true rfl), (Nat.le_of_ble_eq_true rfl)⟩ ⟨Nat.zero_le _, Nat.zero_le _⟩ dX0_endDay_39 ?_
    exact x_vret C dX0_endDay_42 rfl rfl
  refine x_aload_n C dX0_endDay_0 rfl rfl ?_
  refine gA6_day C dX0_endDay_1 ?_
  refine x_iconst C (v := 3) dX0_endDay_4 (by decide) ?_
  refine x_icmp_ne C (tgt := 16) dX0_endDay_5 (by decide) (fun h => ?_) (fun h => ?_)
  · have h2 : ¬ dy = 3 := fun z => h (by rw [z]; rfl)
    refine x_aload_n C dX0_endDay_16 rfl rfl ?_
    refine gA6_day C dX0_endDay_17 ?_
    refine x_iconst C (v := 5) dX0_endDay_20 (by decide) ?_
    refine x_icmp_ne C (tgt := 28) dX0_endDay_21 (by decide) (fun h3 => ?_) (fun h3 => ?_)
    · have h4 : ¬ dy = 5 := fun z => h3 (by rw [z]; rfl)
      exact fin _ _ (by unfold tp_E; rw [if_neg (by omega)]) (by unfold tc_E; rw [if_neg h2])
    · have h4 : dy = 5 := wo_ieq (a := dy) (b := 5) (by omega) (by omega) h3
      refine x_aload_n C dX0_endDay_24 rfl rfl ?_
      refine x_callVv C gv_X0_56 (c_X0_takePlaces hg) 6 rfl rfl rfl rfl (Nat.le_of_ble_eq_true rfl) ⟨(Nat.le_of_ble_eq_true rfl), (Nat.le_of_ble_eq_true rfl)⟩ ⟨Nat.zero_le _, Nat.zero_le _⟩ dX0_endDay_25 ?_
      exact fin _ _ (by unfold tp_E; rw [if_pos (by omega)]) (by unfold tc_E; rw [if_neg h2])
  · have h2 : dy = 3 := wo_ieq (a := dy) (b := 3) (by omega) (by omega) h
    refine x_aload_n C dX0_endDay_8 rfl rfl ?_
    refine x_callVv C gv_X0_56 (c_X0_takePlaces hg) 6 rfl rfl rfl rfl (Nat.le_of_ble_eq_true rfl) ⟨(Nat.le_of_ble_eq_true rfl), (Nat.le_of_ble_eq_true rfl)⟩ ⟨Nat.zero_le _, Nat.zero_le _⟩ dX0_endDay_9 ?_
    refine x_aload_n C dX0_endDay_12 rfl rfl ?_
    refine x_callVv C gv_X0_59 (c_X0_makeCut hg) 6 rfl rfl rfl rfl (Nat.le_of_ble_eq_true rfl) ⟨(Nat.le_of_ble_eq_true rfl), (Nat.le_of_ble_eq_true rfl)⟩ ⟨Nat.zero_le _, Nat.zero_le _⟩ dX0_endDay_13 ?_
    refine x_aload_n C dX0_endDay_16 rfl rfl ?_
    refine gA6_day C dX0_endDay_17 ?_
    refine x_iconst C (v := 5) dX0_endDay_20 (by decide) ?_
    refine x_icmp_ne C (tgt := 28) dX0_endDay_21 (by decide) (fun h3 => ?_) (fun h3 => ?_)
    · exact fin _ _ (by unfold tp_E; rw [if_pos (by omega)]) (by unfold tc_E tp_E; rw [if_pos h2, if_pos (by omega)])
    · exact absurd (wo_ieq (a := dy) (b := 5) (by omega) (by omega) h3) (by omega)
/-- from place ps on, past those that left -/
def fw_A (ln : Nat → Nat) (lf : Nat → Bool) (ll : Nat) : Nat → Nat → Nat
  | 0, ps => ps
  | n + 1, ps => if ps < ll then (if lf (ln ps) then fw_A ln lf ll n (ps + 1) else ps) else ps
def nx_A (ln : Nat → Nat) (lf : Nat → Bool) (ll ps : Nat) : Nat := fw_A ln lf ll (13 - ps) ps
theorem nx_step {ln : Nat → Nat} {lf : Nat → Bool} {ll ps : Nat} (hl : ll ≤ 12) (h : ps < ll) (h2 : lf (ln ps) = true) : nx_A ln lf ll ps = nx_A ln lf ll (ps + 1) := by
  unfold nx_A
  rw [show 13 - ps = (13 - (ps + 1)) + 1 by omega, fw_A, if_pos h, if_pos h2]
theorem nx_stop {ln : Nat → Nat} {lf : Nat → Bool} {ll ps : Nat} (hp : ps ≤ 12) (h2 : lf (ln ps) = false) : nx_A ln lf ll ps = ps := by
  unfold nx_A
  rw [show 13 - ps = (13 - (ps + 1)) + 1 by omega, fw_A]
  split
  · rw [if_neg (by rw [h2]; decide)]
  · rfl
theorem nx_end {ln : Nat → Nat} {lf : Nat → Bool} {ll ps : Nat} (hp : ps ≤ 12) (h : ll ≤ ps) : nx_A ln lf ll ps = ps := by
  unfold nx_A
  rw [show 13 - ps = (13 - (ps + 1)) + 1 by omega, fw_A, if_neg (by omega)]
set_option maxRecDepth 100000 in
set_option maxHeartbeats 4000000 in
theorem c_X0_goOn (W2 : va_W) (hl : ll ≤ 12) (hp : ps < ll) (hln : ∀ k, k < ll → ln k < 12)
    (h1 : nx_A ln lf ll (ps + 1) < ll → W2 = (wA cI cZ a gr en mk tl me rk dy ln ll (nx_A ln lf ll (ps + 1)) lf lc tc tp lv rp rc pp ++ Y))
    (h2 : ¬ nx_A ln lf ll (ps + 1) < ll → wo_E l yX0_endDay cX0_endDay 1 (none) 4 D ((cI, .int) :: (cZ, .boolean) :: tys) [.ref (a 6)] (wA cI cZ a gr en mk tl me rk dy ln ll (nx_A ln lf ll (ps + 1)) lf lc tc tp lv rp rc pp ++ Y) none W2) : wo_E l yX0_goOn cX0_goOn 1 (none) 5 D ((cI, .int) :: (cZ, .boolean) :: tys) [.ref (a 6)] (wA cI cZ a gr en mk tl me rk dy ln ll ps lf lc tc tp lv rp rc pp ++ Y) none W2 := by
  refine wo_of (ls := [some (.ref (a 6))]) (by decide) (Nat.le_of_ble_eq_true rfl) rfl ?_
  intro p e s m args below meth c A C
  refine x_aload_n C dX0_goOn_0 rfl rfl ?_
  refine x_dup C dX0_goOn_1 rfl ?_
  refine gA6_position C dX0_goOn_2 ?_
  refine x_iconst C (v := 1) dX0_goOn_5 (by decide) ?_
  refine x_iadd C dX0_goOn_6 ?_
  refine pA6_position C (ps + 1) (nI_1 ps) dX0_goOn_7 ?_
  have fin : ∀ k, k = nx_A ln lf ll (ps + 1) → k ≤ 12 → wo_W p l e (wo_rm 5) s m args below meth c A D 0 0 1 (MQ below (wo_Q D ((cI, .int) :: (cZ, .boolean) :: tys) none W2 A) args s 0 0 A) 51 [some (.ref (a 6))] [] (wA cI cZ a gr en mk tl me rk dy ln ll (k) lf lc tc tp lv rp rc pp ++ Y) := by
    intro k hk hk2
    subst hk
    refine x_aload_n C dX0_goOn_51 rfl rfl ?_
    refine gA6_position C dX0_goOn_52 ?_
    refine x_aload_n C dX0_goOn_55 rfl rfl ?_
    refine gA6_lineLength C dX0_goOn_56 ?_
    refine x_icmp_lt C (tgt := 66) dX0_goOn_59 (by decide) (fun h => ?_) (fun h => ?_)
    · have h3 := wo_lt (by omega) (by omega) h
      exact x_vret C dX0_goOn_66 rfl (h1 h3).symm
    · have h3 := wo_nlt (by omega) (by omega) h
      refine x_aload_n C dX0_goOn_62 rfl rfl ?_
      refine x_callVv C gv_X0_53 (h2 (by omega)) 6 rfl rfl rfl rfl (Nat.le_of_ble_eq_true rfl) ⟨(Nat.le_of_ble_eq_true rfl), (Nat.le_of_ble_eq_true rfl)⟩ ⟨Nat.zero_le _, Nat.zero_le _⟩ dX0_goOn_63 ?_
      exact x_vret C dX0_goOn_66 rfl rfl
  have loop : ∀ (n k : Nat), n + k = ll → nx_A ln lf ll k = nx_A ln lf ll (ps + 1) → wo_W p l e (wo_rm 5) s m args below meth c A D 0 0 1 (MQ below (wo_Q D ((cI, .int) :: (cZ, .boolean) :: tys) none W2 A) args s 0 0 A) 10 [some (.ref (a 6))] [] (wA cI cZ a gr en mk tl me rk dy ln ll (k) lf lc tc tp lv rp rc pp ++ Y) := by
    intro n
    induction n with
    | zero =>
      intro k hk he
      refine x_aload_n C dX0_goOn_10 rfl rfl ?_
      refine gA6_position C dX0_goOn_11 ?_
      refine x_aload_n C dX0_goOn_14 rfl rfl ?_
      refine gA6_lineLength C dX0_goOn_15 ?_
      refine x_icmp_ge C (tgt := 51) dX0_goOn_18 (by decide) (fun h => ?_) (fun h => ?_)
      · exact fin k (by rw [← he, nx_end (by omega) (by omega)]) (by omega)
      · exact absurd (show nI ll ≤ nI k from nI_le (by omega) (by omega)) h
    | succ n ih =>
      intro k hk he
      refine x_aload_n C dX0_goOn_10 rfl rfl ?_
      refine gA6_position C dX0_goOn_11 ?_
      refine x_aload_n C dX0_goOn_14 rfl rfl ?_
      refine gA6_lineLength C dX0_goOn_15 ?_
      refine x_icmp_ge C (tgt := 51) dX0_goOn_18 (by decide) (fun h => ?_) (fun h => ?_)
      · exact absurd (wo_le (by omega) (by omega) h) (by omega)
      · have hk3 := hln k (by omega)
        refine x_aload_n C dX0_goOn_21 rfl rfl ?_
        refine gA6_left C dX0_goOn_22 ?_
        refine x_aload_n C dX0_goOn_25 rfl rfl ?_
        refine gA6_line C dX0_goOn_26 ?_
        refine x_aload_n C dX0_goOn_29 rfl rfl ?_
        refine gA6_position C dX0_goOn_30 ?_
        refine lA_ln C _ rfl (by omega) dX0_goOn_33 ?_
        refine lA_lf C _ rfl (by omega) dX0_goOn_34 ?_
        refine x_if_eq C (tgt := 51) dX0_goOn_35 (by decide) (fun h3 => ?_) (fun h3 => ?_)
        · exact fin k (by rw [← he, nx_stop (by omega) (bz_f h3)]) (by omega)
        · refine x_aload_n C dX0_goOn_38 rfl rfl ?_
          refine x_dup C dX0_goOn_39 rfl ?_
          refine gA6_position C dX0_goOn_40 ?_
          refine x_iconst C (v := 1) dX0_goOn_43 (by decide) ?_
          refine x_iadd C dX0_goOn_44 ?_
          refine pA6_position C (k + 1) (nI_1 k) dX0_goOn_45 ?_
          refine x_goto C (tgt := 10) dX0_goOn_48 (by decide) ?_
          exact ih (k + 1) (by omega) (by rw [← he, nx_step hl (by omega) (bz_t h3)])
  exact loop (ll - (ps + 1)) (ps + 1) (by omega) rfl
set_option maxRecDepth 100000 in
set_option maxHeartbeats 4000000 in
theorem c_X0_dismiss (W2 : va_W) (w : Nat) (hw : w < 12) (hl : ll ≤ 12) (hp : ps ≤ 12) (hln : ∀ k, k < ll → ln k < 12)
    (h1 : ¬ (ps < ll ∧ ln ps = w) → W2 = (wA cI cZ a gr en mk tl me rk dy ln ll ps (va_up lf w true) (lc + 1) tc tp lv rp rc pp ++ Y))
    (h2 : ps < ll ∧ ln ps = w → wo_E l yX0_goOn cX0_goOn 1 (none) 5 D ((cI, .int) :: (cZ, .boolean) :: tys) [.ref (a 6)] (wA cI cZ a gr en mk tl me rk dy ln ll ps (va_up lf w true) (lc + 1) tc tp lv rp rc pp ++ Y) none W2) : wo_E l yX0_dismiss cX0_dismiss 2 (none) 6 D ((cI, .int) :: (cZ, .boolean) :: tys) [.ref (a 6), .int (nI w)] (wA cI cZ a gr en mk tl me rk dy ln ll ps lf lc tc tp lv rp rc pp ++ Y) none W2 := by
  refine wo_of (ls := [some (.ref (a 6)), some (.int (nI w))]) (by decide) (Nat.le_of_ble_eq_true rfl) rfl ?_
  intro p e s m args below meth c A C
  refine x_aload_n C dX0_dismiss_0 rfl rfl ?_
  refine gA6_left C dX0_dismiss_1 ?_
  refine x_iload_n C dX0_dismiss_4 rfl rfl ?_
  refine x_iconst C (v := 1) dX0_dismiss_5 (by decide) ?_
  refine sA_lf C true rfl w rfl hw dX0_dismiss_6 ?_
  refine x_aload_n C dX0_dismiss_7 rfl rfl ?_
  refine x_dup C dX0_dismiss_8 rfl ?_
  refine gA6_leftCount C dX0_dismiss_9 ?_
  refine x_iconst C (v := 1) dX0_dismiss_12 (by decide) ?_
  refine x_iadd C dX0_dismiss_13 ?_
  refine pA6_leftCount C (lc + 1) (nI_1 lc) dX0_dismiss_14 ?_
  refine x_aload_n C dX0_dismiss_17 rfl rfl ?_
  refine x_callVi C gv_X0_46 (c_X0_whoseTurn hp hl) 6 rfl rfl rfl rfl (Nat.le_of_ble_eq_true rfl) ⟨(Nat.le_of_ble_eq_true rfl), (Nat.le_of_ble_eq_true rfl)⟩ ⟨Nat.zero_le _, Nat.zero_le _⟩ dX0_dismiss_18 ?_
  refine x_iload_n C dX0_dismiss_21 rfl rfl ?_
  refine x_icmp_ne C (tgt := 29) dX0_dismiss_22 (by decide) (fun h => ?_) (fun h => ?_)
  · have h3 : ¬ (ps < ll ∧ ln ps = w) := fun z => h (by rw [if_pos z.1, z.2])
    exact x_vret C dX0_dismiss_29 rfl (h1 h3).symm
  · have h3 : ps < ll ∧ ln ps = w := by
      by_cases h4 : ps < ll
      · rw [if_pos h4] at h
        have h5 := hln ps h4
        exact ⟨h4, wo_ieq (by omega) (by omega) h⟩
      · rw [if_neg h4] at h
        have h5 := congrArg Int32.toInt h
        rw [nI_toInt (by omega), show (-1000000 : Int32).toInt = -1000000 by decide] at h5
        omega
    refine x_aload_n C dX0_dismiss_25 rfl rfl ?_
    refine x_callVv C gv_X0_50 (h2 h3) 6 rfl rfl rfl rfl (Nat.le_of_ble_eq_true rfl) ⟨(Nat.le_of_ble_eq_true rfl), (Nat.le_of_ble_eq_true rfl)⟩ ⟨Nat.zero_le _, Nat.zero_le _⟩ dX0_dismiss_26 ?_
    exact x_vret C dX0_dismiss_29 rfl rfl
end CRS
end
section
/-! ===== the reference: mirror functions and contracts ===== -/
def in_B (v lo hi : Int32) : Bool := decide (lo ≤ v ∧ v ≤ hi)
def ws_B (kd wo : Nat → Int32) (w : Nat) (f : Nat → Int32) : Nat → (Nat → Int32) × Nat
  | 0 => (f, 0)
  | r + 1 => if kd (7 * w + (r + 1)) = 1 then (rk_ins (ws_B kd wo w f r).2 (ws_B kd wo w f r).1 0 (wo (7 * w + (r + 1))), (ws_B kd wo w f r).2 + 1) else ws_B kd wo w f r
theorem ws_B_le (kd wo : Nat → Int32) (w : Nat) (f : Nat → Int32) : ∀ r, (ws_B kd wo w f r).2 ≤ r
  | 0 => Nat.le_refl 0
  | r + 1 => by
    have h := ws_B_le kd wo w f r
    unfold ws_B
    split
    · exact Nat.succ_le_succ h
    · omega
theorem up_ne {α : Type} {f : Nat → α} {k : Nat} {v : α} {j : Nat} (h : ¬ j = k) : va_up f k v j = f j := by unfold va_up; rw [if_neg h]
theorem up_eq {α : Type} {f : Nat → α} {k : Nat} {v : α} : va_up f k v k = v := by unfold va_up; rw [if_pos rfl]
theorem rk_ins_out : ∀ (n : Nat) (f : Nat → Int32) (fr : Nat) (v : Int32) (j : Nat), (j < fr ∨ fr + n < j) → rk_ins n f fr v j = f j
  | 0, f, fr, v, j, h => by unfold rk_ins; exact up_ne (by omega)
  | n + 1, f, fr, v, j, h => by
    unfold rk_ins
    split
    · rw [rk_ins_out n _ fr v j (by omega), up_ne (by omega)]
    · exact up_ne (by omega)
theorem rk_ins_congr : ∀ (n : Nat) (f g : Nat → Int32) (v : Int32), (∀ k, k < n → f k = g k) → ∀ k, k ≤ n → rk_ins n f 0 v k = rk_ins n g 0 v k
  | 0, f, g, v, h, k, hk => by
    have h0 : k = 0 := by omega
    subst h0
    unfold rk_ins; rw [up_eq, up_eq]
  | n + 1, f, g, v, h, k, hk => by
    unfold rk_ins
    rw [Nat.zero_add, h n (by omega)]
    split
    · by_cases hk2 : k ≤ n
      · refine rk_ins_congr n _ _ v (fun j hj => ?_) k hk2
        rw [up_ne (by omega), up_ne (by omega)]
        exact h j (by omega)
      · have h1 : k = n + 1 := by omega
        subst h1
        rw [rk_ins_out _ _ _ _ _ (by omega), rk_ins_out _ _ _ _ _ (by omega), up_eq, up_eq]
    · by_cases hk2 : k = n + 1
      · subst hk2; rw [up_eq, up_eq]
      · rw [up_ne hk2, up_ne hk2]; exact h k (by omega)
theorem ws_B_indep (kd wo : Nat → Int32) (w : Nat) (f g : Nat → Int32) : ∀ r, (ws_B kd wo w f r).2 = (ws_B kd wo w g r).2 ∧ ∀ k, k < (ws_B kd wo w f r).2 → (ws_B kd wo w f r).1 k = (ws_B kd wo w g r).1 k
  | 0 => ⟨rfl, fun k h => absurd h (Nat.not_lt_zero k)⟩
  | r + 1 => by
    obtain ⟨h1, h2⟩ := ws_B_indep kd wo w f g r
    unfold ws_B
    split
    · refine ⟨by rw [h1], fun k hk => ?_⟩
      show rk_ins (ws_B kd wo w f r).2 _ 0 _ k = rk_ins (ws_B kd wo w g r).2 _ 0 _ k
      rw [← h1]
      exact rk_ins_congr _ _ _ _ h2 k (Nat.le_of_lt_succ hk)
    · exact ⟨h1, h2⟩
/-- how many weights, and the k-th of them -/
def wn_B (kd wo : Nat → Int32) (w : Nat) : Nat := (ws_B kd wo w (fun _ => 0) 6).2
def wk_B (kd wo : Nat → Int32) (w : Nat) : Nat → Int32 := (ws_B kd wo w (fun _ => 0) 6).1
theorem wn_eq (kd wo : Nat → Int32) (w : Nat) (f : Nat → Int32) : (ws_B kd wo w f 6).2 = wn_B kd wo w := (ws_B_indep kd wo w f _ 6).1
theorem wk_eq (kd wo : Nat → Int32) (w : Nat) (f : Nat → Int32) {k : Nat} (h : k < wn_B kd wo w) : (ws_B kd wo w f 6).1 k = wk_B kd wo w k := (ws_B_indep kd wo w f _ 6).2 k (by rw [wn_eq]; exact h)
theorem wn_le (kd wo : Nat → Int32) (w : Nat) : wn_B kd wo w ≤ 6 := ws_B_le ..
def lx_B (f g : Nat → Int32) (n m : Nat) : Nat → Nat → Bool
  | 0, _ => false
  | q + 1, k => if k < n then (if k < m then (if f k = g k then lx_B f g n m q (k + 1) else decide (g k < f k)) else true) else false
def bf_B (kd wo : Nat → Int32) (u w : Nat) : Bool := lx_B (wk_B kd wo u) (wk_B kd wo w) (wn_B kd wo u) (wn_B kd wo w) 7 0
def pl_B (kd wo : Nat → Int32) (g w : Nat) : Nat := 1 + wo_cnt (fun o => decide (¬ o = w) && bf_B kd wo o w) g
theorem wo_7 (w d : Nat) : (7 : Int32) * nI w + nI d = nI (7 * w + d) := by rw [show (7 : Int32) = nI 7 from rfl, pk_mul, nI_add]
section MDL
variable {l : Launch} {D : va_G} {tys : List (ClassId × FieldType)} {cI cZ : ClassId} {a : Nat → Nat} {Y : va_W} {co : Int32} {gr : Nat} {dy : Nat} {kd : Nat → Int32} {wo : Nat → Int32} {me : Nat → Bool} {ti : Nat → Int32} {td : Nat → Bool} {la : Nat → Nat} {go : Nat → Bool} {kp : Nat → Bool} {od : Nat → Nat} {no : Nat} {ax : Int32} {lv : Bool} {rh : Bool} {re : Int32} {rs : Int32} {ph : Bool} {pr : Int32} {o1 : Nat → Int32} {o2 : Nat → Int32}
set_option maxRecDepth 100000 in
set_option maxHeartbeats 4000000 in
theorem c_X3_in {ws : va_W} (v lo hi : Int32) : wo_E l yX3_in cX3_in 3 (some .boolean) 0 D ((cI, .int) :: (cZ, .boolean) :: tys) [.int v, .int lo, .int hi] (ws) (some (.int (bz (in_B v lo hi)))) (ws) := by
  refine wo_of (ls := [some (.int v), some (.int lo), some (.int hi)]) (by decide) (Nat.le_of_ble_eq_true rfl) rfl ?_
  intro p e s m args below meth c A C
  refine x_iload_n C dX3_in_0 rfl rfl ?_
  refine x_iload_n C dX3_in_1 rfl rfl ?_
  refine x_icmp_lt C (tgt := 14) dX3_in_2 (by decide) (fun h => ?_) (fun h => ?_)
  · refine x_iconst C (v := 0) dX3_in_14 (by decide) ?_
    exact x_zret C dX3_in_15 (b := false) rfl (by rw [in_B, decide_eq_false (fun z => absurd h (Int32.not_lt.mpr z.1))]) rfl
  · refine x_iload_n C dX3_in_5 rfl rfl ?_
    refine x_iload_n C dX3_in_6 rfl rfl ?_
    refine x_icmp_gt C (tgt := 14) dX3_in_7 (by decide) (fun h2 => ?_) (fun h2 => ?_)
    · refine x_iconst C (v := 0) dX3_in_14 (by decide) ?_
      exact x_zret C dX3_in_15 (b := false) rfl (by rw [in_B, decide_eq_false (fun z => absurd h2 (Int32.not_lt.mpr z.2))]) rfl
    · refine x_iconst C (v := 1) dX3_in_10 (by decide) ?_
      refine x_goto C (tgt := 15) dX3_in_11 (by decide) ?_
      exact x_zret C dX3_in_15 (b := true) rfl (by rw [in_B, decide_eq_true ⟨Int32.not_lt.mp h, Int32.not_lt.mp h2⟩]) rfl
set_option maxRecDepth 100000 in
set_option maxHeartbeats 4000000 in
theorem c_X3_thrown  : wo_E l yX3_thrown cX3_thrown 1 (some .int) 0 D ((cI, .int) :: (cZ, .boolean) :: tys) [.ref (a 0)] (wB cI cZ a co gr dy kd wo me ti td la go kp od no ax lv rh re rs ph pr o1 o2 ++ Y) (some (.int co)) (wB cI cZ a co gr dy kd wo me ti td la go kp od no ax lv rh re rs ph pr o1 o2 ++ Y) := by
  refine wo_of (ls := [some (.ref (a 0))]) (by decide) (Nat.le_of_ble_eq_true rfl) rfl ?_
  intro p e s m args below meth c A C
  refine x_aload_n C dX3_thrown_0 rfl rfl ?_
  refine gB0_code C dX3_thrown_1 ?_
  exact x_iret C dX3_thrown_4 rfl rfl
set_option maxRecDepth 100000 in
set_option maxHeartbeats 4000000 in
theorem c_X3_isIn (w : Nat) (hw : w < 12) : wo_E l yX3_isIn cX3_isIn 2 (some .boolean) 0 D ((cI, .int) :: (cZ, .boolean) :: tys) [.ref (a 0), .int (nI w)] (wB cI cZ a co gr dy kd wo me ti td la go kp od no ax lv rh re rs ph pr o1 o2 ++ Y) (some (.int (bz (kp w && !go w)))) (wB cI cZ a co gr dy kd wo me ti td la go kp od no ax lv rh re rs ph pr o1 o2 ++ Y) := by
  refine wo_of (ls := [some (.ref (a 0)), some (.int (nI w))]) (by decide) (Nat.le_of_ble_eq_true rfl) rfl ?_
  intro p e s m args below meth c A C
  refine x_aload_n C dX3_isIn_0 rfl rfl ?_
  refine gB0_kept C dX3_isIn_1 ?_
  refine x_iload_n C dX3_isIn_4 rfl rfl ?_
  refine lB_kp C _ rfl (by omega) dX3_isIn_5 ?_
  refine x_if_eq C (tgt := 22) dX3_isIn_6 (by decide) (fun h => ?_) (fun h => ?_)
  · refine x_iconst C (v := 0) dX3_isIn_22 (by decide) ?_
    exact x_zret C dX3_isIn_23 (b := false) rfl (by rw [bz_f h]; rfl) rfl
  · refine x_aload_n C dX3_isIn_9 rfl rfl ?_
    refine gB0_gone C dX3_isIn_10 ?_
    refine x_iload_n C dX3_isIn_13 rfl rfl ?_
    refine lB_go C _ rfl (by omega) dX3_isIn_14 ?_
    refine x_if_ne C (tgt := 22) dX3_isIn_15 (by decide) (fun h2 => ?_) (fun h2 => ?_)
    · refine x_iconst C (v := 0) dX3_isIn_22 (by decide) ?_
      exact x_zret C dX3_isIn_23 (b := false) rfl (by rw [bz_t h, bz_t h2]; rfl) rfl
    · refine x_iconst C (v := 1) dX3_isIn_18 (by decide) ?_
      refine x_goto C (tgt := 23) dX3_isIn_19 (by decide) ?_
      exact x_zret C dX3_isIn_23 (b := true) rfl (by rw [bz_t h, bz_f h2]; rfl) rfl
set_option maxRecDepth 100000 in
set_option maxHeartbeats 4000000 in
theorem c_X3_weightsOf_o1 (w : Nat) (hw : w < 12) : wo_E l yX3_weightsOf cX3_weightsOf 7 (some .int) 0 D ((cI, .int) :: (cZ, .boolean) :: tys) [.ref (a 0), .int (nI w), .ref (a 10)] (wB cI cZ a co gr dy kd wo me ti td la go kp od no ax lv rh re rs ph pr o1 o2 ++ Y) (some (.int (nI (wn_B kd wo w)))) (wB cI cZ a co gr dy kd wo me ti td la go kp od no ax lv rh re rs ph pr ((ws_B kd wo w o1 6).1) o2 ++ Y) := by
  refine wo_of (ls := [some (.ref (a 0)), some (.int (nI w)), some (.ref (a 10)), none, none, none, none]) (by decide) (Nat.le_of_ble_eq_true rfl) rfl ?_
  intro p e s m args below meth c A C
  refine x_iconst C (v := 0) dX3_weightsOf_0 (by decide) ?_
  refine x_istore_n C dX3_weightsOf_1 rfl (by decide) ?_
  refine x_iconst C (v := 1) dX3_weightsOf_2 (by decide) ?_
  refine x_istore C dX3_weightsOf_3 (by decide) ?_
  have outer : ∀ (n r : Nat) (x5 x6 : Option Value), n + r = 6 → wo_W p l e (wo_rm 0) s m args below meth c A D 0 0 7 (MQ below (wo_Q D ((cI, .int) :: (cZ, .boolean) :: tys) (some (.int (nI (wn_B kd wo w)))) (wB cI cZ a co gr dy kd wo me ti td la go kp od no ax lv rh re rs ph pr ((ws_B kd wo w o1 6).1) o2 ++ Y) A) args s 0 0 A) 5 [some (.ref (a 0)), some (.int (nI w)), some (.ref (a 10)), some (.int (nI (ws_B kd wo w o1 r).2)), some (.int (nI (r + 1))), x5, x6] [] (wB cI cZ a co gr dy kd wo me ti td la go kp od no ax lv rh re rs ph pr ((ws_B kd wo w o1 r).1) o2 ++ Y) := by
    intro n
    induction n with
    | zero =>
      intro r x5 x6 hr
      refine x_iload C dX3_weightsOf_5 rfl ?_
      refine x_bipush C (v := 6) dX3_weightsOf_7 (by decide) ?_
      refine x_icmp_gt C (tgt := 92) dX3_weightsOf_9 (by decide) (fun h => ?_) (fun h => ?_)
      · have hr2 : r = 6 := by omega
        subst hr2
        refine x_iload_n C dX3_weightsOf_92 rfl rfl ?_
        exact x_iret C dX3_weightsOf_93 (by rw [wn_eq]) rfl
      · exact absurd (show nI 6 < nI (r + 1) from nI_lt (by omega) (by omega)) h
    | succ n ih =>
      intro r x5 x6 hr
      refine x_iload C dX3_weightsOf_5 rfl ?_
      refine x_bipush C (v := 6) dX3_weightsOf_7 (by decide) ?_
      refine x_icmp_gt C (tgt := 92) dX3_weightsOf_9 (by decide) (fun h => ?_) (fun h => ?_)
      · exact absurd (wo_lt (a := 6) (b := r + 1) (by omega) (by omega) h) (by omega)
      · refine x_bipush C (v := 7) dX3_weightsOf_12 (by decide) ?_
        refine x_iload_n C dX3_weightsOf_14 rfl rfl ?_
        refine x_imul C dX3_weightsOf_15 ?_
        refine x_iload C dX3_weightsOf_16 rfl ?_
        refine x_iadd C dX3_weightsOf_18 ?_
        refine x_top (wo_7 w (r + 1)) ?_
        refine x_istore C dX3_weightsOf_19 (by decide) ?_
        refine x_aload_n C dX3_weightsOf_21 rfl rfl ?_
        refine gB0_kind C dX3_weightsOf_22 ?_
        refine x_iload C dX3_weightsOf_25 rfl ?_
        refine lB_kd C _ rfl (by omega) dX3_weightsOf_27 ?_
        refine x_iconst C (v := 1) dX3_weightsOf_28 (by decide) ?_
        refine x_icmp_ne C (tgt := 86) dX3_weightsOf_29 (by decide) (fun h2 => ?_) (fun h2 => ?_)
        · refine x_iinc C dX3_weightsOf_86 rfl (nI_1 (r + 1)) (by decide) ?_
          refine x_goto C (tgt := 5) dX3_weightsOf_89 (by decide) ?_
          have h9 := fun x5 x6 => ih (r + 1) x5 x6 (by omega)
          rw [show (ws_B kd wo w o1 (r + 1)) = ws_B kd wo w o1 r from by rw [ws_B, if_neg h2]] at h9
          exact h9 _ _
        · have hle := ws_B_le kd wo w o1 r
          refine x_iload_n C dX3_weightsOf_32 rfl rfl ?_
          refine x_istore C dX3_weightsOf_33 (by decide) ?_
          have hs : ws_B kd wo w o1 (r + 1) = (rk_ins (ws_B kd wo w o1 r).2 (ws_B kd wo w o1 r).1 0 (wo (7 * w + (r + 1))), (ws_B kd wo w o1 r).2 + 1) := by rw [ws_B, if_pos h2]
          have inner : ∀ (k : Nat) (f : Nat → Int32), k ≤ 5 → rk_ins k f 0 (wo (7 * w + (r + 1))) = rk_ins (ws_B kd wo w o1 r).2 (ws_B kd wo w o1 r).1 0 (wo (7 * w + (r + 1))) → wo_W p l e (wo_rm 0) s m args below meth c A D 0 0 7 (MQ below (wo_Q D ((cI, .int) :: (cZ, .boolean) :: tys) (some (.int (nI (wn_B kd wo w)))) (wB cI cZ a co gr dy kd wo me ti td la go kp od no ax lv rh re rs ph pr ((ws_B kd wo w o1 6).1) o2 ++ Y) A) args s 0 0 A) 35 [some (.ref (a 0)), some (.int (nI w)), some (.ref (a 10)), some (.int (nI (ws_B kd wo w o1 r).2)), some (.int (nI (r + 1))), some (.int (nI (7 * w + (r + 1)))), some (.int (nI k))] [] (wB cI cZ a co gr dy kd wo me ti td la go kp od no ax lv rh re rs ph pr (f) o2 ++ Y) := by
            intro k
            induction k with
            | zero =>
              intro f hk he
              refine x_iload C dX3_weightsOf_35 rfl ?_
              refine x_if_le C (tgt := 72) dX3_weightsOf_37 (by decide) (fun h3 => ?_) (fun h3 => ?_)
              · refine x_aload_n C dX3_weightsOf_72 rfl rfl ?_
                refine x_iload C dX3_weightsOf_73 rfl ?_
                refine x_aload_n C dX3_weightsOf_75 rfl rfl ?_
                refine gB0_worth C dX3_weightsOf_76 ?_
                refine x_iload C dX3_weightsOf_79 rfl ?_
                refine lB_wo C _ rfl (by omega) dX3_weightsOf_81 ?_
                refine sB_o1 C _ 0 rfl (by omega) dX3_weightsOf_82 ?_
                refine x_iinc C dX3_weightsOf_83 rfl (nI_1 _) (by decide) ?_
                refine x_iinc C dX3_weightsOf_86 rfl (nI_1 (r + 1)) (by decide) ?_
                refine x_goto C (tgt := 5) dX3_weightsOf_89 (by decide) ?_
                have h9 := fun x5 x6 => ih (r + 1) x5 x6 (by omega)
                rw [hs, ← he, rk_ins] at h9
                exact h9 _ _
              · exact absurd (show nI 0 ≤ 0 by decide) h3
            | succ k ihk =>
              intro f hk he
              refine x_iload C dX3_weightsOf_35 rfl ?_
              refine x_if_le C (tgt := 72) dX3_weightsOf_37 (by decide) (fun h3 => ?_) (fun h3 => ?_)
              · exact absurd (wo_le (a := k + 1) (b := 0) (by omega) (by omega) h3) (by omega)
              · refine x_aload_n C dX3_weightsOf_40 rfl rfl ?_
                refine x_iload C dX3_weightsOf_41 rfl ?_
                refine x_iconst C (v := 1) dX3_weightsOf_43 (by decide) ?_
                refine x_isub C dX3_weightsOf_44 ?_
                refine lB_o1 C k (wo_m1 rfl) (by omega) dX3_weightsOf_45 ?_
                refine x_aload_n C dX3_weightsOf_46 rfl rfl ?_
                refine gB0_worth C dX3_weightsOf_47 ?_
                refine x_iload C dX3_weightsOf_50 rfl ?_
                refine lB_wo C _ rfl (by omega) dX3_weightsOf_52 ?_
                refine x_icmp_ge C (tgt := 72) dX3_weightsOf_53 (by decide) (fun h4 => ?_) (fun h4 => ?_)
                · refine x_aload_n C dX3_weightsOf_72 rfl rfl ?_
                  refine x_iload C dX3_weightsOf_73 rfl ?_
                  refine x_aload_n C dX3_weightsOf_75 rfl rfl ?_
                  refine gB0_worth C dX3_weightsOf_76 ?_
                  refine x_iload C dX3_weightsOf_79 rfl ?_
                  refine lB_wo C _ rfl (by omega) dX3_weightsOf_81 ?_
                  refine sB_o1 C _ (k + 1) rfl (by omega) dX3_weightsOf_82 ?_
                  refine x_iinc C dX3_weightsOf_83 rfl (nI_1 _) (by decide) ?_
                  refine x_iinc C dX3_weightsOf_86 rfl (nI_1 (r + 1)) (by decide) ?_
                  refine x_goto C (tgt := 5) dX3_weightsOf_89 (by decide) ?_
                  have h9 := fun x5 x6 => ih (r + 1) x5 x6 (by omega)
                  rw [hs, ← he, rk_ins, Nat.zero_add, if_neg (Int32.not_lt.mpr h4)] at h9
                  exact h9 _ _
                · have h5 : f k < wo (7 * w + (r + 1)) := Int32.not_le.mp h4
                  refine x_aload_n C dX3_weightsOf_56 rfl rfl ?_
                  refine x_iload C dX3_weightsOf_57 rfl ?_
                  refine x_aload_n C dX3_weightsOf_59 rfl rfl ?_
                  refine x_iload C dX3_weightsOf_60 rfl ?_
                  refine x_iconst C (v := 1) dX3_weightsOf_62 (by decide) ?_
                  refine x_isub C dX3_weightsOf_63 ?_
                  refine lB_o1 C k (wo_m1 rfl) (by omega) dX3_weightsOf_64 ?_
                  refine sB_o1 C _ (k + 1) rfl (by omega) dX3_weightsOf_65 ?_
                  refine x_iinc C dX3_weightsOf_66 rfl (wo_m1' (b := k) rfl) (by decide) ?_
                  refine x_goto C (tgt := 35) dX3_weightsOf_69 (by decide) ?_
                  exact ihk _ (by omega) (by rw [← he]; show _ = rk_ins (k + 1) f 0 _; rw [rk_ins, Nat.zero_add, if_pos h5])
          exact inner (ws_B kd wo w o1 r).2 (ws_B kd wo w o1 r).1 (by omega) rfl
  exact outer 6 0 _ _ rfl
set_option maxRecDepth 100000 in
set_option maxHeartbeats 4000000 in
theorem c_X3_weightsOf_o2 (w : Nat) (hw : w < 12) : wo_E l yX3_weightsOf cX3_weightsOf 7 (some .int) 0 D ((cI, .int) :: (cZ, .boolean) :: tys) [.ref (a 0), .int (nI w), .ref (a 11)] (wB cI cZ a co gr dy kd wo me ti td la go kp od no ax lv rh re rs ph pr o1 o2 ++ Y) (some (.int (nI (wn_B kd wo w)))) (wB cI cZ a co gr dy kd wo me ti td la go kp od no ax lv rh re rs ph pr o1 ((ws_B kd wo w o2 6).1) ++ Y) := by
  refine wo_of (ls := [some (.ref (a 0)), some (.int (nI w)), some (.ref (a 11)), none, none, none, none]) (by decide) (Nat.le_of_ble_eq_true rfl) rfl ?_
  intro p e s m args below meth c A C
  refine x_iconst C (v := 0) dX3_weightsOf_0 (by decide) ?_
  refine x_istore_n C dX3_weightsOf_1 rfl (by decide) ?_
  refine x_iconst C (v := 1) dX3_weightsOf_2 (by decide) ?_
  refine x_istore C dX3_weightsOf_3 (by decide) ?_
  have outer : ∀ (n r : Nat) (x5 x6 : Option Value), n + r = 6 → wo_W p l e (wo_rm 0) s m args below meth c A D 0 0 7 (MQ below (wo_Q D ((cI, .int) :: (cZ, .boolean) :: tys) (some (.int (nI (wn_B kd wo w)))) (wB cI cZ a co gr dy kd wo me ti td la go kp od no ax lv rh re rs ph pr o1 ((ws_B kd wo w o2 6).1) ++ Y) A) args s 0 0 A) 5 [some (.ref (a 0)), some (.int (nI w)), some (.ref (a 11)), some (.int (nI (ws_B kd wo w o2 r).2)), some (.int (nI (r + 1))), x5, x6] [] (wB cI cZ a co gr dy kd wo me ti td la go kp od no ax lv rh re rs ph pr o1 ((ws_B kd wo w o2 r).1) ++ Y) := by
    intro n
    induction n with
    | zero =>
      intro r x5 x6 hr
      refine x_iload C dX3_weightsOf_5 rfl ?_
      refine x_bipush C (v := 6) dX3_weightsOf_7 (by decide) ?_
      refine x_icmp_gt C (tgt := 92) dX3_weightsOf_9 (by decide) (fun h => ?_) (fun h => ?_)
      · have hr2 : r = 6 := by omega
        subst hr2
        refine x_iload_n C dX3_weightsOf_92 rfl rfl ?_
        exact x_iret C dX3_weightsOf_93 (by rw [wn_eq]) rfl
      · exact absurd (show nI 6 < nI (r + 1) from nI_lt (by omega) (by omega)) h
    | succ n ih =>
      intro r x5 x6 hr
      refine x_iload C dX3_weightsOf_5 rfl ?_
      refine x_bipush C (v := 6) dX3_weightsOf_7 (by decide) ?_
      refine x_icmp_gt C (tgt := 92) dX3_weightsOf_9 (by decide) (fun h => ?_) (fun h => ?_)
      · exact absurd (wo_lt (a := 6) (b := r + 1) (by omega) (by omega) h) (by omega)
      · refine x_bipush C (v := 7) dX3_weightsOf_12 (by decide) ?_
        refine x_iload_n C dX3_weightsOf_14 rfl rfl ?_
        refine x_imul C dX3_weightsOf_15 ?_
        refine x_iload C dX3_weightsOf_16 rfl ?_
        refine x_iadd C dX3_weightsOf_18 ?_
        refine x_top (wo_7 w (r + 1)) ?_
        refine x_istore C dX3_weightsOf_19 (by decide) ?_
        refine x_aload_n C dX3_weightsOf_21 rfl rfl ?_
        refine gB0_kind C dX3_weightsOf_22 ?_
        refine x_iload C dX3_weightsOf_25 rfl ?_
        refine lB_kd C _ rfl (by omega) dX3_weightsOf_27 ?_
        refine x_iconst C (v := 1) dX3_weightsOf_28 (by decide) ?_
        refine x_icmp_ne C (tgt := 86) dX3_weightsOf_29 (by decide) (fun h2 => ?_) (fun h2 => ?_)
        · refine x_iinc C dX3_weightsOf_86 rfl (nI_1 (r + 1)) (by decide) ?_
          refine x_goto C (tgt := 5) dX3_weightsOf_89 (by decide) ?_
          have h9 := fun x5 x6 => ih (r + 1) x5 x6 (by omega)
          rw [show (ws_B kd wo w o2 (r + 1)) = ws_B kd wo w o2 r from by rw [ws_B, if_neg h2]] at h9
          exact h9 _ _
        · have hle := ws_B_le kd wo w o2 r
          refine x_iload_n C dX3_weightsOf_32 rfl rfl ?_
          refine x_istore C dX3_weightsOf_33 (by decide) ?_
          have hs : ws_B kd wo w o2 (r + 1) = (rk_ins (ws_B kd wo w o2 r).2 (ws_B kd wo w o2 r).1 0 (wo (7 * w + (r + 1))), (ws_B kd wo w o2 r).2 + 1) := by rw [ws_B, if_pos h2]
          have inner : ∀ (k : Nat) (f : Nat → Int32), k ≤ 5 → rk_ins k f 0 (wo (7 * w + (r + 1))) = rk_ins (ws_B kd wo w o2 r).2 (ws_B kd wo w o2 r).1 0 (wo (7 * w + (r + 1))) → wo_W p l e (wo_rm 0) s m args below meth c A D 0 0 7 (MQ below (wo_Q D ((cI, .int) :: (cZ, .boolean) :: tys) (some (.int (nI (wn_B kd wo w)))) (wB cI cZ a co gr dy kd wo me ti td la go kp od no ax lv rh re rs ph pr o1 ((ws_B kd wo w o2 6).1) ++ Y) A) args s 0 0 A) 35 [some (.ref (a 0)), some (.int (nI w)), some (.ref (a 11)), some (.int (nI (ws_B kd wo w o2 r).2)), some (.int (nI (r + 1))), some (.int (nI (7 * w + (r + 1)))), some (.int (nI k))] [] (wB cI cZ a co gr dy kd wo me ti td la go kp od no ax lv rh re rs ph pr o1 (f) ++ Y) := by
            intro k
            induction k with
            | zero =>
              intro f hk he
              refine x_iload C dX3_weightsOf_35 rfl ?_
              refine x_if_le C (tgt := 72) dX3_weightsOf_37 (by decide) (fun h3 => ?_) (fun h3 => ?_)
              · refine x_aload_n C dX3_weightsOf_72 rfl rfl ?_
                refine x_iload C dX3_weightsOf_73 rfl ?_
                refine x_aload_n C dX3_weightsOf_75 rfl rfl ?_
                refine gB0_worth C dX3_weightsOf_76 ?_
                refine x_iload C dX3_weightsOf_79 rfl ?_
                refine lB_wo C _ rfl (by omega) dX3_weightsOf_81 ?_
                refine sB_o2 C _ 0 rfl (by omega) dX3_weightsOf_82 ?_
                refine x_iinc C dX3_weightsOf_83 rfl (nI_1 _) (by decide) ?_
                refine x_iinc C dX3_weightsOf_86 rfl (nI_1 (r + 1)) (by decide) ?_
                refine x_goto C (tgt := 5) dX3_weightsOf_89 (by decide) ?_
                have h9 := fun x5 x6 => ih (r + 1) x5 x6 (by omega)
                rw [hs, ← he, rk_ins] at h9
                exact h9 _ _
              · exact absurd (show nI 0 ≤ 0 by decide) h3
            | succ k ihk =>
              intro f hk he
              refine x_iload C dX3_weightsOf_35 rfl ?_
              refine x_if_le C (tgt := 72) dX3_weightsOf_37 (by decide) (fun h3 => ?_) (fun h3 => ?_)
              · exact absurd (wo_le (a := k + 1) (b := 0) (by omega) (by omega) h3) (by omega)
              · refine x_aload_n C dX3_weightsOf_40 rfl rfl ?_
                refine x_iload C dX3_weightsOf_41 rfl ?_
                refine x_iconst C (v := 1) dX3_weightsOf_43 (by decide) ?_
                refine x_isub C dX3_weightsOf_44 ?_
                refine lB_o2 C k (wo_m1 rfl) (by omega) dX3_weightsOf_45 ?_
                refine x_aload_n C dX3_weightsOf_46 rfl rfl ?_
                refine gB0_worth C dX3_weightsOf_47 ?_
                refine x_iload C dX3_weightsOf_50 rfl ?_
                refine lB_wo C _ rfl (by omega) dX3_weightsOf_52 ?_
                refine x_icmp_ge C (tgt := 72) dX3_weightsOf_53 (by decide) (fun h4 => ?_) (fun h4 => ?_)
                · refine x_aload_n C dX3_weightsOf_72 rfl rfl ?_
                  refine x_iload C dX3_weightsOf_73 rfl ?_
                  refine x_aload_n C dX3_weightsOf_75 rfl rfl ?_
                  refine gB0_worth C dX3_weightsOf_76 ?_
                  refine x_iload C dX3_weightsOf_79 rfl ?_
                  refine lB_wo C _ rfl (by omega) dX3_weightsOf_81 ?_
                  refine sB_o2 C _ (k + 1) rfl (by omega) dX3_weightsOf_82 ?_
                  refine x_iinc C dX3_weightsOf_83 rfl (nI_1 _) (by decide) ?_
                  refine x_iinc C dX3_weightsOf_86 rfl (nI_1 (r + 1)) (by decide) ?_
                  refine x_goto C (tgt := 5) dX3_weightsOf_89 (by decide) ?_
                  have h9 := fun x5 x6 => ih (r + 1) x5 x6 (by omega)
                  rw [hs, ← he, rk_ins, Nat.zero_add, if_neg (Int32.not_lt.mpr h4)] at h9
                  exact h9 _ _
                · have h5 : f k < wo (7 * w + (r + 1)) := Int32.not_le.mp h4
                  refine x_aload_n C dX3_weightsOf_56 rfl rfl ?_
                  refine x_iload C dX3_weightsOf_57 rfl ?_
                  refine x_aload_n C dX3_weightsOf_59 rfl rfl ?_
                  refine x_iload C dX3_weightsOf_60 rfl ?_
                  refine x_iconst C (v := 1) dX3_weightsOf_62 (by decide) ?_
                  refine x_isub C dX3_weightsOf_63 ?_
                  refine lB_o2 C k (wo_m1 rfl) (by omega) dX3_weightsOf_64 ?_
                  refine sB_o2 C _ (k + 1) rfl (by omega) dX3_weightsOf_65 ?_
                  refine x_iinc C dX3_weightsOf_66 rfl (wo_m1' (b := k) rfl) (by decide) ?_
                  refine x_goto C (tgt := 35) dX3_weightsOf_69 (by decide) ?_
                  exact ihk _ (by omega) (by rw [← he]; show _ = rk_ins (k + 1) f 0 _; rw [rk_ins, Nat.zero_add, if_pos h5])
          exact inner (ws_B kd wo w o2 r).2 (ws_B kd wo w o2 r).1 (by omega) rfl
  exact outer 6 0 _ _ rfl
end MDL
end
section
/-! ===== the reference: places, order, days ===== -/
def fw_B (od : Nat → Nat) (kp go : Nat → Bool) (no : Nat) : Nat → Nat → Nat
  | 0, t => t
  | n + 1, t => if t < no then (if (kp (od t) && !go (od t)) = true then t else fw_B od kp go no n (t + 1)) else t
def nx_B (od : Nat → Nat) (kp go : Nat → Bool) (no t : Nat) : Nat := fw_B od kp go no (13 - t) t
theorem nxB_step {od : Nat → Nat} {kp go : Nat → Bool} {no t : Nat} (hl : no ≤ 12) (h : t < no) (h2 : (kp (od t) && !go (od t)) = false) : nx_B od kp go no t = nx_B od kp go no (t + 1) := by
  unfold nx_B
  rw [show 13 - t = (13 - (t + 1)) + 1 by omega, fw_B, if_pos h, if_neg (by rw [h2]; decide)]
theorem nxB_stop {od : Nat → Nat} {kp go : Nat → Bool} {no t : Nat} (ht : t ≤ 12) (h2 : (kp (od t) && !go (od t)) = true) : nx_B od kp go no t = t := by
  unfold nx_B
  rw [show 13 - t = (13 - (t + 1)) + 1 by omega, fw_B]
  split
  · first | rfl | rw [if_pos h2]
  · rfl
theorem nxB_end {od : Nat → Nat} {kp go : Nat → Bool} {no t : Nat} (ht : t ≤ 12) (h : no ≤ t) : nx_B od kp go no t = t := by
  unfold nx_B
  rw [show 13 - t = (13 - (t + 1)) + 1 by omega, fw_B, if_neg (by omega)]
theorem nxB_le (od : Nat → Nat) (kp go : Nat → Bool) (no : Nat) (hno : no ≤ 12) : ∀ n t, n + t = no → nx_B od kp go no t ≤ no
  | 0, t, h => by rw [nxB_end (by omega) (by omega)]; omega
  | n + 1, t, h => by
    cases h2 : (kp (od t) && !go (od t)) with
    | true => rw [nxB_stop (by omega) h2]; omega
    | false => rw [nxB_step hno (by omega) h2]; exact nxB_le od kp go no hno n (t + 1) (by omega)
def by_put (s : (Nat → Nat) × Nat) (w : Nat) : (Nat → Nat) × Nat := (va_up s.1 s.2 w, s.2 + 1)
def by_w (ok : Nat → Nat → Bool) (q : Nat) : Nat → (Nat → Nat) × Nat → (Nat → Nat) × Nat
  | 0, s => s
  | n + 1, s => by_w ok q n (if ok q n then by_put s n else s)
def by_p (ok : Nat → Nat → Bool) (g : Nat) : Nat → (Nat → Nat) × Nat → (Nat → Nat) × Nat
  | 0, s => s
  | n + 1, s => by_p ok g n (by_w ok (n + 1) g s)
def by_ok (kd wo : Nat → Int32) (g : Nat) (kp : Nat → Bool) (q k : Nat) : Bool := kp k && decide (pl_B kd wo g k = q)
def by_lt (kd wo : Nat → Int32) (g : Nat) (kp : Nat → Bool) (q k : Nat) : Bool := kp k && decide (pl_B kd wo g k < q)
theorem pl_B_le {kd wo : Nat → Int32} {g w : Nat} (hg : g ≤ 12) : pl_B kd wo g w ≤ 13 := by
  unfold pl_B
  have := wo_cnt_le (fun o => decide (¬ o = w) && bf_B kd wo o w) g
  omega
theorem cnt_add (f g h : Nat → Bool) (H : ∀ k, (h k = true ↔ f k = true ∨ g k = true) ∧ ¬ (f k = true ∧ g k = true)) : ∀ n, wo_cnt f n + wo_cnt g n = wo_cnt h n
  | 0 => rfl
  | n + 1 => by
    have h1 := cnt_add f g h H n
    have h2 := H n
    unfold wo_cnt
    cases hf : f n <;> cases hg : g n <;> cases hh : h n <;> simp [hf, hg, hh] at h2 ⊢ <;> omega
theorem by_split (kd wo : Nat → Int32) (g : Nat) (kp : Nat → Bool) (q n : Nat) : wo_cnt (by_ok kd wo g kp q) n + wo_cnt (by_lt kd wo g kp q) n = wo_cnt (by_lt kd wo g kp (q + 1)) n := by
  refine cnt_add _ _ _ (fun k => ?_) n
  unfold by_ok by_lt
  simp only [Bool.and_eq_true, decide_eq_true_eq]
  refine ⟨⟨fun z => ?_, fun z => ?_⟩, fun z => ?_⟩
  · rcases Nat.lt_or_eq_of_le (Nat.le_of_lt_succ z.2) with h | h
    · exact Or.inr ⟨z.1, h⟩
    · exact Or.inl ⟨z.1, h⟩
  · rcases z with z | z
    · exact ⟨z.1, by omega⟩
    · exact ⟨z.1, by omega⟩
  · omega
section MDB
variable {l : Launch} {D : va_G} {tys : List (ClassId × FieldType)} {cI cZ : ClassId} {a : Nat → Nat} {Y : va_W} {co : Int32} {gr : Nat} {dy : Nat} {kd : Nat → Int32} {wo : Nat → Int32} {me : Nat → Bool} {ti : Nat → Int32} {td : Nat → Bool} {la : Nat → Nat} {go : Nat → Bool} {kp : Nat → Bool} {od : Nat → Nat} {no : Nat} {ax : Int32} {lv : Bool} {rh : Bool} {re : Int32} {rs : Int32} {ph : Bool} {pr : Int32} {o1 : Nat → Int32} {o2 : Nat → Int32}
set_option maxRecDepth 100000 in
set_option maxHeartbeats 4000000 in
theorem c_X3_isBefore (u w : Nat) (hu : u < 12) (hw : w < 12) : wo_S l yX3_isBefore cX3_isBefore 6 (some .boolean) 1 D ((cI, .int) :: (cZ, .boolean) :: tys) [.ref (a 0), .int (nI u), .int (nI w)] (wB cI cZ a co gr dy kd wo me ti td la go kp od no ax lv rh re rs ph pr o1 o2 ++ Y) (some (.int (bz (bf_B kd wo u w)))) (fun o1 o2 => (wB cI cZ a co gr dy kd wo me ti td la go kp od no ax lv rh re rs ph pr o1 o2 ++ Y)) := by
  refine wo_ofS (ls := [some (.ref (a 0)), some (.int (nI u)), some (.int (nI w)), none, none, none]) (by decide) (Nat.le_of_ble_eq_true rfl) rfl ?_
  intro p e s m args below meth c A C
  have hn := wn_le kd wo u
  have hm := wn_le kd wo w
  refine x_aload_n C dX3_isBefore_0 rfl rfl ?_
  refine x_iload_n C dX3_isBefore_1 rfl rfl ?_
  refine x_aload_n C dX3_isBefore_2 rfl rfl ?_
  refine gB0_one C dX3_isBefore_3 ?_
  refine x_callVi C gv_X3_69 (c_X3_weightsOf_o1 u hu) 0 rfl rfl rfl rfl (Nat.le_of_ble_eq_true rfl) ⟨(Nat.le_of_ble_eq_true rfl), (Nat.le_of_ble_eq_true rfl)⟩ ⟨Nat.zero_le _, Nat.zero_le _⟩ dX3_isBefore_6 ?_
  refine x_istore_n C dX3_isBefore_9 rfl (by decide) ?_
  refine x_aload_n C dX3_isBefore_10 rfl rfl ?_
  refine x_iload_n C dX3_isBefore_11 rfl rfl ?_
  refine x_aload_n C dX3_isBefore_12 rfl rfl ?_
  refine gB0_two C dX3_isBefore_13 ?_
  refine x_callVi C gv_X3_69 (c_X3_weightsOf_o2 w hw) 0 rfl rfl rfl rfl (Nat.le_of_ble_eq_true rfl) ⟨(Nat.le_of_ble_eq_true rfl), (Nat.le_of_ble_eq_true rfl)⟩ ⟨Nat.zero_le _, Nat.zero_le _⟩ dX3_isBefore_16 ?_
  refine x_istore C dX3_isBefore_19 (by decide) ?_
  refine x_iconst C (v := 0) dX3_isBefore_21 (by decide) ?_
  refine x_istore C dX3_isBefore_22 (by decide) ?_
  have loop : ∀ (q k : Nat), k + q = 7 → k ≤ wn_B kd wo w → lx_B (wk_B kd wo u) (wk_B kd wo w) (wn_B kd wo u) (wn_B kd wo w) q k = bf_B kd wo u w → wo_W p l e (wo_rm 1) s m args below meth c A D 0 0 6 (MQ below (wo_QS D ((cI, .int) :: (cZ, .boolean) :: tys) (some (.int (bz (bf_B kd wo u w)))) (fun o1 o2 => (wB cI cZ a co gr dy kd wo me ti td la go kp od no ax lv rh re rs ph pr o1 o2 ++ Y)) A) args s 0 0 A) 24 [some (.ref (a 0)), some (.int (nI u)), some (.int (nI w)), some (.int (nI (wn_B kd wo u))), some (.int (nI (wn_B kd wo w))), some (.int (nI k))] [] (wB cI cZ a co gr dy kd wo me ti td la go kp od no ax lv rh re rs ph pr ((ws_B kd wo u o1 6).1) ((ws_B kd wo w o2 6).1) ++ Y) := by
    intro q
    induction q with
    | zero => intro k hk hk2; exact absurd hk (by omega)
    | succ q ih =>
      intro k hk hk2 he
      refine x_iload C dX3_isBefore_24 rfl ?_
      refine x_iload_n C dX3_isBefore_26 rfl rfl ?_
      refine x_icmp_ge C (tgt := 60) dX3_isBefore_27 (by decide) (fun h => ?_) (fun h => ?_)
      · have h1 := wo_le (by omega) (by omega) h
        refine x_iload C dX3_isBefore_60 rfl ?_
        refine x_iload_n C dX3_isBefore_62 rfl rfl ?_
        refine x_icmp_ge C (tgt := 94) dX3_isBefore_63 (by decide) (fun h2 => ?_) (fun h2 => ?_)
        · refine x_iconst C (v := 0) dX3_isBefore_94 (by decide) ?_
          exact x_zretS C dX3_isBefore_95 (b := false) rfl (by rw [← he, lx_B, if_neg (by omega)]) rfl
        · exact absurd h h2
      · have h1 := wo_nle (by omega) (by omega) h
        refine x_iload C dX3_isBefore_30 rfl ?_
        refine x_iload C dX3_isBefore_32 rfl ?_
        refine x_icmp_ge C (tgt := 60) dX3_isBefore_34 (by decide) (fun h2 => ?_) (fun h2 => ?_)
        · have h3 := wo_le (by omega) (by omega) h2
          refine x_iload C dX3_isBefore_60 rfl ?_
          refine x_iload_n C dX3_isBefore_62 rfl rfl ?_
          refine x_icmp_ge C (tgt := 94) dX3_isBefore_63 (by decide) (fun h4 => ?_) (fun h4 => ?_)
          · exact absurd h4 h
          · refine x_iload C dX3_isBefore_66 rfl ?_
            refine x_iload C dX3_isBefore_68 rfl ?_
            refine x_icmp_eq C (tgt := 90) dX3_isBefore_70 (by decide) (fun h5 => ?_) (fun h5 => ?_)
            · refine x_iconst C (v := 1) dX3_isBefore_90 (by decide) ?_
              refine x_goto C (tgt := 95) dX3_isBefore_91 (by decide) ?_
              exact x_zretS C dX3_isBefore_95 (b := true) rfl (by rw [← he, lx_B, if_pos h1, if_neg (by omega)]) rfl
            · exact absurd (show nI k = nI (wn_B kd wo w) by rw [show k = wn_B kd wo w by omega]) h5
        · have h3 := wo_nle (by omega) (by omega) h2
          have e1 := wk_eq kd wo u o1 h1
          have e2 := wk_eq kd wo w o2 h3
          refine x_aload_n C dX3_isBefore_37 rfl rfl ?_
          refine gB0_one C dX3_isBefore_38 ?_
          refine x_iload C dX3_isBefore_41 rfl ?_
          refine lB_o1 C _ rfl (by omega) dX3_isBefore_43 ?_
          refine x_aload_n C dX3_isBefore_44 rfl rfl ?_
          refine gB0_two C dX3_isBefore_45 ?_
          refine x_iload C dX3_isBefore_48 rfl ?_
          refine lB_o2 C _ rfl (by omega) dX3_isBefore_50 ?_
          refine x_icmp_ne C (tgt := 60) dX3_isBefore_51 (by decide) (fun h4 => ?_) (fun h4 => ?_)
          · rw [e1, e2] at h4
            refine x_iload C dX3_isBefore_60 rfl ?_
            refine x_iload_n C dX3_isBefore_62 rfl rfl ?_
            refine x_icmp_ge C (tgt := 94) dX3_isBefore_63 (by decide) (fun h5 => ?_) (fun h5 => ?_)
            · exact absurd h5 h
            · refine x_iload C dX3_isBefore_66 rfl ?_
              refine x_iload C dX3_isBefore_68 rfl ?_
              refine x_icmp_eq C (tgt := 90) dX3_isBefore_70 (by decide) (fun h6 => ?_) (fun h6 => ?_)
              · exact absurd (wo_ieq (by omega) (by omega) h6) (by omega)
              · refine x_aload_n C dX3_isBefore_73 rfl rfl ?_
                refine gB0_one C dX3_isBefore_74 ?_
                refine x_iload C dX3_isBefore_77 rfl ?_
                refine lB_o1 C _ rfl (by omega) dX3_isBefore_79 ?_
                refine x_aload_n C dX3_isBefore_80 rfl rfl ?_
                refine gB0_two C dX3_isBefore_81 ?_
                refine x_iload C dX3_isBefore_84 rfl ?_
                refine lB_o2 C _ rfl (by omega) dX3_isBefore_86 ?_
                refine x_icmp_le C (tgt := 94) dX3_isBefore_87 (by decide) (fun h7 => ?_) (fun h7 => ?_)
                · rw [e1, e2] at h7
                  refine x_iconst C (v := 0) dX3_isBefore_94 (by decide) ?_
                  exact x_zretS C dX3_isBefore_95 (b := false) rfl (by rw [← he, lx_B, if_pos h1, if_pos h3, if_neg h4, decide_eq_false (Int32.not_lt.mpr h7)]) rfl
                · rw [e1, e2] at h7
                  refine x_iconst C (v := 1) dX3_isBefore_90 (by decide) ?_
                  refine x_goto C (tgt := 95) dX3_isBefore_91 (by decide) ?_
                  exact x_zretS C dX3_isBefore_95 (b := true) rfl (by rw [← he, lx_B, if_pos h1, if_pos h3, if_neg h4, decide_eq_true (Int32.not_le.mp h7)]) rfl
          · rw [e1, e2] at h4
            refine x_iinc C dX3_isBefore_54 rfl (nI_1 k) (by decide) ?_
            refine x_goto C (tgt := 24) dX3_isBefore_57 (by decide) ?_
            exact ih (k + 1) (by omega) h3 (by rw [← he]; show _ = lx_B _ _ _ _ (q + 1) k; rw [lx_B, if_pos h1, if_pos h3, if_pos h4])
  exact loop 7 0 rfl (Nat.zero_le _) rfl
set_option maxRecDepth 100000 in
set_option maxHeartbeats 4000000 in
theorem c_X3_placeOf (w : Nat) (hw : w < 12) (hg : gr ≤ 12) : wo_S l yX3_placeOf cX3_placeOf 4 (some .int) 2 D ((cI, .int) :: (cZ, .boolean) :: tys) [.ref (a 0), .int (nI w)] (wB cI cZ a co gr dy kd wo me ti td la go kp od no ax lv rh re rs ph pr o1 o2 ++ Y) (some (.int (nI (pl_B kd wo gr w)))) (fun o1 o2 => (wB cI cZ a co gr dy kd wo me ti td la go kp od no ax lv rh re rs ph pr o1 o2 ++ Y)) := by
  refine wo_ofS (ls := [some (.ref (a 0)), some (.int (nI w)), none, none]) (by decide) (Nat.le_of_ble_eq_true rfl) rfl ?_
  intro p e s m args below meth c A C
  refine x_iconst C (v := 1) dX3_placeOf_0 (by decide) ?_
  refine x_istore_n C dX3_placeOf_1 rfl (by decide) ?_
  refine x_iconst C (v := 0) dX3_placeOf_2 (by decide) ?_
  refine x_istore_n C dX3_placeOf_3 rfl (by decide) ?_
  have loop : ∀ (n k : Nat) (o1 o2 : Nat → Int32), n + k = gr → wo_W p l e (wo_rm 2) s m args below meth c A D 0 0 4 (MQ below (wo_QS D ((cI, .int) :: (cZ, .boolean) :: tys) (some (.int (nI (pl_B kd wo gr w)))) (fun o1 o2 => (wB cI cZ a co gr dy kd wo me ti td la go kp od no ax lv rh re rs ph pr o1 o2 ++ Y)) A) args s 0 0 A) 4 [some (.ref (a 0)), some (.int (nI w)), some (.int (nI (1 + wo_cnt (fun o => decide (¬ o = w) && bf_B kd wo o w) k))), some (.int (nI k))] [] (wB cI cZ a co gr dy kd wo me ti td la go kp od no ax lv rh re rs ph pr o1 o2 ++ Y) := by
    intro n
    induction n with
    | zero =>
      intro k o1 o2 hk
      refine x_iload_n C dX3_placeOf_4 rfl rfl ?_
      refine x_aload_n C dX3_placeOf_5 rfl rfl ?_
      refine gB0_growers C dX3_placeOf_6 ?_
      refine x_icmp_ge C (tgt := 40) dX3_placeOf_9 (by decide) (fun h => ?_) (fun h => ?_)
      · refine x_iload_n C dX3_placeOf_40 rfl rfl ?_
        have hk2 : k = gr := by omega
        exact x_iretS C dX3_placeOf_41 (by subst hk2; rfl) rfl
      · exact absurd (show nI gr ≤ nI k from nI_le (by omega) (by omega)) h
    | succ n ih =>
      intro k o1 o2 hk
      refine x_iload_n C dX3_placeOf_4 rfl rfl ?_
      refine x_aload_n C dX3_placeOf_5 rfl rfl ?_
      refine gB0_growers C dX3_placeOf_6 ?_
      refine x_icmp_ge C (tgt := 40) dX3_placeOf_9 (by decide) (fun h => ?_) (fun h => ?_)
      · exact absurd (wo_le (by omega) (by omega) h) (by omega)
      · refine x_iload_n C dX3_placeOf_12 rfl rfl ?_
        refine x_iload_n C dX3_placeOf_13 rfl rfl ?_
        refine x_icmp_eq C (tgt := 32) dX3_placeOf_14 (by decide) (fun h2 => ?_) (fun h2 => ?_)
        · have h3 : k = w := wo_ieq (by omega) (by omega) h2
          refine x_iload_n C dX3_placeOf_32 rfl rfl ?_
          refine x_istore_n C dX3_placeOf_33 rfl (by decide) ?_
          refine x_iinc C dX3_placeOf_34 rfl (nI_1 k) (by decide) ?_
          refine x_goto C (tgt := 4) dX3_placeOf_37 (by decide) ?_
          have h9 := ih (k + 1) o1 o2 (by omega)
          rw [wo_cnt_f (q := fun o => decide (¬ o = w) && bf_B kd wo o w) (by rw [decide_eq_false (fun z => z h3)]; rfl)] at h9
          exact h9
        · have h3 : ¬ k = w := fun z => h2 (by rw [z])
          refine x_aload_n C dX3_placeOf_17 rfl rfl ?_
          refine x_iload_n C dX3_placeOf_18 rfl rfl ?_
          refine x_iload_n C dX3_placeOf_19 rfl rfl ?_
          refine x_callVSi C gv_X3_121 (c_X3_isBefore k w (by omega) hw) 0 rfl rfl rfl rfl (Nat.le_of_ble_eq_true rfl) ⟨(Nat.le_of_ble_eq_true rfl), (Nat.le_of_ble_eq_true rfl)⟩ ⟨Nat.zero_le _, Nat.zero_le _⟩ dX3_placeOf_20 (fun o1 o2 => ?_)
          refine x_if_eq C (tgt := 32) dX3_placeOf_23 (by decide) (fun h4 => ?_) (fun h4 => ?_)
          · have h5 := bz_f h4
            refine x_iload_n C dX3_placeOf_32 rfl rfl ?_
            refine x_istore_n C dX3_placeOf_33 rfl (by decide) ?_
            refine x_iinc C dX3_placeOf_34 rfl (nI_1 k) (by decide) ?_
            refine x_goto C (tgt := 4) dX3_placeOf_37 (by decide) ?_
            have h9 := ih (k + 1) o1 o2 (by omega)
            rw [wo_cnt_f (q := fun o => decide (¬ o = w) && bf_B kd wo o w) (by rw [h5, Bool.and_false])] at h9
            exact h9
          · have h5 := bz_t h4
            refine x_iload_n C dX3_placeOf_26 rfl rfl ?_
            refine x_iconst C (v := 1) dX3_placeOf_27 (by decide) ?_
            refine x_iadd C dX3_placeOf_28 ?_
            refine x_goto C (tgt := 33) dX3_placeOf_29 (by decide) ?_
            refine x_top (y := nI (1 + wo_cnt (fun o => decide (¬ o = w) && bf_B kd wo o w) k + 1)) (nI_1 _) ?_
            refine x_istore_n C dX3_placeOf_33 rfl (by decide) ?_
            refine x_iinc C dX3_placeOf_34 rfl (nI_1 k) (by decide) ?_
            refine x_goto C (tgt := 4) dX3_placeOf_37 (by decide) ?_
            have h9 := ih (k + 1) o1 o2 (by omega)
            rw [wo_cnt_t (q := fun o => decide (¬ o = w) && bf_B kd wo o w) (by rw [h5, decide_eq_true h3]; rfl), ← Nat.add_assoc] at h9
            exact h9
  exact loop gr 0 o1 o2 (by omega)
set_option maxRecDepth 100000 in
set_option maxHeartbeats 4000000 in
theorem c_X3_forward (t : Nat) (hax : ax + 1 = nI t) (ht : t ≤ no) (hno : no ≤ 12) (hod : ∀ k, k < no → od k < 12) : wo_E l yX3_forward cX3_forward 1 (none) 1 D ((cI, .int) :: (cZ, .boolean) :: tys) [.ref (a 0)] (wB cI cZ a co gr dy kd wo me ti td la go kp od no ax lv rh re rs ph pr o1 o2 ++ Y) none (wB cI cZ a co gr dy kd wo me ti td la go kp od no (nI (nx_B od kp go no t)) lv rh re rs ph pr o1 o2 ++ Y) := by
  refine wo_of (ls := [some (.ref (a 0))]) (by decide) (Nat.le_of_ble_eq_true rfl) rfl ?_
  intro p e s m args below meth c A C
  refine x_aload_n C dX3_forward_0 rfl rfl ?_
  refine x_dup C dX3_forward_1 rfl ?_
  refine gB0_at C dX3_forward_2 ?_
  refine x_iconst C (v := 1) dX3_forward_5 (by decide) ?_
  refine x_iadd C dX3_forward_6 ?_
  refine x_top hax ?_
  refine pB0_at C _ dX3_forward_7 ?_
  have loop : ∀ (n k : Nat), n + k = no → nx_B od kp go no k = nx_B od kp go no t → wo_W p l e (wo_rm 1) s m args below meth c A D 0 0 1 (MQ below (wo_Q D ((cI, .int) :: (cZ, .boolean) :: tys) none (wB cI cZ a co gr dy kd wo me ti td la go kp od no (nI (nx_B od kp go no t)) lv rh re rs ph pr o1 o2 ++ Y) A) args s 0 0 A) 10 [some (.ref (a 0))] [] (wB cI cZ a co gr dy kd wo me ti td la go kp od no (nI k) lv rh re rs ph pr o1 o2 ++ Y) := by
    intro n
    induction n with
    | zero =>
      intro k hk he
      refine x_aload_n C dX3_forward_10 rfl rfl ?_
      refine gB0_at C dX3_forward_11 ?_
      refine x_aload_n C dX3_forward_14 rfl rfl ?_
      refine gB0_ordered C dX3_forward_15 ?_
      refine x_icmp_ge C (tgt := 50) dX3_forward_18 (by decide) (fun h => ?_) (fun h => ?_)
      · exact x_vret C dX3_forward_50 rfl (by rw [← he, nxB_end (by omega) (by omega)])
      · exact absurd (show nI no ≤ nI k from nI_le (by omega) (by omega)) h
    | succ n ih =>
      intro k hk he
      refine x_aload_n C dX3_forward_10 rfl rfl ?_
      refine gB0_at C dX3_forward_11 ?_
      refine x_aload_n C dX3_forward_14 rfl rfl ?_
      refine gB0_ordered C dX3_forward_15 ?_
      refine x_icmp_ge C (tgt := 50) dX3_forward_18 (by decide) (fun h => ?_) (fun h => ?_)
      · exact absurd (wo_le (by omega) (by omega) h) (by omega)
      · have hk3 := hod k (by omega)
        refine x_aload_n C dX3_forward_21 rfl rfl ?_
        refine x_aload_n C dX3_forward_22 rfl rfl ?_
        refine gB0_order C dX3_forward_23 ?_
        refine x_aload_n C dX3_forward_26 rfl rfl ?_
        refine gB0_at C dX3_forward_27 ?_
        refine lB_od C _ rfl (by omega) dX3_forward_30 ?_
        refine x_callVi C gv_X3_89 (c_X3_isIn (od k) hk3) 0 rfl rfl rfl rfl (Nat.le_of_ble_eq_true rfl) ⟨(Nat.le_of_ble_eq_true rfl), (Nat.le_of_ble_eq_true rfl)⟩ ⟨Nat.zero_le _, Nat.zero_le _⟩ dX3_forward_31 ?_
        refine x_if_ne C (tgt := 50) dX3_forward_34 (by decide) (fun h2 => ?_) (fun h2 => ?_)
        · exact x_vret C dX3_forward_50 rfl (by rw [← he, nxB_stop (by omega) (bz_t h2)])
        · refine x_aload_n C dX3_forward_37 rfl rfl ?_
          refine x_dup C dX3_forward_38 rfl ?_
          refine gB0_at C dX3_forward_39 ?_
          refine x_iconst C (v := 1) dX3_forward_42 (by decide) ?_
          refine x_iadd C dX3_forward_43 ?_
          refine x_top (nI_1 k) ?_
          refine pB0_at C _ dX3_forward_44 ?_
          refine x_goto C (tgt := 10) dX3_forward_47 (by decide) ?_
          exact ih (k + 1) (by omega) (by rw [← he, nxB_step hno (by omega) (bz_f h2)])
  exact loop (no - t) t (by omega) rfl
set_option maxRecDepth 100000 in
set_option maxHeartbeats 4000000 in
theorem c_X3_byPlaces (hg : gr ≤ 12) : wo_S l yX3_byPlaces cX3_byPlaces 3 (none) 3 D ((cI, .int) :: (cZ, .boolean) :: tys) [.ref (a 0)] (wB cI cZ a co gr dy kd wo me ti td la go kp od no ax lv rh re rs ph pr o1 o2 ++ Y) none (fun o1 o2 => (wB cI cZ a co gr dy kd wo me ti td la go kp ((by_p (by_ok kd wo gr kp) gr gr (od, 0)).1) ((by_p (by_ok kd wo gr kp) gr gr (od, 0)).2) ax lv rh re rs ph pr o1 o2 ++ Y)) := by
  refine wo_ofS (ls := [some (.ref (a 0)), none, none]) (by decide) (Nat.le_of_ble_eq_true rfl) rfl ?_
  intro p e s m args below meth c A C
  refine x_aload_n C dX3_byPlaces_0 rfl rfl ?_
  refine x_iconst C (v := 0) dX3_byPlaces_1 (by decide) ?_
  refine pB0_ordered C 0 rfl dX3_byPlaces_2 ?_
  refine x_aload_n C dX3_byPlaces_5 rfl rfl ?_
  refine gB0_growers C dX3_byPlaces_6 ?_
  refine x_istore_n C dX3_byPlaces_9 rfl (by decide) ?_
  have outer : ∀ (q : Nat) (S : (Nat → Nat) × Nat) (o1 o2 : Nat → Int32) (x2 : Option Value), q ≤ gr → S.2 + wo_cnt (by_lt kd wo gr kp (q + 1)) gr ≤ gr → by_p (by_ok kd wo gr kp) gr q S = by_p (by_ok kd wo gr kp) gr gr (od, 0) → wo_W p l e (wo_rm 3) s m args below meth c A D 0 0 3 (MQ below (wo_QS D ((cI, .int) :: (cZ, .boolean) :: tys) none (fun o1 o2 => (wB cI cZ a co gr dy kd wo me ti td la go kp ((by_p (by_ok kd wo gr kp) gr gr (od, 0)).1) ((by_p (by_ok kd wo gr kp) gr gr (od, 0)).2) ax lv rh re rs ph pr o1 o2 ++ Y)) A) args s 0 0 A) 10 [some (.ref (a 0)), some (.int (nI q)), x2] [] (wB cI cZ a co gr dy kd wo me ti td la go kp (S.1) (S.2) ax lv rh re rs ph pr o1 o2 ++ Y) := by
    intro q
    induction q with
    | zero =>
      intro S o1 o2 x2 hq hS he
      refine x_iload_n C dX3_byPlaces_10 rfl rfl ?_
      refine x_if_le C (tgt := 75) dX3_byPlaces_11 (by decide) (fun h => ?_) (fun h => ?_)
      · exact x_vretS C dX3_byPlaces_75 rfl (by rw [← he]; rfl)
      · exact absurd (show nI 0 ≤ 0 by decide) h
    | succ q ihq =>
      intro S o1 o2 x2 hq hS he
      refine x_iload_n C dX3_byPlaces_10 rfl rfl ?_
      refine x_if_le C (tgt := 75) dX3_byPlaces_11 (by decide) (fun h => ?_) (fun h => ?_)
      · exact absurd (wo_le (a := q + 1) (b := 0) (by omega) (by omega) h) (by omega)
      · refine x_aload_n C dX3_byPlaces_14 rfl rfl ?_
        refine gB0_growers C dX3_byPlaces_15 ?_
        refine x_iconst C (v := 1) dX3_byPlaces_18 (by decide) ?_
        refine x_isub C dX3_byPlaces_19 ?_
        refine x_istore_n C dX3_byPlaces_20 rfl (by decide) ?_
        have inner : ∀ (n : Nat) (S2 : (Nat → Nat) × Nat) (o1 o2 : Nat → Int32), n ≤ gr → S2.2 + wo_cnt (by_ok kd wo gr kp (q + 1)) n + wo_cnt (by_lt kd wo gr kp (q + 1)) gr ≤ gr → by_w (by_ok kd wo gr kp) (q + 1) n S2 = by_w (by_ok kd wo gr kp) (q + 1) gr S → wo_W p l e (wo_rm 3) s m args below meth c A D 0 0 3 (MQ below (wo_QS D ((cI, .int) :: (cZ, .boolean) :: tys) none (fun o1 o2 => (wB cI cZ a co gr dy kd wo me ti td la go kp ((by_p (by_ok kd wo gr kp) gr gr (od, 0)).1) ((by_p (by_ok kd wo gr kp) gr gr (od, 0)).2) ax lv rh re rs ph pr o1 o2 ++ Y)) A) args s 0 0 A) 21 [some (.ref (a 0)), some (.int (nI (q + 1))), some (.int (nI n - 1))] [] (wB cI cZ a co gr dy kd wo me ti td la go kp (S2.1) (S2.2) ax lv rh re rs ph pr o1 o2 ++ Y) := by
          intro n
          induction n with
          | zero =>
            intro S2 o1 o2 hn hS2 he2
            refine x_iload_n C dX3_byPlaces_21 rfl rfl ?_
            refine x_if_lt C (tgt := 69) dX3_byPlaces_22 (by decide) (fun h2 => ?_) (fun h2 => ?_)
            · refine x_iinc C dX3_byPlaces_69 rfl (wo_m1' (b := q) rfl) (by decide) ?_
              refine x_goto C (tgt := 10) dX3_byPlaces_72 (by decide) ?_
              exact ihq S2 o1 o2 _ (by omega) (by simp only [wo_cnt] at hS2; omega) (by rw [← he, show S2 = by_w (by_ok kd wo gr kp) (q + 1) gr S from he2]; rfl)
            · exact absurd (show nI 0 - 1 < 0 by decide) h2
          | succ n ihn =>
            intro S2 o1 o2 hn hS2 he2
            refine x_ls (ls2 := [some (.ref (a 0)), some (.int (nI (q + 1))), some (.int (nI n))]) (by rw [nI_pred]) ?_
            refine x_iload_n C dX3_byPlaces_21 rfl rfl ?_
            refine x_if_lt C (tgt := 69) dX3_byPlaces_22 (by decide) (fun h2 => ?_) (fun h2 => ?_)
            · exact absurd h2 (nI_pos (by omega))
            · refine x_aload_n C dX3_byPlaces_25 rfl rfl ?_
              refine gB0_kept C dX3_byPlaces_26 ?_
              refine x_iload_n C dX3_byPlaces_29 rfl rfl ?_
              refine lB_kp C _ rfl (by omega) dX3_byPlaces_30 ?_
              refine x_if_eq C (tgt := 63) dX3_byPlaces_31 (by decide) (fun h3 => ?_) (fun h3 => ?_)
              · have h9 : by_ok kd wo gr kp (q + 1) n = false := by unfold by_ok; rw [bz_f h3]; rfl
                rw [wo_cnt_f h9] at hS2
                refine x_iinc C dX3_byPlaces_63 rfl (wo_dec _) (by decide) ?_
                refine x_goto C (tgt := 21) dX3_byPlaces_66 (by decide) ?_
                exact ihn S2 o1 o2 (by omega) hS2 (by rw [← he2]; show _ = by_w _ (q + 1) (n + 1) S2; rw [by_w, if_neg (by rw [h9]; decide)])
              · refine x_aload_n C dX3_byPlaces_34 rfl rfl ?_
                refine x_iload_n C dX3_byPlaces_35 rfl rfl ?_
                refine x_callVSi C gv_X3_73 (c_X3_placeOf n (by omega) hg) 0 rfl rfl rfl rfl (Nat.le_of_ble_eq_true rfl) ⟨(Nat.le_of_ble_eq_true rfl), (Nat.le_of_ble_eq_true rfl)⟩ ⟨Nat.zero_le _, Nat.zero_le _⟩ dX3_byPlaces_36 (fun o1 o2 => ?_)
                have hpl := pl_B_le (kd := kd) (wo := wo) (g := gr) (w := n) hg
                refine x_iload_n C dX3_byPlaces_39 rfl rfl ?_
                refine x_icmp_ne C (tgt := 63) dX3_byPlaces_40 (by decide) (fun h4 => ?_) (fun h4 => ?_)
                · have h5 : ¬ pl_B kd wo gr n = q + 1 := fun z => h4 (by rw [z])
                  have h9 : by_ok kd wo gr kp (q + 1) n = false := by unfold by_ok; rw [decide_eq_false h5, Bool.and_false]
                  rw [wo_cnt_f h9] at hS2
                  refine x_iinc C dX3_byPlaces_63 rfl (wo_dec _) (by decide) ?_
                  refine x_goto C (tgt := 21) dX3_byPlaces_66 (by decide) ?_
                  exact ihn S2 o1 o2 (by omega) hS2 (by rw [← he2]; show _ = by_w _ (q + 1) (n + 1) S2; rw [by_w, if_neg (by rw [h9]; decide)])
                · have h5 : pl_B kd wo gr n = q + 1 := wo_ieq (by omega) (by omega) h4
                  have h9 : by_ok kd wo gr kp (q + 1) n = true := by unfold by_ok; rw [decide_eq_true h5, bz_t h3]; rfl
                  rw [wo_cnt_t h9] at hS2
                  refine x_aload_n C dX3_byPlaces_43 rfl rfl ?_
                  refine gB0_order C dX3_byPlaces_44 ?_
                  refine x_aload_n C dX3_byPlaces_47 rfl rfl ?_
                  refine gB0_ordered C dX3_byPlaces_48 ?_
                  refine x_iload_n C dX3_byPlaces_51 rfl rfl ?_
                  refine sB_od C n rfl S2.2 rfl (by omega) dX3_byPlaces_52 ?_
                  refine x_aload_n C dX3_byPlaces_53 rfl rfl ?_
                  refine x_dup C dX3_byPlaces_54 rfl ?_
                  refine gB0_ordered C dX3_byPlaces_55 ?_
                  refine x_iconst C (v := 1) dX3_byPlaces_58 (by decide) ?_
                  refine x_iadd C dX3_byPlaces_59 ?_
                  refine pB0_ordered C (S2.2 + 1) (nI_1 S2.2) dX3_byPlaces_60 ?_
                  refine x_iinc C dX3_byPlaces_63 rfl (wo_dec _) (by decide) ?_
                  refine x_goto C (tgt := 21) dX3_byPlaces_66 (by decide) ?_
                  exact ihn (by_put S2 n) o1 o2 (by omega) (by show S2.2 + 1 + _ + _ ≤ gr; omega) (by rw [← he2]; show _ = by_w _ (q + 1) (n + 1) S2; rw [by_w, if_pos h9])
        exact inner gr S o1 o2 (Nat.le_refl _) (by rw [Nat.add_assoc, by_split]; exact hS) rfl
  exact outer gr (od, 0) o1 o2 _ (Nat.le_refl _) (by rw [Nat.zero_add]; exact wo_cnt_le _ _) rfl
end MDB
end
section
/-! ===== the reference: days, entries, calls that write ===== -/
theorem by_w_lt {ok : Nat → Nat → Bool} {q g : Nat} : ∀ (n : Nat) (S : (Nat → Nat) × Nat), n ≤ g → (∀ k, k < S.2 → S.1 k < g) → ∀ k, k < (by_w ok q n S).2 → (by_w ok q n S).1 k < g
  | 0, S, hn, h => h
  | n + 1, S, hn, h => by
    unfold by_w
    refine by_w_lt n _ (by omega) ?_
    split
    · intro k hk
      show va_up S.1 S.2 n k < g
      by_cases hk2 : k = S.2
      · rw [hk2, up_eq]; omega
      · rw [up_ne hk2]; exact h k (by have : k < S.2 + 1 := hk; omega)
    · exact h
theorem by_p_lt {ok : Nat → Nat → Bool} {g : Nat} : ∀ (n : Nat) (S : (Nat → Nat) × Nat), (∀ k, k < S.2 → S.1 k < g) → ∀ k, k < (by_p ok g n S).2 → (by_p ok g n S).1 k < g
  | 0, S, h => h
  | n + 1, S, h => by
    unfold by_p
    exact by_p_lt n _ (by_w_lt g S (Nat.le_refl _) h)
theorem by_w_cnt {ok : Nat → Nat → Bool} {q : Nat} : ∀ (n : Nat) (S : (Nat → Nat) × Nat), (by_w ok q n S).2 = S.2 + wo_cnt (ok q) n
  | 0, S => rfl
  | n + 1, S => by
    unfold by_w
    rw [by_w_cnt n]
    cases h : ok q n with
    | true => rw [wo_cnt_t h, if_pos rfl]; show S.2 + 1 + _ = _; omega
    | false => rw [wo_cnt_f h, if_neg (by decide)]
theorem by_p_cnt (kd wo : Nat → Int32) (g : Nat) (kp : Nat → Bool) : ∀ (n : Nat) (S : (Nat → Nat) × Nat), (by_p (by_ok kd wo g kp) g n S).2 + wo_cnt (by_lt kd wo g kp 1) g = S.2 + wo_cnt (by_lt kd wo g kp (n + 1)) g
  | 0, S => rfl
  | n + 1, S => by
    unfold by_p
    rw [by_p_cnt kd wo g kp n, by_w_cnt]
    have h := by_split kd wo g kp (n + 1) g
    omega
theorem by_p_le {kd wo : Nat → Int32} {g : Nat} {kp : Nat → Bool} {od : Nat → Nat} : (by_p (by_ok kd wo g kp) g g (od, 0)).2 ≤ g := by
  have h1 := by_p_cnt kd wo g kp g (od, 0)
  have h2 := wo_cnt_le (by_lt kd wo g kp (g + 1)) g
  have h3 : (od, 0).2 = 0 := rfl
  omega
def ck_B (kd wo : Nat → Int32) (g k : Nat) : Bool := decide (0 < wn_B kd wo k ∧ pl_B kd wo g k ≤ 8)
def kp_E (kd wo : Nat → Int32) (g dy : Nat) (kp : Nat → Bool) : Nat → Bool := if dy = 3 then wo_ff kp (ck_B kd wo g) g else kp
def od_E (kd wo : Nat → Int32) (g dy : Nat) (kp : Nat → Bool) (od : Nat → Nat) (no : Nat) : (Nat → Nat) × Nat := if dy < 3 then (wo_ff od (fun k => k) g, g) else if dy = 3 ∨ dy = 5 then by_p (by_ok kd wo g (kp_E kd wo g dy kp)) g g (od, 0) else (od, no)
theorem od_E_le {kd wo : Nat → Int32} {g dy : Nat} {kp : Nat → Bool} {od : Nat → Nat} {no : Nat} (hg : g ≤ 12) (hno : no ≤ 12) : (od_E kd wo g dy kp od no).2 ≤ 12 := by
  unfold od_E
  split
  · exact hg
  · split
    · exact Nat.le_trans by_p_le hg
    · exact hno
theorem od_E_lt {kd wo : Nat → Int32} {g dy : Nat} {kp : Nat → Bool} {od : Nat → Nat} {no : Nat} (hg : g ≤ 12) (hod : ∀ k, k < no → od k < 12) : ∀ k, k < (od_E kd wo g dy kp od no).2 → (od_E kd wo g dy kp od no).1 k < 12 := by
  unfold od_E
  split
  · intro k hk
    have hk2 : k < g := hk
    show wo_ff od (fun k => k) g k < 12
    rw [wo_ff_lt hk2]; omega
  · split
    · intro k hk
      exact Nat.lt_of_lt_of_le (by_p_lt g (od, 0) (fun j hj => absurd hj (Nat.not_lt_zero j)) k hk) hg
    · exact hod
def tn_E (kd wo : Nat → Int32) (g dy : Nat) (kp go : Nat → Bool) (od : Nat → Nat) (no : Nat) : Nat := nx_B (od_E kd wo g dy kp od no).1 (kp_E kd wo g dy kp) go (od_E kd wo g dy kp od no).2 0
def dn_E (kd wo : Nat → Int32) (g dy : Nat) (kp go : Nat → Bool) (od : Nat → Nat) (no : Nat) : Nat := if tn_E kd wo g dy kp go od no = (od_E kd wo g dy kp od no).2 then 7 else if dy = 6 then 7 else dy + 1
def rec_B (td : Nat → Bool) (ti : Nat → Int32) (rh : Bool) (wo : Nat → Int32) (re : Int32) (i : Nat) : Bool := td i && decide (ti i ≤ 20) && (!rh || decide (re < wo i))
section MDC
variable {l : Launch} {D : va_G} {tys : List (ClassId × FieldType)} {cI cZ : ClassId} {a : Nat → Nat} {Y : va_W} {co : Int32} {gr : Nat} {dy : Nat} {kd : Nat → Int32} {wo : Nat → Int32} {me : Nat → Bool} {ti : Nat → Int32} {td : Nat → Bool} {la : Nat → Nat} {go : Nat → Bool} {kp : Nat → Bool} {od : Nat → Nat} {no : Nat} {ax : Int32} {lv : Bool} {rh : Bool} {re : Int32} {rs : Int32} {ph : Bool} {pr : Int32} {o1 : Nat → Int32} {o2 : Nat → Int32}
set_option maxRecDepth 100000 in
set_option maxHeartbeats 4000000 in
theorem c_X3_nextDay (hg : gr ≤ 12) (hd : dy ≤ 6) (hno : no ≤ 12) (hod : ∀ k, k < no → od k < 12) : wo_S l yX3_nextDay cX3_nextDay 2 (none) 4 D ((cI, .int) :: (cZ, .boolean) :: tys) [.ref (a 0)] (wB cI cZ a co gr dy kd wo me ti td la go kp od no ax lv rh re rs ph pr o1 o2 ++ Y) none (fun o1 o2 => (wB cI cZ a co gr (dn_E kd wo gr dy kp go od no) kd wo me ti td la go (kp_E kd wo gr dy kp) ((od_E kd wo gr dy kp od no).1) ((od_E kd wo gr dy kp od no).2) (nI (tn_E kd wo gr dy kp go od no)) lv rh re rs ph pr o1 o2 ++ Y)) := by
  refine wo_ofS (ls := [some (.ref (a 0)), none]) (by decide) (Nat.le_of_ble_eq_true rfl) rfl ?_
  intro p e s m args below meth c A C
  have hle := od_E_le (kd := kd) (wo := wo) (dy := dy) (kp := kp) (od := od) hg hno
  have hlt := od_E_lt (kd := kd) (wo := wo) (dy := dy) (kp := kp) hg hod
  have htn : tn_E kd wo gr dy kp go od no ≤ (od_E kd wo gr dy kp od no).2 := nxB_le _ _ _ _ hle _ 0 (Nat.add_zero _)
  have f119 : ∀ (o1 o2 : Nat → Int32) (x1 : Option Value), wo_W p l e (wo_rm 4) s m args below meth c A D 0 0 2 (MQ below (wo_QS D ((cI, .int) :: (cZ, .boolean) :: tys) none (fun o1 o2 => (wB cI cZ a co gr (dn_E kd wo gr dy kp go od no) kd wo me ti td la go (kp_E kd wo gr dy kp) ((od_E kd wo gr dy kp od no).1) ((od_E kd wo gr dy kp od no).2) (nI (tn_E kd wo gr dy kp go od no)) lv rh re rs ph pr o1 o2 ++ Y)) A) args s 0 0 A) 119 [some (.ref (a 0)), x1] [] (wB cI cZ a co gr dy kd wo me ti td la go (kp_E kd wo gr dy kp) ((od_E kd wo gr dy kp od no).1) ((od_E kd wo gr dy kp od no).2) ax lv rh re rs ph pr o1 o2 ++ Y) := by
    intro o1 o2 x1
    have f140 : ∀ d2 : Nat, d2 = (if dy = 6 then 7 else dy + 1) → wo_W p l e (wo_rm 4) s m args below meth c A D 0 0 2 (MQ below (wo_QS D ((cI, .int) :: (cZ, .boolean) :: tys) none (fun o1 o2 => (wB cI cZ a co gr (dn_E kd wo gr dy kp go od no) kd wo me ti td la go (kp_E kd wo gr dy kp) ((od_E kd wo gr dy kp od no).1) ((od_E kd wo gr dy kp od no).2) (nI (tn_E kd wo gr dy kp go od no)) lv rh re rs ph pr o1 o2 ++ Y)) A) args s 0 0 A) 140 [some (.ref (a 0)), x1] [.int (nI d2), .ref (a 0)] (wB cI cZ a co gr dy kd wo me ti td la go (kp_E kd wo gr dy kp) ((od_E kd wo gr dy kp od no).1) ((od_E kd wo gr dy kp od no).2) ax lv rh re rs ph pr o1 o2 ++ Y) := by
      intro d2 hd2
      refine pB0_day C d2 rfl dX3_nextDay_140 ?_
      refine x_aload_n C dX3_nextDay_143 rfl rfl ?_
      refine x_iconst C (v := -1) dX3_nextDay_144 (by decide) ?_
      refine pB0_at C _ dX3_nextDay_145 ?_
      refine x_aload_n C dX3_nextDay_148 rfl rfl ?_
      refine x_callVv C gv_X3_86 (c_X3_forward 0 rfl (Nat.zero_le _) hle hlt) 0 rfl rfl rfl rfl (Nat.le_of_ble_eq_true rfl) ⟨(Nat.le_of_ble_eq_true rfl), (Nat.le_of_ble_eq_true rfl)⟩ ⟨Nat.zero_le _, Nat.zero_le _⟩ dX3_nextDay_149 ?_
      refine x_aload_n C dX3_nextDay_152 rfl rfl ?_
      refine gB0_at C dX3_nextDay_153 ?_
      refine x_aload_n C dX3_nextDay_156 rfl rfl ?_
      refine gB0_ordered C dX3_nextDay_157 ?_
      refine x_icmp_ne C (tgt := 169) dX3_nextDay_160 (by decide) (fun h => ?_) (fun h => ?_)
      · have h2 : ¬ tn_E kd wo gr dy kp go od no = (od_E kd wo gr dy kp od no).2 := fun z => h (by show nI (tn_E kd wo gr dy kp go od no) = _; rw [z])
        exact x_vretS C dX3_nextDay_169 rfl (by rw [dn_E, if_neg h2, hd2]; rfl)
      · have h2 : tn_E kd wo gr dy kp go od no = (od_E kd wo gr dy kp od no).2 := wo_ieq (by omega) (by omega) h
        refine x_aload_n C dX3_nextDay_163 rfl rfl ?_
        refine x_bipush C (v := 7) dX3_nextDay_164 (by decide) ?_
        refine pB0_day C 7 rfl dX3_nextDay_166 ?_
        exact x_vretS C dX3_nextDay_169 rfl (by rw [dn_E, if_pos h2]; rfl)
    refine x_aload_n C dX3_nextDay_119 rfl rfl ?_
    refine x_aload_n C dX3_nextDay_120 rfl rfl ?_
    refine gB0_day C dX3_nextDay_121 ?_
    refine x_bipush C (v := 6) dX3_nextDay_124 (by decide) ?_
    refine x_icmp_ne C (tgt := 134) dX3_nextDay_126 (by decide) (fun h => ?_) (fun h => ?_)
    · have h2 : ¬ dy = 6 := fun z => h (by rw [z]; rfl)
      refine x_aload_n C dX3_nextDay_134 rfl rfl ?_
      refine gB0_day C dX3_nextDay_135 ?_
      refine x_iconst C (v := 1) dX3_nextDay_138 (by decide) ?_
      refine x_iadd C dX3_nextDay_139 ?_
      refine x_top (nI_1 dy) ?_
      exact f140 (dy + 1) (by rw [if_neg h2])
    · have h2 : dy = 6 := wo_ieq (a := dy) (b := 6) (by omega) (by omega) h
      refine x_bipush C (v := 7) dX3_nextDay_129 (by decide) ?_
      refine x_goto C (tgt := 140) dX3_nextDay_131 (by decide) ?_
      exact f140 7 (by rw [if_pos h2])
  have f57 : ∀ (o1 o2 : Nat → Int32) (x1 : Option Value), wo_W p l e (wo_rm 4) s m args below meth c A D 0 0 2 (MQ below (wo_QS D ((cI, .int) :: (cZ, .boolean) :: tys) none (fun o1 o2 => (wB cI cZ a co gr (dn_E kd wo gr dy kp go od no) kd wo me ti td la go (kp_E kd wo gr dy kp) ((od_E kd wo gr dy kp od no).1) ((od_E kd wo gr dy kp od no).2) (nI (tn_E kd wo gr dy kp go od no)) lv rh re rs ph pr o1 o2 ++ Y)) A) args s 0 0 A) 57 [some (.ref (a 0)), x1] [] (wB cI cZ a co gr dy kd wo me ti td la go (kp_E kd wo gr dy kp) od no ax lv rh re rs ph pr o1 o2 ++ Y) := by
    intro o1 o2 x1
    refine x_aload_n C dX3_nextDay_57 rfl rfl ?_
    refine gB0_day C dX3_nextDay_58 ?_
    refine x_iconst C (v := 3) dX3_nextDay_61 (by decide) ?_
    refine x_icmp_ge C (tgt := 99) dX3_nextDay_62 (by decide) (fun h => ?_) (fun h => ?_)
    · have h2 := wo_le (a := 3) (b := dy) (by omega) (by omega) h
      refine x_aload_n C dX3_nextDay_99 rfl rfl ?_
      refine gB0_day C dX3_nextDay_100 ?_
      refine x_iconst C (v := 3) dX3_nextDay_103 (by decide) ?_
      have fby : dy = 3 ∨ dy = 5 → wo_W p l e (wo_rm 4) s m args below meth c A D 0 0 2 (MQ below (wo_QS D ((cI, .int) :: (cZ, .boolean) :: tys) none (fun o1 o2 => (wB cI cZ a co gr (dn_E kd wo gr dy kp go od no) kd wo me ti td la go (kp_E kd wo gr dy kp) ((od_E kd wo gr dy kp od no).1) ((od_E kd wo gr dy kp od no).2) (nI (tn_E kd wo gr dy kp go od no)) lv rh re rs ph pr o1 o2 ++ Y)) A) args s 0 0 A) 115 [some (.ref (a 0)), x1] [] (wB cI cZ a co gr dy kd wo me ti td la go (kp_E kd wo gr dy kp) od no ax lv rh re rs ph pr o1 o2 ++ Y) := by
        intro h3
        refine x_aload_n C dX3_nextDay_115 rfl rfl ?_
        refine x_callVSv C gv_X3_80 (c_X3_byPlaces hg) 0 rfl rfl rfl rfl (Nat.le_of_ble_eq_true rfl) ⟨(Nat.le_of_ble_eq_true rfl), (Nat.le_of_ble_eq_true rfl)⟩ ⟨Nat.zero_le _, Nat.zero_le _⟩ dX3_nextDay_116 (fun o1 o2 => ?_)
        have h9 := f119 o1 o2 x1
        rw [show od_E kd wo gr dy kp od no = by_p (by_ok kd wo gr (kp_E kd wo gr dy kp)) gr gr (od, 0) from by unfold od_E; rw [if_neg (by omega), if_pos h3]] at h9 ⊢
        exact h9
      refine x_icmp_eq C (tgt := 115) dX3_nextDay_104 (by decide) (fun h3 => ?_) (fun h3 => ?_)
      · exact fby (Or.inl (wo_ieq (a := dy) (b := 3) (by omega) (by omega) h3))
      · refine x_aload_n C dX3_nextDay_107 rfl rfl ?_
        refine gB0_day C dX3_nextDay_108 ?_
        refine x_iconst C (v := 5) dX3_nextDay_111 (by decide) ?_
        refine x_icmp_ne C (tgt := 119) dX3_nextDay_112 (by decide) (fun h4 => ?_) (fun h4 => ?_)
        · have h5 : ¬ (dy = 3 ∨ dy = 5) := by
            rintro (z | z)
            · exact h3 (by rw [z]; rfl)
            · exact h4 (by rw [z]; rfl)
          have h9 := f119 o1 o2 x1
          rw [show od_E kd wo gr dy kp od no = (od, no) from by unfold od_E; rw [if_neg (by omega), if_neg h5]] at h9 ⊢
          exact h9
        · exact fby (Or.inr (wo_ieq (a := dy) (b := 5) (by omega) (by omega) h4))
    · have h2 := wo_nle (a := 3) (b := dy) (by omega) (by omega) h
      refine x_aload_n C dX3_nextDay_65 rfl rfl ?_
      refine x_aload_n C dX3_nextDay_66 rfl rfl ?_
      refine gB0_growers C dX3_nextDay_67 ?_
      refine pB0_ordered C gr rfl dX3_nextDay_70 ?_
      refine x_iconst C (v := 0) dX3_nextDay_73 (by decide) ?_
      refine x_istore_n C dX3_nextDay_74 rfl (by decide) ?_
      have loop : ∀ (n k : Nat), n + k = gr → wo_W p l e (wo_rm 4) s m args below meth c A D 0 0 2 (MQ below (wo_QS D ((cI, .int) :: (cZ, .boolean) :: tys) none (fun o1 o2 => (wB cI cZ a co gr (dn_E kd wo gr dy kp go od no) kd wo me ti td la go (kp_E kd wo gr dy kp) ((od_E kd wo gr dy kp od no).1) ((od_E kd wo gr dy kp od no).2) (nI (tn_E kd wo gr dy kp go od no)) lv rh re rs ph pr o1 o2 ++ Y)) A) args s 0 0 A) 75 [some (.ref (a 0)), some (.int (nI k))] [] (wB cI cZ a co gr dy kd wo me ti td la go (kp_E kd wo gr dy kp) (wo_ff od (fun k => k) k) (gr) ax lv rh re rs ph pr o1 o2 ++ Y) := by
        intro n
        induction n with
        | zero =>
          intro k hk
          refine x_iload_n C dX3_nextDay_75 rfl rfl ?_
          refine x_aload_n C dX3_nextDay_76 rfl rfl ?_
          refine gB0_growers C dX3_nextDay_77 ?_
          refine x_icmp_ge C (tgt := 96) dX3_nextDay_80 (by decide) (fun h3 => ?_) (fun h3 => ?_)
          · have hk2 : k = gr := by omega
            subst hk2
            refine x_goto C (tgt := 119) dX3_nextDay_96 (by decide) ?_
            have h9 := f119 o1 o2 (some (.int (nI k)))
            rw [show od_E kd wo k dy kp od no = (wo_ff od (fun k => k) k, k) from by unfold od_E; rw [if_pos h2]] at h9 ⊢
            exact h9
          · exact absurd (show nI gr ≤ nI k from nI_le (by omega) (by omega)) h3
        | succ n ih =>
          intro k hk
          refine x_iload_n C dX3_nextDay_75 rfl rfl ?_
          refine x_aload_n C dX3_nextDay_76 rfl rfl ?_
          refine gB0_growers C dX3_nextDay_77 ?_
          refine x_icmp_ge C (tgt := 96) dX3_nextDay_80 (by decide) (fun h3 => ?_) (fun h3 => ?_)
          · exact absurd (wo_le (by omega) (by omega) h3) (by omega)
          · refine x_aload_n C dX3_nextDay_83 rfl rfl ?_
            refine gB0_order C dX3_nextDay_84 ?_
            refine x_iload_n C dX3_nextDay_87 rfl rfl ?_
            refine x_iload_n C dX3_nextDay_88 rfl rfl ?_
            refine sB_od C _ rfl _ rfl (by omega) dX3_nextDay_89 ?_
            refine x_iinc C dX3_nextDay_90 rfl (nI_1 k) (by decide) ?_
            refine x_goto C (tgt := 75) dX3_nextDay_93 (by decide) ?_
            exact x_ws (by rw [wo_ff_up od (fun k => k)]) (ih (k + 1) (by omega))
      exact x_ws (by rw [wo_ff_0]) (loop gr 0 (by omega))
  refine x_aload_n C dX3_nextDay_0 rfl rfl ?_
  refine gB0_day C dX3_nextDay_1 ?_
  refine x_iconst C (v := 3) dX3_nextDay_4 (by decide) ?_
  refine x_icmp_ne C (tgt := 57) dX3_nextDay_5 (by decide) (fun h => ?_) (fun h => ?_)
  · have h2 : ¬ dy = 3 := fun z => h (by rw [z]; rfl)
    have h9 := f57 o1 o2 none
    rw [show kp_E kd wo gr dy kp = kp from by unfold kp_E; rw [if_neg h2]] at h9 ⊢
    exact h9
  · have h2 : dy = 3 := wo_ieq (a := dy) (b := 3) (by omega) (by omega) h
    have hkp : kp_E kd wo gr dy kp = wo_ff kp (ck_B kd wo gr) gr := by unfold kp_E; rw [if_pos h2]
    refine x_iconst C (v := 0) dX3_nextDay_8 (by decide) ?_
    refine x_istore_n C dX3_nextDay_9 rfl (by decide) ?_
    have loop : ∀ (n k : Nat) (o1 o2 : Nat → Int32), n + k = gr → wo_W p l e (wo_rm 4) s m args below meth c A D 0 0 2 (MQ below (wo_QS D ((cI, .int) :: (cZ, .boolean) :: tys) none (fun o1 o2 => (wB cI cZ a co gr (dn_E kd wo gr dy kp go od no) kd wo me ti td la go (kp_E kd wo gr dy kp) ((od_E kd wo gr dy kp od no).1) ((od_E kd wo gr dy kp od no).2) (nI (tn_E kd wo gr dy kp go od no)) lv rh re rs ph pr o1 o2 ++ Y)) A) args s 0 0 A) 10 [some (.ref (a 0)), some (.int (nI k))] [] (wB cI cZ a co gr dy kd wo me ti td la go (wo_ff kp (ck_B kd wo gr) k) od no ax lv rh re rs ph pr o1 o2 ++ Y) := by
      intro n
      induction n with
      | zero =>
        intro k o1 o2 hk
        refine x_iload_n C dX3_nextDay_10 rfl rfl ?_
        refine x_aload_n C dX3_nextDay_11 rfl rfl ?_
        refine gB0_growers C dX3_nextDay_12 ?_
        refine x_icmp_ge C (tgt := 57) dX3_nextDay_15 (by decide) (fun h3 => ?_) (fun h3 => ?_)
        · have hk2 : k = gr := by omega
          have h9 := f57 o1 o2 (some (.int (nI k)))
          refine x_ws ?_ h9
          rw [hkp, hk2]
        · exact absurd (show nI gr ≤ nI k from nI_le (by omega) (by omega)) h3
      | succ n ih =>
        intro k o1 o2 hk
        have hpl := pl_B_le (kd := kd) (wo := wo) (g := gr) (w := k) hg
        have hwn := wn_le kd wo k
        refine x_iload_n C dX3_nextDay_10 rfl rfl ?_
        refine x_aload_n C dX3_nextDay_11 rfl rfl ?_
        refine gB0_growers C dX3_nextDay_12 ?_
        refine x_icmp_ge C (tgt := 57) dX3_nextDay_15 (by decide) (fun h3 => ?_) (fun h3 => ?_)
        · exact absurd (wo_le (by omega) (by omega) h3) (by omega)
        · refine x_aload_n C dX3_nextDay_18 rfl rfl ?_
          refine gB0_kept C dX3_nextDay_19 ?_
          refine x_iload_n C dX3_nextDay_22 rfl rfl ?_
          refine x_aload_n C dX3_nextDay_23 rfl rfl ?_
          refine x_iload_n C dX3_nextDay_24 rfl rfl ?_
          refine x_aload_n C dX3_nextDay_25 rfl rfl ?_
          refine gB0_one C dX3_nextDay_26 ?_
          refine x_callVi C gv_X3_69 (c_X3_weightsOf_o1 k (by omega)) 0 rfl rfl rfl rfl (Nat.le_of_ble_eq_true rfl) ⟨(Nat.le_of_ble_eq_true rfl), (Nat.le_of_ble_eq_true rfl)⟩ ⟨Nat.zero_le _, Nat.zero_le _⟩ dX3_nextDay_29 ?_
          refine x_if_le C (tgt := 49) dX3_nextDay_32 (by decide) (fun h4 => ?_) (fun h4 => ?_)
          · have h5 := wo_le (a := wn_B kd wo k) (b := 0) (by omega) (by omega) h4
            have h6 : ck_B kd wo gr k = false := decide_eq_false (fun z => by omega)
            refine x_iconst C (v := 0) dX3_nextDay_49 (by decide) ?_
            refine sB_kp C (ck_B kd wo gr k) (by rw [h6]; rfl) k rfl (by omega) dX3_nextDay_50 ?_
            refine x_iinc C dX3_nextDay_51 rfl (nI_1 k) (by decide) ?_
            refine x_goto C (tgt := 10) dX3_nextDay_54 (by decide) ?_
            exact x_ws (by rw [wo_ff_up]) (ih (k + 1) _ o2 (by omega))
          · have h5 := wo_nle (a := wn_B kd wo k) (b := 0) (by omega) (by omega) h4
            refine x_aload_n C dX3_nextDay_35 rfl rfl ?_
            refine x_iload_n C dX3_nextDay_36 rfl rfl ?_
            refine x_callVSi C gv_X3_73 (c_X3_placeOf k (by omega) hg) 0 rfl rfl rfl rfl (Nat.le_of_ble_eq_true rfl) ⟨(Nat.le_of_ble_eq_true rfl), (Nat.le_of_ble_eq_true rfl)⟩ ⟨Nat.zero_le _, Nat.zero_le _⟩ dX3_nextDay_37 (fun o1 o2 => ?_)
            refine x_bipush C (v := 8) dX3_nextDay_40 (by decide) ?_
            refine x_icmp_gt C (tgt := 49) dX3_nextDay_42 (by decide) (fun h6 => ?_) (fun h6 => ?_)
            · have h7 := wo_lt (a := 8) (b := pl_B kd wo gr k) (by omega) (by omega) h6
              have h8 : ck_B kd wo gr k = false := decide_eq_false (fun z => by omega)
              refine x_iconst C (v := 0) dX3_nextDay_49 (by decide) ?_
              refine sB_kp C (ck_B kd wo gr k) (by rw [h8]; rfl) k rfl (by omega) dX3_nextDay_50 ?_
              refine x_iinc C dX3_nextDay_51 rfl (nI_1 k) (by decide) ?_
              refine x_goto C (tgt := 10) dX3_nextDay_54 (by decide) ?_
              exact x_ws (by rw [wo_ff_up]) (ih (k + 1) o1 o2 (by omega))
            · have h7 := wo_nlt (a := 8) (b := pl_B kd wo gr k) (by omega) (by omega) h6
              have h8 : ck_B kd wo gr k = true := decide_eq_true ⟨by omega, h7⟩
              refine x_iconst C (v := 1) dX3_nextDay_45 (by decide) ?_
              refine x_goto C (tgt := 50) dX3_nextDay_46 (by decide) ?_
              refine sB_kp C (ck_B kd wo gr k) (by rw [h8]; rfl) k rfl (by omega) dX3_nextDay_50 ?_
              refine x_iinc C dX3_nextDay_51 rfl (nI_1 k) (by decide) ?_
              refine x_goto C (tgt := 10) dX3_nextDay_54 (by decide) ?_
              exact x_ws (by rw [wo_ff_up]) (ih (k + 1) o1 o2 (by omega))
    exact x_ws (by rw [wo_ff_0]) (loop gr 0 o1 o2 (by omega))
end MDC
end
section
/-! ===== the reference: calls that write ===== -/
theorem inB_t {v lo hi : Int32} (h : in_B v lo hi = true) : lo ≤ v ∧ v ≤ hi := of_decide_eq_true h
theorem inB_f {v lo hi : Int32} (h : in_B v lo hi = false) : ¬ (lo ≤ v ∧ v ≤ hi) := of_decide_eq_false h
theorem wo_gr1 {g : Nat} (h : 1 ≤ g) : nI g - 1 = nI (g - 1) := wo_m1 (by omega)
theorem wo_in0 {x : Int32} {g : Nat} (hg : 1 ≤ g) (hg2 : g ≤ 12) (h : in_B x 0 (nI (g - 1)) = true) : ∃ w, w < g ∧ x = nI w := by
  obtain ⟨h1, h2⟩ := inB_t h
  obtain ⟨j, hj, rfl⟩ := nI_of (Int32.not_lt.mpr h1)
  exact ⟨j, by have := wo_le (by omega) (by omega) h2; omega, rfl⟩
theorem wo_in0' {w g : Nat} (hg2 : g ≤ 12) (h : w < g) : in_B (nI w) 0 (nI (g - 1)) = true := decide_eq_true ⟨nI_pos' (by omega), nI_le (by omega) (by omega)⟩
section MDD
variable {l : Launch} {D : va_G} {tys : List (ClassId × FieldType)} {cI cZ : ClassId} {a : Nat → Nat} {Y : va_W} {co : Int32} {gr : Nat} {dy : Nat} {kd : Nat → Int32} {wo : Nat → Int32} {me : Nat → Bool} {ti : Nat → Int32} {td : Nat → Bool} {la : Nat → Nat} {go : Nat → Bool} {kp : Nat → Bool} {od : Nat → Nat} {no : Nat} {ax : Int32} {lv : Bool} {rh : Bool} {re : Int32} {rs : Int32} {ph : Bool} {pr : Int32} {o1 : Nat → Int32} {o2 : Nat → Int32}
set_option maxRecDepth 100000 in
set_option maxHeartbeats 4000000 in
theorem c_X3_passOn (W2 : wo_sw) (t : Nat) (hax : ax + 1 = nI t) (ht : t ≤ no) (hno : no ≤ 12) (hod : ∀ k, k < no → od k < 12)
    (h1 : nx_B od kp go no t < no → (wB cI cZ a co gr dy kd wo me ti td la go kp od no (nI (nx_B od kp go no t)) lv rh re rs ph pr o1 o2 ++ Y) = W2 o1 o2)
    (h2 : ¬ nx_B od kp go no t < no → wo_S l yX3_nextDay cX3_nextDay 2 (none) 4 D ((cI, .int) :: (cZ, .boolean) :: tys) [.ref (a 0)] (wB cI cZ a co gr dy kd wo me ti td la go kp od no (nI (nx_B od kp go no t)) lv rh re rs ph pr o1 o2 ++ Y) none W2) : wo_S l yX3_passOn cX3_passOn 1 (none) 5 D ((cI, .int) :: (cZ, .boolean) :: tys) [.ref (a 0)] (wB cI cZ a co gr dy kd wo me ti td la go kp od no ax lv rh re rs ph pr o1 o2 ++ Y) none W2 := by
  refine wo_ofS (ls := [some (.ref (a 0))]) (by decide) (Nat.le_of_ble_eq_true rfl) rfl ?_
  intro p e s m args below meth c A C
  have hle := nxB_le od kp go no hno (no - t) t (by omega)
  
  refine x_aload_n C dX3_passOn_0 rfl rfl ?_
  refine x_callVv C gv_X3_86 (c_X3_forward t hax ht hno hod) 0 rfl rfl rfl rfl (Nat.le_of_ble_eq_true rfl) ⟨(Nat.le_of_ble_eq_true rfl), (Nat.le_of_ble_eq_true rfl)⟩ ⟨Nat.zero_le _, Nat.zero_le _⟩ dX3_passOn_1 ?_
  refine x_aload_n C dX3_passOn_4 rfl rfl ?_
  refine gB0_at C dX3_passOn_5 ?_
  refine x_aload_n C dX3_passOn_8 rfl rfl ?_
  refine gB0_ordered C dX3_passOn_9 ?_
  refine x_icmp_ne C (tgt := 19) dX3_passOn_12 (by decide) (fun h => ?_) (fun h => ?_)
  · have h3 : nx_B od kp go no t < no := by
      have : ¬ nx_B od kp go no t = no := fun z => h (by rw [z])
      omega
    exact x_vretS C dX3_passOn_19 rfl (h1 h3)
  · have h3 : nx_B od kp go no t = no := wo_ieq (by omega) (by omega) h
    refine x_aload_n C dX3_passOn_15 rfl rfl ?_
    refine x_callVSv C gv_X3_66 (h2 (by omega)) 0 rfl rfl rfl rfl (Nat.le_of_ble_eq_true rfl) ⟨(Nat.le_of_ble_eq_true rfl), (Nat.le_of_ble_eq_true rfl)⟩ ⟨Nat.zero_le _, Nat.zero_le _⟩ dX3_passOn_16 (fun o1 o2 => ?_)
    exact x_vretS C dX3_passOn_19 rfl rfl
set_option maxRecDepth 100000 in
set_option maxHeartbeats 4000000 in
theorem c_X3_begin (W2 : wo_sw) (g : Nat)
    (h2 : wo_S l yX3_nextDay cX3_nextDay 2 (none) 4 D ((cI, .int) :: (cZ, .boolean) :: tys) [.ref (a 0)] (wB cI cZ a co (g) (0) (wo_fill kd 0 84) wo (wo_ff me (fun _ => false) 84) ti (wo_ff td (fun _ => false) 84) (wo_ff la (fun _ => 0) 12) (wo_ff go (fun _ => false) 12) (wo_ff kp (fun _ => true) 12) od no ax lv rh re rs ph pr o1 o2 ++ Y) none W2) : wo_S l yX3_begin cX3_begin 3 (none) 5 D ((cI, .int) :: (cZ, .boolean) :: tys) [.ref (a 0), .int (nI g)] (wB cI cZ a co gr dy kd wo me ti td la go kp od no ax lv rh re rs ph pr o1 o2 ++ Y) none W2 := by
  refine wo_ofS (ls := [some (.ref (a 0)), some (.int (nI g)), none]) (by decide) (Nat.le_of_ble_eq_true rfl) rfl ?_
  intro p e s m args below meth c A C
  
  refine x_aload_n C dX3_begin_0 rfl rfl ?_
  refine x_iload_n C dX3_begin_1 rfl rfl ?_
  refine pB0_growers C _ rfl dX3_begin_2 ?_
  refine x_iconst C (v := 0) dX3_begin_5 (by decide) ?_
  refine x_istore_n C dX3_begin_6 rfl (by decide) ?_
  have lp2 : ∀ (n k : Nat), n + k = 12 → wo_W p l e (wo_rm 5) s m args below meth c A D 0 0 3 (MQ below (wo_QS D ((cI, .int) :: (cZ, .boolean) :: tys) none W2 A) args s 0 0 A) 42 [some (.ref (a 0)), some (.int (nI g)), some (.int (nI k))] [] (wB cI cZ a co (g) dy (wo_fill kd 0 84) wo (wo_ff me (fun _ => false) 84) ti (wo_ff td (fun _ => false) 84) (wo_ff la (fun _ => 0) k) (wo_ff go (fun _ => false) k) (wo_ff kp (fun _ => true) k) od no ax lv rh re rs ph pr o1 o2 ++ Y) := by
    intro n
    induction n with
    | zero =>
      intro k hk
      refine x_iload_n C dX3_begin_42 rfl rfl ?_
      refine x_bipush C (v := 12) dX3_begin_43 (by decide) ?_
      refine x_icmp_ge C (tgt := 75) dX3_begin_45 (by decide) (fun h => ?_) (fun h => ?_)
      · have hk2 : k = 12 := by omega
        subst hk2
        refine x_aload_n C dX3_begin_75 rfl rfl ?_
        refine x_iconst C (v := 0) dX3_begin_76 (by decide) ?_
        refine pB0_day C 0 rfl dX3_begin_77 ?_
        refine x_aload_n C dX3_begin_80 rfl rfl ?_
        refine x_callVSv C gv_X3_66 (h2) 0 rfl rfl rfl rfl (Nat.le_of_ble_eq_true rfl) ⟨(Nat.le_of_ble_eq_true rfl), (Nat.le_of_ble_eq_true rfl)⟩ ⟨Nat.zero_le _, Nat.zero_le _⟩ dX3_begin_81 (fun o1 o2 => ?_)
        exact x_vretS C dX3_begin_84 rfl rfl
      · exact absurd (show nI 12 ≤ nI k from nI_le (by omega) (by omega)) h
    | succ n ih =>
      intro k hk
      refine x_iload_n C dX3_begin_42 rfl rfl ?_
      refine x_bipush C (v := 12) dX3_begin_43 (by decide) ?_
      refine x_icmp_ge C (tgt := 75) dX3_begin_45 (by decide) (fun h => ?_) (fun h => ?_)
      · exact absurd (wo_le (a := 12) (b := k) (by omega) (by omega) h) (by omega)
      · refine x_aload_n C dX3_begin_48 rfl rfl ?_
        refine gB0_latest C dX3_begin_49 ?_
        refine x_iload_n C dX3_begin_52 rfl rfl ?_
        refine x_iconst C (v := 0) dX3_begin_53 (by decide) ?_
        refine sB_la C 0 rfl k rfl (by omega) dX3_begin_54 ?_
        refine x_aload_n C dX3_begin_55 rfl rfl ?_
        refine gB0_gone C dX3_begin_56 ?_
        refine x_iload_n C dX3_begin_59 rfl rfl ?_
        refine x_iconst C (v := 0) dX3_begin_60 (by decide) ?_
        refine sB_go C false rfl k rfl (by omega) dX3_begin_61 ?_
        refine x_aload_n C dX3_begin_62 rfl rfl ?_
        refine gB0_kept C dX3_begin_63 ?_
        refine x_iload_n C dX3_begin_66 rfl rfl ?_
        refine x_iconst C (v := 1) dX3_begin_67 (by decide) ?_
        refine sB_kp C true rfl k rfl (by omega) dX3_begin_68 ?_
        refine x_iinc C dX3_begin_69 rfl (nI_1 k) (by decide) ?_
        refine x_goto C (tgt := 42) dX3_begin_72 (by decide) ?_
        exact x_ws (by rw [wo_ff_up la (fun _ => 0), wo_ff_up go (fun _ => false), wo_ff_up kp (fun _ => true)]) (ih (k + 1) (by omega))
  have lp1 : ∀ (n k : Nat), n + k = 84 → wo_W p l e (wo_rm 5) s m args below meth c A D 0 0 3 (MQ below (wo_QS D ((cI, .int) :: (cZ, .boolean) :: tys) none W2 A) args s 0 0 A) 7 [some (.ref (a 0)), some (.int (nI g)), some (.int (nI k))] [] (wB cI cZ a co (g) dy (wo_fill kd 0 k) wo (wo_ff me (fun _ => false) k) ti (wo_ff td (fun _ => false) k) la go kp od no ax lv rh re rs ph pr o1 o2 ++ Y) := by
    intro n
    induction n with
    | zero =>
      intro k hk
      refine x_iload_n C dX3_begin_7 rfl rfl ?_
      refine x_bipush C (v := 84) dX3_begin_8 (by decide) ?_
      refine x_icmp_ge C (tgt := 40) dX3_begin_10 (by decide) (fun h => ?_) (fun h => ?_)
      · have hk2 : k = 84 := by omega
        subst hk2
        refine x_iconst C (v := 0) dX3_begin_40 (by decide) ?_
        refine x_istore_n C dX3_begin_41 rfl (by decide) ?_
        exact x_ws (by rw [wo_ff_0, wo_ff_0, wo_ff_0]) (lp2 12 0 rfl)
      · exact absurd (show nI 84 ≤ nI k from nI_le (by omega) (by omega)) h
    | succ n ih =>
      intro k hk
      refine x_iload_n C dX3_begin_7 rfl rfl ?_
      refine x_bipush C (v := 84) dX3_begin_8 (by decide) ?_
      refine x_icmp_ge C (tgt := 40) dX3_begin_10 (by decide) (fun h => ?_) (fun h => ?_)
      · exact absurd (wo_le (a := 84) (b := k) (by omega) (by omega) h) (by omega)
      · refine x_aload_n C dX3_begin_13 rfl rfl ?_
        refine gB0_kind C dX3_begin_14 ?_
        refine x_iload_n C dX3_begin_17 rfl rfl ?_
        refine x_iconst C (v := 0) dX3_begin_18 (by decide) ?_
        refine sB_kd C _ _ rfl (by omega) dX3_begin_19 ?_
        refine x_aload_n C dX3_begin_20 rfl rfl ?_
        refine gB0_measured C dX3_begin_21 ?_
        refine x_iload_n C dX3_begin_24 rfl rfl ?_
        refine x_iconst C (v := 0) dX3_begin_25 (by decide) ?_
        refine sB_me C false rfl k rfl (by omega) dX3_begin_26 ?_
        refine x_aload_n C dX3_begin_27 rfl rfl ?_
        refine gB0_tilted C dX3_begin_28 ?_
        refine x_iload_n C dX3_begin_31 rfl rfl ?_
        refine x_iconst C (v := 0) dX3_begin_32 (by decide) ?_
        refine sB_td C false rfl k rfl (by omega) dX3_begin_33 ?_
        refine x_iinc C dX3_begin_34 rfl (nI_1 k) (by decide) ?_
        refine x_goto C (tgt := 7) dX3_begin_37 (by decide) ?_
        exact x_ws (by rw [wo_fill_up, wo_ff_up me (fun _ => false), wo_ff_up td (fun _ => false)]) (ih (k + 1) (by omega))
  exact x_ws (by rw [wo_fill_0, wo_ff_0, wo_ff_0]) (lp1 84 0 rfl)
set_option maxRecDepth 100000 in
set_option maxHeartbeats 4000000 in
theorem c_X3_entry (k : Int32) (t : Nat) (hax : ax = nI t) (ht : t < 12) (hod : od t < 12) (hd : dy ≤ 6) : wo_E l yX3_entry cX3_entry 4 (some .int) 0 D ((cI, .int) :: (cZ, .boolean) :: tys) [.ref (a 0), .int k] (wB cI cZ a co gr dy kd wo me ti td la go kp od no ax lv rh re rs ph pr o1 o2 ++ Y) (some (.int (nI (7 * od t + dy)))) (wB cI cZ a co gr dy (va_up kd (7 * od t + dy) k) wo (va_up me (7 * od t + dy) false) ti (va_up td (7 * od t + dy) false) (va_up la (od t) dy) go kp od no ax lv rh re rs ph pr o1 o2 ++ Y) := by
  refine wo_of (ls := [some (.ref (a 0)), some (.int k), none, none]) (by decide) (Nat.le_of_ble_eq_true rfl) rfl ?_
  intro p e s m args below meth c A C
  refine x_aload_n C dX3_entry_0 rfl rfl ?_
  refine gB0_order C dX3_entry_1 ?_
  refine x_aload_n C dX3_entry_4 rfl rfl ?_
  refine gB0_at C dX3_entry_5 ?_
  refine lB_od C t hax ht dX3_entry_8 ?_
  refine x_istore_n C dX3_entry_9 rfl (by decide) ?_
  refine x_bipush C (v := 7) dX3_entry_10 (by decide) ?_
  refine x_iload_n C dX3_entry_12 rfl rfl ?_
  refine x_imul C dX3_entry_13 ?_
  refine x_aload_n C dX3_entry_14 rfl rfl ?_
  refine gB0_day C dX3_entry_15 ?_
  refine x_iadd C dX3_entry_18 ?_
  refine x_top (wo_7 (od t) dy) ?_
  refine x_istore_n C dX3_entry_19 rfl (by decide) ?_
  refine x_aload_n C dX3_entry_20 rfl rfl ?_
  refine gB0_kind C dX3_entry_21 ?_
  refine x_iload_n C dX3_entry_24 rfl rfl ?_
  refine x_iload_n C dX3_entry_25 rfl rfl ?_
  refine sB_kd C _ _ rfl (by omega) dX3_entry_26 ?_
  refine x_aload_n C dX3_entry_27 rfl rfl ?_
  refine gB0_measured C dX3_entry_28 ?_
  refine x_iload_n C dX3_entry_31 rfl rfl ?_
  refine x_iconst C (v := 0) dX3_entry_32 (by decide) ?_
  refine sB_me C false rfl _ rfl (by omega) dX3_entry_33 ?_
  refine x_aload_n C dX3_entry_34 rfl rfl ?_
  refine gB0_tilted C dX3_entry_35 ?_
  refine x_iload_n C dX3_entry_38 rfl rfl ?_
  refine x_iconst C (v := 0) dX3_entry_39 (by decide) ?_
  refine sB_td C false rfl _ rfl (by omega) dX3_entry_40 ?_
  refine x_aload_n C dX3_entry_41 rfl rfl ?_
  refine gB0_latest C dX3_entry_42 ?_
  refine x_iload_n C dX3_entry_45 rfl rfl ?_
  refine x_aload_n C dX3_entry_46 rfl rfl ?_
  refine gB0_day C dX3_entry_47 ?_
  refine sB_la C _ rfl _ rfl (by omega) dX3_entry_50 ?_
  refine x_iload_n C dX3_entry_51 rfl rfl ?_
  exact x_iret C dX3_entry_52 rfl rfl
set_option maxRecDepth 100000 in
set_option maxHeartbeats 4000000 in
theorem c_X3_asRecord (i : Nat) (hi : i < 84) : wo_E l yX3_asRecord cX3_asRecord 2 (none) 0 D ((cI, .int) :: (cZ, .boolean) :: tys) [.ref (a 0), .int (nI i)] (wB cI cZ a co gr dy kd wo me ti td la go kp od no ax lv rh re rs ph pr o1 o2 ++ Y) none (wB cI cZ a co gr dy kd wo me ti td la go kp od no ax lv (if rec_B td ti rh wo re i then true else rh) (if rec_B td ti rh wo re i then wo i else re) (if rec_B td ti rh wo re i then rs + 1 else rs) ph pr o1 o2 ++ Y) := by
  refine wo_of (ls := [some (.ref (a 0)), some (.int (nI i))]) (by decide) (Nat.le_of_ble_eq_true rfl) rfl ?_
  intro p e s m args below meth c A C
  have fno : rec_B td ti rh wo re i = false → wo_W p l e (wo_rm 0) s m args below meth c A D 0 0 2 (MQ below (wo_Q D ((cI, .int) :: (cZ, .boolean) :: tys) none (wB cI cZ a co gr dy kd wo me ti td la go kp od no ax lv (if rec_B td ti rh wo re i then true else rh) (if rec_B td ti rh wo re i then wo i else re) (if rec_B td ti rh wo re i then rs + 1 else rs) ph pr o1 o2 ++ Y) A) args s 0 0 A) 65 [some (.ref (a 0)), some (.int (nI i))] [] (wB cI cZ a co gr dy kd wo me ti td la go kp od no ax lv rh re rs ph pr o1 o2 ++ Y) := by
    intro h
    exact x_vret C dX3_asRecord_65 rfl (by rw [h]; rfl)
  have fyes : rec_B td ti rh wo re i = true → wo_W p l e (wo_rm 0) s m args below meth c A D 0 0 2 (MQ below (wo_Q D ((cI, .int) :: (cZ, .boolean) :: tys) none (wB cI cZ a co gr dy kd wo me ti td la go kp od no ax lv (if rec_B td ti rh wo re i then true else rh) (if rec_B td ti rh wo re i then wo i else re) (if rec_B td ti rh wo re i then rs + 1 else rs) ph pr o1 o2 ++ Y) A) args s 0 0 A) 40 [some (.ref (a 0)), some (.int (nI i))] [] (wB cI cZ a co gr dy kd wo me ti td la go kp od no ax lv rh re rs ph pr o1 o2 ++ Y) := by
    intro h
    refine x_aload_n C dX3_asRecord_40 rfl rfl ?_
    refine x_iconst C (v := 1) dX3_asRecord_41 (by decide) ?_
    refine pB0_hasRecord C true rfl dX3_asRecord_42 ?_
    refine x_aload_n C dX3_asRecord_45 rfl rfl ?_
    refine x_aload_n C dX3_asRecord_46 rfl rfl ?_
    refine gB0_worth C dX3_asRecord_47 ?_
    refine x_iload_n C dX3_asRecord_50 rfl rfl ?_
    refine lB_wo C _ rfl (by omega) dX3_asRecord_51 ?_
    refine pB0_record C _ dX3_asRecord_52 ?_
    refine x_aload_n C dX3_asRecord_55 rfl rfl ?_
    refine x_dup C dX3_asRecord_56 rfl ?_
    refine gB0_records C dX3_asRecord_57 ?_
    refine x_iconst C (v := 1) dX3_asRecord_60 (by decide) ?_
    refine x_iadd C dX3_asRecord_61 ?_
    refine pB0_records C _ dX3_asRecord_62 ?_
    exact x_vret C dX3_asRecord_65 rfl (by rw [h]; rfl)
  refine x_aload_n C dX3_asRecord_0 rfl rfl ?_
  refine gB0_tilted C dX3_asRecord_1 ?_
  refine x_iload_n C dX3_asRecord_4 rfl rfl ?_
  refine lB_td C _ rfl (by omega) dX3_asRecord_5 ?_
  refine x_if_eq C (tgt := 65) dX3_asRecord_6 (by decide) (fun h => ?_) (fun h => ?_)
  · exact fno (by unfold rec_B; rw [bz_f h]; rfl)
  · refine x_aload_n C dX3_asRecord_9 rfl rfl ?_
    refine gB0_tilt C dX3_asRecord_10 ?_
    refine x_iload_n C dX3_asRecord_13 rfl rfl ?_
    refine lB_ti C _ rfl (by omega) dX3_asRecord_14 ?_
    refine x_bipush C (v := 20) dX3_asRecord_15 (by decide) ?_
    refine x_icmp_gt C (tgt := 65) dX3_asRecord_17 (by decide) (fun h2 => ?_) (fun h2 => ?_)
    · exact fno (by unfold rec_B; rw [bz_t h, decide_eq_false (Int32.not_le.mpr h2)]; rfl)
    · refine x_aload_n C dX3_asRecord_20 rfl rfl ?_
      refine gB0_hasRecord C dX3_asRecord_21 ?_
      refine x_if_eq C (tgt := 40) dX3_asRecord_24 (by decide) (fun h3 => ?_) (fun h3 => ?_)
      · exact fyes (by unfold rec_B; rw [bz_t h, decide_eq_true (Int32.not_lt.mp h2), bz_f h3]; rfl)
      · refine x_aload_n C dX3_asRecord_27 rfl rfl ?_
        refine gB0_worth C dX3_asRecord_28 ?_
        refine x_iload_n C dX3_asRecord_31 rfl rfl ?_
        refine lB_wo C _ rfl (by omega) dX3_asRecord_32 ?_
        refine x_aload_n C dX3_asRecord_33 rfl rfl ?_
        refine gB0_record C dX3_asRecord_34 ?_
        refine x_icmp_le C (tgt := 65) dX3_asRecord_37 (by decide) (fun h4 => ?_) (fun h4 => ?_)
        · exact fno (by unfold rec_B; rw [bz_t h, decide_eq_true (Int32.not_lt.mp h2), bz_t h3, decide_eq_false (Int32.not_lt.mpr h4)]; rfl)
        · exact fyes (by unfold rec_B; rw [bz_t h, decide_eq_true (Int32.not_lt.mp h2), bz_t h3, decide_eq_true (Int32.not_le.mp h4)]; rfl)
set_option maxRecDepth 100000 in
set_option maxHeartbeats 4000000 in
theorem c_X3_open_no (x : Int32) (hx : in_B x 3 12 = false) : wo_E l yX3_open cX3_open 2 (none) 6 D ((cI, .int) :: (cZ, .boolean) :: tys) [.ref (a 0), .int x] (wB cI cZ a co gr dy kd wo me ti td la go kp od no ax lv rh re rs ph pr o1 o2 ++ Y) none (wB cI cZ a (1) gr dy kd wo me ti td la go kp od no ax lv rh re rs ph pr o1 o2 ++ Y) := by
  refine wo_of (ls := [some (.ref (a 0)), some (.int x)]) (by decide) (Nat.le_of_ble_eq_true rfl) rfl ?_
  intro p e s m args below meth c A C
  refine x_aload_n C dX3_open_0 rfl rfl ?_
  refine x_iload_n C dX3_open_1 rfl rfl ?_
  refine x_iconst C (v := 3) dX3_open_2 (by decide) ?_
  refine x_bipush C (v := 12) dX3_open_3 (by decide) ?_
  refine x_callSi C gs_X3_48 (c_X3_in x 3 12) rfl rfl (Nat.le_of_ble_eq_true rfl) ⟨(Nat.le_of_ble_eq_true rfl), (Nat.le_of_ble_eq_true rfl)⟩ ⟨Nat.zero_le _, Nat.zero_le _⟩ dX3_open_5 ?_
  refine x_if_eq C (tgt := 15) dX3_open_8 (by decide) (fun h => ?_) (fun h => ?_)
  · refine x_iconst C (v := 1) dX3_open_15 (by decide) ?_
    refine pB0_code C _ dX3_open_16 ?_
    refine x_aload_n C dX3_open_19 rfl rfl ?_
    refine gB0_code C dX3_open_20 ?_
    refine x_if_ne C (tgt := 31) dX3_open_23 (by decide) (fun h2 => ?_) (fun h2 => ?_)
    · exact x_vret C dX3_open_31 rfl rfl
    · exact absurd h2 (by decide)
  · exact absurd hx (by rw [bz_t h]; decide)
set_option maxRecDepth 100000 in
set_option maxHeartbeats 4000000 in
theorem c_X3_open (W2 : wo_sw) (g : Nat) (hx : in_B (nI g) 3 12 = true) (hb : wo_S l yX3_begin cX3_begin 3 (none) 5 D ((cI, .int) :: (cZ, .boolean) :: tys) [.ref (a 0), .int (nI g)] (wB cI cZ a (0) gr dy kd wo me ti td la go kp od no ax lv rh re rs ph pr o1 o2 ++ Y) none W2) : wo_S l yX3_open cX3_open 2 (none) 6 D ((cI, .int) :: (cZ, .boolean) :: tys) [.ref (a 0), .int (nI g)] (wB cI cZ a co gr dy kd wo me ti td la go kp od no ax lv rh re rs ph pr o1 o2 ++ Y) none W2 := by
  refine wo_ofS (ls := [some (.ref (a 0)), some (.int (nI g))]) (by decide) (Nat.le_of_ble_eq_true rfl) rfl ?_
  intro p e s m args below meth c A C
  
  refine x_aload_n C dX3_open_0 rfl rfl ?_
  refine x_iload_n C dX3_open_1 rfl rfl ?_
  refine x_iconst C (v := 3) dX3_open_2 (by decide) ?_
  refine x_bipush C (v := 12) dX3_open_3 (by decide) ?_
  refine x_callSi C gs_X3_48 (c_X3_in (nI g) 3 12) rfl rfl (Nat.le_of_ble_eq_true rfl) ⟨(Nat.le_of_ble_eq_true rfl), (Nat.le_of_ble_eq_true rfl)⟩ ⟨Nat.zero_le _, Nat.zero_le _⟩ dX3_open_5 ?_
  refine x_if_eq C (tgt := 15) dX3_open_8 (by decide) (fun h => ?_) (fun h => ?_)
  · exact absurd hx (by rw [bz_f h]; decide)
  · refine x_iconst C (v := 0) dX3_open_11 (by decide) ?_
    refine x_goto C (tgt := 16) dX3_open_12 (by decide) ?_
    refine pB0_code C _ dX3_open_16 ?_
    refine x_aload_n C dX3_open_19 rfl rfl ?_
    refine gB0_code C dX3_open_20 ?_
    refine x_if_ne C (tgt := 31) dX3_open_23 (by decide) (fun h2 => ?_) (fun h2 => ?_)
    · exact absurd rfl h2
    · refine x_aload_n C dX3_open_26 rfl rfl ?_
      refine x_iload_n C dX3_open_27 rfl rfl ?_
      refine x_callVSv C gv_X3_52 (hb) 0 rfl rfl rfl rfl (Nat.le_of_ble_eq_true rfl) ⟨(Nat.le_of_ble_eq_true rfl), (Nat.le_of_ble_eq_true rfl)⟩ ⟨Nat.zero_le _, Nat.zero_le _⟩ dX3_open_28 (fun o1 o2 => ?_)
      exact x_vretS C dX3_open_31 rfl rfl
set_option maxRecDepth 100000 in
set_option maxHeartbeats 4000000 in
theorem c_X3_weigh_1 (x y : Int32) (hx : ¬ (in_B x 100 9999 = true ∧ in_B y (-99) 99 = true)) : wo_E l yX3_weigh cX3_weigh 5 (some .int) 6 D ((cI, .int) :: (cZ, .boolean) :: tys) [.ref (a 0), .int x, .int y] (wB cI cZ a co gr dy kd wo me ti td la go kp od no ax lv rh re rs ph pr o1 o2 ++ Y) (some (.int 0)) (wB cI cZ a (1) gr dy kd wo me ti td la go kp od no ax lv rh re rs ph pr o1 o2 ++ Y) := by
  refine wo_of (ls := [some (.ref (a 0)), some (.int x), some (.int y), none, none]) (by decide) (Nat.le_of_ble_eq_true rfl) rfl ?_
  intro p e s m args below meth c A C
  have fin : wo_W p l e (wo_rm 6) s m args below meth c A D 0 0 5 (MQ below (wo_Q D ((cI, .int) :: (cZ, .boolean) :: tys) (some (.int 0)) (wB cI cZ a (1) gr dy kd wo me ti td la go kp od no ax lv rh re rs ph pr o1 o2 ++ Y) A) args s 0 0 A) 24 [some (.ref (a 0)), some (.int x), some (.int y), none, none] [.ref (a 0)] (wB cI cZ a co gr dy kd wo me ti td la go kp od no ax lv rh re rs ph pr o1 o2 ++ Y) := by
    refine x_iconst C (v := 1) dX3_weigh_24 (by decide) ?_
    refine x_goto C (tgt := 42) dX3_weigh_25 (by decide) ?_
    refine pB0_code C _ dX3_weigh_42 ?_
    refine x_aload_n C dX3_weigh_45 rfl rfl ?_
    refine gB0_code C dX3_weigh_46 ?_
    refine x_if_le C (tgt := 54) dX3_weigh_49 (by decide) (fun h => ?_) (fun h => ?_)
    · exact absurd h (by decide)
    · refine x_iconst C (v := 0) dX3_weigh_52 (by decide) ?_
      exact x_iret C dX3_weigh_53 rfl rfl
  refine x_aload_n C dX3_weigh_0 rfl rfl ?_
  refine x_iload_n C dX3_weigh_1 rfl rfl ?_
  refine x_bipush C (v := 100) dX3_weigh_2 (by decide) ?_
  refine x_sipush C (v := 9999) dX3_weigh_4 (by decide) ?_
  refine x_callSi C gs_X3_48 (c_X3_in x 100 9999) rfl rfl (Nat.le_of_ble_eq_true rfl) ⟨(Nat.le_of_ble_eq_true rfl), (Nat.le_of_ble_eq_true rfl)⟩ ⟨Nat.zero_le _, Nat.zero_le _⟩ dX3_weigh_7 ?_
  refine x_if_eq C (tgt := 24) dX3_weigh_10 (by decide) (fun h => ?_) (fun h => ?_)
  · exact fin
  · refine x_iload_n C dX3_weigh_13 rfl rfl ?_
    refine x_bipush C (v := -99) dX3_weigh_14 (by decide) ?_
    refine x_bipush C (v := 99) dX3_weigh_16 (by decide) ?_
    refine x_callSi C gs_X3_48 (c_X3_in y (-99) 99) rfl rfl (Nat.le_of_ble_eq_true rfl) ⟨(Nat.le_of_ble_eq_true rfl), (Nat.le_of_ble_eq_true rfl)⟩ ⟨Nat.zero_le _, Nat.zero_le _⟩ dX3_weigh_18 ?_
    refine x_if_ne C (tgt := 28) dX3_weigh_21 (by decide) (fun h2 => ?_) (fun h2 => ?_)
    · exact absurd ⟨bz_t h, bz_t h2⟩ hx
    · exact fin
set_option maxRecDepth 100000 in
set_option maxHeartbeats 4000000 in
theorem c_X3_weigh_2 (x y : Int32) (hx : in_B x 100 9999 = true) (hy : in_B y (-99) 99 = true) (hd : dy = 7) : wo_E l yX3_weigh cX3_weigh 5 (some .int) 6 D ((cI, .int) :: (cZ, .boolean) :: tys) [.ref (a 0), .int x, .int y] (wB cI cZ a co gr dy kd wo me ti td la go kp od no ax lv rh re rs ph pr o1 o2 ++ Y) (some (.int 0)) (wB cI cZ a (2) gr dy kd wo me ti td la go kp od no ax lv rh re rs ph pr o1 o2 ++ Y) := by
  refine wo_of (ls := [some (.ref (a 0)), some (.int x), some (.int y), none, none]) (by decide) (Nat.le_of_ble_eq_true rfl) rfl ?_
  intro p e s m args below meth c A C
  refine x_aload_n C dX3_weigh_0 rfl rfl ?_
  refine x_iload_n C dX3_weigh_1 rfl rfl ?_
  refine x_bipush C (v := 100) dX3_weigh_2 (by decide) ?_
  refine x_sipush C (v := 9999) dX3_weigh_4 (by decide) ?_
  refine x_callSi C gs_X3_48 (c_X3_in x 100 9999) rfl rfl (Nat.le_of_ble_eq_true rfl) ⟨(Nat.le_of_ble_eq_true rfl), (Nat.le_of_ble_eq_true rfl)⟩ ⟨Nat.zero_le _, Nat.zero_le _⟩ dX3_weigh_7 ?_
  refine x_if_eq C (tgt := 24) dX3_weigh_10 (by decide) (fun h => ?_) (fun h => ?_)
  · exact absurd hx (by rw [bz_f h]; decide)
  · refine x_iload_n C dX3_weigh_13 rfl rfl ?_
    refine x_bipush C (v := -99) dX3_weigh_14 (by decide) ?_
    refine x_bipush C (v := 99) dX3_weigh_16 (by decide) ?_
    refine x_callSi C gs_X3_48 (c_X3_in y (-99) 99) rfl rfl (Nat.le_of_ble_eq_true rfl) ⟨(Nat.le_of_ble_eq_true rfl), (Nat.le_of_ble_eq_true rfl)⟩ ⟨Nat.zero_le _, Nat.zero_le _⟩ dX3_weigh_18 ?_
    refine x_if_ne C (tgt := 28) dX3_weigh_21 (by decide) (fun h2 => ?_) (fun h2 => ?_)
    · refine x_aload_n C dX3_weigh_28 rfl rfl ?_
      refine gB0_day C dX3_weigh_29 ?_
      refine x_bipush C (v := 7) dX3_weigh_32 (by decide) ?_
      refine x_icmp_ne C (tgt := 41) dX3_weigh_34 (by decide) (fun h3 => ?_) (fun h3 => ?_)
      · exact absurd (by rw [hd]; rfl) h3
      · refine x_iconst C (v := 2) dX3_weigh_37 (by decide) ?_
        refine x_goto C (tgt := 42) dX3_weigh_38 (by decide) ?_
        refine pB0_code C _ dX3_weigh_42 ?_
        refine x_aload_n C dX3_weigh_45 rfl rfl ?_
        refine gB0_code C dX3_weigh_46 ?_
        refine x_if_le C (tgt := 54) dX3_weigh_49 (by decide) (fun h4 => ?_) (fun h4 => ?_)
        · exact absurd h4 (by decide)
        · refine x_iconst C (v := 0) dX3_weigh_52 (by decide) ?_
          exact x_iret C dX3_weigh_53 rfl rfl
    · exact absurd hy (by rw [bz_f h2]; decide)
set_option maxRecDepth 100000 in
set_option maxHeartbeats 4000000 in
theorem c_X3_weigh (W2 : wo_sw) (x y : Int32) (t i : Nat) (hx : in_B x 100 9999 = true) (hy : in_B y (-99) 99 = true) (hd : dy ≤ 6) (hax : ax = nI t) (ht : t < 12) (hod : od t < 12) (hi : i = 7 * od t + dy)
    (hp : ∀ (rh2 : Bool) (re2 rs2 : Int32), rh2 = (if rec_B (va_up td i lv) (va_up ti i y) rh (va_up wo i (x / 10)) re i then true else rh) → re2 = (if rec_B (va_up td i lv) (va_up ti i y) rh (va_up wo i (x / 10)) re i then x / 10 else re) → rs2 = (if rec_B (va_up td i lv) (va_up ti i y) rh (va_up wo i (x / 10)) re i then rs + 1 else rs) → wo_S l yX3_passOn cX3_passOn 1 (none) 5 D ((cI, .int) :: (cZ, .boolean) :: tys) [.ref (a 0)] (wB cI cZ a (0) gr dy (va_up kd i 1) (va_up wo i (x / 10)) (va_up me i false) (va_up ti i y) (va_up td i lv) (va_up la (od t) dy) go kp od no ax lv (rh2) (re2) (rs2) ph pr o1 o2 ++ Y) none W2) : wo_S l yX3_weigh cX3_weigh 5 (some .int) 6 D ((cI, .int) :: (cZ, .boolean) :: tys) [.ref (a 0), .int x, .int y] (wB cI cZ a co gr dy kd wo me ti td la go kp od no ax lv rh re rs ph pr o1 o2 ++ Y) (some (.int (x / 10))) W2 := by
  refine wo_ofS (ls := [some (.ref (a 0)), some (.int x), some (.int y), none, none]) (by decide) (Nat.le_of_ble_eq_true rfl) rfl ?_
  intro p e s m args below meth c A C
  subst hi
  have hup : ∀ (f : Nat → Bool) (i : Nat) (u v : Bool), va_up (va_up f i u) i v = va_up f i v := fun f i u v => bx_uu f i u v
  
  refine x_aload_n C dX3_weigh_0 rfl rfl ?_
  refine x_iload_n C dX3_weigh_1 rfl rfl ?_
  refine x_bipush C (v := 100) dX3_weigh_2 (by decide) ?_
  refine x_sipush C (v := 9999) dX3_weigh_4 (by decide) ?_
  refine x_callSi C gs_X3_48 (c_X3_in x 100 9999) rfl rfl (Nat.le_of_ble_eq_true rfl) ⟨(Nat.le_of_ble_eq_true rfl), (Nat.le_of_ble_eq_true rfl)⟩ ⟨Nat.zero_le _, Nat.zero_le _⟩ dX3_weigh_7 ?_
  refine x_if_eq C (tgt := 24) dX3_weigh_10 (by decide) (fun h => ?_) (fun h => ?_)
  · exact absurd hx (by rw [bz_f h]; decide)
  · refine x_iload_n C dX3_weigh_13 rfl rfl ?_
    refine x_bipush C (v := -99) dX3_weigh_14 (by decide) ?_
    refine x_bipush C (v := 99) dX3_weigh_16 (by decide) ?_
    refine x_callSi C gs_X3_48 (c_X3_in y (-99) 99) rfl rfl (Nat.le_of_ble_eq_true rfl) ⟨(Nat.le_of_ble_eq_true rfl), (Nat.le_of_ble_eq_true rfl)⟩ ⟨Nat.zero_le _, Nat.zero_le _⟩ dX3_weigh_18 ?_
    refine x_if_ne C (tgt := 28) dX3_weigh_21 (by decide) (fun h2 => ?_) (fun h2 => ?_)
    · refine x_aload_n C dX3_weigh_28 rfl rfl ?_
      refine gB0_day C dX3_weigh_29 ?_
      refine x_bipush C (v := 7) dX3_weigh_32 (by decide) ?_
      refine x_icmp_ne C (tgt := 41) dX3_weigh_34 (by decide) (fun h3 => ?_) (fun h3 => ?_)
      · refine x_iconst C (v := 0) dX3_weigh_41 (by decide) ?_
        refine pB0_code C _ dX3_weigh_42 ?_
        refine x_aload_n C dX3_weigh_45 rfl rfl ?_
        refine gB0_code C dX3_weigh_46 ?_
        refine x_if_le C (tgt := 54) dX3_weigh_49 (by decide) (fun h4 => ?_) (fun h4 => ?_)
        · refine x_aload_n C dX3_weigh_54 rfl rfl ?_
          refine x_iconst C (v := 1) dX3_weigh_55 (by decide) ?_
          refine x_callVi C gv_X3_93 (c_X3_entry 1 t hax ht hod hd) 0 rfl rfl rfl rfl (Nat.le_of_ble_eq_true rfl) ⟨(Nat.le_of_ble_eq_true rfl), (Nat.le_of_ble_eq_true rfl)⟩ ⟨Nat.zero_le _, Nat.zero_le _⟩ dX3_weigh_56 ?_
          refine x_istore_n C dX3_weigh_59 rfl (by decide) ?_
          refine x_aload_n C dX3_weigh_60 rfl rfl ?_
          refine gB0_worth C dX3_weigh_61 ?_
          refine x_iload_n C dX3_weigh_64 rfl rfl ?_
          refine x_iload_n C dX3_weigh_65 rfl rfl ?_
          refine x_bipush C (v := 10) dX3_weigh_66 (by decide) ?_
          refine x_idiv C dX3_weigh_68 (by decide) ?_
          refine sB_wo C _ _ rfl (by omega) dX3_weigh_69 ?_
          refine x_aload_n C dX3_weigh_70 rfl rfl ?_
          refine gB0_tilted C dX3_weigh_71 ?_
          refine x_iload_n C dX3_weigh_74 rfl rfl ?_
          refine x_aload_n C dX3_weigh_75 rfl rfl ?_
          refine gB0_level C dX3_weigh_76 ?_
          refine sB_td C lv rfl _ rfl (by omega) dX3_weigh_79 ?_
          refine x_aload_n C dX3_weigh_80 rfl rfl ?_
          refine gB0_tilt C dX3_weigh_81 ?_
          refine x_iload_n C dX3_weigh_84 rfl rfl ?_
          refine x_iload_n C dX3_weigh_85 rfl rfl ?_
          refine sB_ti C _ _ rfl (by omega) dX3_weigh_86 ?_
          refine x_aload_n C dX3_weigh_87 rfl rfl ?_
          refine x_iload_n C dX3_weigh_88 rfl rfl ?_
          rw [hup]
          refine x_callVv C gv_X3_96 (c_X3_asRecord (7 * od t + dy) (by omega)) 0 rfl rfl rfl rfl (Nat.le_of_ble_eq_true rfl) ⟨(Nat.le_of_ble_eq_true rfl), (Nat.le_of_ble_eq_true rfl)⟩ ⟨Nat.zero_le _, Nat.zero_le _⟩ dX3_weigh_89 ?_
          refine x_aload_n C dX3_weigh_92 rfl rfl ?_
          refine gB0_worth C dX3_weigh_93 ?_
          refine x_iload_n C dX3_weigh_96 rfl rfl ?_
          refine lB_wo C _ rfl (by omega) dX3_weigh_97 ?_
          refine x_top (y := x / 10) up_eq ?_
          refine x_istore C dX3_weigh_98 (by decide) ?_
          refine x_aload_n C dX3_weigh_100 rfl rfl ?_
          refine x_callVSv C gv_X3_99 (hp _ _ _ rfl (by rw [up_eq]) rfl) 0 rfl rfl rfl rfl (Nat.le_of_ble_eq_true rfl) ⟨(Nat.le_of_ble_eq_true rfl), (Nat.le_of_ble_eq_true rfl)⟩ ⟨Nat.zero_le _, Nat.zero_le _⟩ dX3_weigh_101 (fun o1 o2 => ?_)
          refine x_iload C dX3_weigh_104 rfl ?_
          exact x_iretS C dX3_weigh_106 rfl rfl
        · exact absurd (by decide) h4
      · exact absurd (wo_ieq (a := dy) (b := 7) (by omega) (by omega) h3) (by omega)
    · exact absurd hy (by rw [bz_f h2]; decide)
end MDD
end
section
/-! ===== the reference: further calls that write ===== -/
section MDE
variable {l : Launch} {D : va_G} {tys : List (ClassId × FieldType)} {cI cZ : ClassId} {a : Nat → Nat} {Y : va_W} {co : Int32} {gr : Nat} {dy : Nat} {kd : Nat → Int32} {wo : Nat → Int32} {me : Nat → Bool} {ti : Nat → Int32} {td : Nat → Bool} {la : Nat → Nat} {go : Nat → Bool} {kp : Nat → Bool} {od : Nat → Nat} {no : Nat} {ax : Int32} {lv : Bool} {rh : Bool} {re : Int32} {rs : Int32} {ph : Bool} {pr : Int32} {o1 : Nat → Int32} {o2 : Nat → Int32}
set_option maxRecDepth 100000 in
set_option maxHeartbeats 4000000 in
theorem c_X3_crack_1 (x y : Int32) (hx : ¬ ((x = 0 ∨ in_B x 100 9999 = true) ∧ in_B y (-99) 99 = true)) : wo_E l yX3_crack cX3_crack 4 (none) 6 D ((cI, .int) :: (cZ, .boolean) :: tys) [.ref (a 0), .int x, .int y] (wB cI cZ a co gr dy kd wo me ti td la go kp od no ax lv rh re rs ph pr o1 o2 ++ Y) none (wB cI cZ a (1) gr dy kd wo me ti td la go kp od no ax lv rh re rs ph pr o1 o2 ++ Y) := by
  refine wo_of (ls := [some (.ref (a 0)), some (.int x), some (.int y), none]) (by decide) (Nat.le_of_ble_eq_true rfl) rfl ?_
  intro p e s m args below meth c A C
  have fin : wo_W p l e (wo_rm 6) s m args below meth c A D 0 0 4 (MQ below (wo_Q D ((cI, .int) :: (cZ, .boolean) :: tys) none (wB cI cZ a (1) gr dy kd wo me ti td la go kp od no ax lv rh re rs ph pr o1 o2 ++ Y) A) args s 0 0 A) 28 [some (.ref (a 0)), some (.int x), some (.int y), none] [.ref (a 0)] (wB cI cZ a co gr dy kd wo me ti td la go kp od no ax lv rh re rs ph pr o1 o2 ++ Y) := by
    refine x_iconst C (v := 1) dX3_crack_28 (by decide) ?_
    refine x_goto C (tgt := 46) dX3_crack_29 (by decide) ?_
    refine pB0_code C _ dX3_crack_46 ?_
    refine x_aload_n C dX3_crack_49 rfl rfl ?_
    refine gB0_code C dX3_crack_50 ?_
    refine x_if_le C (tgt := 57) dX3_crack_53 (by decide) (fun h => ?_) (fun h => ?_)
    · exact absurd h (by decide)
    · exact x_vret C dX3_crack_56 rfl rfl
  have f17 : (x = 0 ∨ in_B x 100 9999 = true) → wo_W p l e (wo_rm 6) s m args below meth c A D 0 0 4 (MQ below (wo_Q D ((cI, .int) :: (cZ, .boolean) :: tys) none (wB cI cZ a (1) gr dy kd wo me ti td la go kp od no ax lv rh re rs ph pr o1 o2 ++ Y) A) args s 0 0 A) 17 [some (.ref (a 0)), some (.int x), some (.int y), none] [.ref (a 0)] (wB cI cZ a co gr dy kd wo me ti td la go kp od no ax lv rh re rs ph pr o1 o2 ++ Y) := by
    intro h1
    refine x_iload_n C dX3_crack_17 rfl rfl ?_
    refine x_bipush C (v := -99) dX3_crack_18 (by decide) ?_
    refine x_bipush C (v := 99) dX3_crack_20 (by decide) ?_
    refine x_callSi C gs_X3_48 (c_X3_in y (-99) 99) rfl rfl (Nat.le_of_ble_eq_true rfl) ⟨(Nat.le_of_ble_eq_true rfl), (Nat.le_of_ble_eq_true rfl)⟩ ⟨Nat.zero_le _, Nat.zero_le _⟩ dX3_crack_22 ?_
    refine x_if_ne C (tgt := 32) dX3_crack_25 (by decide) (fun h2 => ?_) (fun h2 => ?_)
    · exact absurd ⟨h1, bz_t h2⟩ hx
    · exact fin
  refine x_aload_n C dX3_crack_0 rfl rfl ?_
  refine x_iload_n C dX3_crack_1 rfl rfl ?_
  refine x_if_eq C (tgt := 17) dX3_crack_2 (by decide) (fun h => ?_) (fun h => ?_)
  · exact f17 (Or.inl h)
  · refine x_iload_n C dX3_crack_5 rfl rfl ?_
    refine x_bipush C (v := 100) dX3_crack_6 (by decide) ?_
    refine x_sipush C (v := 9999) dX3_crack_8 (by decide) ?_
    refine x_callSi C gs_X3_48 (c_X3_in x 100 9999) rfl rfl (Nat.le_of_ble_eq_true rfl) ⟨(Nat.le_of_ble_eq_true rfl), (Nat.le_of_ble_eq_true rfl)⟩ ⟨Nat.zero_le _, Nat.zero_le _⟩ dX3_crack_11 ?_
    refine x_if_eq C (tgt := 28) dX3_crack_14 (by decide) (fun h2 => ?_) (fun h2 => ?_)
    · exact fin
    · exact f17 (Or.inr (bz_t h2))
set_option maxRecDepth 100000 in
set_option maxHeartbeats 4000000 in
theorem c_X3_crack_2 (x y : Int32) (hx : x = 0 ∨ in_B x 100 9999 = true) (hy : in_B y (-99) 99 = true) (hd : dy = 7) : wo_E l yX3_crack cX3_crack 4 (none) 6 D ((cI, .int) :: (cZ, .boolean) :: tys) [.ref (a 0), .int x, .int y] (wB cI cZ a co gr dy kd wo me ti td la go kp od no ax lv rh re rs ph pr o1 o2 ++ Y) none (wB cI cZ a (2) gr dy kd wo me ti td la go kp od no ax lv rh re rs ph pr o1 o2 ++ Y) := by
  refine wo_of (ls := [some (.ref (a 0)), some (.int x), some (.int y), none]) (by decide) (Nat.le_of_ble_eq_true rfl) rfl ?_
  intro p e s m args below meth c A C
  have f17 : wo_W p l e (wo_rm 6) s m args below meth c A D 0 0 4 (MQ below (wo_Q D ((cI, .int) :: (cZ, .boolean) :: tys) none (wB cI cZ a (2) gr dy kd wo me ti td la go kp od no ax lv rh re rs ph pr o1 o2 ++ Y) A) args s 0 0 A) 17 [some (.ref (a 0)), some (.int x), some (.int y), none] [.ref (a 0)] (wB cI cZ a co gr dy kd wo me ti td la go kp od no ax lv rh re rs ph pr o1 o2 ++ Y) := by
    refine x_iload_n C dX3_crack_17 rfl rfl ?_
    refine x_bipush C (v := -99) dX3_crack_18 (by decide) ?_
    refine x_bipush C (v := 99) dX3_crack_20 (by decide) ?_
    refine x_callSi C gs_X3_48 (c_X3_in y (-99) 99) rfl rfl (Nat.le_of_ble_eq_true rfl) ⟨(Nat.le_of_ble_eq_true rfl), (Nat.le_of_ble_eq_true rfl)⟩ ⟨Nat.zero_le _, Nat.zero_le _⟩ dX3_crack_22 ?_
    refine x_if_ne C (tgt := 32) dX3_crack_25 (by decide) (fun h2 => ?_) (fun h2 => ?_)
    · refine x_aload_n C dX3_crack_32 rfl rfl ?_
      refine gB0_day C dX3_crack_33 ?_
      refine x_bipush C (v := 7) dX3_crack_36 (by decide) ?_
      refine x_icmp_ne C (tgt := 45) dX3_crack_38 (by decide) (fun h3 => ?_) (fun h3 => ?_)
      · exact absurd (by rw [hd]; rfl) h3
      · refine x_iconst C (v := 2) dX3_crack_41 (by decide) ?_
        refine x_goto C (tgt := 46) dX3_crack_42 (by decide) ?_
        refine pB0_code C _ dX3_crack_46 ?_
        refine x_aload_n C dX3_crack_49 rfl rfl ?_
        refine gB0_code C dX3_crack_50 ?_
        refine x_if_le C (tgt := 57) dX3_crack_53 (by decide) (fun h4 => ?_) (fun h4 => ?_)
        · exact absurd h4 (by decide)
        · exact x_vret C dX3_crack_56 rfl rfl
    · exact absurd hy (by rw [bz_f h2]; decide)
  refine x_aload_n C dX3_crack_0 rfl rfl ?_
  refine x_iload_n C dX3_crack_1 rfl rfl ?_
  refine x_if_eq C (tgt := 17) dX3_crack_2 (by decide) (fun h => ?_) (fun h => ?_)
  · exact f17
  · refine x_iload_n C dX3_crack_5 rfl rfl ?_
    refine x_bipush C (v := 100) dX3_crack_6 (by decide) ?_
    refine x_sipush C (v := 9999) dX3_crack_8 (by decide) ?_
    refine x_callSi C gs_X3_48 (c_X3_in x 100 9999) rfl rfl (Nat.le_of_ble_eq_true rfl) ⟨(Nat.le_of_ble_eq_true rfl), (Nat.le_of_ble_eq_true rfl)⟩ ⟨Nat.zero_le _, Nat.zero_le _⟩ dX3_crack_11 ?_
    refine x_if_eq C (tgt := 28) dX3_crack_14 (by decide) (fun h2 => ?_) (fun h2 => ?_)
    · exact absurd hx (by rw [bz_f h2]; rintro (z | z); exact h z; exact absurd z (by decide))
    · exact f17
set_option maxRecDepth 100000 in
set_option maxHeartbeats 4000000 in
theorem c_X3_crack (W2 : wo_sw) (x y : Int32) (t i : Nat) (hx : x = 0 ∨ in_B x 100 9999 = true) (hy : in_B y (-99) 99 = true) (hd : dy ≤ 6) (hax : ax = nI t) (ht : t < 12) (hod : od t < 12) (hi : i = 7 * od t + dy)
    (hp : wo_S l yX3_passOn cX3_passOn 1 (none) 5 D ((cI, .int) :: (cZ, .boolean) :: tys) [.ref (a 0)] (wB cI cZ a (0) gr dy (va_up kd i 2) (va_up wo i (x / 10)) (va_up me i (decide (¬ x = 0))) (va_up ti i y) (va_up td i lv) (va_up la (od t) dy) go kp od no ax lv rh re rs ph pr o1 o2 ++ Y) none W2) : wo_S l yX3_crack cX3_crack 4 (none) 6 D ((cI, .int) :: (cZ, .boolean) :: tys) [.ref (a 0), .int x, .int y] (wB cI cZ a co gr dy kd wo me ti td la go kp od no ax lv rh re rs ph pr o1 o2 ++ Y) none W2 := by
  refine wo_ofS (ls := [some (.ref (a 0)), some (.int x), some (.int y), none]) (by decide) (Nat.le_of_ble_eq_true rfl) rfl ?_
  intro p e s m args below meth c A C
  subst hi
  have hup : ∀ (f : Nat → Bool) (i : Nat) (u v : Bool), va_up (va_up f i u) i v = va_up f i v := fun f i u v => bx_uu f i u v
  
  have f87 : ∀ v : Int32, v = bz (decide (¬ x = 0)) → wo_W p l e (wo_rm 6) s m args below meth c A D 0 0 4 (MQ below (wo_QS D ((cI, .int) :: (cZ, .boolean) :: tys) none W2 A) args s 0 0 A) 87 [some (.ref (a 0)), some (.int x), some (.int y), some (.int (nI (7 * od t + dy)))] [.int v, .int (nI (7 * od t + dy)), .ref (a 3)] (wB cI cZ a (0) gr dy (va_up kd (7 * od t + dy) 2) (va_up wo (7 * od t + dy) (x / 10)) (va_up me (7 * od t + dy) false) ti (va_up td (7 * od t + dy) false) (va_up la (od t) dy) go kp od no ax lv rh re rs ph pr o1 o2 ++ Y) := by
    intro v hv
    refine sB_me C (decide (¬ x = 0)) hv _ rfl (by omega) dX3_crack_87 ?_
    refine x_aload_n C dX3_crack_88 rfl rfl ?_
    refine gB0_tilted C dX3_crack_89 ?_
    refine x_iload_n C dX3_crack_92 rfl rfl ?_
    refine x_aload_n C dX3_crack_93 rfl rfl ?_
    refine gB0_level C dX3_crack_94 ?_
    refine sB_td C lv rfl _ rfl (by omega) dX3_crack_97 ?_
    refine x_aload_n C dX3_crack_98 rfl rfl ?_
    refine gB0_tilt C dX3_crack_99 ?_
    refine x_iload_n C dX3_crack_102 rfl rfl ?_
    refine x_iload_n C dX3_crack_103 rfl rfl ?_
    refine sB_ti C _ _ rfl (by omega) dX3_crack_104 ?_
    refine x_aload_n C dX3_crack_105 rfl rfl ?_
    rw [hup, hup]
    refine x_callVSv C gv_X3_99 (hp) 0 rfl rfl rfl rfl (Nat.le_of_ble_eq_true rfl) ⟨(Nat.le_of_ble_eq_true rfl), (Nat.le_of_ble_eq_true rfl)⟩ ⟨Nat.zero_le _, Nat.zero_le _⟩ dX3_crack_106 (fun o1 o2 => ?_)
    exact x_vretS C dX3_crack_109 rfl rfl
  have f17 : wo_W p l e (wo_rm 6) s m args below meth c A D 0 0 4 (MQ below (wo_QS D ((cI, .int) :: (cZ, .boolean) :: tys) none W2 A) args s 0 0 A) 17 [some (.ref (a 0)), some (.int x), some (.int y), none] [.ref (a 0)] (wB cI cZ a co gr dy kd wo me ti td la go kp od no ax lv rh re rs ph pr o1 o2 ++ Y) := by
    refine x_iload_n C dX3_crack_17 rfl rfl ?_
    refine x_bipush C (v := -99) dX3_crack_18 (by decide) ?_
    refine x_bipush C (v := 99) dX3_crack_20 (by decide) ?_
    refine x_callSi C gs_X3_48 (c_X3_in y (-99) 99) rfl rfl (Nat.le_of_ble_eq_true rfl) ⟨(Nat.le_of_ble_eq_true rfl), (Nat.le_of_ble_eq_true rfl)⟩ ⟨Nat.zero_le _, Nat.zero_le _⟩ dX3_crack_22 ?_
    refine x_if_ne C (tgt := 32) dX3_crack_25 (by decide) (fun h2 => ?_) (fun h2 => ?_)
    · refine x_aload_n C dX3_crack_32 rfl rfl ?_
      refine gB0_day C dX3_crack_33 ?_
      refine x_bipush C (v := 7) dX3_crack_36 (by decide) ?_
      refine x_icmp_ne C (tgt := 45) dX3_crack_38 (by decide) (fun h3 => ?_) (fun h3 => ?_)
      · refine x_iconst C (v := 0) dX3_crack_45 (by decide) ?_
        refine pB0_code C _ dX3_crack_46 ?_
        refine x_aload_n C dX3_crack_49 rfl rfl ?_
        refine gB0_code C dX3_crack_50 ?_
        refine x_if_le C (tgt := 57) dX3_crack_53 (by decide) (fun h4 => ?_) (fun h4 => ?_)
        · refine x_aload_n C dX3_crack_57 rfl rfl ?_
          refine x_iconst C (v := 2) dX3_crack_58 (by decide) ?_
          refine x_callVi C gv_X3_93 (c_X3_entry 2 t hax ht hod hd) 0 rfl rfl rfl rfl (Nat.le_of_ble_eq_true rfl) ⟨(Nat.le_of_ble_eq_true rfl), (Nat.le_of_ble_eq_true rfl)⟩ ⟨Nat.zero_le _, Nat.zero_le _⟩ dX3_crack_59 ?_
          refine x_istore_n C dX3_crack_62 rfl (by decide) ?_
          refine x_aload_n C dX3_crack_63 rfl rfl ?_
          refine gB0_worth C dX3_crack_64 ?_
          refine x_iload_n C dX3_crack_67 rfl rfl ?_
          refine x_iload_n C dX3_crack_68 rfl rfl ?_
          refine x_bipush C (v := 10) dX3_crack_69 (by decide) ?_
          refine x_idiv C dX3_crack_71 (by decide) ?_
          refine sB_wo C _ _ rfl (by omega) dX3_crack_72 ?_
          refine x_aload_n C dX3_crack_73 rfl rfl ?_
          refine gB0_measured C dX3_crack_74 ?_
          refine x_iload_n C dX3_crack_77 rfl rfl ?_
          refine x_iload_n C dX3_crack_78 rfl rfl ?_
          refine x_if_eq C (tgt := 86) dX3_crack_79 (by decide) (fun h5 => ?_) (fun h5 => ?_)
          · refine x_iconst C (v := 0) dX3_crack_86 (by decide) ?_
            exact f87 0 (by rw [decide_eq_false (fun z => z h5)]; rfl)
          · refine x_iconst C (v := 1) dX3_crack_82 (by decide) ?_
            refine x_goto C (tgt := 87) dX3_crack_83 (by decide) ?_
            exact f87 1 (by rw [decide_eq_true h5]; rfl)
        · exact absurd (by decide) h4
      · exact absurd (wo_ieq (a := dy) (b := 7) (by omega) (by omega) h3) (by omega)
    · exact absurd hy (by rw [bz_f h2]; decide)
  refine x_aload_n C dX3_crack_0 rfl rfl ?_
  refine x_iload_n C dX3_crack_1 rfl rfl ?_
  refine x_if_eq C (tgt := 17) dX3_crack_2 (by decide) (fun h => ?_) (fun h => ?_)
  · exact f17
  · refine x_iload_n C dX3_crack_5 rfl rfl ?_
    refine x_bipush C (v := 100) dX3_crack_6 (by decide) ?_
    refine x_sipush C (v := 9999) dX3_crack_8 (by decide) ?_
    refine x_callSi C gs_X3_48 (c_X3_in x 100 9999) rfl rfl (Nat.le_of_ble_eq_true rfl) ⟨(Nat.le_of_ble_eq_true rfl), (Nat.le_of_ble_eq_true rfl)⟩ ⟨Nat.zero_le _, Nat.zero_le _⟩ dX3_crack_11 ?_
    refine x_if_eq C (tgt := 28) dX3_crack_14 (by decide) (fun h2 => ?_) (fun h2 => ?_)
    · exact absurd hx (by rw [bz_f h2]; rintro (z | z); exact h z; exact absurd z (by decide))
    · exact f17
set_option maxRecDepth 100000 in
set_option maxHeartbeats 4000000 in
theorem c_X3_pass_1 (hd : dy = 7) : wo_E l yX3_pass cX3_pass 2 (none) 6 D ((cI, .int) :: (cZ, .boolean) :: tys) [.ref (a 0)] (wB cI cZ a co gr dy kd wo me ti td la go kp od no ax lv rh re rs ph pr o1 o2 ++ Y) none (wB cI cZ a (1) gr dy kd wo me ti td la go kp od no ax lv rh re rs ph pr o1 o2 ++ Y) := by
  refine wo_of (ls := [some (.ref (a 0)), none]) (by decide) (Nat.le_of_ble_eq_true rfl) rfl ?_
  intro p e s m args below meth c A C
  refine x_aload_n C dX3_pass_0 rfl rfl ?_
  refine x_aload_n C dX3_pass_1 rfl rfl ?_
  refine gB0_day C dX3_pass_2 ?_
  refine x_bipush C (v := 7) dX3_pass_5 (by decide) ?_
  refine x_icmp_ne C (tgt := 14) dX3_pass_7 (by decide) (fun h => ?_) (fun h => ?_)
  · exact absurd (by rw [hd]; rfl) h
  · refine x_iconst C (v := 1) dX3_pass_10 (by decide) ?_
    refine x_goto C (tgt := 15) dX3_pass_11 (by decide) ?_
    refine pB0_code C _ dX3_pass_15 ?_
    refine x_aload_n C dX3_pass_18 rfl rfl ?_
    refine gB0_code C dX3_pass_19 ?_
    refine x_if_ne C (tgt := 35) dX3_pass_22 (by decide) (fun h2 => ?_) (fun h2 => ?_)
    · exact x_vret C dX3_pass_35 rfl rfl
    · exact absurd h2 (by decide)
set_option maxRecDepth 100000 in
set_option maxHeartbeats 4000000 in
theorem c_X3_pass (W2 : wo_sw) (t i : Nat) (hd : dy ≤ 6) (hax : ax = nI t) (ht : t < 12) (hod : od t < 12) (hi : i = 7 * od t + dy)
    (hp : wo_S l yX3_passOn cX3_passOn 1 (none) 5 D ((cI, .int) :: (cZ, .boolean) :: tys) [.ref (a 0)] (wB cI cZ a (0) gr dy (va_up kd i 3) wo (va_up me i false) ti (va_up td i false) (va_up la (od t) dy) go kp od no ax lv rh re rs ph pr o1 o2 ++ Y) none W2) : wo_S l yX3_pass cX3_pass 2 (none) 6 D ((cI, .int) :: (cZ, .boolean) :: tys) [.ref (a 0)] (wB cI cZ a co gr dy kd wo me ti td la go kp od no ax lv rh re rs ph pr o1 o2 ++ Y) none W2 := by
  refine wo_ofS (ls := [some (.ref (a 0)), none]) (by decide) (Nat.le_of_ble_eq_true rfl) rfl ?_
  intro p e s m args below meth c A C
  subst hi
  
  refine x_aload_n C dX3_pass_0 rfl rfl ?_
  refine x_aload_n C dX3_pass_1 rfl rfl ?_
  refine gB0_day C dX3_pass_2 ?_
  refine x_bipush C (v := 7) dX3_pass_5 (by decide) ?_
  refine x_icmp_ne C (tgt := 14) dX3_pass_7 (by decide) (fun h => ?_) (fun h => ?_)
  · refine x_iconst C (v := 0) dX3_pass_14 (by decide) ?_
    refine pB0_code C _ dX3_pass_15 ?_
    refine x_aload_n C dX3_pass_18 rfl rfl ?_
    refine gB0_code C dX3_pass_19 ?_
    refine x_if_ne C (tgt := 35) dX3_pass_22 (by decide) (fun h2 => ?_) (fun h2 => ?_)
    · exact absurd rfl h2
    · refine x_aload_n C dX3_pass_25 rfl rfl ?_
      refine x_iconst C (v := 3) dX3_pass_26 (by decide) ?_
      refine x_callVi C gv_X3_93 (c_X3_entry 3 t hax ht hod hd) 0 rfl rfl rfl rfl (Nat.le_of_ble_eq_true rfl) ⟨(Nat.le_of_ble_eq_true rfl), (Nat.le_of_ble_eq_true rfl)⟩ ⟨Nat.zero_le _, Nat.zero_le _⟩ dX3_pass_27 ?_
      refine x_istore_n C dX3_pass_30 rfl (by decide) ?_
      refine x_aload_n C dX3_pass_31 rfl rfl ?_
      refine x_callVSv C gv_X3_99 (hp) 0 rfl rfl rfl rfl (Nat.le_of_ble_eq_true rfl) ⟨(Nat.le_of_ble_eq_true rfl), (Nat.le_of_ble_eq_true rfl)⟩ ⟨Nat.zero_le _, Nat.zero_le _⟩ dX3_pass_32 (fun o1 o2 => ?_)
      exact x_vretS C dX3_pass_35 rfl rfl
  · exact absurd (wo_ieq (a := dy) (b := 7) (by omega) (by omega) h) (by omega)
set_option maxRecDepth 100000 in
set_option maxHeartbeats 4000000 in
theorem c_X3_leave_1 (x : Int32) (hg : 1 ≤ gr) (hx : in_B x 0 (nI (gr - 1)) = false) : wo_E l yX3_leave cX3_leave 2 (none) 6 D ((cI, .int) :: (cZ, .boolean) :: tys) [.ref (a 0), .int x] (wB cI cZ a co gr dy kd wo me ti td la go kp od no ax lv rh re rs ph pr o1 o2 ++ Y) none (wB cI cZ a (1) gr dy kd wo me ti td la go kp od no ax lv rh re rs ph pr o1 o2 ++ Y) := by
  refine wo_of (ls := [some (.ref (a 0)), some (.int x)]) (by decide) (Nat.le_of_ble_eq_true rfl) rfl ?_
  intro p e s m args below meth c A C
  refine x_aload_n C dX3_leave_0 rfl rfl ?_
  refine x_iload_n C dX3_leave_1 rfl rfl ?_
  refine x_iconst C (v := 0) dX3_leave_2 (by decide) ?_
  refine x_aload_n C dX3_leave_3 rfl rfl ?_
  refine gB0_growers C dX3_leave_4 ?_
  refine x_iconst C (v := 1) dX3_leave_7 (by decide) ?_
  refine x_isub C dX3_leave_8 ?_
  refine x_top (wo_gr1 hg) ?_
  refine x_callSi C gs_X3_48 (c_X3_in x 0 (nI (gr - 1))) rfl rfl (Nat.le_of_ble_eq_true rfl) ⟨(Nat.le_of_ble_eq_true rfl), (Nat.le_of_ble_eq_true rfl)⟩ ⟨Nat.zero_le _, Nat.zero_le _⟩ dX3_leave_9 ?_
  refine x_if_ne C (tgt := 19) dX3_leave_12 (by decide) (fun h => ?_) (fun h => ?_)
  · exact absurd hx (by rw [bz_t h]; decide)
  · refine x_iconst C (v := 1) dX3_leave_15 (by decide) ?_
    refine x_goto C (tgt := 33) dX3_leave_16 (by decide) ?_
    refine pB0_code C _ dX3_leave_33 ?_
    refine x_aload_n C dX3_leave_36 rfl rfl ?_
    refine gB0_code C dX3_leave_37 ?_
    refine x_if_le C (tgt := 44) dX3_leave_40 (by decide) (fun h2 => ?_) (fun h2 => ?_)
    · exact absurd h2 (by decide)
    · exact x_vret C dX3_leave_43 rfl rfl
set_option maxRecDepth 100000 in
set_option maxHeartbeats 4000000 in
theorem c_X3_leave_2 (w : Nat) (hw : w < gr) (hg : gr ≤ 12) (hgo : go w = true) : wo_E l yX3_leave cX3_leave 2 (none) 6 D ((cI, .int) :: (cZ, .boolean) :: tys) [.ref (a 0), .int (nI w)] (wB cI cZ a co gr dy kd wo me ti td la go kp od no ax lv rh re rs ph pr o1 o2 ++ Y) none (wB cI cZ a (2) gr dy kd wo me ti td la go kp od no ax lv rh re rs ph pr o1 o2 ++ Y) := by
  refine wo_of (ls := [some (.ref (a 0)), some (.int (nI w))]) (by decide) (Nat.le_of_ble_eq_true rfl) rfl ?_
  intro p e s m args below meth c A C
  refine x_aload_n C dX3_leave_0 rfl rfl ?_
  refine x_iload_n C dX3_leave_1 rfl rfl ?_
  refine x_iconst C (v := 0) dX3_leave_2 (by decide) ?_
  refine x_aload_n C dX3_leave_3 rfl rfl ?_
  refine gB0_growers C dX3_leave_4 ?_
  refine x_iconst C (v := 1) dX3_leave_7 (by decide) ?_
  refine x_isub C dX3_leave_8 ?_
  refine x_top (wo_gr1 (by omega)) ?_
  refine x_callSi C gs_X3_48 (c_X3_in (nI w) 0 (nI (gr - 1))) rfl rfl (Nat.le_of_ble_eq_true rfl) ⟨(Nat.le_of_ble_eq_true rfl), (Nat.le_of_ble_eq_true rfl)⟩ ⟨Nat.zero_le _, Nat.zero_le _⟩ dX3_leave_9 ?_
  refine x_if_ne C (tgt := 19) dX3_leave_12 (by decide) (fun h => ?_) (fun h => ?_)
  · refine x_aload_n C dX3_leave_19 rfl rfl ?_
    refine gB0_gone C dX3_leave_20 ?_
    refine x_iload_n C dX3_leave_23 rfl rfl ?_
    refine lB_go C _ rfl (by omega) dX3_leave_24 ?_
    refine x_if_eq C (tgt := 32) dX3_leave_25 (by decide) (fun h2 => ?_) (fun h2 => ?_)
    · exact absurd hgo (by rw [bz_f h2]; decide)
    · refine x_iconst C (v := 2) dX3_leave_28 (by decide) ?_
      refine x_goto C (tgt := 33) dX3_leave_29 (by decide) ?_
      refine pB0_code C _ dX3_leave_33 ?_
      refine x_aload_n C dX3_leave_36 rfl rfl ?_
      refine gB0_code C dX3_leave_37 ?_
      refine x_if_le C (tgt := 44) dX3_leave_40 (by decide) (fun h3 => ?_) (fun h3 => ?_)
      · exact absurd h3 (by decide)
      · exact x_vret C dX3_leave_43 rfl rfl
  · exact absurd (wo_in0' hg hw) (by rw [bz_f h]; decide)
set_option maxRecDepth 100000 in
set_option maxHeartbeats 4000000 in
theorem c_X3_leave (W2 : wo_sw) (w t : Nat) (hw : w < gr) (hg : gr ≤ 12) (hgo : go w = false) (hd : dy ≤ 7) (hax : ¬ dy = 7 → ax = nI t ∧ t < 12 ∧ od t < 12)
    (h1 : ¬ (¬ dy = 7 ∧ od t = w) → (wB cI cZ a (0) gr dy kd wo me ti td la (va_up go w true) kp od no ax lv rh re rs ph pr o1 o2 ++ Y) = W2 o1 o2)
    (h2 : ¬ dy = 7 ∧ od t = w → wo_S l yX3_passOn cX3_passOn 1 (none) 5 D ((cI, .int) :: (cZ, .boolean) :: tys) [.ref (a 0)] (wB cI cZ a (0) gr dy kd wo me ti td la (va_up go w true) kp od no ax lv rh re rs ph pr o1 o2 ++ Y) none W2) : wo_S l yX3_leave cX3_leave 2 (none) 6 D ((cI, .int) :: (cZ, .boolean) :: tys) [.ref (a 0), .int (nI w)] (wB cI cZ a co gr dy kd wo me ti td la go kp od no ax lv rh re rs ph pr o1 o2 ++ Y) none W2 := by
  refine wo_ofS (ls := [some (.ref (a 0)), some (.int (nI w))]) (by decide) (Nat.le_of_ble_eq_true rfl) rfl ?_
  intro p e s m args below meth c A C
  
  refine x_aload_n C dX3_leave_0 rfl rfl ?_
  refine x_iload_n C dX3_leave_1 rfl rfl ?_
  refine x_iconst C (v := 0) dX3_leave_2 (by decide) ?_
  refine x_aload_n C dX3_leave_3 rfl rfl ?_
  refine gB0_growers C dX3_leave_4 ?_
  refine x_iconst C (v := 1) dX3_leave_7 (by decide) ?_
  refine x_isub C dX3_leave_8 ?_
  refine x_top (wo_gr1 (by omega)) ?_
  refine x_callSi C gs_X3_48 (c_X3_in (nI w) 0 (nI (gr - 1))) rfl rfl (Nat.le_of_ble_eq_true rfl) ⟨(Nat.le_of_ble_eq_true rfl), (Nat.le_of_ble_eq_true rfl)⟩ ⟨Nat.zero_le _, Nat.zero_le _⟩ dX3_leave_9 ?_
  refine x_if_ne C (tgt := 19) dX3_leave_12 (by decide) (fun h => ?_) (fun h => ?_)
  · refine x_aload_n C dX3_leave_19 rfl rfl ?_
    refine gB0_gone C dX3_leave_20 ?_
    refine x_iload_n C dX3_leave_23 rfl rfl ?_
    refine lB_go C _ rfl (by omega) dX3_leave_24 ?_
    refine x_if_eq C (tgt := 32) dX3_leave_25 (by decide) (fun h3 => ?_) (fun h3 => ?_)
    · refine x_iconst C (v := 0) dX3_leave_32 (by decide) ?_
      refine pB0_code C _ dX3_leave_33 ?_
      refine x_aload_n C dX3_leave_36 rfl rfl ?_
      refine gB0_code C dX3_leave_37 ?_
      refine x_if_le C (tgt := 44) dX3_leave_40 (by decide) (fun h4 => ?_) (fun h4 => ?_)
      · refine x_aload_n C dX3_leave_44 rfl rfl ?_
        refine gB0_gone C dX3_leave_45 ?_
        refine x_iload_n C dX3_leave_48 rfl rfl ?_
        refine x_iconst C (v := 1) dX3_leave_49 (by decide) ?_
        refine sB_go C true rfl w rfl (by omega) dX3_leave_50 ?_
        refine x_aload_n C dX3_leave_51 rfl rfl ?_
        refine gB0_day C dX3_leave_52 ?_
        refine x_bipush C (v := 7) dX3_leave_55 (by decide) ?_
        refine x_icmp_eq C (tgt := 77) dX3_leave_57 (by decide) (fun h5 => ?_) (fun h5 => ?_)
        · have h6 : dy = 7 := wo_ieq (a := dy) (b := 7) (by omega) (by omega) h5
          exact x_vretS C dX3_leave_77 rfl (h1 (fun z => z.1 h6))
        · have h6 : ¬ dy = 7 := fun z => h5 (by rw [z]; rfl)
          obtain ⟨g1, g2, g3⟩ := hax h6
          refine x_aload_n C dX3_leave_60 rfl rfl ?_
          refine gB0_order C dX3_leave_61 ?_
          refine x_aload_n C dX3_leave_64 rfl rfl ?_
          refine gB0_at C dX3_leave_65 ?_
          refine lB_od C t g1 g2 dX3_leave_68 ?_
          refine x_iload_n C dX3_leave_69 rfl rfl ?_
          refine x_icmp_ne C (tgt := 77) dX3_leave_70 (by decide) (fun h7 => ?_) (fun h7 => ?_)
          · exact x_vretS C dX3_leave_77 rfl (h1 (fun z => h7 (by rw [z.2])))
          · refine x_aload_n C dX3_leave_73 rfl rfl ?_
            refine x_callVSv C gv_X3_99 (h2 ⟨h6, wo_ieq (by omega) (by omega) h7⟩) 0 rfl rfl rfl rfl (Nat.le_of_ble_eq_true rfl) ⟨(Nat.le_of_ble_eq_true rfl), (Nat.le_of_ble_eq_true rfl)⟩ ⟨Nat.zero_le _, Nat.zero_le _⟩ dX3_leave_74 (fun o1 o2 => ?_)
            exact x_vretS C dX3_leave_77 rfl rfl
      · exact absurd (by decide) h4
    · exact absurd hgo (by rw [bz_t h3]; decide)
  · exact absurd (wo_in0' hg hw) (by rw [bz_f h]; decide)
set_option maxRecDepth 100000 in
set_option maxHeartbeats 4000000 in
theorem c_X3_isEntry (x y : Int32) (hg : 1 ≤ gr) : wo_E l yX3_isEntry cX3_isEntry 3 (some .boolean) 1 D ((cI, .int) :: (cZ, .boolean) :: tys) [.ref (a 0), .int x, .int y] (wB cI cZ a co gr dy kd wo me ti td la go kp od no ax lv rh re rs ph pr o1 o2 ++ Y) (some (.int (bz (in_B x 0 (nI (gr - 1)) && in_B y 1 6)))) (wB cI cZ a co gr dy kd wo me ti td la go kp od no ax lv rh re rs ph pr o1 o2 ++ Y) := by
  refine wo_of (ls := [some (.ref (a 0)), some (.int x), some (.int y)]) (by decide) (Nat.le_of_ble_eq_true rfl) rfl ?_
  intro p e s m args below meth c A C
  refine x_iload_n C dX3_isEntry_0 rfl rfl ?_
  refine x_iconst C (v := 0) dX3_isEntry_1 (by decide) ?_
  refine x_aload_n C dX3_isEntry_2 rfl rfl ?_
  refine gB0_growers C dX3_isEntry_3 ?_
  refine x_iconst C (v := 1) dX3_isEntry_6 (by decide) ?_
  refine x_isub C dX3_isEntry_7 ?_
  refine x_top (wo_gr1 hg) ?_
  refine x_callSi C gs_X3_48 (c_X3_in x 0 (nI (gr - 1))) rfl rfl (Nat.le_of_ble_eq_true rfl) ⟨(Nat.le_of_ble_eq_true rfl), (Nat.le_of_ble_eq_true rfl)⟩ ⟨Nat.zero_le _, Nat.zero_le _⟩ dX3_isEntry_8 ?_
  refine x_if_eq C (tgt := 28) dX3_isEntry_11 (by decide) (fun h => ?_) (fun h => ?_)
  · refine x_iconst C (v := 0) dX3_isEntry_28 (by decide) ?_
    exact x_zret C dX3_isEntry_29 (b := false) rfl (by rw [bz_f h]; rfl) rfl
  · refine x_iload_n C dX3_isEntry_14 rfl rfl ?_
    refine x_iconst C (v := 1) dX3_isEntry_15 (by decide) ?_
    refine x_bipush C (v := 6) dX3_isEntry_16 (by decide) ?_
    refine x_callSi C gs_X3_48 (c_X3_in y 1 6) rfl rfl (Nat.le_of_ble_eq_true rfl) ⟨(Nat.le_of_ble_eq_true rfl), (Nat.le_of_ble_eq_true rfl)⟩ ⟨Nat.zero_le _, Nat.zero_le _⟩ dX3_isEntry_18 ?_
    refine x_if_eq C (tgt := 28) dX3_isEntry_21 (by decide) (fun h2 => ?_) (fun h2 => ?_)
    · refine x_iconst C (v := 0) dX3_isEntry_28 (by decide) ?_
      exact x_zret C dX3_isEntry_29 (b := false) rfl (by rw [bz_f h2, Bool.and_false]) rfl
    · refine x_iconst C (v := 1) dX3_isEntry_24 (by decide) ?_
      refine x_goto C (tgt := 29) dX3_isEntry_25 (by decide) ?_
      exact x_zret C dX3_isEntry_29 (b := true) rfl (by rw [bz_t h, bz_t h2]; rfl) rfl
set_option maxRecDepth 100000 in
set_option maxHeartbeats 4000000 in
theorem c_X3_appeal_1 (x y : Int32) (hg : 1 ≤ gr) (hx : (in_B x 0 (nI (gr - 1)) && in_B y 1 6) = false) : wo_E l yX3_appeal cX3_appeal 4 (some .int) 2 D ((cI, .int) :: (cZ, .boolean) :: tys) [.ref (a 0), .int x, .int y] (wB cI cZ a co gr dy kd wo me ti td la go kp od no ax lv rh re rs ph pr o1 o2 ++ Y) (some (.int 0)) (wB cI cZ a (1) gr dy kd wo me ti td la go kp od no ax lv rh re rs ph pr o1 o2 ++ Y) := by
  refine wo_of (ls := [some (.ref (a 0)), some (.int x), some (.int y), none]) (by decide) (Nat.le_of_ble_eq_true rfl) rfl ?_
  intro p e s m args below meth c A C
  refine x_aload_n C dX3_appeal_0 rfl rfl ?_
  refine x_aload_n C dX3_appeal_1 rfl rfl ?_
  refine x_iload_n C dX3_appeal_2 rfl rfl ?_
  refine x_iload_n C dX3_appeal_3 rfl rfl ?_
  refine x_callVi C gv_X3_111 (c_X3_isEntry x y hg) 0 rfl rfl rfl rfl (Nat.le_of_ble_eq_true rfl) ⟨(Nat.le_of_ble_eq_true rfl), (Nat.le_of_ble_eq_true rfl)⟩ ⟨Nat.zero_le _, Nat.zero_le _⟩ dX3_appeal_4 ?_
  refine x_if_ne C (tgt := 14) dX3_appeal_7 (by decide) (fun h => ?_) (fun h => ?_)
  · exact absurd hx (by rw [bz_t h]; decide)
  · refine x_iconst C (v := 1) dX3_appeal_10 (by decide) ?_
    refine x_goto C (tgt := 15) dX3_appeal_11 (by decide) ?_
    refine pB0_code C _ dX3_appeal_15 ?_
    refine x_aload_n C dX3_appeal_18 rfl rfl ?_
    refine gB0_code C dX3_appeal_19 ?_
    refine x_if_le C (tgt := 27) dX3_appeal_22 (by decide) (fun h2 => ?_) (fun h2 => ?_)
    · exact absurd h2 (by decide)
    · refine x_iconst C (v := 0) dX3_appeal_25 (by decide) ?_
      exact x_iret C dX3_appeal_26 rfl rfl
set_option maxRecDepth 100000 in
set_option maxHeartbeats 4000000 in
theorem c_X3_appeal_2 (w d : Nat) (hg : 1 ≤ gr) (hg2 : gr ≤ 12) (hw : w < gr) (h1 : 1 ≤ d) (h6 : d ≤ 6) (hc : ¬ (kd (7 * w + d) = 2 ∧ me (7 * w + d) = true)) : wo_E l yX3_appeal cX3_appeal 4 (some .int) 2 D ((cI, .int) :: (cZ, .boolean) :: tys) [.ref (a 0), .int (nI w), .int (nI d)] (wB cI cZ a co gr dy kd wo me ti td la go kp od no ax lv rh re rs ph pr o1 o2 ++ Y) (some (.int 0)) (wB cI cZ a (2) gr dy kd wo me ti td la go kp od no ax lv rh re rs ph pr o1 o2 ++ Y) := by
  refine wo_of (ls := [some (.ref (a 0)), some (.int (nI w)), some (.int (nI d)), none]) (by decide) (Nat.le_of_ble_eq_true rfl) rfl ?_
  intro p e s m args below meth c A C
  have hin : (in_B (nI w) 0 (nI (gr - 1)) && in_B (nI d) 1 6) = true := by rw [wo_in0' hg2 hw, show in_B (nI d) 1 6 = true from decide_eq_true ⟨nI_le (a := 1) h1 (by omega), nI_le (b := 6) h6 (by omega)⟩]; rfl
  have fin : wo_W p l e (wo_rm 2) s m args below meth c A D 0 0 4 (MQ below (wo_Q D ((cI, .int) :: (cZ, .boolean) :: tys) (some (.int 0)) (wB cI cZ a (2) gr dy kd wo me ti td la go kp od no ax lv rh re rs ph pr o1 o2 ++ Y) A) args s 0 0 A) 54 [some (.ref (a 0)), some (.int (nI w)), some (.int (nI d)), some (.int (nI (7 * w + d)))] [.ref (a 0)] (wB cI cZ a (0) gr dy kd wo me ti td la go kp od no ax lv rh re rs ph pr o1 o2 ++ Y) := by
    refine x_iconst C (v := 2) dX3_appeal_54 (by decide) ?_
    refine x_goto C (tgt := 59) dX3_appeal_55 (by decide) ?_
    refine pB0_code C _ dX3_appeal_59 ?_
    refine x_aload_n C dX3_appeal_62 rfl rfl ?_
    refine gB0_code C dX3_appeal_63 ?_
    refine x_if_le C (tgt := 71) dX3_appeal_66 (by decide) (fun h2 => ?_) (fun h2 => ?_)
    · exact absurd h2 (by decide)
    · refine x_iconst C (v := 0) dX3_appeal_69 (by decide) ?_
      exact x_iret C dX3_appeal_70 rfl rfl
  refine x_aload_n C dX3_appeal_0 rfl rfl ?_
  refine x_aload_n C dX3_appeal_1 rfl rfl ?_
  refine x_iload_n C dX3_appeal_2 rfl rfl ?_
  refine x_iload_n C dX3_appeal_3 rfl rfl ?_
  refine x_callVi C gv_X3_111 (c_X3_isEntry _ _ hg) 0 rfl rfl rfl rfl (Nat.le_of_ble_eq_true rfl) ⟨(Nat.le_of_ble_eq_true rfl), (Nat.le_of_ble_eq_true rfl)⟩ ⟨Nat.zero_le _, Nat.zero_le _⟩ dX3_appeal_4 ?_
  refine x_if_ne C (tgt := 14) dX3_appeal_7 (by decide) (fun h => ?_) (fun h => ?_)
  · refine x_iconst C (v := 0) dX3_appeal_14 (by decide) ?_
    refine pB0_code C _ dX3_appeal_15 ?_
    refine x_aload_n C dX3_appeal_18 rfl rfl ?_
    refine gB0_code C dX3_appeal_19 ?_
    refine x_if_le C (tgt := 27) dX3_appeal_22 (by decide) (fun h2 => ?_) (fun h2 => ?_)
    · refine x_bipush C (v := 7) dX3_appeal_27 (by decide) ?_
      refine x_iload_n C dX3_appeal_29 rfl rfl ?_
      refine x_imul C dX3_appeal_30 ?_
      refine x_iload_n C dX3_appeal_31 rfl rfl ?_
      refine x_iadd C dX3_appeal_32 ?_
      refine x_top (wo_7 w d) ?_
      refine x_istore_n C dX3_appeal_33 rfl (by decide) ?_
      refine x_aload_n C dX3_appeal_34 rfl rfl ?_
      refine x_aload_n C dX3_appeal_35 rfl rfl ?_
      refine gB0_kind C dX3_appeal_36 ?_
      refine x_iload_n C dX3_appeal_39 rfl rfl ?_
      refine lB_kd C _ rfl (by omega) dX3_appeal_40 ?_
      refine x_iconst C (v := 2) dX3_appeal_41 (by decide) ?_
      refine x_icmp_ne C (tgt := 54) dX3_appeal_42 (by decide) (fun h3 => ?_) (fun h3 => ?_)
      · exact fin
      · refine x_aload_n C dX3_appeal_45 rfl rfl ?_
        refine gB0_measured C dX3_appeal_46 ?_
        refine x_iload_n C dX3_appeal_49 rfl rfl ?_
        refine lB_me C _ rfl (by omega) dX3_appeal_50 ?_
        refine x_if_ne C (tgt := 58) dX3_appeal_51 (by decide) (fun h4 => ?_) (fun h4 => ?_)
        · exact absurd ⟨h3, bz_t h4⟩ hc
        · exact fin
    · exact absurd (by decide) h2
  · exact absurd hin (by rw [bz_f h]; decide)
set_option maxRecDepth 100000 in
set_option maxHeartbeats 4000000 in
theorem c_X3_appeal (w d : Nat) (hg : 1 ≤ gr) (hg2 : gr ≤ 12) (hw : w < gr) (h1 : 1 ≤ d) (h6 : d ≤ 6) (hk : kd (7 * w + d) = 2) (hm : me (7 * w + d) = true) : wo_E l yX3_appeal cX3_appeal 4 (some .int) 2 D ((cI, .int) :: (cZ, .boolean) :: tys) [.ref (a 0), .int (nI w), .int (nI d)] (wB cI cZ a co gr dy kd wo me ti td la go kp od no ax lv rh re rs ph pr o1 o2 ++ Y) (some (.int (wo (7 * w + d)))) (wB cI cZ a (0) gr dy (va_up kd (7 * w + d) 1) wo (va_up me (7 * w + d) false) ti td la go kp od no ax lv (if rec_B td ti rh wo re (7 * w + d) then true else rh) (if rec_B td ti rh wo re (7 * w + d) then wo (7 * w + d) else re) (if rec_B td ti rh wo re (7 * w + d) then rs + 1 else rs) ph pr o1 o2 ++ Y) := by
  refine wo_of (ls := [some (.ref (a 0)), some (.int (nI w)), some (.int (nI d)), none]) (by decide) (Nat.le_of_ble_eq_true rfl) rfl ?_
  intro p e s m args below meth c A C
  have hin : (in_B (nI w) 0 (nI (gr - 1)) && in_B (nI d) 1 6) = true := by rw [wo_in0' hg2 hw, show in_B (nI d) 1 6 = true from decide_eq_true ⟨nI_le (a := 1) h1 (by omega), nI_le (b := 6) h6 (by omega)⟩]; rfl
  refine x_aload_n C dX3_appeal_0 rfl rfl ?_
  refine x_aload_n C dX3_appeal_1 rfl rfl ?_
  refine x_iload_n C dX3_appeal_2 rfl rfl ?_
  refine x_iload_n C dX3_appeal_3 rfl rfl ?_
  refine x_callVi C gv_X3_111 (c_X3_isEntry _ _ hg) 0 rfl rfl rfl rfl (Nat.le_of_ble_eq_true rfl) ⟨(Nat.le_of_ble_eq_true rfl), (Nat.le_of_ble_eq_true rfl)⟩ ⟨Nat.zero_le _, Nat.zero_le _⟩ dX3_appeal_4 ?_
  refine x_if_ne C (tgt := 14) dX3_appeal_7 (by decide) (fun h => ?_) (fun h => ?_)
  · refine x_iconst C (v := 0) dX3_appeal_14 (by decide) ?_
    refine pB0_code C _ dX3_appeal_15 ?_
    refine x_aload_n C dX3_appeal_18 rfl rfl ?_
    refine gB0_code C dX3_appeal_19 ?_
    refine x_if_le C (tgt := 27) dX3_appeal_22 (by decide) (fun h2 => ?_) (fun h2 => ?_)
    · refine x_bipush C (v := 7) dX3_appeal_27 (by decide) ?_
      refine x_iload_n C dX3_appeal_29 rfl rfl ?_
      refine x_imul C dX3_appeal_30 ?_
      refine x_iload_n C dX3_appeal_31 rfl rfl ?_
      refine x_iadd C dX3_appeal_32 ?_
      refine x_top (wo_7 w d) ?_
      refine x_istore_n C dX3_appeal_33 rfl (by decide) ?_
      refine x_aload_n C dX3_appeal_34 rfl rfl ?_
      refine x_aload_n C dX3_appeal_35 rfl rfl ?_
      refine gB0_kind C dX3_appeal_36 ?_
      refine x_iload_n C dX3_appeal_39 rfl rfl ?_
      refine lB_kd C _ rfl (by omega) dX3_appeal_40 ?_
      refine x_iconst C (v := 2) dX3_appeal_41 (by decide) ?_
      refine x_icmp_ne C (tgt := 54) dX3_appeal_42 (by decide) (fun h3 => ?_) (fun h3 => ?_)
      · exact absurd hk h3
      · refine x_aload_n C dX3_appeal_45 rfl rfl ?_
        refine gB0_measured C dX3_appeal_46 ?_
        refine x_iload_n C dX3_appeal_49 rfl rfl ?_
        refine lB_me C _ rfl (by omega) dX3_appeal_50 ?_
        refine x_if_ne C (tgt := 58) dX3_appeal_51 (by decide) (fun h4 => ?_) (fun h4 => ?_)
        · refine x_iconst C (v := 0) dX3_appeal_58 (by decide) ?_
          refine pB0_code C _ dX3_appeal_59 ?_
          refine x_aload_n C dX3_appeal_62 rfl rfl ?_
          refine gB0_code C dX3_appeal_63 ?_
          refine x_if_le C (tgt := 71) dX3_appeal_66 (by decide) (fun h5 => ?_) (fun h5 => ?_)
          · refine x_aload_n C dX3_appeal_71 rfl rfl ?_
            refine gB0_kind C dX3_appeal_72 ?_
            refine x_iload_n C dX3_appeal_75 rfl rfl ?_
            refine x_iconst C (v := 1) dX3_appeal_76 (by decide) ?_
            refine sB_kd C _ _ rfl (by omega) dX3_appeal_77 ?_
            refine x_aload_n C dX3_appeal_78 rfl rfl ?_
            refine gB0_measured C dX3_appeal_79 ?_
            refine x_iload_n C dX3_appeal_82 rfl rfl ?_
            refine x_iconst C (v := 0) dX3_appeal_83 (by decide) ?_
            refine sB_me C false rfl _ rfl (by omega) dX3_appeal_84 ?_
            refine x_aload_n C dX3_appeal_85 rfl rfl ?_
            refine x_iload_n C dX3_appeal_86 rfl rfl ?_
            refine x_callVv C gv_X3_96 (c_X3_asRecord (7 * w + d) (by omega)) 0 rfl rfl rfl rfl (Nat.le_of_ble_eq_true rfl) ⟨(Nat.le_of_ble_eq_true rfl), (Nat.le_of_ble_eq_true rfl)⟩ ⟨Nat.zero_le _, Nat.zero_le _⟩ dX3_appeal_87 ?_
            refine x_aload_n C dX3_appeal_90 rfl rfl ?_
            refine gB0_worth C dX3_appeal_91 ?_
            refine x_iload_n C dX3_appeal_94 rfl rfl ?_
            refine lB_wo C _ rfl (by omega) dX3_appeal_95 ?_
            exact x_iret C dX3_appeal_96 rfl rfl
          · exact absurd (by decide) h5
        · exact absurd hm (by rw [bz_f h4]; decide)
    · exact absurd (by decide) h2
  · exact absurd hin (by rw [bz_f h]; decide)
end MDE
end
section
/-! ===== the reference: reads ===== -/
def st_F (sign v w : Int32) : Bool := if sign = 0 then decide (v < w) else if sign = 1 then decide (v ≤ w) else if sign = 2 then decide (w < v) else if sign = 3 then decide (w ≤ v) else if sign = 4 then decide (v = w) else decide (¬ v = w)
def st_B (has : Bool) (v : Int32) (ho : Bool) (w sign : Int32) : Bool := if has && ho then st_F sign v w else decide (sign = 5)
theorem wo_out5 {x : Int32} (h0 : ¬ x = 0) (h1 : ¬ x = 1) (h2 : ¬ x = 2) (h3 : ¬ x = 3) (h4 : ¬ x = 4) : x.toInt < 0 ∨ 4 < x.toInt := by
  have e0 := lv_neT (a := 0) h0 rfl
  have e1 := lv_neT (a := 1) h1 rfl
  have e2 := lv_neT (a := 2) h2 rfl
  have e3 := lv_neT (a := 3) h3 rfl
  have e4 := lv_neT (a := 4) h4 rfl
  omega
def wt_B (kd wo : Nat → Int32) (i : Nat) : Int32 := if kd i = 1 then wo i else if kd i = 2 then -1 else if kd i = 3 then -2 else -1000000
def bs_B (kd wo : Nat → Int32) (w : Nat) : Int32 := if 0 < wn_B kd wo w then wk_B kd wo w 0 else -1000000
def es_B (kd wo ti : Nat → Int32) (td : Nat → Bool) (i : Nat) (what sign num : Int32) : Bool := st_B (if what = 0 then decide (kd i = 1) else td i) (if what = 0 then wo i else ti i) (decide (¬ num = -1000000)) num sign
section MDF
variable {l : Launch} {D : va_G} {tys : List (ClassId × FieldType)} {cI cZ : ClassId} {a : Nat → Nat} {Y : va_W} {co : Int32} {gr : Nat} {dy : Nat} {kd : Nat → Int32} {wo : Nat → Int32} {me : Nat → Bool} {ti : Nat → Int32} {td : Nat → Bool} {la : Nat → Nat} {go : Nat → Bool} {kp : Nat → Bool} {od : Nat → Nat} {no : Nat} {ax : Int32} {lv : Bool} {rh : Bool} {re : Int32} {rs : Int32} {ph : Bool} {pr : Int32} {o1 : Nat → Int32} {o2 : Nat → Int32}
set_option maxRecDepth 100000 in
set_option maxHeartbeats 4000000 in
theorem c_X3_level (on : Bool) : wo_E l yX3_level cX3_level 3 (some .boolean) 0 D ((cI, .int) :: (cZ, .boolean) :: tys) [.ref (a 0), .int (bz on)] (wB cI cZ a co gr dy kd wo me ti td la go kp od no ax lv rh re rs ph pr o1 o2 ++ Y) (some (.int (bz (decide (¬ on = lv))))) (wB cI cZ a (0) gr dy kd wo me ti td la go kp od no ax (on) rh re rs ph pr o1 o2 ++ Y) := by
  refine wo_of (ls := [some (.ref (a 0)), some (.int (bz on)), none]) (by decide) (Nat.le_of_ble_eq_true rfl) rfl ?_
  intro p e s m args below meth c A C
  refine x_aload_n C dX3_level_0 rfl rfl ?_
  refine x_iconst C (v := 0) dX3_level_1 (by decide) ?_
  refine pB0_code C _ dX3_level_2 ?_
  refine x_iload_n C dX3_level_5 rfl rfl ?_
  refine x_aload_n C dX3_level_6 rfl rfl ?_
  refine gB0_level C dX3_level_7 ?_
  refine x_icmp_eq C (tgt := 17) dX3_level_10 (by decide) (fun h => ?_) (fun h => ?_)
  · have h2 : on = lv := by cases on <;> cases lv <;> first | rfl | exact absurd h (by decide)
    refine x_iconst C (v := 0) dX3_level_17 (by decide) ?_
    refine x_istore_n C dX3_level_18 rfl (by decide) ?_
    refine x_aload_n C dX3_level_19 rfl rfl ?_
    refine x_iload_n C dX3_level_20 rfl rfl ?_
    refine pB0_level C _ rfl dX3_level_21 ?_
    refine x_iload_n C dX3_level_24 rfl rfl ?_
    exact x_zret C dX3_level_25 (b := false) rfl (by rw [decide_eq_false (fun z => z h2)]) rfl
  · have h2 : ¬ on = lv := fun z => h (by rw [z])
    refine x_iconst C (v := 1) dX3_level_13 (by decide) ?_
    refine x_goto C (tgt := 18) dX3_level_14 (by decide) ?_
    refine x_istore_n C dX3_level_18 rfl (by decide) ?_
    refine x_aload_n C dX3_level_19 rfl rfl ?_
    refine x_iload_n C dX3_level_20 rfl rfl ?_
    refine pB0_level C _ rfl dX3_level_21 ?_
    refine x_iload_n C dX3_level_24 rfl rfl ?_
    exact x_zret C dX3_level_25 (b := true) rfl (by rw [decide_eq_true h2]) rfl
set_option maxRecDepth 100000 in
set_option maxHeartbeats 4000000 in
theorem c_X3_record_1 (x : Int32) (hx : in_B x 0 999 = false) : wo_E l yX3_record cX3_record 2 (none) 1 D ((cI, .int) :: (cZ, .boolean) :: tys) [.ref (a 0), .int x] (wB cI cZ a co gr dy kd wo me ti td la go kp od no ax lv rh re rs ph pr o1 o2 ++ Y) none (wB cI cZ a (1) gr dy kd wo me ti td la go kp od no ax lv rh re rs ph pr o1 o2 ++ Y) := by
  refine wo_of (ls := [some (.ref (a 0)), some (.int x)]) (by decide) (Nat.le_of_ble_eq_true rfl) rfl ?_
  intro p e s m args below meth c A C
  refine x_aload_n C dX3_record_0 rfl rfl ?_
  refine x_iload_n C dX3_record_1 rfl rfl ?_
  refine x_iconst C (v := 0) dX3_record_2 (by decide) ?_
  refine x_sipush C (v := 999) dX3_record_3 (by decide) ?_
  refine x_callSi C gs_X3_48 (c_X3_in x 0 999) rfl rfl (Nat.le_of_ble_eq_true rfl) ⟨(Nat.le_of_ble_eq_true rfl), (Nat.le_of_ble_eq_true rfl)⟩ ⟨Nat.zero_le _, Nat.zero_le _⟩ dX3_record_6 ?_
  refine x_if_eq C (tgt := 16) dX3_record_9 (by decide) (fun h => ?_) (fun h => ?_)
  · refine x_iconst C (v := 1) dX3_record_16 (by decide) ?_
    refine pB0_code C _ dX3_record_17 ?_
    refine x_aload_n C dX3_record_20 rfl rfl ?_
    refine gB0_code C dX3_record_21 ?_
    refine x_if_ne C (tgt := 45) dX3_record_24 (by decide) (fun h2 => ?_) (fun h2 => ?_)
    · exact x_vret C dX3_record_45 rfl rfl
    · exact absurd h2 (by decide)
  · exact absurd hx (by rw [bz_t h]; decide)
set_option maxRecDepth 100000 in
set_option maxHeartbeats 4000000 in
theorem c_X3_record (x : Int32) (hx : in_B x 0 999 = true) : wo_E l yX3_record cX3_record 2 (none) 1 D ((cI, .int) :: (cZ, .boolean) :: tys) [.ref (a 0), .int x] (wB cI cZ a co gr dy kd wo me ti td la go kp od no ax lv rh re rs ph pr o1 o2 ++ Y) none (wB cI cZ a (0) gr dy kd wo me ti td la go kp od no ax lv (decide (0 < x)) (x) rs ph pr o1 o2 ++ Y) := by
  refine wo_of (ls := [some (.ref (a 0)), some (.int x)]) (by decide) (Nat.le_of_ble_eq_true rfl) rfl ?_
  intro p e s m args below meth c A C
  refine x_aload_n C dX3_record_0 rfl rfl ?_
  refine x_iload_n C dX3_record_1 rfl rfl ?_
  refine x_iconst C (v := 0) dX3_record_2 (by decide) ?_
  refine x_sipush C (v := 999) dX3_record_3 (by decide) ?_
  refine x_callSi C gs_X3_48 (c_X3_in x 0 999) rfl rfl (Nat.le_of_ble_eq_true rfl) ⟨(Nat.le_of_ble_eq_true rfl), (Nat.le_of_ble_eq_true rfl)⟩ ⟨Nat.zero_le _, Nat.zero_le _⟩ dX3_record_6 ?_
  refine x_if_eq C (tgt := 16) dX3_record_9 (by decide) (fun h => ?_) (fun h => ?_)
  · exact absurd hx (by rw [bz_f h]; decide)
  · refine x_iconst C (v := 0) dX3_record_12 (by decide) ?_
    refine x_goto C (tgt := 17) dX3_record_13 (by decide) ?_
    refine pB0_code C _ dX3_record_17 ?_
    refine x_aload_n C dX3_record_20 rfl rfl ?_
    refine gB0_code C dX3_record_21 ?_
    refine x_if_ne C (tgt := 45) dX3_record_24 (by decide) (fun h2 => ?_) (fun h2 => ?_)
    · exact absurd rfl h2
    · refine x_aload_n C dX3_record_27 rfl rfl ?_
      refine x_iload_n C dX3_record_28 rfl rfl ?_
      refine x_if_le C (tgt := 36) dX3_record_29 (by decide) (fun h3 => ?_) (fun h3 => ?_)
      · refine x_iconst C (v := 0) dX3_record_36 (by decide) ?_
        refine pB0_hasRecord C false rfl dX3_record_37 ?_
        refine x_aload_n C dX3_record_40 rfl rfl ?_
        refine x_iload_n C dX3_record_41 rfl rfl ?_
        refine pB0_record C _ dX3_record_42 ?_
        exact x_vret C dX3_record_45 rfl (by rw [decide_eq_false (Int32.not_lt.mpr h3)])
      · refine x_iconst C (v := 1) dX3_record_32 (by decide) ?_
        refine x_goto C (tgt := 37) dX3_record_33 (by decide) ?_
        refine pB0_hasRecord C true rfl dX3_record_37 ?_
        refine x_aload_n C dX3_record_40 rfl rfl ?_
        refine x_iload_n C dX3_record_41 rfl rfl ?_
        refine pB0_record C _ dX3_record_42 ?_
        exact x_vret C dX3_record_45 rfl (by rw [decide_eq_true (Int32.not_le.mp h3)])
set_option maxRecDepth 100000 in
set_option maxHeartbeats 4000000 in
theorem c_X3_prize_1 (x : Int32) (hx : in_B x 0 999 = false) : wo_E l yX3_prize cX3_prize 2 (none) 1 D ((cI, .int) :: (cZ, .boolean) :: tys) [.ref (a 0), .int x] (wB cI cZ a co gr dy kd wo me ti td la go kp od no ax lv rh re rs ph pr o1 o2 ++ Y) none (wB cI cZ a (1) gr dy kd wo me ti td la go kp od no ax lv rh re rs ph pr o1 o2 ++ Y) := by
  refine wo_of (ls := [some (.ref (a 0)), some (.int x)]) (by decide) (Nat.le_of_ble_eq_true rfl) rfl ?_
  intro p e s m args below meth c A C
  refine x_aload_n C dX3_prize_0 rfl rfl ?_
  refine x_iload_n C dX3_prize_1 rfl rfl ?_
  refine x_iconst C (v := 0) dX3_prize_2 (by decide) ?_
  refine x_sipush C (v := 999) dX3_prize_3 (by decide) ?_
  refine x_callSi C gs_X3_48 (c_X3_in x 0 999) rfl rfl (Nat.le_of_ble_eq_true rfl) ⟨(Nat.le_of_ble_eq_true rfl), (Nat.le_of_ble_eq_true rfl)⟩ ⟨Nat.zero_le _, Nat.zero_le _⟩ dX3_prize_6 ?_
  refine x_if_eq C (tgt := 16) dX3_prize_9 (by decide) (fun h => ?_) (fun h => ?_)
  · refine x_iconst C (v := 1) dX3_prize_16 (by decide) ?_
    refine pB0_code C _ dX3_prize_17 ?_
    refine x_aload_n C dX3_prize_20 rfl rfl ?_
    refine gB0_code C dX3_prize_21 ?_
    refine x_if_ne C (tgt := 45) dX3_prize_24 (by decide) (fun h2 => ?_) (fun h2 => ?_)
    · exact x_vret C dX3_prize_45 rfl rfl
    · exact absurd h2 (by decide)
  · exact absurd hx (by rw [bz_t h]; decide)
set_option maxRecDepth 100000 in
set_option maxHeartbeats 4000000 in
theorem c_X3_prize (x : Int32) (hx : in_B x 0 999 = true) : wo_E l yX3_prize cX3_prize 2 (none) 1 D ((cI, .int) :: (cZ, .boolean) :: tys) [.ref (a 0), .int x] (wB cI cZ a co gr dy kd wo me ti td la go kp od no ax lv rh re rs ph pr o1 o2 ++ Y) none (wB cI cZ a (0) gr dy kd wo me ti td la go kp od no ax lv rh re rs (decide (0 < x)) (x) o1 o2 ++ Y) := by
  refine wo_of (ls := [some (.ref (a 0)), some (.int x)]) (by decide) (Nat.le_of_ble_eq_true rfl) rfl ?_
  intro p e s m args below meth c A C
  refine x_aload_n C dX3_prize_0 rfl rfl ?_
  refine x_iload_n C dX3_prize_1 rfl rfl ?_
  refine x_iconst C (v := 0) dX3_prize_2 (by decide) ?_
  refine x_sipush C (v := 999) dX3_prize_3 (by decide) ?_
  refine x_callSi C gs_X3_48 (c_X3_in x 0 999) rfl rfl (Nat.le_of_ble_eq_true rfl) ⟨(Nat.le_of_ble_eq_true rfl), (Nat.le_of_ble_eq_true rfl)⟩ ⟨Nat.zero_le _, Nat.zero_le _⟩ dX3_prize_6 ?_
  refine x_if_eq C (tgt := 16) dX3_prize_9 (by decide) (fun h => ?_) (fun h => ?_)
  · exact absurd hx (by rw [bz_f h]; decide)
  · refine x_iconst C (v := 0) dX3_prize_12 (by decide) ?_
    refine x_goto C (tgt := 17) dX3_prize_13 (by decide) ?_
    refine pB0_code C _ dX3_prize_17 ?_
    refine x_aload_n C dX3_prize_20 rfl rfl ?_
    refine gB0_code C dX3_prize_21 ?_
    refine x_if_ne C (tgt := 45) dX3_prize_24 (by decide) (fun h2 => ?_) (fun h2 => ?_)
    · exact absurd rfl h2
    · refine x_aload_n C dX3_prize_27 rfl rfl ?_
      refine x_iload_n C dX3_prize_28 rfl rfl ?_
      refine x_if_le C (tgt := 36) dX3_prize_29 (by decide) (fun h3 => ?_) (fun h3 => ?_)
      · refine x_iconst C (v := 0) dX3_prize_36 (by decide) ?_
        refine pB0_hasPrize C false rfl dX3_prize_37 ?_
        refine x_aload_n C dX3_prize_40 rfl rfl ?_
        refine x_iload_n C dX3_prize_41 rfl rfl ?_
        refine pB0_prize C _ dX3_prize_42 ?_
        exact x_vret C dX3_prize_45 rfl (by rw [decide_eq_false (Int32.not_lt.mpr h3)])
      · refine x_iconst C (v := 1) dX3_prize_32 (by decide) ?_
        refine x_goto C (tgt := 37) dX3_prize_33 (by decide) ?_
        refine pB0_hasPrize C true rfl dX3_prize_37 ?_
        refine x_aload_n C dX3_prize_40 rfl rfl ?_
        refine x_iload_n C dX3_prize_41 rfl rfl ?_
        refine pB0_prize C _ dX3_prize_42 ?_
        exact x_vret C dX3_prize_45 rfl (by rw [decide_eq_true (Int32.not_le.mp h3)])
set_option maxRecDepth 100000 in
set_option maxHeartbeats 4000000 in
theorem c_X3_turn (t : Nat) (hd : dy ≤ 7) (hax : ¬ dy = 7 → ax = nI t ∧ t < 12) : wo_E l yX3_turn cX3_turn 1 (some .int) 0 D ((cI, .int) :: (cZ, .boolean) :: tys) [.ref (a 0)] (wB cI cZ a co gr dy kd wo me ti td la go kp od no ax lv rh re rs ph pr o1 o2 ++ Y) (some (.int (if dy = 7 then -1000000 else nI (od t)))) (wB cI cZ a (0) gr dy kd wo me ti td la go kp od no ax lv rh re rs ph pr o1 o2 ++ Y) := by
  refine wo_of (ls := [some (.ref (a 0))]) (by decide) (Nat.le_of_ble_eq_true rfl) rfl ?_
  intro p e s m args below meth c A C
  refine x_aload_n C dX3_turn_0 rfl rfl ?_
  refine x_iconst C (v := 0) dX3_turn_1 (by decide) ?_
  refine pB0_code C _ dX3_turn_2 ?_
  refine x_aload_n C dX3_turn_5 rfl rfl ?_
  refine gB0_day C dX3_turn_6 ?_
  refine x_bipush C (v := 7) dX3_turn_9 (by decide) ?_
  refine x_icmp_ne C (tgt := 19) dX3_turn_11 (by decide) (fun h => ?_) (fun h => ?_)
  · have h6 : ¬ dy = 7 := fun z => h (by rw [z]; rfl)
    obtain ⟨g1, g2⟩ := hax h6
    refine x_aload_n C dX3_turn_19 rfl rfl ?_
    refine gB0_order C dX3_turn_20 ?_
    refine x_aload_n C dX3_turn_23 rfl rfl ?_
    refine gB0_at C dX3_turn_24 ?_
    refine lB_od C t g1 g2 dX3_turn_27 ?_
    exact x_iret C dX3_turn_28 (by rw [if_neg h6]) rfl
  · have h6 : dy = 7 := wo_ieq (a := dy) (b := 7) (by omega) (by omega) h
    refine x_ldc C kk_X3_124 dX3_turn_14 ?_
    refine x_goto C (tgt := 28) dX3_turn_16 (by decide) ?_
    exact x_iret C dX3_turn_28 (by rw [if_pos h6]) rfl
set_option maxRecDepth 100000 in
set_option maxHeartbeats 4000000 in
theorem c_X3_day  : wo_E l yX3_day cX3_day 1 (some .int) 0 D ((cI, .int) :: (cZ, .boolean) :: tys) [.ref (a 0)] (wB cI cZ a co gr dy kd wo me ti td la go kp od no ax lv rh re rs ph pr o1 o2 ++ Y) (some (.int (nI dy))) (wB cI cZ a (0) gr dy kd wo me ti td la go kp od no ax lv rh re rs ph pr o1 o2 ++ Y) := by
  refine wo_of (ls := [some (.ref (a 0))]) (by decide) (Nat.le_of_ble_eq_true rfl) rfl ?_
  intro p e s m args below meth c A C
  refine x_aload_n C dX3_day_0 rfl rfl ?_
  refine x_iconst C (v := 0) dX3_day_1 (by decide) ?_
  refine pB0_code C _ dX3_day_2 ?_
  refine x_aload_n C dX3_day_5 rfl rfl ?_
  refine gB0_day C dX3_day_6 ?_
  exact x_iret C dX3_day_9 rfl rfl
set_option maxRecDepth 100000 in
set_option maxHeartbeats 4000000 in
theorem c_X3_weight_1 (x y : Int32) (hg : 1 ≤ gr) (hx : (in_B x 0 (nI (gr - 1)) && in_B y 1 6) = false) : wo_E l yX3_weight cX3_weight 4 (some .int) 2 D ((cI, .int) :: (cZ, .boolean) :: tys) [.ref (a 0), .int x, .int y] (wB cI cZ a co gr dy kd wo me ti td la go kp od no ax lv rh re rs ph pr o1 o2 ++ Y) (some (.int 0)) (wB cI cZ a (1) gr dy kd wo me ti td la go kp od no ax lv rh re rs ph pr o1 o2 ++ Y) := by
  refine wo_of (ls := [some (.ref (a 0)), some (.int x), some (.int y), none]) (by decide) (Nat.le_of_ble_eq_true rfl) rfl ?_
  intro p e s m args below meth c A C
  refine x_aload_n C dX3_weight_0 rfl rfl ?_
  refine x_aload_n C dX3_weight_1 rfl rfl ?_
  refine x_iload_n C dX3_weight_2 rfl rfl ?_
  refine x_iload_n C dX3_weight_3 rfl rfl ?_
  refine x_callVi C gv_X3_111 (c_X3_isEntry x y hg) 0 rfl rfl rfl rfl (Nat.le_of_ble_eq_true rfl) ⟨(Nat.le_of_ble_eq_true rfl), (Nat.le_of_ble_eq_true rfl)⟩ ⟨Nat.zero_le _, Nat.zero_le _⟩ dX3_weight_4 ?_
  refine x_if_eq C (tgt := 14) dX3_weight_7 (by decide) (fun h => ?_) (fun h => ?_)
  · refine x_iconst C (v := 1) dX3_weight_14 (by decide) ?_
    refine pB0_code C _ dX3_weight_15 ?_
    refine x_aload_n C dX3_weight_18 rfl rfl ?_
    refine gB0_code C dX3_weight_19 ?_
    refine x_if_le C (tgt := 27) dX3_weight_22 (by decide) (fun h2 => ?_) (fun h2 => ?_)
    · exact absurd h2 (by decide)
    · refine x_iconst C (v := 0) dX3_weight_25 (by decide) ?_
      exact x_iret C dX3_weight_26 rfl rfl
  · exact absurd hx (by rw [bz_t h]; decide)
set_option maxRecDepth 100000 in
set_option maxHeartbeats 4000000 in
theorem c_X3_weight (w d : Nat) (hg : 1 ≤ gr) (hg2 : gr ≤ 12) (hw : w < gr) (h1 : 1 ≤ d) (h6 : d ≤ 6) : wo_E l yX3_weight cX3_weight 4 (some .int) 2 D ((cI, .int) :: (cZ, .boolean) :: tys) [.ref (a 0), .int (nI w), .int (nI d)] (wB cI cZ a co gr dy kd wo me ti td la go kp od no ax lv rh re rs ph pr o1 o2 ++ Y) (some (.int (wt_B kd wo (7 * w + d)))) (wB cI cZ a (0) gr dy kd wo me ti td la go kp od no ax lv rh re rs ph pr o1 o2 ++ Y) := by
  refine wo_of (ls := [some (.ref (a 0)), some (.int (nI w)), some (.int (nI d)), none]) (by decide) (Nat.le_of_ble_eq_true rfl) rfl ?_
  intro p e s m args below meth c A C
  have hin : (in_B (nI w) 0 (nI (gr - 1)) && in_B (nI d) 1 6) = true := by rw [wo_in0' hg2 hw, show in_B (nI d) 1 6 = true from decide_eq_true ⟨nI_le (a := 1) h1 (by omega), nI_le (b := 6) h6 (by omega)⟩]; rfl
  refine x_aload_n C dX3_weight_0 rfl rfl ?_
  refine x_aload_n C dX3_weight_1 rfl rfl ?_
  refine x_iload_n C dX3_weight_2 rfl rfl ?_
  refine x_iload_n C dX3_weight_3 rfl rfl ?_
  refine x_callVi C gv_X3_111 (c_X3_isEntry _ _ hg) 0 rfl rfl rfl rfl (Nat.le_of_ble_eq_true rfl) ⟨(Nat.le_of_ble_eq_true rfl), (Nat.le_of_ble_eq_true rfl)⟩ ⟨Nat.zero_le _, Nat.zero_le _⟩ dX3_weight_4 ?_
  refine x_if_eq C (tgt := 14) dX3_weight_7 (by decide) (fun h => ?_) (fun h => ?_)
  · exact absurd hin (by rw [bz_f h]; decide)
  · refine x_iconst C (v := 0) dX3_weight_10 (by decide) ?_
    refine x_goto C (tgt := 15) dX3_weight_11 (by decide) ?_
    refine pB0_code C _ dX3_weight_15 ?_
    refine x_aload_n C dX3_weight_18 rfl rfl ?_
    refine gB0_code C dX3_weight_19 ?_
    refine x_if_le C (tgt := 27) dX3_weight_22 (by decide) (fun h2 => ?_) (fun h2 => ?_)
    · refine x_bipush C (v := 7) dX3_weight_27 (by decide) ?_
      refine x_iload_n C dX3_weight_29 rfl rfl ?_
      refine x_imul C dX3_weight_30 ?_
      refine x_iload_n C dX3_weight_31 rfl rfl ?_
      refine x_iadd C dX3_weight_32 ?_
      refine x_top (wo_7 w d) ?_
      refine x_istore_n C dX3_weight_33 rfl (by decide) ?_
      refine x_aload_n C dX3_weight_34 rfl rfl ?_
      refine gB0_kind C dX3_weight_35 ?_
      refine x_iload_n C dX3_weight_38 rfl rfl ?_
      refine lB_kd C _ rfl (by omega) dX3_weight_39 ?_
      refine x_iconst C (v := 1) dX3_weight_40 (by decide) ?_
      refine x_icmp_ne C (tgt := 53) dX3_weight_41 (by decide) (fun h3 => ?_) (fun h3 => ?_)
      · refine x_aload_n C dX3_weight_53 rfl rfl ?_
        refine gB0_kind C dX3_weight_54 ?_
        refine x_iload_n C dX3_weight_57 rfl rfl ?_
        refine lB_kd C _ rfl (by omega) dX3_weight_58 ?_
        refine x_iconst C (v := 2) dX3_weight_59 (by decide) ?_
        refine x_icmp_ne C (tgt := 67) dX3_weight_60 (by decide) (fun h4 => ?_) (fun h4 => ?_)
        · refine x_aload_n C dX3_weight_67 rfl rfl ?_
          refine gB0_kind C dX3_weight_68 ?_
          refine x_iload_n C dX3_weight_71 rfl rfl ?_
          refine lB_kd C _ rfl (by omega) dX3_weight_72 ?_
          refine x_iconst C (v := 3) dX3_weight_73 (by decide) ?_
          refine x_icmp_ne C (tgt := 82) dX3_weight_74 (by decide) (fun h5 => ?_) (fun h5 => ?_)
          · refine x_ldc C kk_X3_124 dX3_weight_82 ?_
            exact x_iret C dX3_weight_84 (by rw [wt_B, if_neg h3, if_neg h4, if_neg h5]) rfl
          · refine x_bipush C (v := -2) dX3_weight_77 (by decide) ?_
            refine x_goto C (tgt := 84) dX3_weight_79 (by decide) ?_
            exact x_iret C dX3_weight_84 (by rw [wt_B, if_neg h3, if_neg h4, if_pos h5]) rfl
        · refine x_iconst C (v := -1) dX3_weight_63 (by decide) ?_
          refine x_goto C (tgt := 84) dX3_weight_64 (by decide) ?_
          exact x_iret C dX3_weight_84 (by rw [wt_B, if_neg h3, if_pos h4]) rfl
      · refine x_aload_n C dX3_weight_44 rfl rfl ?_
        refine gB0_worth C dX3_weight_45 ?_
        refine x_iload_n C dX3_weight_48 rfl rfl ?_
        refine lB_wo C _ rfl (by omega) dX3_weight_49 ?_
        refine x_goto C (tgt := 84) dX3_weight_50 (by decide) ?_
        exact x_iret C dX3_weight_84 (by rw [wt_B, if_pos h3]) rfl
    · exact absurd (by decide) h2
set_option maxRecDepth 100000 in
set_option maxHeartbeats 4000000 in
theorem c_X3_tilt_1 (x y : Int32) (hg : 1 ≤ gr) (hx : (in_B x 0 (nI (gr - 1)) && in_B y 1 6) = false) : wo_E l yX3_tilt cX3_tilt 3 (some .int) 2 D ((cI, .int) :: (cZ, .boolean) :: tys) [.ref (a 0), .int x, .int y] (wB cI cZ a co gr dy kd wo me ti td la go kp od no ax lv rh re rs ph pr o1 o2 ++ Y) (some (.int 0)) (wB cI cZ a (1) gr dy kd wo me ti td la go kp od no ax lv rh re rs ph pr o1 o2 ++ Y) := by
  refine wo_of (ls := [some (.ref (a 0)), some (.int x), some (.int y)]) (by decide) (Nat.le_of_ble_eq_true rfl) rfl ?_
  intro p e s m args below meth c A C
  refine x_aload_n C dX3_tilt_0 rfl rfl ?_
  refine x_aload_n C dX3_tilt_1 rfl rfl ?_
  refine x_iload_n C dX3_tilt_2 rfl rfl ?_
  refine x_iload_n C dX3_tilt_3 rfl rfl ?_
  refine x_callVi C gv_X3_111 (c_X3_isEntry x y hg) 0 rfl rfl rfl rfl (Nat.le_of_ble_eq_true rfl) ⟨(Nat.le_of_ble_eq_true rfl), (Nat.le_of_ble_eq_true rfl)⟩ ⟨Nat.zero_le _, Nat.zero_le _⟩ dX3_tilt_4 ?_
  refine x_if_eq C (tgt := 14) dX3_tilt_7 (by decide) (fun h => ?_) (fun h => ?_)
  · refine x_iconst C (v := 1) dX3_tilt_14 (by decide) ?_
    refine pB0_code C _ dX3_tilt_15 ?_
    refine x_aload_n C dX3_tilt_18 rfl rfl ?_
    refine gB0_code C dX3_tilt_19 ?_
    refine x_if_ne C (tgt := 53) dX3_tilt_22 (by decide) (fun h2 => ?_) (fun h2 => ?_)
    · refine x_aload_n C dX3_tilt_53 rfl rfl ?_
      refine gB0_code C dX3_tilt_54 ?_
      refine x_if_ne C (tgt := 65) dX3_tilt_57 (by decide) (fun h3 => ?_) (fun h3 => ?_)
      · refine x_iconst C (v := 0) dX3_tilt_65 (by decide) ?_
        exact x_iret C dX3_tilt_66 rfl rfl
      · exact absurd h3 h2
    · exact absurd h2 (by decide)
  · exact absurd hx (by rw [bz_t h]; decide)
set_option maxRecDepth 100000 in
set_option maxHeartbeats 4000000 in
theorem c_X3_tilt (w d : Nat) (hg : 1 ≤ gr) (hg2 : gr ≤ 12) (hw : w < gr) (h1 : 1 ≤ d) (h6 : d ≤ 6) : wo_E l yX3_tilt cX3_tilt 3 (some .int) 2 D ((cI, .int) :: (cZ, .boolean) :: tys) [.ref (a 0), .int (nI w), .int (nI d)] (wB cI cZ a co gr dy kd wo me ti td la go kp od no ax lv rh re rs ph pr o1 o2 ++ Y) (some (.int (if td (7 * w + d) then ti (7 * w + d) else -1000000))) (wB cI cZ a (0) gr dy kd wo me ti td la go kp od no ax lv rh re rs ph pr o1 o2 ++ Y) := by
  refine wo_of (ls := [some (.ref (a 0)), some (.int (nI w)), some (.int (nI d))]) (by decide) (Nat.le_of_ble_eq_true rfl) rfl ?_
  intro p e s m args below meth c A C
  have hin : (in_B (nI w) 0 (nI (gr - 1)) && in_B (nI d) 1 6) = true := by rw [wo_in0' hg2 hw, show in_B (nI d) 1 6 = true from decide_eq_true ⟨nI_le (a := 1) h1 (by omega), nI_le (b := 6) h6 (by omega)⟩]; rfl
  refine x_aload_n C dX3_tilt_0 rfl rfl ?_
  refine x_aload_n C dX3_tilt_1 rfl rfl ?_
  refine x_iload_n C dX3_tilt_2 rfl rfl ?_
  refine x_iload_n C dX3_tilt_3 rfl rfl ?_
  refine x_callVi C gv_X3_111 (c_X3_isEntry _ _ hg) 0 rfl rfl rfl rfl (Nat.le_of_ble_eq_true rfl) ⟨(Nat.le_of_ble_eq_true rfl), (Nat.le_of_ble_eq_true rfl)⟩ ⟨Nat.zero_le _, Nat.zero_le _⟩ dX3_tilt_4 ?_
  refine x_if_eq C (tgt := 14) dX3_tilt_7 (by decide) (fun h => ?_) (fun h => ?_)
  · exact absurd hin (by rw [bz_f h]; decide)
  · refine x_iconst C (v := 0) dX3_tilt_10 (by decide) ?_
    refine x_goto C (tgt := 15) dX3_tilt_11 (by decide) ?_
    refine pB0_code C _ dX3_tilt_15 ?_
    refine x_aload_n C dX3_tilt_18 rfl rfl ?_
    refine gB0_code C dX3_tilt_19 ?_
    refine x_if_ne C (tgt := 53) dX3_tilt_22 (by decide) (fun h2 => ?_) (fun h2 => ?_)
    · exact absurd rfl h2
    · refine x_aload_n C dX3_tilt_25 rfl rfl ?_
      refine gB0_tilted C dX3_tilt_26 ?_
      refine x_bipush C (v := 7) dX3_tilt_29 (by decide) ?_
      refine x_iload_n C dX3_tilt_31 rfl rfl ?_
      refine x_imul C dX3_tilt_32 ?_
      refine x_iload_n C dX3_tilt_33 rfl rfl ?_
      refine x_iadd C dX3_tilt_34 ?_
      refine lB_td C (7 * w + d) (wo_7 w d) (by omega) dX3_tilt_35 ?_
      refine x_if_eq C (tgt := 53) dX3_tilt_36 (by decide) (fun h3 => ?_) (fun h3 => ?_)
      · refine x_aload_n C dX3_tilt_53 rfl rfl ?_
        refine gB0_code C dX3_tilt_54 ?_
        refine x_if_ne C (tgt := 65) dX3_tilt_57 (by decide) (fun h4 => ?_) (fun h4 => ?_)
        · exact absurd rfl h4
        · refine x_ldc C kk_X3_124 dX3_tilt_60 ?_
          refine x_goto C (tgt := 66) dX3_tilt_62 (by decide) ?_
          exact x_iret C dX3_tilt_66 (by rw [bz_f h3]; rfl) rfl
      · refine x_aload_n C dX3_tilt_39 rfl rfl ?_
        refine gB0_tilt C dX3_tilt_40 ?_
        refine x_bipush C (v := 7) dX3_tilt_43 (by decide) ?_
        refine x_iload_n C dX3_tilt_45 rfl rfl ?_
        refine x_imul C dX3_tilt_46 ?_
        refine x_iload_n C dX3_tilt_47 rfl rfl ?_
        refine x_iadd C dX3_tilt_48 ?_
        refine lB_ti C (7 * w + d) (wo_7 w d) (by omega) dX3_tilt_49 ?_
        refine x_goto C (tgt := 66) dX3_tilt_50 (by decide) ?_
        exact x_iret C dX3_tilt_66 (by rw [bz_t h3]; rfl) rfl
set_option maxRecDepth 100000 in
set_option maxHeartbeats 4000000 in
theorem c_X3_best_1 (x : Int32) (hg : 1 ≤ gr) (hx : in_B x 0 (nI (gr - 1)) = false) : wo_E l yX3_best cX3_best 2 (some .int) 1 D ((cI, .int) :: (cZ, .boolean) :: tys) [.ref (a 0), .int x] (wB cI cZ a co gr dy kd wo me ti td la go kp od no ax lv rh re rs ph pr o1 o2 ++ Y) (some (.int 0)) (wB cI cZ a (1) gr dy kd wo me ti td la go kp od no ax lv rh re rs ph pr o1 o2 ++ Y) := by
  refine wo_of (ls := [some (.ref (a 0)), some (.int x)]) (by decide) (Nat.le_of_ble_eq_true rfl) rfl ?_
  intro p e s m args below meth c A C
  refine x_aload_n C dX3_best_0 rfl rfl ?_
  refine x_iload_n C dX3_best_1 rfl rfl ?_
  refine x_iconst C (v := 0) dX3_best_2 (by decide) ?_
  refine x_aload_n C dX3_best_3 rfl rfl ?_
  refine gB0_growers C dX3_best_4 ?_
  refine x_iconst C (v := 1) dX3_best_7 (by decide) ?_
  refine x_isub C dX3_best_8 ?_
  refine x_top (wo_gr1 hg) ?_
  refine x_callSi C gs_X3_48 (c_X3_in x 0 (nI (gr - 1))) rfl rfl (Nat.le_of_ble_eq_true rfl) ⟨(Nat.le_of_ble_eq_true rfl), (Nat.le_of_ble_eq_true rfl)⟩ ⟨Nat.zero_le _, Nat.zero_le _⟩ dX3_best_9 ?_
  refine x_if_eq C (tgt := 19) dX3_best_12 (by decide) (fun h => ?_) (fun h => ?_)
  · refine x_iconst C (v := 1) dX3_best_19 (by decide) ?_
    refine pB0_code C _ dX3_best_20 ?_
    refine x_aload_n C dX3_best_23 rfl rfl ?_
    refine gB0_code C dX3_best_24 ?_
    refine x_if_le C (tgt := 32) dX3_best_27 (by decide) (fun h2 => ?_) (fun h2 => ?_)
    · exact absurd h2 (by decide)
    · refine x_iconst C (v := 0) dX3_best_30 (by decide) ?_
      exact x_iret C dX3_best_31 rfl rfl
  · exact absurd hx (by rw [bz_t h]; decide)
set_option maxRecDepth 100000 in
set_option maxHeartbeats 4000000 in
theorem c_X3_best (w : Nat) (hg : 1 ≤ gr) (hg2 : gr ≤ 12) (hw : w < gr) : wo_S l yX3_best cX3_best 2 (some .int) 1 D ((cI, .int) :: (cZ, .boolean) :: tys) [.ref (a 0), .int (nI w)] (wB cI cZ a co gr dy kd wo me ti td la go kp od no ax lv rh re rs ph pr o1 o2 ++ Y) (some (.int (bs_B kd wo w))) (fun o1 o2 => (wB cI cZ a (0) gr dy kd wo me ti td la go kp od no ax lv rh re rs ph pr o1 o2 ++ Y)) := by
  refine wo_ofS (ls := [some (.ref (a 0)), some (.int (nI w))]) (by decide) (Nat.le_of_ble_eq_true rfl) rfl ?_
  intro p e s m args below meth c A C
  have hwn := wn_le kd wo w
  refine x_aload_n C dX3_best_0 rfl rfl ?_
  refine x_iload_n C dX3_best_1 rfl rfl ?_
  refine x_iconst C (v := 0) dX3_best_2 (by decide) ?_
  refine x_aload_n C dX3_best_3 rfl rfl ?_
  refine gB0_growers C dX3_best_4 ?_
  refine x_iconst C (v := 1) dX3_best_7 (by decide) ?_
  refine x_isub C dX3_best_8 ?_
  refine x_top (wo_gr1 hg) ?_
  refine x_callSi C gs_X3_48 (c_X3_in (nI w) 0 (nI (gr - 1))) rfl rfl (Nat.le_of_ble_eq_true rfl) ⟨(Nat.le_of_ble_eq_true rfl), (Nat.le_of_ble_eq_true rfl)⟩ ⟨Nat.zero_le _, Nat.zero_le _⟩ dX3_best_9 ?_
  refine x_if_eq C (tgt := 19) dX3_best_12 (by decide) (fun h => ?_) (fun h => ?_)
  · exact absurd (wo_in0' hg2 hw) (by rw [bz_f h]; decide)
  · refine x_iconst C (v := 0) dX3_best_15 (by decide) ?_
    refine x_goto C (tgt := 20) dX3_best_16 (by decide) ?_
    refine pB0_code C _ dX3_best_20 ?_
    refine x_aload_n C dX3_best_23 rfl rfl ?_
    refine gB0_code C dX3_best_24 ?_
    refine x_if_le C (tgt := 32) dX3_best_27 (by decide) (fun h2 => ?_) (fun h2 => ?_)
    · refine x_aload_n C dX3_best_32 rfl rfl ?_
      refine x_iload_n C dX3_best_33 rfl rfl ?_
      refine x_aload_n C dX3_best_34 rfl rfl ?_
      refine gB0_one C dX3_best_35 ?_
      refine x_callVi C gv_X3_69 (c_X3_weightsOf_o1 w (by omega)) 0 rfl rfl rfl rfl (Nat.le_of_ble_eq_true rfl) ⟨(Nat.le_of_ble_eq_true rfl), (Nat.le_of_ble_eq_true rfl)⟩ ⟨Nat.zero_le _, Nat.zero_le _⟩ dX3_best_38 ?_
      refine x_if_le C (tgt := 53) dX3_best_41 (by decide) (fun h3 => ?_) (fun h3 => ?_)
      · have h4 := wo_le (a := wn_B kd wo w) (b := 0) (by omega) (by omega) h3
        refine x_ldc C kk_X3_124 dX3_best_53 ?_
        exact x_iretS C dX3_best_55 (by rw [bs_B, if_neg (by omega)]) rfl
      · have h4 := wo_nle (a := wn_B kd wo w) (b := 0) (by omega) (by omega) h3
        refine x_aload_n C dX3_best_44 rfl rfl ?_
        refine gB0_one C dX3_best_45 ?_
        refine x_iconst C (v := 0) dX3_best_48 (by decide) ?_
        refine lB_o1 C 0 rfl (by omega) dX3_best_49 ?_
        refine x_goto C (tgt := 55) dX3_best_50 (by decide) ?_
        exact x_iretS C dX3_best_55 (by rw [bs_B, if_pos h4, wk_eq _ _ _ _ h4]) rfl
    · exact absurd (by decide) h2
set_option maxRecDepth 100000 in
set_option maxHeartbeats 4000000 in
theorem c_X3_place_1 (x : Int32) (hg : 1 ≤ gr) (hx : in_B x 0 (nI (gr - 1)) = false) : wo_E l yX3_place cX3_place 2 (some .int) 3 D ((cI, .int) :: (cZ, .boolean) :: tys) [.ref (a 0), .int x] (wB cI cZ a co gr dy kd wo me ti td la go kp od no ax lv rh re rs ph pr o1 o2 ++ Y) (some (.int 0)) (wB cI cZ a (1) gr dy kd wo me ti td la go kp od no ax lv rh re rs ph pr o1 o2 ++ Y) := by
  refine wo_of (ls := [some (.ref (a 0)), some (.int x)]) (by decide) (Nat.le_of_ble_eq_true rfl) rfl ?_
  intro p e s m args below meth c A C
  refine x_aload_n C dX3_place_0 rfl rfl ?_
  refine x_iload_n C dX3_place_1 rfl rfl ?_
  refine x_iconst C (v := 0) dX3_place_2 (by decide) ?_
  refine x_aload_n C dX3_place_3 rfl rfl ?_
  refine gB0_growers C dX3_place_4 ?_
  refine x_iconst C (v := 1) dX3_place_7 (by decide) ?_
  refine x_isub C dX3_place_8 ?_
  refine x_top (wo_gr1 hg) ?_
  refine x_callSi C gs_X3_48 (c_X3_in x 0 (nI (gr - 1))) rfl rfl (Nat.le_of_ble_eq_true rfl) ⟨(Nat.le_of_ble_eq_true rfl), (Nat.le_of_ble_eq_true rfl)⟩ ⟨Nat.zero_le _, Nat.zero_le _⟩ dX3_place_9 ?_
  refine x_if_eq C (tgt := 19) dX3_place_12 (by decide) (fun h => ?_) (fun h => ?_)
  · refine x_iconst C (v := 1) dX3_place_19 (by decide) ?_
    refine pB0_code C _ dX3_place_20 ?_
    refine x_aload_n C dX3_place_23 rfl rfl ?_
    refine gB0_code C dX3_place_24 ?_
    refine x_if_ne C (tgt := 38) dX3_place_27 (by decide) (fun h2 => ?_) (fun h2 => ?_)
    · refine x_iconst C (v := 0) dX3_place_38 (by decide) ?_
      exact x_iret C dX3_place_39 rfl rfl
    · exact absurd h2 (by decide)
  · exact absurd hx (by rw [bz_t h]; decide)
set_option maxRecDepth 100000 in
set_option maxHeartbeats 4000000 in
theorem c_X3_place (w : Nat) (hg : 1 ≤ gr) (hg2 : gr ≤ 12) (hw : w < gr) : wo_S l yX3_place cX3_place 2 (some .int) 3 D ((cI, .int) :: (cZ, .boolean) :: tys) [.ref (a 0), .int (nI w)] (wB cI cZ a co gr dy kd wo me ti td la go kp od no ax lv rh re rs ph pr o1 o2 ++ Y) (some (.int (nI (pl_B kd wo gr w)))) (fun o1 o2 => (wB cI cZ a (0) gr dy kd wo me ti td la go kp od no ax lv rh re rs ph pr o1 o2 ++ Y)) := by
  refine wo_ofS (ls := [some (.ref (a 0)), some (.int (nI w))]) (by decide) (Nat.le_of_ble_eq_true rfl) rfl ?_
  intro p e s m args below meth c A C
  refine x_aload_n C dX3_place_0 rfl rfl ?_
  refine x_iload_n C dX3_place_1 rfl rfl ?_
  refine x_iconst C (v := 0) dX3_place_2 (by decide) ?_
  refine x_aload_n C dX3_place_3 rfl rfl ?_
  refine gB0_growers C dX3_place_4 ?_
  refine x_iconst C (v := 1) dX3_place_7 (by decide) ?_
  refine x_isub C dX3_place_8 ?_
  refine x_top (wo_gr1 hg) ?_
  refine x_callSi C gs_X3_48 (c_X3_in (nI w) 0 (nI (gr - 1))) rfl rfl (Nat.le_of_ble_eq_true rfl) ⟨(Nat.le_of_ble_eq_true rfl), (Nat.le_of_ble_eq_true rfl)⟩ ⟨Nat.zero_le _, Nat.zero_le _⟩ dX3_place_9 ?_
  refine x_if_eq C (tgt := 19) dX3_place_12 (by decide) (fun h => ?_) (fun h => ?_)
  · exact absurd (wo_in0' hg2 hw) (by rw [bz_f h]; decide)
  · refine x_iconst C (v := 0) dX3_place_15 (by decide) ?_
    refine x_goto C (tgt := 20) dX3_place_16 (by decide) ?_
    refine pB0_code C _ dX3_place_20 ?_
    refine x_aload_n C dX3_place_23 rfl rfl ?_
    refine gB0_code C dX3_place_24 ?_
    refine x_if_ne C (tgt := 38) dX3_place_27 (by decide) (fun h2 => ?_) (fun h2 => ?_)
    · exact absurd rfl h2
    · refine x_aload_n C dX3_place_30 rfl rfl ?_
      refine x_iload_n C dX3_place_31 rfl rfl ?_
      refine x_callVSi C gv_X3_73 (c_X3_placeOf w (by omega) hg2) 0 rfl rfl rfl rfl (Nat.le_of_ble_eq_true rfl) ⟨(Nat.le_of_ble_eq_true rfl), (Nat.le_of_ble_eq_true rfl)⟩ ⟨Nat.zero_le _, Nat.zero_le _⟩ dX3_place_32 (fun o1 o2 => ?_)
      refine x_goto C (tgt := 39) dX3_place_35 (by decide) ?_
      exact x_iretS C dX3_place_39 rfl rfl
set_option maxRecDepth 100000 in
set_option maxHeartbeats 4000000 in
theorem c_X3_wins_1 (x : Int32) (hg : 1 ≤ gr) (hx : in_B x 0 (nI (gr - 1)) = false) : wo_E l yX3_wins cX3_wins 2 (some .boolean) 1 D ((cI, .int) :: (cZ, .boolean) :: tys) [.ref (a 0), .int x] (wB cI cZ a co gr dy kd wo me ti td la go kp od no ax lv rh re rs ph pr o1 o2 ++ Y) (some (.int (bz false))) (wB cI cZ a (1) gr dy kd wo me ti td la go kp od no ax lv rh re rs ph pr o1 o2 ++ Y) := by
  refine wo_of (ls := [some (.ref (a 0)), some (.int x)]) (by decide) (Nat.le_of_ble_eq_true rfl) rfl ?_
  intro p e s m args below meth c A C
  refine x_aload_n C dX3_wins_0 rfl rfl ?_
  refine x_iload_n C dX3_wins_1 rfl rfl ?_
  refine x_iconst C (v := 0) dX3_wins_2 (by decide) ?_
  refine x_aload_n C dX3_wins_3 rfl rfl ?_
  refine gB0_growers C dX3_wins_4 ?_
  refine x_iconst C (v := 1) dX3_wins_7 (by decide) ?_
  refine x_isub C dX3_wins_8 ?_
  refine x_top (wo_gr1 hg) ?_
  refine x_callSi C gs_X3_48 (c_X3_in x 0 (nI (gr - 1))) rfl rfl (Nat.le_of_ble_eq_true rfl) ⟨(Nat.le_of_ble_eq_true rfl), (Nat.le_of_ble_eq_true rfl)⟩ ⟨Nat.zero_le _, Nat.zero_le _⟩ dX3_wins_9 ?_
  refine x_if_eq C (tgt := 19) dX3_wins_12 (by decide) (fun h => ?_) (fun h => ?_)
  · refine x_iconst C (v := 1) dX3_wins_19 (by decide) ?_
    refine pB0_code C _ dX3_wins_20 ?_
    refine x_aload_n C dX3_wins_23 rfl rfl ?_
    refine gB0_code C dX3_wins_24 ?_
    refine x_if_ne C (tgt := 66) dX3_wins_27 (by decide) (fun h2 => ?_) (fun h2 => ?_)
    · refine x_iconst C (v := 0) dX3_wins_66 (by decide) ?_
      exact x_zret C dX3_wins_67 (b := false) rfl rfl rfl
    · exact absurd h2 (by decide)
  · exact absurd hx (by rw [bz_t h]; decide)
set_option maxRecDepth 100000 in
set_option maxHeartbeats 4000000 in
theorem c_X3_wins (w : Nat) (hg : 1 ≤ gr) (hg2 : gr ≤ 12) (hw : w < gr) : wo_S l yX3_wins cX3_wins 2 (some .boolean) 1 D ((cI, .int) :: (cZ, .boolean) :: tys) [.ref (a 0), .int (nI w)] (wB cI cZ a co gr dy kd wo me ti td la go kp od no ax lv rh re rs ph pr o1 o2 ++ Y) (some (.int (bz (ph && decide (0 < wn_B kd wo w ∧ pr ≤ wk_B kd wo w 0))))) (fun o1 o2 => (wB cI cZ a (0) gr dy kd wo me ti td la go kp od no ax lv rh re rs ph pr o1 o2 ++ Y)) := by
  refine wo_ofS (ls := [some (.ref (a 0)), some (.int (nI w))]) (by decide) (Nat.le_of_ble_eq_true rfl) rfl ?_
  intro p e s m args below meth c A C
  have hwn := wn_le kd wo w
  refine x_aload_n C dX3_wins_0 rfl rfl ?_
  refine x_iload_n C dX3_wins_1 rfl rfl ?_
  refine x_iconst C (v := 0) dX3_wins_2 (by decide) ?_
  refine x_aload_n C dX3_wins_3 rfl rfl ?_
  refine gB0_growers C dX3_wins_4 ?_
  refine x_iconst C (v := 1) dX3_wins_7 (by decide) ?_
  refine x_isub C dX3_wins_8 ?_
  refine x_top (wo_gr1 hg) ?_
  refine x_callSi C gs_X3_48 (c_X3_in (nI w) 0 (nI (gr - 1))) rfl rfl (Nat.le_of_ble_eq_true rfl) ⟨(Nat.le_of_ble_eq_true rfl), (Nat.le_of_ble_eq_true rfl)⟩ ⟨Nat.zero_le _, Nat.zero_le _⟩ dX3_wins_9 ?_
  refine x_if_eq C (tgt := 19) dX3_wins_12 (by decide) (fun h => ?_) (fun h => ?_)
  · exact absurd (wo_in0' hg2 hw) (by rw [bz_f h]; decide)
  · refine x_iconst C (v := 0) dX3_wins_15 (by decide) ?_
    refine x_goto C (tgt := 20) dX3_wins_16 (by decide) ?_
    refine pB0_code C _ dX3_wins_20 ?_
    refine x_aload_n C dX3_wins_23 rfl rfl ?_
    refine gB0_code C dX3_wins_24 ?_
    refine x_if_ne C (tgt := 66) dX3_wins_27 (by decide) (fun h2 => ?_) (fun h2 => ?_)
    · exact absurd rfl h2
    · refine x_aload_n C dX3_wins_30 rfl rfl ?_
      refine gB0_hasPrize C dX3_wins_31 ?_
      refine x_if_eq C (tgt := 66) dX3_wins_34 (by decide) (fun h3 => ?_) (fun h3 => ?_)
      · refine x_iconst C (v := 0) dX3_wins_66 (by decide) ?_
        exact x_zretS C dX3_wins_67 (b := false) rfl (by rw [bz_f h3]; rfl) rfl
      · refine x_aload_n C dX3_wins_37 rfl rfl ?_
        refine x_iload_n C dX3_wins_38 rfl rfl ?_
        refine x_aload_n C dX3_wins_39 rfl rfl ?_
        refine gB0_one C dX3_wins_40 ?_
        refine x_callVi C gv_X3_69 (c_X3_weightsOf_o1 w (by omega)) 0 rfl rfl rfl rfl (Nat.le_of_ble_eq_true rfl) ⟨(Nat.le_of_ble_eq_true rfl), (Nat.le_of_ble_eq_true rfl)⟩ ⟨Nat.zero_le _, Nat.zero_le _⟩ dX3_wins_43 ?_
        refine x_if_le C (tgt := 66) dX3_wins_46 (by decide) (fun h4 => ?_) (fun h4 => ?_)
        · have h5 := wo_le (a := wn_B kd wo w) (b := 0) (by omega) (by omega) h4
          refine x_iconst C (v := 0) dX3_wins_66 (by decide) ?_
          exact x_zretS C dX3_wins_67 (b := false) rfl (by rw [bz_t h3, decide_eq_false (fun z => by omega)]; rfl) rfl
        · have h5 := wo_nle (a := wn_B kd wo w) (b := 0) (by omega) (by omega) h4
          refine x_aload_n C dX3_wins_49 rfl rfl ?_
          refine gB0_one C dX3_wins_50 ?_
          refine x_iconst C (v := 0) dX3_wins_53 (by decide) ?_
          refine lB_o1 C 0 rfl (by omega) dX3_wins_54 ?_
          refine x_aload_n C dX3_wins_55 rfl rfl ?_
          refine gB0_prize C dX3_wins_56 ?_
          refine x_ws rfl ?_
          refine x_icmp_lt C (tgt := 66) dX3_wins_59 (by decide) (fun h6 => ?_) (fun h6 => ?_)
          · rw [wk_eq _ _ _ _ h5] at h6
            refine x_iconst C (v := 0) dX3_wins_66 (by decide) ?_
            exact x_zretS C dX3_wins_67 (b := false) rfl (by rw [bz_t h3, decide_eq_false (fun z => absurd h6 (Int32.not_lt.mpr z.2))]; rfl) rfl
          · rw [wk_eq _ _ _ _ h5] at h6
            refine x_iconst C (v := 1) dX3_wins_62 (by decide) ?_
            refine x_goto C (tgt := 67) dX3_wins_63 (by decide) ?_
            exact x_zretS C dX3_wins_67 (b := true) rfl (by rw [bz_t h3, decide_eq_true ⟨h5, Int32.not_lt.mp h6⟩]; rfl) rfl
set_option maxRecDepth 100000 in
set_option maxHeartbeats 4000000 in
theorem c_X3_stand {ws : va_W} (has ho : Bool) (v w sign : Int32) : wo_E l yX3_stand cX3_stand 5 (some .boolean) 0 D ((cI, .int) :: (cZ, .boolean) :: tys) [.int (bz has), .int v, .int (bz ho), .int w, .int sign] (ws) (some (.int (bz (st_B has v ho w sign)))) (ws) := by
  refine wo_of (ls := [some (.int (bz has)), some (.int v), some (.int (bz ho)), some (.int w), some (.int sign)]) (by decide) (Nat.le_of_ble_eq_true rfl) rfl ?_
  intro p e s m args below meth c A C
  have f8 : (has && ho) = false → wo_W p l e (wo_rm 0) s m args below meth c A D 0 0 5 (MQ below (wo_Q D ((cI, .int) :: (cZ, .boolean) :: tys) (some (.int (bz (st_B has v ho w sign)))) ws A) args s 0 0 A) 8 [some (.int (bz has)), some (.int v), some (.int (bz ho)), some (.int w), some (.int sign)] [] ws := by
    intro h
    refine x_iload C dX3_stand_8 rfl ?_
    refine x_iconst C (v := 5) dX3_stand_10 (by decide) ?_
    refine x_icmp_ne C (tgt := 18) dX3_stand_11 (by decide) (fun h2 => ?_) (fun h2 => ?_)
    · refine x_iconst C (v := 0) dX3_stand_18 (by decide) ?_
      exact x_zret C dX3_stand_19 (b := false) rfl (by rw [st_B, h, decide_eq_false h2]; rfl) rfl
    · refine x_iconst C (v := 1) dX3_stand_14 (by decide) ?_
      refine x_goto C (tgt := 19) dX3_stand_15 (by decide) ?_
      exact x_zret C dX3_stand_19 (b := true) rfl (by rw [st_B, h, decide_eq_true h2]; rfl) rfl
  have f20 : (has && ho) = true → wo_W p l e (wo_rm 0) s m args below meth c A D 0 0 5 (MQ below (wo_Q D ((cI, .int) :: (cZ, .boolean) :: tys) (some (.int (bz (st_B has v ho w sign)))) ws A) args s 0 0 A) 20 [some (.int (bz has)), some (.int v), some (.int (bz ho)), some (.int w), some (.int sign)] [] ws := by
    intro h
    have hst : st_B has v ho w sign = st_F sign v w := by rw [st_B, h]; rfl
    rw [hst]
    refine x_iload C dX3_stand_20 rfl ?_
    by_cases h0 : sign = 0
    · subst h0
      refine x_tableIn C (off := 34) (tgt := 56) dX3_stand_22 (by decide) (by decide) (by decide) (by decide) ?_
      refine x_iload_n C dX3_stand_56 rfl rfl ?_
      refine x_iload_n C dX3_stand_57 rfl rfl ?_
      refine x_icmp_ge C (tgt := 65) dX3_stand_58 (by decide) (fun h9 => ?_) (fun h9 => ?_)
      · refine x_iconst C (v := 0) dX3_stand_65 (by decide) ?_
        exact x_zret C dX3_stand_66 (b := false) rfl (by rw [st_F, if_pos rfl, decide_eq_false (Int32.not_lt.mpr h9)]) rfl
      · refine x_iconst C (v := 1) dX3_stand_61 (by decide) ?_
        refine x_goto C (tgt := 66) dX3_stand_62 (by decide) ?_
        exact x_zret C dX3_stand_66 (b := true) rfl (by rw [st_F, if_pos rfl, decide_eq_true (Int32.not_le.mp h9)]) rfl
    by_cases h1 : sign = 1
    · subst h1
      refine x_tableIn C (off := 45) (tgt := 67) dX3_stand_22 (by decide) (by decide) (by decide) (by decide) ?_
      refine x_iload_n C dX3_stand_67 rfl rfl ?_
      refine x_iload_n C dX3_stand_68 rfl rfl ?_
      refine x_icmp_gt C (tgt := 76) dX3_stand_69 (by decide) (fun h9 => ?_) (fun h9 => ?_)
      · refine x_iconst C (v := 0) dX3_stand_76 (by decide) ?_
        exact x_zret C dX3_stand_77 (b := false) rfl (by rw [st_F, if_neg (by decide), if_pos rfl, decide_eq_false (Int32.not_le.mpr h9)]) rfl
      · refine x_iconst C (v := 1) dX3_stand_72 (by decide) ?_
        refine x_goto C (tgt := 77) dX3_stand_73 (by decide) ?_
        exact x_zret C dX3_stand_77 (b := true) rfl (by rw [st_F, if_neg (by decide), if_pos rfl, decide_eq_true (Int32.not_lt.mp h9)]) rfl
    by_cases h2 : sign = 2
    · subst h2
      refine x_tableIn C (off := 56) (tgt := 78) dX3_stand_22 (by decide) (by decide) (by decide) (by decide) ?_
      refine x_iload_n C dX3_stand_78 rfl rfl ?_
      refine x_iload_n C dX3_stand_79 rfl rfl ?_
      refine x_icmp_le C (tgt := 87) dX3_stand_80 (by decide) (fun h9 => ?_) (fun h9 => ?_)
      · refine x_iconst C (v := 0) dX3_stand_87 (by decide) ?_
        exact x_zret C dX3_stand_88 (b := false) rfl (by rw [st_F, if_neg (by decide), if_neg (by decide), if_pos rfl, decide_eq_false (Int32.not_lt.mpr h9)]) rfl
      · refine x_iconst C (v := 1) dX3_stand_83 (by decide) ?_
        refine x_goto C (tgt := 88) dX3_stand_84 (by decide) ?_
        exact x_zret C dX3_stand_88 (b := true) rfl (by rw [st_F, if_neg (by decide), if_neg (by decide), if_pos rfl, decide_eq_true (Int32.not_le.mp h9)]) rfl
    by_cases h3 : sign = 3
    · subst h3
      refine x_tableIn C (off := 67) (tgt := 89) dX3_stand_22 (by decide) (by decide) (by decide) (by decide) ?_
      refine x_iload_n C dX3_stand_89 rfl rfl ?_
      refine x_iload_n C dX3_stand_90 rfl rfl ?_
      refine x_icmp_lt C (tgt := 98) dX3_stand_91 (by decide) (fun h9 => ?_) (fun h9 => ?_)
      · refine x_iconst C (v := 0) dX3_stand_98 (by decide) ?_
        exact x_zret C dX3_stand_99 (b := false) rfl (by rw [st_F, if_neg (by decide), if_neg (by decide), if_neg (by decide), if_pos rfl, decide_eq_false (Int32.not_le.mpr h9)]) rfl
      · refine x_iconst C (v := 1) dX3_stand_94 (by decide) ?_
        refine x_goto C (tgt := 99) dX3_stand_95 (by decide) ?_
        exact x_zret C dX3_stand_99 (b := true) rfl (by rw [st_F, if_neg (by decide), if_neg (by decide), if_neg (by decide), if_pos rfl, decide_eq_true (Int32.not_lt.mp h9)]) rfl
    by_cases h4 : sign = 4
    · subst h4
      refine x_tableIn C (off := 78) (tgt := 100) dX3_stand_22 (by decide) (by decide) (by decide) (by decide) ?_
      refine x_iload_n C dX3_stand_100 rfl rfl ?_
      refine x_iload_n C dX3_stand_101 rfl rfl ?_
      refine x_icmp_ne C (tgt := 109) dX3_stand_102 (by decide) (fun h9 => ?_) (fun h9 => ?_)
      · refine x_iconst C (v := 0) dX3_stand_109 (by decide) ?_
        exact x_zret C dX3_stand_110 (b := false) rfl (by rw [st_F, if_neg (by decide), if_neg (by decide), if_neg (by decide), if_neg (by decide), if_pos rfl, decide_eq_false h9]) rfl
      · refine x_iconst C (v := 1) dX3_stand_105 (by decide) ?_
        refine x_goto C (tgt := 110) dX3_stand_106 (by decide) ?_
        exact x_zret C dX3_stand_110 (b := true) rfl (by rw [st_F, if_neg (by decide), if_neg (by decide), if_neg (by decide), if_neg (by decide), if_pos rfl, decide_eq_true h9]) rfl
    refine x_tableOut C (tgt := 111) dX3_stand_22 (wo_out5 h0 h1 h2 h3 h4) (by decide) ?_
    refine x_iload_n C dX3_stand_111 rfl rfl ?_
    refine x_iload_n C dX3_stand_112 rfl rfl ?_
    refine x_icmp_eq C (tgt := 120) dX3_stand_113 (by decide) (fun h9 => ?_) (fun h9 => ?_)
    · refine x_iconst C (v := 0) dX3_stand_120 (by decide) ?_
      exact x_zret C dX3_stand_121 (b := false) rfl (by rw [st_F, if_neg h0, if_neg h1, if_neg h2, if_neg h3, if_neg h4, decide_eq_false (fun z => z h9)]) rfl
    · refine x_iconst C (v := 1) dX3_stand_116 (by decide) ?_
      refine x_goto C (tgt := 121) dX3_stand_117 (by decide) ?_
      exact x_zret C dX3_stand_121 (b := true) rfl (by rw [st_F, if_neg h0, if_neg h1, if_neg h2, if_neg h3, if_neg h4, decide_eq_true h9]) rfl
  refine x_iload_n C dX3_stand_0 rfl rfl ?_
  refine x_if_eq C (tgt := 8) dX3_stand_1 (by decide) (fun h => ?_) (fun h => ?_)
  · exact f8 (by rw [bz_f h]; rfl)
  · refine x_iload_n C dX3_stand_4 rfl rfl ?_
    refine x_if_ne C (tgt := 20) dX3_stand_5 (by decide) (fun h2 => ?_) (fun h2 => ?_)
    · exact f20 (by rw [bz_t h, bz_t h2]; rfl)
    · exact f8 (by rw [bz_f h2, Bool.and_false])
set_option maxRecDepth 100000 in
set_option maxHeartbeats 4000000 in
theorem c_X3_entryStands (i : Nat) (hi : i < 84) (what sign num : Int32) : wo_E l yX3_entryStands cX3_entryStands 6 (some .boolean) 1 D ((cI, .int) :: (cZ, .boolean) :: tys) [.ref (a 0), .int (nI i), .int what, .int sign, .int num] (wB cI cZ a co gr dy kd wo me ti td la go kp od no ax lv rh re rs ph pr o1 o2 ++ Y) (some (.int (bz (es_B kd wo ti td i what sign num)))) (wB cI cZ a co gr dy kd wo me ti td la go kp od no ax lv rh re rs ph pr o1 o2 ++ Y) := by
  refine wo_of (ls := [some (.ref (a 0)), some (.int (nI i)), some (.int what), some (.int sign), some (.int num), none]) (by decide) (Nat.le_of_ble_eq_true rfl) rfl ?_
  intro p e s m args below meth c A C
  have fin : ∀ (has : Bool) (v : Int32), has = (if what = 0 then decide (kd i = 1) else td i) → v = (if what = 0 then wo i else ti i) → wo_W p l e (wo_rm 1) s m args below meth c A D 0 0 6 (MQ below (wo_Q D ((cI, .int) :: (cZ, .boolean) :: tys) (some (.int (bz (es_B kd wo ti td i what sign num)))) (wB cI cZ a co gr dy kd wo me ti td la go kp od no ax lv rh re rs ph pr o1 o2 ++ Y) A) args s 0 0 A) 51 [some (.ref (a 0)), some (.int (nI i)), some (.int what), some (.int sign), some (.int num), some (.int (bz has))] [.int v, .int (bz has)] (wB cI cZ a co gr dy kd wo me ti td la go kp od no ax lv rh re rs ph pr o1 o2 ++ Y) := by
    intro has v hh hv
    have f63 : ∀ ho : Bool, ho = decide (¬ num = -1000000) → wo_W p l e (wo_rm 1) s m args below meth c A D 0 0 6 (MQ below (wo_Q D ((cI, .int) :: (cZ, .boolean) :: tys) (some (.int (bz (es_B kd wo ti td i what sign num)))) (wB cI cZ a co gr dy kd wo me ti td la go kp od no ax lv rh re rs ph pr o1 o2 ++ Y) A) args s 0 0 A) 63 [some (.ref (a 0)), some (.int (nI i)), some (.int what), some (.int sign), some (.int num), some (.int (bz has))] [.int (bz ho), .int v, .int (bz has)] (wB cI cZ a co gr dy kd wo me ti td la go kp od no ax lv rh re rs ph pr o1 o2 ++ Y) := by
      intro ho hho
      refine x_iload C dX3_entryStands_63 rfl ?_
      refine x_iload_n C dX3_entryStands_65 rfl rfl ?_
      refine x_callSi C gs_X3_125 (c_X3_stand has ho v num sign) rfl rfl (Nat.le_of_ble_eq_true rfl) ⟨(Nat.le_of_ble_eq_true rfl), (Nat.le_of_ble_eq_true rfl)⟩ ⟨Nat.zero_le _, Nat.zero_le _⟩ dX3_entryStands_66 ?_
      exact x_zret C dX3_entryStands_69 (b := st_B has v ho num sign) rfl (by rw [es_B, hh, hv, hho]) rfl
    refine x_iload C dX3_entryStands_51 rfl ?_
    refine x_ldc C kk_X3_124 dX3_entryStands_53 ?_
    refine x_icmp_eq C (tgt := 62) dX3_entryStands_55 (by decide) (fun h => ?_) (fun h => ?_)
    · refine x_iconst C (v := 0) dX3_entryStands_62 (by decide) ?_
      exact f63 false (by rw [decide_eq_false (fun z => z h)])
    · refine x_iconst C (v := 1) dX3_entryStands_58 (by decide) ?_
      refine x_goto C (tgt := 63) dX3_entryStands_59 (by decide) ?_
      exact f63 true (by rw [decide_eq_true h])
  have f28 : ∀ (has : Bool), has = (if what = 0 then decide (kd i = 1) else td i) → wo_W p l e (wo_rm 1) s m args below meth c A D 0 0 6 (MQ below (wo_Q D ((cI, .int) :: (cZ, .boolean) :: tys) (some (.int (bz (es_B kd wo ti td i what sign num)))) (wB cI cZ a co gr dy kd wo me ti td la go kp od no ax lv rh re rs ph pr o1 o2 ++ Y) A) args s 0 0 A) 28 [some (.ref (a 0)), some (.int (nI i)), some (.int what), some (.int sign), some (.int num), none] [.int (bz has)] (wB cI cZ a co gr dy kd wo me ti td la go kp od no ax lv rh re rs ph pr o1 o2 ++ Y) := by
    intro has hh
    refine x_istore C dX3_entryStands_28 (by decide) ?_
    refine x_iload C dX3_entryStands_30 rfl ?_
    refine x_iload_n C dX3_entryStands_32 rfl rfl ?_
    refine x_if_ne C (tgt := 45) dX3_entryStands_33 (by decide) (fun h => ?_) (fun h => ?_)
    · refine x_aload_n C dX3_entryStands_45 rfl rfl ?_
      refine gB0_tilt C dX3_entryStands_46 ?_
      refine x_iload_n C dX3_entryStands_49 rfl rfl ?_
      refine lB_ti C _ rfl (by omega) dX3_entryStands_50 ?_
      exact fin has _ hh (by rw [if_neg h])
    · refine x_aload_n C dX3_entryStands_36 rfl rfl ?_
      refine gB0_worth C dX3_entryStands_37 ?_
      refine x_iload_n C dX3_entryStands_40 rfl rfl ?_
      refine lB_wo C _ rfl (by omega) dX3_entryStands_41 ?_
      refine x_goto C (tgt := 51) dX3_entryStands_42 (by decide) ?_
      exact fin has _ hh (by rw [if_pos h])
  refine x_iload_n C dX3_entryStands_0 rfl rfl ?_
  refine x_if_ne C (tgt := 22) dX3_entryStands_1 (by decide) (fun h => ?_) (fun h => ?_)
  · refine x_aload_n C dX3_entryStands_22 rfl rfl ?_
    refine gB0_tilted C dX3_entryStands_23 ?_
    refine x_iload_n C dX3_entryStands_26 rfl rfl ?_
    refine lB_td C _ rfl (by omega) dX3_entryStands_27 ?_
    exact f28 _ (by rw [if_neg h])
  · refine x_aload_n C dX3_entryStands_4 rfl rfl ?_
    refine gB0_kind C dX3_entryStands_5 ?_
    refine x_iload_n C dX3_entryStands_8 rfl rfl ?_
    refine lB_kd C _ rfl (by omega) dX3_entryStands_9 ?_
    refine x_iconst C (v := 1) dX3_entryStands_10 (by decide) ?_
    refine x_icmp_ne C (tgt := 18) dX3_entryStands_11 (by decide) (fun h2 => ?_) (fun h2 => ?_)
    · refine x_iconst C (v := 0) dX3_entryStands_18 (by decide) ?_
      refine x_goto C (tgt := 28) dX3_entryStands_19 (by decide) ?_
      exact f28 false (by rw [if_pos h, decide_eq_false h2])
    · refine x_iconst C (v := 1) dX3_entryStands_14 (by decide) ?_
      refine x_goto C (tgt := 28) dX3_entryStands_15 (by decide) ?_
      exact f28 true (by rw [if_pos h, decide_eq_true h2])
set_option maxRecDepth 100000 in
set_option maxHeartbeats 4000000 in
theorem c_X3_isAsked (x y : Int32) : wo_E l yX3_isAsked cX3_isAsked 3 (some .boolean) 1 D ((cI, .int) :: (cZ, .boolean) :: tys) [.ref (a 0), .int x, .int y] (wB cI cZ a co gr dy kd wo me ti td la go kp od no ax lv rh re rs ph pr o1 o2 ++ Y) (some (.int (bz (in_B x 0 1 && in_B y 0 5)))) (wB cI cZ a (if in_B x 0 1 && in_B y 0 5 then 0 else 1) gr dy kd wo me ti td la go kp od no ax lv rh re rs ph pr o1 o2 ++ Y) := by
  refine wo_of (ls := [some (.ref (a 0)), some (.int x), some (.int y)]) (by decide) (Nat.le_of_ble_eq_true rfl) rfl ?_
  intro p e s m args below meth c A C
  have f23 : (in_B x 0 1 && in_B y 0 5) = false → wo_W p l e (wo_rm 1) s m args below meth c A D 0 0 3 (MQ below (wo_Q D ((cI, .int) :: (cZ, .boolean) :: tys) (some (.int (bz (in_B x 0 1 && in_B y 0 5)))) (wB cI cZ a (if in_B x 0 1 && in_B y 0 5 then 0 else 1) gr dy kd wo me ti td la go kp od no ax lv rh re rs ph pr o1 o2 ++ Y) A) args s 0 0 A) 23 [some (.ref (a 0)), some (.int x), some (.int y)] [.ref (a 0)] (wB cI cZ a co gr dy kd wo me ti td la go kp od no ax lv rh re rs ph pr o1 o2 ++ Y) := by
    intro h
    rw [h]
    refine x_iconst C (v := 1) dX3_isAsked_23 (by decide) ?_
    refine pB0_code C _ dX3_isAsked_24 ?_
    refine x_aload_n C dX3_isAsked_27 rfl rfl ?_
    refine gB0_code C dX3_isAsked_28 ?_
    refine x_if_ne C (tgt := 38) dX3_isAsked_31 (by decide) (fun h2 => ?_) (fun h2 => ?_)
    · refine x_iconst C (v := 0) dX3_isAsked_38 (by decide) ?_
      exact x_zret C dX3_isAsked_39 (b := false) rfl rfl rfl
    · exact absurd h2 (by decide)
  refine x_aload_n C dX3_isAsked_0 rfl rfl ?_
  refine x_iload_n C dX3_isAsked_1 rfl rfl ?_
  refine x_iconst C (v := 0) dX3_isAsked_2 (by decide) ?_
  refine x_iconst C (v := 1) dX3_isAsked_3 (by decide) ?_
  refine x_callSi C gs_X3_48 (c_X3_in x 0 1) rfl rfl (Nat.le_of_ble_eq_true rfl) ⟨(Nat.le_of_ble_eq_true rfl), (Nat.le_of_ble_eq_true rfl)⟩ ⟨Nat.zero_le _, Nat.zero_le _⟩ dX3_isAsked_4 ?_
  refine x_if_eq C (tgt := 23) dX3_isAsked_7 (by decide) (fun h => ?_) (fun h => ?_)
  · exact f23 (by rw [bz_f h]; rfl)
  · refine x_iload_n C dX3_isAsked_10 rfl rfl ?_
    refine x_iconst C (v := 0) dX3_isAsked_11 (by decide) ?_
    refine x_iconst C (v := 5) dX3_isAsked_12 (by decide) ?_
    refine x_callSi C gs_X3_48 (c_X3_in y 0 5) rfl rfl (Nat.le_of_ble_eq_true rfl) ⟨(Nat.le_of_ble_eq_true rfl), (Nat.le_of_ble_eq_true rfl)⟩ ⟨Nat.zero_le _, Nat.zero_le _⟩ dX3_isAsked_13 ?_
    refine x_if_eq C (tgt := 23) dX3_isAsked_16 (by decide) (fun h2 => ?_) (fun h2 => ?_)
    · exact f23 (by rw [bz_f h2, Bool.and_false])
    · refine x_iconst C (v := 0) dX3_isAsked_19 (by decide) ?_
      refine x_goto C (tgt := 24) dX3_isAsked_20 (by decide) ?_
      refine pB0_code C _ dX3_isAsked_24 ?_
      refine x_aload_n C dX3_isAsked_27 rfl rfl ?_
      refine gB0_code C dX3_isAsked_28 ?_
      refine x_if_ne C (tgt := 38) dX3_isAsked_31 (by decide) (fun h3 => ?_) (fun h3 => ?_)
      · exact absurd rfl h3
      · refine x_iconst C (v := 1) dX3_isAsked_34 (by decide) ?_
        refine x_goto C (tgt := 39) dX3_isAsked_35 (by decide) ?_
        exact x_zret C dX3_isAsked_39 (b := true) rfl (by rw [bz_t h, bz_t h2]; rfl) (by rw [bz_t h, bz_t h2]; rfl)
end MDF
end
section
/-! ===== the reference: the board ===== -/
def fs_F (q : Nat → Bool) : Nat → Nat → Int32
  | 0, _ => -1000000
  | n + 1, k => if q k then nI k else fs_F q n (k + 1)
def lm_F (q : Nat → Bool) : Nat → Int32
  | 0 => 0
  | n + 1 => if q n then lm_F q n ||| (1 <<< (nI n &&& 31)) else lm_F q n
def le_F (has : Nat → Bool) (val : Nat → Int32) (least : Bool) : Nat → Int32
  | 0 => -1000000
  | n + 1 => if has n && (decide (le_F has val least n = -1000000) || (if least then decide (val n < le_F has val least n) else decide (le_F has val least n < val n))) then val n else le_F has val least n
theorem lm_f {q : Nat → Bool} {n : Nat} (h : q n = false) : lm_F q (n + 1) = lm_F q n := by rw [lm_F, if_neg (by rw [h]; decide)]
theorem lm_t {q : Nat → Bool} {n : Nat} (h : q n = true) : lm_F q (n + 1) = lm_F q n ||| (1 <<< (nI n &&& 31)) := by rw [lm_F, if_pos h]
theorem le_f {has : Nat → Bool} {val : Nat → Int32} {least : Bool} {n : Nat} (h : (has n && (decide (le_F has val least n = -1000000) || (if least then decide (val n < le_F has val least n) else decide (le_F has val least n < val n)))) = false) : le_F has val least (n + 1) = le_F has val least n := by rw [le_F, if_neg (by rw [h]; decide)]
theorem le_t {has : Nat → Bool} {val : Nat → Int32} {least : Bool} {n : Nat} (h : (has n && (decide (le_F has val least n = -1000000) || (if least then decide (val n < le_F has val least n) else decide (le_F has val least n < val n)))) = true) : le_F has val least (n + 1) = val n := by rw [le_F, if_pos h]
def hs_B (kd wo : Nat → Int32) (td : Nat → Bool) (la : Nat → Nat) (what : Int32) (w : Nat) : Bool := if what = 0 then decide (0 < wn_B kd wo w) else (decide (0 < la w) && td (7 * w + la w))
def tv_B (kd wo ti : Nat → Int32) (la : Nat → Nat) (what : Int32) (w : Nat) : Int32 := if what = 0 then (if 0 < wn_B kd wo w then wk_B kd wo w 0 else 0) else ti (7 * w + la w)
theorem wo_7' (w d : Nat) : (7 : Int32) * nI w + nI d = nI (7 * w + d) := wo_7 w d
section MDG
variable {l : Launch} {D : va_G} {tys : List (ClassId × FieldType)} {cI cZ : ClassId} {a : Nat → Nat} {Y : va_W} {co : Int32} {gr : Nat} {dy : Nat} {kd : Nat → Int32} {wo : Nat → Int32} {me : Nat → Bool} {ti : Nat → Int32} {td : Nat → Bool} {la : Nat → Nat} {go : Nat → Bool} {kp : Nat → Bool} {od : Nat → Nat} {no : Nat} {ax : Int32} {lv : Bool} {rh : Bool} {re : Int32} {rs : Int32} {ph : Bool} {pr : Int32} {o1 : Nat → Int32} {o2 : Nat → Int32}
set_option maxRecDepth 100000 in
set_option maxHeartbeats 4000000 in
theorem c_X3_count_1 (what sign num : Int32) (hq : (in_B what 0 1 && in_B sign 0 5) = false) : wo_E l yX3_count cX3_count 6 (some .int) 2 D ((cI, .int) :: (cZ, .boolean) :: tys) [.ref (a 0), .int what, .int sign, .int num] (wB cI cZ a co gr dy kd wo me ti td la go kp od no ax lv rh re rs ph pr o1 o2 ++ Y) (some (.int 0)) (wB cI cZ a (1) gr dy kd wo me ti td la go kp od no ax lv rh re rs ph pr o1 o2 ++ Y) := by
  refine wo_of (ls := [some (.ref (a 0)), some (.int what), some (.int sign), some (.int num), none, none]) (by decide) (Nat.le_of_ble_eq_true rfl) rfl ?_
  intro p e s m args below meth c A C
  refine x_iconst C (v := 0) dX3_count_0 (by decide) ?_
  refine x_istore C dX3_count_1 (by decide) ?_
  refine x_aload_n C dX3_count_3 rfl rfl ?_
  refine x_iload_n C dX3_count_4 rfl rfl ?_
  refine x_iload_n C dX3_count_5 rfl rfl ?_
  refine x_callVi C gv_X3_129 (c_X3_isAsked what sign) 0 rfl rfl rfl rfl (Nat.le_of_ble_eq_true rfl) ⟨(Nat.le_of_ble_eq_true rfl), (Nat.le_of_ble_eq_true rfl)⟩ ⟨Nat.zero_le _, Nat.zero_le _⟩ dX3_count_6 ?_
  rw [if_neg (by rw [hq]; decide)]
  refine x_if_eq C (tgt := 61) dX3_count_9 (by decide) (fun h => ?_) (fun h => ?_)
  · refine x_iload C dX3_count_61 rfl ?_
    exact x_iret C dX3_count_63 rfl rfl
  · exact absurd hq (by rw [bz_t h]; decide)
set_option maxRecDepth 100000 in
set_option maxHeartbeats 4000000 in
theorem c_X3_count (what sign num : Int32) (hq : (in_B what 0 1 && in_B sign 0 5) = true) : wo_E l yX3_count cX3_count 6 (some .int) 2 D ((cI, .int) :: (cZ, .boolean) :: tys) [.ref (a 0), .int what, .int sign, .int num] (wB cI cZ a co gr dy kd wo me ti td la go kp od no ax lv rh re rs ph pr o1 o2 ++ Y) (some (.int (nI (wo_cnt (fun k => decide (¬ kd k = 0) && es_B kd wo ti td k what sign num) 84)))) (wB cI cZ a (0) gr dy kd wo me ti td la go kp od no ax lv rh re rs ph pr o1 o2 ++ Y) := by
  refine wo_of (ls := [some (.ref (a 0)), some (.int what), some (.int sign), some (.int num), none, none]) (by decide) (Nat.le_of_ble_eq_true rfl) rfl ?_
  intro p e s m args below meth c A C
  refine x_iconst C (v := 0) dX3_count_0 (by decide) ?_
  refine x_istore C dX3_count_1 (by decide) ?_
  refine x_aload_n C dX3_count_3 rfl rfl ?_
  refine x_iload_n C dX3_count_4 rfl rfl ?_
  refine x_iload_n C dX3_count_5 rfl rfl ?_
  refine x_callVi C gv_X3_129 (c_X3_isAsked what sign) 0 rfl rfl rfl rfl (Nat.le_of_ble_eq_true rfl) ⟨(Nat.le_of_ble_eq_true rfl), (Nat.le_of_ble_eq_true rfl)⟩ ⟨Nat.zero_le _, Nat.zero_le _⟩ dX3_count_6 ?_
  rw [if_pos hq]
  refine x_if_eq C (tgt := 61) dX3_count_9 (by decide) (fun h => ?_) (fun h => ?_)
  · exact absurd hq (by rw [bz_f h]; decide)
  · refine x_iconst C (v := 0) dX3_count_12 (by decide) ?_
    refine x_istore C dX3_count_13 (by decide) ?_
    have loop : ∀ (n k : Nat), n + k = 84 → wo_W p l e (wo_rm 2) s m args below meth c A D 0 0 6 (MQ below (wo_Q D ((cI, .int) :: (cZ, .boolean) :: tys) (some (.int (nI (wo_cnt (fun k => decide (¬ kd k = 0) && es_B kd wo ti td k what sign num) 84)))) (wB cI cZ a (0) gr dy kd wo me ti td la go kp od no ax lv rh re rs ph pr o1 o2 ++ Y) A) args s 0 0 A) 15 [some (.ref (a 0)), some (.int what), some (.int sign), some (.int num), some (.int (nI (wo_cnt (fun k => decide (¬ kd k = 0) && es_B kd wo ti td k what sign num) k))), some (.int (nI k))] [] (wB cI cZ a (0) gr dy kd wo me ti td la go kp od no ax lv rh re rs ph pr o1 o2 ++ Y) := by
      intro n
      induction n with
      | zero =>
        intro k hk
        refine x_iload C dX3_count_15 rfl ?_
        refine x_bipush C (v := 84) dX3_count_17 (by decide) ?_
        refine x_icmp_ge C (tgt := 61) dX3_count_19 (by decide) (fun h3 => ?_) (fun h3 => ?_)
        · have hk2 : k = 84 := by omega
          subst hk2
          refine x_iload C dX3_count_61 rfl ?_
          exact x_iret C dX3_count_63 rfl rfl
        · exact absurd (show nI 84 ≤ nI k from nI_le (by omega) (by omega)) h3
      | succ n ih =>
        intro k hk
        refine x_iload C dX3_count_15 rfl ?_
        refine x_bipush C (v := 84) dX3_count_17 (by decide) ?_
        refine x_icmp_ge C (tgt := 61) dX3_count_19 (by decide) (fun h3 => ?_) (fun h3 => ?_)
        · exact absurd (wo_le (a := 84) (b := k) (by omega) (by omega) h3) (by omega)
        · refine x_aload_n C dX3_count_22 rfl rfl ?_
          refine gB0_kind C dX3_count_23 ?_
          refine x_iload C dX3_count_26 rfl ?_
          refine lB_kd C _ rfl (by omega) dX3_count_28 ?_
          refine x_if_eq C (tgt := 51) dX3_count_29 (by decide) (fun h4 => ?_) (fun h4 => ?_)
          · refine x_iload C dX3_count_51 rfl ?_
            refine x_istore C dX3_count_53 (by decide) ?_
            refine x_iinc C dX3_count_55 rfl (nI_1 k) (by decide) ?_
            refine x_goto C (tgt := 15) dX3_count_58 (by decide) ?_
            have h9 := ih (k + 1) (by omega)
            rw [wo_cnt_f (n := k) (q := fun k => decide (¬ kd k = 0) && es_B kd wo ti td k what sign num) (by rw [decide_eq_false (fun z => z h4)]; rfl)] at h9
            exact h9
          · refine x_aload_n C dX3_count_32 rfl rfl ?_
            refine x_iload C dX3_count_33 rfl ?_
            refine x_iload_n C dX3_count_35 rfl rfl ?_
            refine x_iload_n C dX3_count_36 rfl rfl ?_
            refine x_iload_n C dX3_count_37 rfl rfl ?_
            refine x_callVi C gv_X3_132 (c_X3_entryStands k (by omega) what sign num) 0 rfl rfl rfl rfl (Nat.le_of_ble_eq_true rfl) ⟨(Nat.le_of_ble_eq_true rfl), (Nat.le_of_ble_eq_true rfl)⟩ ⟨Nat.zero_le _, Nat.zero_le _⟩ dX3_count_38 ?_
            refine x_if_eq C (tgt := 51) dX3_count_41 (by decide) (fun h5 => ?_) (fun h5 => ?_)
            · refine x_iload C dX3_count_51 rfl ?_
              refine x_istore C dX3_count_53 (by decide) ?_
              refine x_iinc C dX3_count_55 rfl (nI_1 k) (by decide) ?_
              refine x_goto C (tgt := 15) dX3_count_58 (by decide) ?_
              have h9 := ih (k + 1) (by omega)
              rw [wo_cnt_f (n := k) (q := fun k => decide (¬ kd k = 0) && es_B kd wo ti td k what sign num) (by rw [bz_f h5, Bool.and_false])] at h9
              exact h9
            · refine x_iload C dX3_count_44 rfl ?_
              refine x_iconst C (v := 1) dX3_count_46 (by decide) ?_
              refine x_iadd C dX3_count_47 ?_
              refine x_goto C (tgt := 53) dX3_count_48 (by decide) ?_
              refine x_top (nI_1 _) ?_
              refine x_istore C dX3_count_53 (by decide) ?_
              refine x_iinc C dX3_count_55 rfl (nI_1 k) (by decide) ?_
              refine x_goto C (tgt := 15) dX3_count_58 (by decide) ?_
              have h9 := ih (k + 1) (by omega)
              rw [wo_cnt_t (n := k) (q := fun k => decide (¬ kd k = 0) && es_B kd wo ti td k what sign num) (by rw [bz_t h5, decide_eq_true h4]; rfl)] at h9
              exact h9
    exact loop 84 0 rfl
set_option maxRecDepth 100000 in
set_option maxHeartbeats 4000000 in
theorem c_X3_first_1 (what sign num : Int32) (hq : (in_B what 0 1 && in_B sign 0 5) = false) : wo_E l yX3_first cX3_first 5 (some .int) 2 D ((cI, .int) :: (cZ, .boolean) :: tys) [.ref (a 0), .int what, .int sign, .int num] (wB cI cZ a co gr dy kd wo me ti td la go kp od no ax lv rh re rs ph pr o1 o2 ++ Y) (some (.int 0)) (wB cI cZ a (1) gr dy kd wo me ti td la go kp od no ax lv rh re rs ph pr o1 o2 ++ Y) := by
  refine wo_of (ls := [some (.ref (a 0)), some (.int what), some (.int sign), some (.int num), none]) (by decide) (Nat.le_of_ble_eq_true rfl) rfl ?_
  intro p e s m args below meth c A C
  refine x_aload_n C dX3_first_0 rfl rfl ?_
  refine x_iload_n C dX3_first_1 rfl rfl ?_
  refine x_iload_n C dX3_first_2 rfl rfl ?_
  refine x_callVi C gv_X3_129 (c_X3_isAsked what sign) 0 rfl rfl rfl rfl (Nat.le_of_ble_eq_true rfl) ⟨(Nat.le_of_ble_eq_true rfl), (Nat.le_of_ble_eq_true rfl)⟩ ⟨Nat.zero_le _, Nat.zero_le _⟩ dX3_first_3 ?_
  rw [if_neg (by rw [hq]; decide)]
  refine x_if_ne C (tgt := 11) dX3_first_6 (by decide) (fun h => ?_) (fun h => ?_)
  · exact absurd hq (by rw [bz_t h]; decide)
  · refine x_iconst C (v := 0) dX3_first_9 (by decide) ?_
    exact x_iret C dX3_first_10 rfl rfl
set_option maxRecDepth 100000 in
set_option maxHeartbeats 4000000 in
theorem c_X3_first (what sign num : Int32) (hq : (in_B what 0 1 && in_B sign 0 5) = true) (hg : gr ≤ 12) (hla : ∀ k, k < 12 → la k ≤ 6) : wo_E l yX3_first cX3_first 5 (some .int) 2 D ((cI, .int) :: (cZ, .boolean) :: tys) [.ref (a 0), .int what, .int sign, .int num] (wB cI cZ a co gr dy kd wo me ti td la go kp od no ax lv rh re rs ph pr o1 o2 ++ Y) (some (.int (fs_F (fun k => decide (0 < la k) && es_B kd wo ti td (7 * k + la k) what sign num) gr 0))) (wB cI cZ a (0) gr dy kd wo me ti td la go kp od no ax lv rh re rs ph pr o1 o2 ++ Y) := by
  refine wo_of (ls := [some (.ref (a 0)), some (.int what), some (.int sign), some (.int num), none]) (by decide) (Nat.le_of_ble_eq_true rfl) rfl ?_
  intro p e s m args below meth c A C
  refine x_aload_n C dX3_first_0 rfl rfl ?_
  refine x_iload_n C dX3_first_1 rfl rfl ?_
  refine x_iload_n C dX3_first_2 rfl rfl ?_
  refine x_callVi C gv_X3_129 (c_X3_isAsked what sign) 0 rfl rfl rfl rfl (Nat.le_of_ble_eq_true rfl) ⟨(Nat.le_of_ble_eq_true rfl), (Nat.le_of_ble_eq_true rfl)⟩ ⟨Nat.zero_le _, Nat.zero_le _⟩ dX3_first_3 ?_
  rw [if_pos hq]
  refine x_if_ne C (tgt := 11) dX3_first_6 (by decide) (fun h => ?_) (fun h => ?_)
  · refine x_iconst C (v := 0) dX3_first_11 (by decide) ?_
    refine x_istore C dX3_first_12 (by decide) ?_
    have loop : ∀ (n k : Nat), n + k = gr → fs_F (fun k => decide (0 < la k) && es_B kd wo ti td (7 * k + la k) what sign num) n k = fs_F (fun k => decide (0 < la k) && es_B kd wo ti td (7 * k + la k) what sign num) gr 0 → wo_W p l e (wo_rm 2) s m args below meth c A D 0 0 5 (MQ below (wo_Q D ((cI, .int) :: (cZ, .boolean) :: tys) (some (.int (fs_F (fun k => decide (0 < la k) && es_B kd wo ti td (7 * k + la k) what sign num) gr 0))) (wB cI cZ a (0) gr dy kd wo me ti td la go kp od no ax lv rh re rs ph pr o1 o2 ++ Y) A) args s 0 0 A) 14 [some (.ref (a 0)), some (.int what), some (.int sign), some (.int num), some (.int (nI k))] [] (wB cI cZ a (0) gr dy kd wo me ti td la go kp od no ax lv rh re rs ph pr o1 o2 ++ Y) := by
      intro n
      induction n with
      | zero =>
        intro k hk he
        refine x_iload C dX3_first_14 rfl ?_
        refine x_aload_n C dX3_first_16 rfl rfl ?_
        refine gB0_growers C dX3_first_17 ?_
        refine x_icmp_ge C (tgt := 65) dX3_first_20 (by decide) (fun h3 => ?_) (fun h3 => ?_)
        · refine x_ldc C kk_X3_124 dX3_first_65 ?_
          exact x_iret C dX3_first_67 (by rw [← he]; rfl) rfl
        · exact absurd (show nI gr ≤ nI k from nI_le (by omega) (by omega)) h3
      | succ n ih =>
        intro k hk he
        have hl := hla k (by omega)
        refine x_iload C dX3_first_14 rfl ?_
        refine x_aload_n C dX3_first_16 rfl rfl ?_
        refine gB0_growers C dX3_first_17 ?_
        refine x_icmp_ge C (tgt := 65) dX3_first_20 (by decide) (fun h3 => ?_) (fun h3 => ?_)
        · exact absurd (wo_le (by omega) (by omega) h3) (by omega)
        · refine x_aload_n C dX3_first_23 rfl rfl ?_
          refine gB0_latest C dX3_first_24 ?_
          refine x_iload C dX3_first_27 rfl ?_
          refine lB_la C _ rfl (by omega) dX3_first_29 ?_
          refine x_if_le C (tgt := 59) dX3_first_30 (by decide) (fun h4 => ?_) (fun h4 => ?_)
          · have h5 := wo_le (a := la k) (b := 0) (by omega) (by omega) h4
            refine x_iinc C dX3_first_59 rfl (nI_1 k) (by decide) ?_
            refine x_goto C (tgt := 14) dX3_first_62 (by decide) ?_
            exact ih (k + 1) (by omega) (by rw [← he]; show _ = fs_F _ (n + 1) k; rw [fs_F, if_neg (by rw [decide_eq_false (by omega)]; exact Bool.false_ne_true)])
          · have h5 := wo_nle (a := la k) (b := 0) (by omega) (by omega) h4
            refine x_aload_n C dX3_first_33 rfl rfl ?_
            refine x_bipush C (v := 7) dX3_first_34 (by decide) ?_
            refine x_iload C dX3_first_36 rfl ?_
            refine x_imul C dX3_first_38 ?_
            refine x_aload_n C dX3_first_39 rfl rfl ?_
            refine gB0_latest C dX3_first_40 ?_
            refine x_iload C dX3_first_43 rfl ?_
            refine lB_la C _ rfl (by omega) dX3_first_45 ?_
            refine x_iadd C dX3_first_46 ?_
            refine x_top (wo_7 k (la k)) ?_
            refine x_iload_n C dX3_first_47 rfl rfl ?_
            refine x_iload_n C dX3_first_48 rfl rfl ?_
            refine x_iload_n C dX3_first_49 rfl rfl ?_
            refine x_callVi C gv_X3_132 (c_X3_entryStands (7 * k + la k) (by omega) what sign num) 0 rfl rfl rfl rfl (Nat.le_of_ble_eq_true rfl) ⟨(Nat.le_of_ble_eq_true rfl), (Nat.le_of_ble_eq_true rfl)⟩ ⟨Nat.zero_le _, Nat.zero_le _⟩ dX3_first_50 ?_
            refine x_if_eq C (tgt := 59) dX3_first_53 (by decide) (fun h6 => ?_) (fun h6 => ?_)
            · refine x_iinc C dX3_first_59 rfl (nI_1 k) (by decide) ?_
              refine x_goto C (tgt := 14) dX3_first_62 (by decide) ?_
              exact ih (k + 1) (by omega) (by rw [← he]; show _ = fs_F _ (n + 1) k; rw [fs_F, if_neg (by rw [bz_f h6, Bool.and_false]; decide)])
            · refine x_iload C dX3_first_56 rfl ?_
              exact x_iret C dX3_first_58 (by rw [← he]; show some (Value.int (fs_F _ (n + 1) k)) = _; rw [fs_F, if_pos (by rw [bz_t h6, decide_eq_true h5]; rfl)]) rfl
    exact loop gr 0 (by omega) rfl
  · exact absurd hq (by rw [bz_f h]; decide)
set_option maxRecDepth 100000 in
set_option maxHeartbeats 4000000 in
theorem c_X3_has (what : Int32) (w : Nat) (hw : w < 12) (hl : la w ≤ 6) : wo_S l yX3_has cX3_has 3 (some .boolean) 1 D ((cI, .int) :: (cZ, .boolean) :: tys) [.ref (a 0), .int what, .int (nI w)] (wB cI cZ a co gr dy kd wo me ti td la go kp od no ax lv rh re rs ph pr o1 o2 ++ Y) (some (.int (bz (hs_B kd wo td la what w)))) (fun o1 o2 => (wB cI cZ a co gr dy kd wo me ti td la go kp od no ax lv rh re rs ph pr o1 o2 ++ Y)) := by
  refine wo_ofS (ls := [some (.ref (a 0)), some (.int what), some (.int (nI w))]) (by decide) (Nat.le_of_ble_eq_true rfl) rfl ?_
  intro p e s m args below meth c A C
  have hwn := wn_le kd wo w
  refine x_iload_n C dX3_has_0 rfl rfl ?_
  refine x_if_ne C (tgt := 24) dX3_has_1 (by decide) (fun h => ?_) (fun h => ?_)
  · refine x_aload_n C dX3_has_24 rfl rfl ?_
    refine gB0_latest C dX3_has_25 ?_
    refine x_iload_n C dX3_has_28 rfl rfl ?_
    refine lB_la C _ rfl (by omega) dX3_has_29 ?_
    refine x_if_le C (tgt := 56) dX3_has_30 (by decide) (fun h2 => ?_) (fun h2 => ?_)
    · have h3 := wo_le (a := la w) (b := 0) (by omega) (by omega) h2
      refine x_iconst C (v := 0) dX3_has_56 (by decide) ?_
      exact x_zretS C dX3_has_57 (b := false) rfl (by rw [hs_B, if_neg h, decide_eq_false (by omega)]; rfl) rfl
    · have h3 := wo_nle (a := la w) (b := 0) (by omega) (by omega) h2
      refine x_aload_n C dX3_has_33 rfl rfl ?_
      refine gB0_tilted C dX3_has_34 ?_
      refine x_bipush C (v := 7) dX3_has_37 (by decide) ?_
      refine x_iload_n C dX3_has_39 rfl rfl ?_
      refine x_imul C dX3_has_40 ?_
      refine x_aload_n C dX3_has_41 rfl rfl ?_
      refine gB0_latest C dX3_has_42 ?_
      refine x_iload_n C dX3_has_45 rfl rfl ?_
      refine lB_la C _ rfl (by omega) dX3_has_46 ?_
      refine x_iadd C dX3_has_47 ?_
      refine lB_td C (7 * w + la w) (wo_7 w (la w)) (by omega) dX3_has_48 ?_
      refine x_if_eq C (tgt := 56) dX3_has_49 (by decide) (fun h4 => ?_) (fun h4 => ?_)
      · refine x_iconst C (v := 0) dX3_has_56 (by decide) ?_
        exact x_zretS C dX3_has_57 (b := false) rfl (by rw [hs_B, if_neg h, bz_f h4, Bool.and_false]) rfl
      · refine x_iconst C (v := 1) dX3_has_52 (by decide) ?_
        refine x_goto C (tgt := 57) dX3_has_53 (by decide) ?_
        exact x_zretS C dX3_has_57 (b := true) rfl (by rw [hs_B, if_neg h, bz_t h4, decide_eq_true h3]; rfl) rfl
  · refine x_aload_n C dX3_has_4 rfl rfl ?_
    refine x_iload_n C dX3_has_5 rfl rfl ?_
    refine x_aload_n C dX3_has_6 rfl rfl ?_
    refine gB0_one C dX3_has_7 ?_
    refine x_callVi C gv_X3_69 (c_X3_weightsOf_o1 w hw) 0 rfl rfl rfl rfl (Nat.le_of_ble_eq_true rfl) ⟨(Nat.le_of_ble_eq_true rfl), (Nat.le_of_ble_eq_true rfl)⟩ ⟨Nat.zero_le _, Nat.zero_le _⟩ dX3_has_10 ?_
    refine x_if_le C (tgt := 20) dX3_has_13 (by decide) (fun h2 => ?_) (fun h2 => ?_)
    · have h3 := wo_le (a := wn_B kd wo w) (b := 0) (by omega) (by omega) h2
      refine x_iconst C (v := 0) dX3_has_20 (by decide) ?_
      refine x_goto C (tgt := 57) dX3_has_21 (by decide) ?_
      exact x_zretS C dX3_has_57 (b := false) rfl (by rw [hs_B, if_pos h, decide_eq_false (by omega)]) rfl
    · have h3 := wo_nle (a := wn_B kd wo w) (b := 0) (by omega) (by omega) h2
      refine x_iconst C (v := 1) dX3_has_16 (by decide) ?_
      refine x_goto C (tgt := 57) dX3_has_17 (by decide) ?_
      exact x_zretS C dX3_has_57 (b := true) rfl (by rw [hs_B, if_pos h, decide_eq_true h3]) rfl
set_option maxRecDepth 100000 in
set_option maxHeartbeats 4000000 in
theorem c_X3_told (what : Int32) (w : Nat) (hw : w < 12) (hl : la w ≤ 6) : wo_S l yX3_told cX3_told 4 (some .int) 1 D ((cI, .int) :: (cZ, .boolean) :: tys) [.ref (a 0), .int what, .int (nI w)] (wB cI cZ a co gr dy kd wo me ti td la go kp od no ax lv rh re rs ph pr o1 o2 ++ Y) (some (.int (tv_B kd wo ti la what w))) (fun o1 o2 => (wB cI cZ a co gr dy kd wo me ti td la go kp od no ax lv rh re rs ph pr o1 o2 ++ Y)) := by
  refine wo_ofS (ls := [some (.ref (a 0)), some (.int what), some (.int (nI w)), none]) (by decide) (Nat.le_of_ble_eq_true rfl) rfl ?_
  intro p e s m args below meth c A C
  have hwn := wn_le kd wo w
  refine x_aload_n C dX3_told_0 rfl rfl ?_
  refine x_iload_n C dX3_told_1 rfl rfl ?_
  refine x_aload_n C dX3_told_2 rfl rfl ?_
  refine gB0_one C dX3_told_3 ?_
  refine x_callVi C gv_X3_69 (c_X3_weightsOf_o1 w hw) 0 rfl rfl rfl rfl (Nat.le_of_ble_eq_true rfl) ⟨(Nat.le_of_ble_eq_true rfl), (Nat.le_of_ble_eq_true rfl)⟩ ⟨Nat.zero_le _, Nat.zero_le _⟩ dX3_told_6 ?_
  refine x_istore_n C dX3_told_9 rfl (by decide) ?_
  refine x_iload_n C dX3_told_10 rfl rfl ?_
  refine x_if_ne C (tgt := 31) dX3_told_11 (by decide) (fun h => ?_) (fun h => ?_)
  · refine x_aload_n C dX3_told_31 rfl rfl ?_
    refine gB0_tilt C dX3_told_32 ?_
    refine x_bipush C (v := 7) dX3_told_35 (by decide) ?_
    refine x_iload_n C dX3_told_37 rfl rfl ?_
    refine x_imul C dX3_told_38 ?_
    refine x_aload_n C dX3_told_39 rfl rfl ?_
    refine gB0_latest C dX3_told_40 ?_
    refine x_iload_n C dX3_told_43 rfl rfl ?_
    refine lB_la C _ rfl (by omega) dX3_told_44 ?_
    refine x_iadd C dX3_told_45 ?_
    refine lB_ti C (7 * w + la w) (wo_7 w (la w)) (by omega) dX3_told_46 ?_
    exact x_iretS C dX3_told_47 (by rw [tv_B, if_neg h]) rfl
  · refine x_iload_n C dX3_told_14 rfl rfl ?_
    refine x_if_le C (tgt := 27) dX3_told_15 (by decide) (fun h2 => ?_) (fun h2 => ?_)
    · have h3 := wo_le (a := wn_B kd wo w) (b := 0) (by omega) (by omega) h2
      refine x_iconst C (v := 0) dX3_told_27 (by decide) ?_
      refine x_goto C (tgt := 47) dX3_told_28 (by decide) ?_
      exact x_iretS C dX3_told_47 (by rw [tv_B, if_pos h, if_neg (by omega)]) rfl
    · have h3 := wo_nle (a := wn_B kd wo w) (b := 0) (by omega) (by omega) h2
      refine x_aload_n C dX3_told_18 rfl rfl ?_
      refine gB0_one C dX3_told_19 ?_
      refine x_iconst C (v := 0) dX3_told_22 (by decide) ?_
      refine lB_o1 C 0 rfl (by omega) dX3_told_23 ?_
      refine x_goto C (tgt := 47) dX3_told_24 (by decide) ?_
      exact x_iretS C dX3_told_47 (by rw [tv_B, if_pos h, if_pos h3, wk_eq _ _ _ _ h3]) rfl
set_option maxRecDepth 100000 in
set_option maxHeartbeats 4000000 in
theorem c_X3_lamps_1 (what sign num : Int32) (hq : (in_B what 0 1 && in_B sign 0 5) = false) : wo_E l yX3_lamps cX3_lamps 6 (some .int) 2 D ((cI, .int) :: (cZ, .boolean) :: tys) [.ref (a 0), .int what, .int sign, .int num] (wB cI cZ a co gr dy kd wo me ti td la go kp od no ax lv rh re rs ph pr o1 o2 ++ Y) (some (.int 0)) (wB cI cZ a (1) gr dy kd wo me ti td la go kp od no ax lv rh re rs ph pr o1 o2 ++ Y) := by
  refine wo_of (ls := [some (.ref (a 0)), some (.int what), some (.int sign), some (.int num), none, none]) (by decide) (Nat.le_of_ble_eq_true rfl) rfl ?_
  intro p e s m args below meth c A C
  refine x_iconst C (v := 0) dX3_lamps_0 (by decide) ?_
  refine x_istore C dX3_lamps_1 (by decide) ?_
  refine x_aload_n C dX3_lamps_3 rfl rfl ?_
  refine x_iload_n C dX3_lamps_4 rfl rfl ?_
  refine x_iload_n C dX3_lamps_5 rfl rfl ?_
  refine x_callVi C gv_X3_129 (c_X3_isAsked what sign) 0 rfl rfl rfl rfl (Nat.le_of_ble_eq_true rfl) ⟨(Nat.le_of_ble_eq_true rfl), (Nat.le_of_ble_eq_true rfl)⟩ ⟨Nat.zero_le _, Nat.zero_le _⟩ dX3_lamps_6 ?_
  rw [if_neg (by rw [hq]; decide)]
  refine x_if_eq C (tgt := 77) dX3_lamps_9 (by decide) (fun h => ?_) (fun h => ?_)
  · refine x_iload C dX3_lamps_77 rfl ?_
    exact x_iret C dX3_lamps_79 rfl rfl
  · exact absurd hq (by rw [bz_t h]; decide)
set_option maxRecDepth 100000 in
set_option maxHeartbeats 4000000 in
theorem c_X3_lamps (what sign num : Int32) (hq : (in_B what 0 1 && in_B sign 0 5) = true) (hg : gr ≤ 12) (hla : ∀ k, k < 12 → la k ≤ 6) : wo_S l yX3_lamps cX3_lamps 6 (some .int) 2 D ((cI, .int) :: (cZ, .boolean) :: tys) [.ref (a 0), .int what, .int sign, .int num] (wB cI cZ a co gr dy kd wo me ti td la go kp od no ax lv rh re rs ph pr o1 o2 ++ Y) (some (.int (lm_F (fun k => st_B (hs_B kd wo td la what k) (tv_B kd wo ti la what k) (decide (¬ num = -1000000)) num sign) gr))) (fun o1 o2 => (wB cI cZ a (0) gr dy kd wo me ti td la go kp od no ax lv rh re rs ph pr o1 o2 ++ Y)) := by
  refine wo_ofS (ls := [some (.ref (a 0)), some (.int what), some (.int sign), some (.int num), none, none]) (by decide) (Nat.le_of_ble_eq_true rfl) rfl ?_
  intro p e s m args below meth c A C
  refine x_iconst C (v := 0) dX3_lamps_0 (by decide) ?_
  refine x_istore C dX3_lamps_1 (by decide) ?_
  refine x_aload_n C dX3_lamps_3 rfl rfl ?_
  refine x_iload_n C dX3_lamps_4 rfl rfl ?_
  refine x_iload_n C dX3_lamps_5 rfl rfl ?_
  refine x_callVi C gv_X3_129 (c_X3_isAsked what sign) 0 rfl rfl rfl rfl (Nat.le_of_ble_eq_true rfl) ⟨(Nat.le_of_ble_eq_true rfl), (Nat.le_of_ble_eq_true rfl)⟩ ⟨Nat.zero_le _, Nat.zero_le _⟩ dX3_lamps_6 ?_
  rw [if_pos hq]
  refine x_if_eq C (tgt := 77) dX3_lamps_9 (by decide) (fun h => ?_) (fun h => ?_)
  · exact absurd hq (by rw [bz_f h]; decide)
  · refine x_iconst C (v := 0) dX3_lamps_12 (by decide) ?_
    refine x_istore C dX3_lamps_13 (by decide) ?_
    have loop : ∀ (n k : Nat) (o1 o2 : Nat → Int32), n + k = gr → wo_W p l e (wo_rm 2) s m args below meth c A D 0 0 6 (MQ below (wo_QS D ((cI, .int) :: (cZ, .boolean) :: tys) (some (.int (lm_F (fun k => st_B (hs_B kd wo td la what k) (tv_B kd wo ti la what k) (decide (¬ num = -1000000)) num sign) gr))) (fun o1 o2 => (wB cI cZ a (0) gr dy kd wo me ti td la go kp od no ax lv rh re rs ph pr o1 o2 ++ Y)) A) args s 0 0 A) 15 [some (.ref (a 0)), some (.int what), some (.int sign), some (.int num), some (.int (lm_F (fun k => st_B (hs_B kd wo td la what k) (tv_B kd wo ti la what k) (decide (¬ num = -1000000)) num sign) k)), some (.int (nI k))] [] (wB cI cZ a (0) gr dy kd wo me ti td la go kp od no ax lv rh re rs ph pr o1 o2 ++ Y) := by
      intro n
      induction n with
      | zero =>
        intro k o1 o2 hk
        refine x_iload C dX3_lamps_15 rfl ?_
        refine x_aload_n C dX3_lamps_17 rfl rfl ?_
        refine gB0_growers C dX3_lamps_18 ?_
        refine x_icmp_ge C (tgt := 77) dX3_lamps_21 (by decide) (fun h3 => ?_) (fun h3 => ?_)
        · have hk2 : k = gr := by omega
          subst hk2
          refine x_iload C dX3_lamps_77 rfl ?_
          exact x_iretS C dX3_lamps_79 rfl rfl
        · exact absurd (show nI gr ≤ nI k from nI_le (by omega) (by omega)) h3
      | succ n ih =>
        intro k o1 o2 hk
        have hl := hla k (by omega)
        refine x_iload C dX3_lamps_15 rfl ?_
        refine x_aload_n C dX3_lamps_17 rfl rfl ?_
        refine gB0_growers C dX3_lamps_18 ?_
        refine x_icmp_ge C (tgt := 77) dX3_lamps_21 (by decide) (fun h3 => ?_) (fun h3 => ?_)
        · exact absurd (wo_le (by omega) (by omega) h3) (by omega)
        · refine x_aload_n C dX3_lamps_24 rfl rfl ?_
          refine x_iload_n C dX3_lamps_25 rfl rfl ?_
          refine x_iload C dX3_lamps_26 rfl ?_
          refine x_callVSi C gv_X3_136 (c_X3_has what k (by omega) hl) 0 rfl rfl rfl rfl (Nat.le_of_ble_eq_true rfl) ⟨(Nat.le_of_ble_eq_true rfl), (Nat.le_of_ble_eq_true rfl)⟩ ⟨Nat.zero_le _, Nat.zero_le _⟩ dX3_lamps_28 (fun o1 o2 => ?_)
          refine x_aload_n C dX3_lamps_31 rfl rfl ?_
          refine x_iload_n C dX3_lamps_32 rfl rfl ?_
          refine x_iload C dX3_lamps_33 rfl ?_
          refine x_callVSi C gv_X3_139 (c_X3_told what k (by omega) hl) 0 rfl rfl rfl rfl (Nat.le_of_ble_eq_true rfl) ⟨(Nat.le_of_ble_eq_true rfl), (Nat.le_of_ble_eq_true rfl)⟩ ⟨Nat.zero_le _, Nat.zero_le _⟩ dX3_lamps_35 (fun o1 o2 => ?_)
          have f49 : ∀ ho : Bool, ho = decide (¬ num = -1000000) → wo_W p l e (wo_rm 2) s m args below meth c A D 0 0 6 (MQ below (wo_QS D ((cI, .int) :: (cZ, .boolean) :: tys) (some (.int (lm_F (fun k => st_B (hs_B kd wo td la what k) (tv_B kd wo ti la what k) (decide (¬ num = -1000000)) num sign) gr))) (fun o1 o2 => (wB cI cZ a (0) gr dy kd wo me ti td la go kp od no ax lv rh re rs ph pr o1 o2 ++ Y)) A) args s 0 0 A) 49 [some (.ref (a 0)), some (.int what), some (.int sign), some (.int num), some (.int (lm_F (fun k => st_B (hs_B kd wo td la what k) (tv_B kd wo ti la what k) (decide (¬ num = -1000000)) num sign) k)), some (.int (nI k))] [.int (bz ho), .int (tv_B kd wo ti la what k), .int (bz (hs_B kd wo td la what k))] (wB cI cZ a (0) gr dy kd wo me ti td la go kp od no ax lv rh re rs ph pr o1 o2 ++ Y) := by
            intro ho hho
            subst hho
            refine x_iload_n C dX3_lamps_49 rfl rfl ?_
            refine x_iload_n C dX3_lamps_50 rfl rfl ?_
            refine x_callSi C gs_X3_125 (c_X3_stand (hs_B kd wo td la what k) _ (tv_B kd wo ti la what k) num sign) rfl rfl (Nat.le_of_ble_eq_true rfl) ⟨(Nat.le_of_ble_eq_true rfl), (Nat.le_of_ble_eq_true rfl)⟩ ⟨Nat.zero_le _, Nat.zero_le _⟩ dX3_lamps_51 ?_
            refine x_if_eq C (tgt := 67) dX3_lamps_54 (by decide) (fun h5 => ?_) (fun h5 => ?_)
            · refine x_iload C dX3_lamps_67 rfl ?_
              refine x_istore C dX3_lamps_69 (by decide) ?_
              refine x_iinc C dX3_lamps_71 rfl (nI_1 k) (by decide) ?_
              refine x_goto C (tgt := 15) dX3_lamps_74 (by decide) ?_
              have h9 := ih (k + 1) o1 o2 (by omega)
              rw [lm_f (n := k) (bz_f h5)] at h9
              exact h9
            · refine x_iload C dX3_lamps_57 rfl ?_
              refine x_iconst C (v := 1) dX3_lamps_59 (by decide) ?_
              refine x_iload C dX3_lamps_60 rfl ?_
              refine x_ishl C dX3_lamps_62 ?_
              refine x_ior C dX3_lamps_63 ?_
              refine x_goto C (tgt := 69) dX3_lamps_64 (by decide) ?_
              refine x_istore C dX3_lamps_69 (by decide) ?_
              refine x_iinc C dX3_lamps_71 rfl (nI_1 k) (by decide) ?_
              refine x_goto C (tgt := 15) dX3_lamps_74 (by decide) ?_
              have h9 := ih (k + 1) o1 o2 (by omega)
              rw [lm_t (n := k) (bz_t h5)] at h9
              exact h9
          refine x_iload_n C dX3_lamps_38 rfl rfl ?_
          refine x_ldc C kk_X3_124 dX3_lamps_39 ?_
          refine x_icmp_eq C (tgt := 48) dX3_lamps_41 (by decide) (fun h5 => ?_) (fun h5 => ?_)
          · refine x_iconst C (v := 0) dX3_lamps_48 (by decide) ?_
            exact f49 false (by rw [decide_eq_false (fun z => z h5)])
          · refine x_iconst C (v := 1) dX3_lamps_44 (by decide) ?_
            refine x_goto C (tgt := 49) dX3_lamps_45 (by decide) ?_
            exact f49 true (by rw [decide_eq_true h5])
    exact loop gr 0 o1 o2 (by omega)
set_option maxRecDepth 100000 in
set_option maxHeartbeats 4000000 in
theorem c_X3_stands_1 (what x y : Int32) (hg : 1 ≤ gr) (hq : (in_B what 0 1 && in_B x 0 (nI (gr - 1)) && in_B y 0 (nI (gr - 1))) = false) : wo_E l yX3_stands cX3_stands 6 (some .int) 2 D ((cI, .int) :: (cZ, .boolean) :: tys) [.ref (a 0), .int what, .int x, .int y] (wB cI cZ a co gr dy kd wo me ti td la go kp od no ax lv rh re rs ph pr o1 o2 ++ Y) (some (.int 0)) (wB cI cZ a (1) gr dy kd wo me ti td la go kp od no ax lv rh re rs ph pr o1 o2 ++ Y) := by
  refine wo_of (ls := [some (.ref (a 0)), some (.int what), some (.int x), some (.int y), none, none]) (by decide) (Nat.le_of_ble_eq_true rfl) rfl ?_
  intro p e s m args below meth c A C
  have f42 : wo_W p l e (wo_rm 2) s m args below meth c A D 0 0 6 (MQ below (wo_Q D ((cI, .int) :: (cZ, .boolean) :: tys) (some (.int 0)) (wB cI cZ a (1) gr dy kd wo me ti td la go kp od no ax lv rh re rs ph pr o1 o2 ++ Y) A) args s 0 0 A) 42 [some (.ref (a 0)), some (.int what), some (.int x), some (.int y), none, none] [.ref (a 0)] (wB cI cZ a co gr dy kd wo me ti td la go kp od no ax lv rh re rs ph pr o1 o2 ++ Y) := by
    refine x_iconst C (v := 1) dX3_stands_42 (by decide) ?_
    refine pB0_code C _ dX3_stands_43 ?_
    refine x_iconst C (v := 0) dX3_stands_46 (by decide) ?_
    refine x_istore C dX3_stands_47 (by decide) ?_
    refine x_iconst C (v := 0) dX3_stands_49 (by decide) ?_
    refine x_istore C dX3_stands_50 (by decide) ?_
    refine x_iload C dX3_stands_52 rfl ?_
    refine x_bipush C (v := 6) dX3_stands_54 (by decide) ?_
    refine x_icmp_ge C (tgt := 118) dX3_stands_56 (by decide) (fun h => ?_) (fun h => ?_)
    · exact absurd h (by decide)
    · refine x_aload_n C dX3_stands_59 rfl rfl ?_
      refine gB0_code C dX3_stands_60 ?_
      refine x_if_ne C (tgt := 118) dX3_stands_63 (by decide) (fun h2 => ?_) (fun h2 => ?_)
      · refine x_iload C dX3_stands_118 rfl ?_
        exact x_iret C dX3_stands_120 rfl rfl
      · exact absurd h2 (by decide)
  refine x_aload_n C dX3_stands_0 rfl rfl ?_
  refine x_iload_n C dX3_stands_1 rfl rfl ?_
  refine x_iconst C (v := 0) dX3_stands_2 (by decide) ?_
  refine x_iconst C (v := 1) dX3_stands_3 (by decide) ?_
  refine x_callSi C gs_X3_48 (c_X3_in what 0 1) rfl rfl (Nat.le_of_ble_eq_true rfl) ⟨(Nat.le_of_ble_eq_true rfl), (Nat.le_of_ble_eq_true rfl)⟩ ⟨Nat.zero_le _, Nat.zero_le _⟩ dX3_stands_4 ?_
  refine x_if_eq C (tgt := 42) dX3_stands_7 (by decide) (fun h => ?_) (fun h => ?_)
  · exact f42
  · refine x_iload_n C dX3_stands_10 rfl rfl ?_
    refine x_iconst C (v := 0) dX3_stands_11 (by decide) ?_
    refine x_aload_n C dX3_stands_12 rfl rfl ?_
    refine gB0_growers C dX3_stands_13 ?_
    refine x_iconst C (v := 1) dX3_stands_16 (by decide) ?_
    refine x_isub C dX3_stands_17 ?_
    refine x_top (wo_gr1 hg) ?_
    refine x_callSi C gs_X3_48 (c_X3_in x 0 (nI (gr - 1))) rfl rfl (Nat.le_of_ble_eq_true rfl) ⟨(Nat.le_of_ble_eq_true rfl), (Nat.le_of_ble_eq_true rfl)⟩ ⟨Nat.zero_le _, Nat.zero_le _⟩ dX3_stands_18 ?_
    refine x_if_eq C (tgt := 42) dX3_stands_21 (by decide) (fun h2 => ?_) (fun h2 => ?_)
    · exact f42
    · refine x_iload_n C dX3_stands_24 rfl rfl ?_
      refine x_iconst C (v := 0) dX3_stands_25 (by decide) ?_
      refine x_aload_n C dX3_stands_26 rfl rfl ?_
      refine gB0_growers C dX3_stands_27 ?_
      refine x_iconst C (v := 1) dX3_stands_30 (by decide) ?_
      refine x_isub C dX3_stands_31 ?_
      refine x_top (wo_gr1 hg) ?_
      refine x_callSi C gs_X3_48 (c_X3_in y 0 (nI (gr - 1))) rfl rfl (Nat.le_of_ble_eq_true rfl) ⟨(Nat.le_of_ble_eq_true rfl), (Nat.le_of_ble_eq_true rfl)⟩ ⟨Nat.zero_le _, Nat.zero_le _⟩ dX3_stands_32 ?_
      refine x_if_eq C (tgt := 42) dX3_stands_35 (by decide) (fun h3 => ?_) (fun h3 => ?_)
      · exact f42
      · exact absurd hq (by rw [bz_t h, bz_t h2, bz_t h3]; decide)
set_option maxRecDepth 100000 in
set_option maxHeartbeats 4000000 in
theorem c_X3_stands (what : Int32) (u w : Nat) (hu : u < gr) (hw : w < gr) (hq : in_B what 0 1 = true) (hg : gr ≤ 12) (hla : ∀ k, k < 12 → la k ≤ 6) : wo_S l yX3_stands cX3_stands 6 (some .int) 2 D ((cI, .int) :: (cZ, .boolean) :: tys) [.ref (a 0), .int what, .int (nI u), .int (nI w)] (wB cI cZ a co gr dy kd wo me ti td la go kp od no ax lv rh re rs ph pr o1 o2 ++ Y) (some (.int (lm_F (fun k => st_B (hs_B kd wo td la what u) (tv_B kd wo ti la what u) (hs_B kd wo td la what w) (tv_B kd wo ti la what w) (nI k)) 6))) (fun o1 o2 => (wB cI cZ a (0) gr dy kd wo me ti td la go kp od no ax lv rh re rs ph pr o1 o2 ++ Y)) := by
  refine wo_ofS (ls := [some (.ref (a 0)), some (.int what), some (.int (nI u)), some (.int (nI w)), none, none]) (by decide) (Nat.le_of_ble_eq_true rfl) rfl ?_
  intro p e s m args below meth c A C
  have hlu := hla u (by omega)
  have hlw := hla w (by omega)
  refine x_aload_n C dX3_stands_0 rfl rfl ?_
  refine x_iload_n C dX3_stands_1 rfl rfl ?_
  refine x_iconst C (v := 0) dX3_stands_2 (by decide) ?_
  refine x_iconst C (v := 1) dX3_stands_3 (by decide) ?_
  refine x_callSi C gs_X3_48 (c_X3_in what 0 1) rfl rfl (Nat.le_of_ble_eq_true rfl) ⟨(Nat.le_of_ble_eq_true rfl), (Nat.le_of_ble_eq_true rfl)⟩ ⟨Nat.zero_le _, Nat.zero_le _⟩ dX3_stands_4 ?_
  refine x_if_eq C (tgt := 42) dX3_stands_7 (by decide) (fun h => ?_) (fun h => ?_)
  · exact absurd hq (by rw [bz_f h]; decide)
  · refine x_iload_n C dX3_stands_10 rfl rfl ?_
    refine x_iconst C (v := 0) dX3_stands_11 (by decide) ?_
    refine x_aload_n C dX3_stands_12 rfl rfl ?_
    refine gB0_growers C dX3_stands_13 ?_
    refine x_iconst C (v := 1) dX3_stands_16 (by decide) ?_
    refine x_isub C dX3_stands_17 ?_
    refine x_top (wo_gr1 (by omega)) ?_
    refine x_callSi C gs_X3_48 (c_X3_in (nI u) 0 (nI (gr - 1))) rfl rfl (Nat.le_of_ble_eq_true rfl) ⟨(Nat.le_of_ble_eq_true rfl), (Nat.le_of_ble_eq_true rfl)⟩ ⟨Nat.zero_le _, Nat.zero_le _⟩ dX3_stands_18 ?_
    refine x_if_eq C (tgt := 42) dX3_stands_21 (by decide) (fun h2 => ?_) (fun h2 => ?_)
    · exact absurd (wo_in0' hg hu) (by rw [bz_f h2]; decide)
    · refine x_iload_n C dX3_stands_24 rfl rfl ?_
      refine x_iconst C (v := 0) dX3_stands_25 (by decide) ?_
      refine x_aload_n C dX3_stands_26 rfl rfl ?_
      refine gB0_growers C dX3_stands_27 ?_
      refine x_iconst C (v := 1) dX3_stands_30 (by decide) ?_
      refine x_isub C dX3_stands_31 ?_
      refine x_top (wo_gr1 (by omega)) ?_
      refine x_callSi C gs_X3_48 (c_X3_in (nI w) 0 (nI (gr - 1))) rfl rfl (Nat.le_of_ble_eq_true rfl) ⟨(Nat.le_of_ble_eq_true rfl), (Nat.le_of_ble_eq_true rfl)⟩ ⟨Nat.zero_le _, Nat.zero_le _⟩ dX3_stands_32 ?_
      refine x_if_eq C (tgt := 42) dX3_stands_35 (by decide) (fun h3 => ?_) (fun h3 => ?_)
      · exact absurd (wo_in0' hg hw) (by rw [bz_f h3]; decide)
      · refine x_iconst C (v := 0) dX3_stands_38 (by decide) ?_
        refine x_goto C (tgt := 43) dX3_stands_39 (by decide) ?_
        refine pB0_code C _ dX3_stands_43 ?_
        refine x_iconst C (v := 0) dX3_stands_46 (by decide) ?_
        refine x_istore C dX3_stands_47 (by decide) ?_
        refine x_iconst C (v := 0) dX3_stands_49 (by decide) ?_
        refine x_istore C dX3_stands_50 (by decide) ?_
        have loop : ∀ (n k : Nat) (o1 o2 : Nat → Int32), n + k = 6 → wo_W p l e (wo_rm 2) s m args below meth c A D 0 0 6 (MQ below (wo_QS D ((cI, .int) :: (cZ, .boolean) :: tys) (some (.int (lm_F (fun k => st_B (hs_B kd wo td la what u) (tv_B kd wo ti la what u) (hs_B kd wo td la what w) (tv_B kd wo ti la what w) (nI k)) 6))) (fun o1 o2 => (wB cI cZ a (0) gr dy kd wo me ti td la go kp od no ax lv rh re rs ph pr o1 o2 ++ Y)) A) args s 0 0 A) 52 [some (.ref (a 0)), some (.int what), some (.int (nI u)), some (.int (nI w)), some (.int (lm_F (fun k => st_B (hs_B kd wo td la what u) (tv_B kd wo ti la what u) (hs_B kd wo td la what w) (tv_B kd wo ti la what w) (nI k)) k)), some (.int (nI k))] [] (wB cI cZ a (0) gr dy kd wo me ti td la go kp od no ax lv rh re rs ph pr o1 o2 ++ Y) := by
          intro n
          induction n with
          | zero =>
            intro k o1 o2 hk
            refine x_iload C dX3_stands_52 rfl ?_
            refine x_bipush C (v := 6) dX3_stands_54 (by decide) ?_
            refine x_icmp_ge C (tgt := 118) dX3_stands_56 (by decide) (fun h4 => ?_) (fun h4 => ?_)
            · have hk2 : k = 6 := by omega
              subst hk2
              refine x_iload C dX3_stands_118 rfl ?_
              exact x_iretS C dX3_stands_120 rfl rfl
            · exact absurd (show nI 6 ≤ nI k from nI_le (by omega) (by omega)) h4
          | succ n ih =>
            intro k o1 o2 hk
            refine x_iload C dX3_stands_52 rfl ?_
            refine x_bipush C (v := 6) dX3_stands_54 (by decide) ?_
            refine x_icmp_ge C (tgt := 118) dX3_stands_56 (by decide) (fun h4 => ?_) (fun h4 => ?_)
            · exact absurd (wo_le (a := 6) (b := k) (by omega) (by omega) h4) (by omega)
            · refine x_aload_n C dX3_stands_59 rfl rfl ?_
              refine gB0_code C dX3_stands_60 ?_
              refine x_if_ne C (tgt := 118) dX3_stands_63 (by decide) (fun h5 => ?_) (fun h5 => ?_)
              · exact absurd rfl h5
              · refine x_aload_n C dX3_stands_66 rfl rfl ?_
                refine x_iload_n C dX3_stands_67 rfl rfl ?_
                refine x_iload_n C dX3_stands_68 rfl rfl ?_
                refine x_callVSi C gv_X3_136 (c_X3_has what u (by omega) hlu) 0 rfl rfl rfl rfl (Nat.le_of_ble_eq_true rfl) ⟨(Nat.le_of_ble_eq_true rfl), (Nat.le_of_ble_eq_true rfl)⟩ ⟨Nat.zero_le _, Nat.zero_le _⟩ dX3_stands_69 (fun o1 o2 => ?_)
                refine x_aload_n C dX3_stands_72 rfl rfl ?_
                refine x_iload_n C dX3_stands_73 rfl rfl ?_
                refine x_iload_n C dX3_stands_74 rfl rfl ?_
                refine x_callVSi C gv_X3_139 (c_X3_told what u (by omega) hlu) 0 rfl rfl rfl rfl (Nat.le_of_ble_eq_true rfl) ⟨(Nat.le_of_ble_eq_true rfl), (Nat.le_of_ble_eq_true rfl)⟩ ⟨Nat.zero_le _, Nat.zero_le _⟩ dX3_stands_75 (fun o1 o2 => ?_)
                refine x_aload_n C dX3_stands_78 rfl rfl ?_
                refine x_iload_n C dX3_stands_79 rfl rfl ?_
                refine x_iload_n C dX3_stands_80 rfl rfl ?_
                refine x_callVSi C gv_X3_136 (c_X3_has what w (by omega) hlw) 0 rfl rfl rfl rfl (Nat.le_of_ble_eq_true rfl) ⟨(Nat.le_of_ble_eq_true rfl), (Nat.le_of_ble_eq_true rfl)⟩ ⟨Nat.zero_le _, Nat.zero_le _⟩ dX3_stands_81 (fun o1 o2 => ?_)
                refine x_aload_n C dX3_stands_84 rfl rfl ?_
                refine x_iload_n C dX3_stands_85 rfl rfl ?_
                refine x_iload_n C dX3_stands_86 rfl rfl ?_
                refine x_callVSi C gv_X3_139 (c_X3_told what w (by omega) hlw) 0 rfl rfl rfl rfl (Nat.le_of_ble_eq_true rfl) ⟨(Nat.le_of_ble_eq_true rfl), (Nat.le_of_ble_eq_true rfl)⟩ ⟨Nat.zero_le _, Nat.zero_le _⟩ dX3_stands_87 (fun o1 o2 => ?_)
                refine x_iload C dX3_stands_90 rfl ?_
                refine x_callSi C gs_X3_125 (c_X3_stand (hs_B kd wo td la what u) (hs_B kd wo td la what w) (tv_B kd wo ti la what u) (tv_B kd wo ti la what w) (nI k)) rfl rfl (Nat.le_of_ble_eq_true rfl) ⟨(Nat.le_of_ble_eq_true rfl), (Nat.le_of_ble_eq_true rfl)⟩ ⟨Nat.zero_le _, Nat.zero_le _⟩ dX3_stands_92 ?_
                refine x_if_eq C (tgt := 108) dX3_stands_95 (by decide) (fun h6 => ?_) (fun h6 => ?_)
                · refine x_iload C dX3_stands_108 rfl ?_
                  refine x_istore C dX3_stands_110 (by decide) ?_
                  refine x_iinc C dX3_stands_112 rfl (nI_1 k) (by decide) ?_
                  refine x_goto C (tgt := 52) dX3_stands_115 (by decide) ?_
                  have h9 := ih (k + 1) o1 o2 (by omega)
                  rw [lm_f (n := k) (bz_f h6)] at h9
                  exact h9
                · refine x_iload C dX3_stands_98 rfl ?_
                  refine x_iconst C (v := 1) dX3_stands_100 (by decide) ?_
                  refine x_iload C dX3_stands_101 rfl ?_
                  refine x_ishl C dX3_stands_103 ?_
                  refine x_ior C dX3_stands_104 ?_
                  refine x_goto C (tgt := 110) dX3_stands_105 (by decide) ?_
                  refine x_istore C dX3_stands_110 (by decide) ?_
                  refine x_iinc C dX3_stands_112 rfl (nI_1 k) (by decide) ?_
                  refine x_goto C (tgt := 52) dX3_stands_115 (by decide) ?_
                  have h9 := ih (k + 1) o1 o2 (by omega)
                  rw [lm_t (n := k) (bz_t h6)] at h9
                  exact h9
        exact loop 6 0 o1 o2 rfl
set_option maxRecDepth 100000 in
set_option maxHeartbeats 4000000 in
theorem c_X3_lean_1 (x : Int32) (least : Bool) (hx : in_B x 1 6 = false) : wo_E l yX3_lean cX3_lean 6 (some .int) 1 D ((cI, .int) :: (cZ, .boolean) :: tys) [.ref (a 0), .int x, .int (bz least)] (wB cI cZ a co gr dy kd wo me ti td la go kp od no ax lv rh re rs ph pr o1 o2 ++ Y) (some (.int 0)) (wB cI cZ a (1) gr dy kd wo me ti td la go kp od no ax lv rh re rs ph pr o1 o2 ++ Y) := by
  refine wo_of (ls := [some (.ref (a 0)), some (.int x), some (.int (bz least)), none, none, none]) (by decide) (Nat.le_of_ble_eq_true rfl) rfl ?_
  intro p e s m args below meth c A C
  refine x_aload_n C dX3_lean_0 rfl rfl ?_
  refine x_iload_n C dX3_lean_1 rfl rfl ?_
  refine x_iconst C (v := 1) dX3_lean_2 (by decide) ?_
  refine x_bipush C (v := 6) dX3_lean_3 (by decide) ?_
  refine x_callSi C gs_X3_48 (c_X3_in x 1 6) rfl rfl (Nat.le_of_ble_eq_true rfl) ⟨(Nat.le_of_ble_eq_true rfl), (Nat.le_of_ble_eq_true rfl)⟩ ⟨Nat.zero_le _, Nat.zero_le _⟩ dX3_lean_5 ?_
  refine x_if_eq C (tgt := 15) dX3_lean_8 (by decide) (fun h => ?_) (fun h => ?_)
  · refine x_iconst C (v := 1) dX3_lean_15 (by decide) ?_
    refine pB0_code C _ dX3_lean_16 ?_
    refine x_aload_n C dX3_lean_19 rfl rfl ?_
    refine gB0_code C dX3_lean_20 ?_
    refine x_if_le C (tgt := 28) dX3_lean_23 (by decide) (fun h2 => ?_) (fun h2 => ?_)
    · exact absurd h2 (by decide)
    · refine x_iconst C (v := 0) dX3_lean_26 (by decide) ?_
      exact x_iret C dX3_lean_27 rfl rfl
  · exact absurd hx (by rw [bz_t h]; decide)
set_option maxRecDepth 100000 in
set_option maxHeartbeats 4000000 in
theorem c_X3_lean (d : Nat) (least : Bool) (h1 : 1 ≤ d) (h6 : d ≤ 6) (hg : gr ≤ 12) : wo_E l yX3_lean cX3_lean 6 (some .int) 1 D ((cI, .int) :: (cZ, .boolean) :: tys) [.ref (a 0), .int (nI d), .int (bz least)] (wB cI cZ a co gr dy kd wo me ti td la go kp od no ax lv rh re rs ph pr o1 o2 ++ Y) (some (.int (le_F (fun k => td (7 * k + d)) (fun k => ti (7 * k + d)) least gr))) (wB cI cZ a (0) gr dy kd wo me ti td la go kp od no ax lv rh re rs ph pr o1 o2 ++ Y) := by
  refine wo_of (ls := [some (.ref (a 0)), some (.int (nI d)), some (.int (bz least)), none, none, none]) (by decide) (Nat.le_of_ble_eq_true rfl) rfl ?_
  intro p e s m args below meth c A C
  have hin : in_B (nI d) 1 6 = true := decide_eq_true ⟨nI_le (a := 1) h1 (by omega), nI_le (b := 6) h6 (by omega)⟩
  refine x_aload_n C dX3_lean_0 rfl rfl ?_
  refine x_iload_n C dX3_lean_1 rfl rfl ?_
  refine x_iconst C (v := 1) dX3_lean_2 (by decide) ?_
  refine x_bipush C (v := 6) dX3_lean_3 (by decide) ?_
  refine x_callSi C gs_X3_48 (c_X3_in (nI d) 1 6) rfl rfl (Nat.le_of_ble_eq_true rfl) ⟨(Nat.le_of_ble_eq_true rfl), (Nat.le_of_ble_eq_true rfl)⟩ ⟨Nat.zero_le _, Nat.zero_le _⟩ dX3_lean_5 ?_
  refine x_if_eq C (tgt := 15) dX3_lean_8 (by decide) (fun h => ?_) (fun h => ?_)
  · exact absurd hin (by rw [bz_f h]; decide)
  · refine x_iconst C (v := 0) dX3_lean_11 (by decide) ?_
    refine x_goto C (tgt := 16) dX3_lean_12 (by decide) ?_
    refine pB0_code C _ dX3_lean_16 ?_
    refine x_aload_n C dX3_lean_19 rfl rfl ?_
    refine gB0_code C dX3_lean_20 ?_
    refine x_if_le C (tgt := 28) dX3_lean_23 (by decide) (fun h2 => ?_) (fun h2 => ?_)
    · refine x_ldc C kk_X3_124 dX3_lean_28 ?_
      refine x_istore_n C dX3_lean_30 rfl (by decide) ?_
      refine x_iconst C (v := 0) dX3_lean_31 (by decide) ?_
      refine x_istore C dX3_lean_32 (by decide) ?_
      have loop : ∀ (n k : Nat) (x5 : Option Value), n + k = gr → wo_W p l e (wo_rm 1) s m args below meth c A D 0 0 6 (MQ below (wo_Q D ((cI, .int) :: (cZ, .boolean) :: tys) (some (.int (le_F (fun k => td (7 * k + d)) (fun k => ti (7 * k + d)) least gr))) (wB cI cZ a (0) gr dy kd wo me ti td la go kp od no ax lv rh re rs ph pr o1 o2 ++ Y) A) args s 0 0 A) 34 [some (.ref (a 0)), some (.int (nI d)), some (.int (bz least)), some (.int (le_F (fun k => td (7 * k + d)) (fun k => ti (7 * k + d)) least k)), some (.int (nI k)), x5] [] (wB cI cZ a (0) gr dy kd wo me ti td la go kp od no ax lv rh re rs ph pr o1 o2 ++ Y) := by
        intro n
        induction n with
        | zero =>
          intro k x5 hk
          refine x_iload C dX3_lean_34 rfl ?_
          refine x_aload_n C dX3_lean_36 rfl rfl ?_
          refine gB0_growers C dX3_lean_37 ?_
          refine x_icmp_ge C (tgt := 111) dX3_lean_40 (by decide) (fun h3 => ?_) (fun h3 => ?_)
          · have hk2 : k = gr := by omega
            subst hk2
            refine x_iload_n C dX3_lean_111 rfl rfl ?_
            exact x_iret C dX3_lean_112 rfl rfl
          · exact absurd (show nI gr ≤ nI k from nI_le (by omega) (by omega)) h3
        | succ n ih =>
          intro k x5 hk
          have hno : (td (7 * k + d) && (decide (le_F (fun k => td (7 * k + d)) (fun k => ti (7 * k + d)) least k = -1000000) || (if least then decide (ti (7 * k + d) < le_F (fun k => td (7 * k + d)) (fun k => ti (7 * k + d)) least k) else decide (le_F (fun k => td (7 * k + d)) (fun k => ti (7 * k + d)) least k < ti (7 * k + d))))) = false → ∀ x5, wo_W p l e (wo_rm 1) s m args below meth c A D 0 0 6 (MQ below (wo_Q D ((cI, .int) :: (cZ, .boolean) :: tys) (some (.int (le_F (fun k => td (7 * k + d)) (fun k => ti (7 * k + d)) least gr))) (wB cI cZ a (0) gr dy kd wo me ti td la go kp od no ax lv rh re rs ph pr o1 o2 ++ Y) A) args s 0 0 A) 105 [some (.ref (a 0)), some (.int (nI d)), some (.int (bz least)), some (.int (le_F (fun k => td (7 * k + d)) (fun k => ti (7 * k + d)) least k)), some (.int (nI k)), x5] [] (wB cI cZ a (0) gr dy kd wo me ti td la go kp od no ax lv rh re rs ph pr o1 o2 ++ Y) := by
            intro hc x5
            refine x_iinc C dX3_lean_105 rfl (nI_1 k) (by decide) ?_
            refine x_goto C (tgt := 34) dX3_lean_108 (by decide) ?_
            have h9 := ih (k + 1) x5 (by omega)
            rw [le_f (n := k) hc] at h9
            exact h9
          have hyes : (td (7 * k + d) && (decide (le_F (fun k => td (7 * k + d)) (fun k => ti (7 * k + d)) least k = -1000000) || (if least then decide (ti (7 * k + d) < le_F (fun k => td (7 * k + d)) (fun k => ti (7 * k + d)) least k) else decide (le_F (fun k => td (7 * k + d)) (fun k => ti (7 * k + d)) least k < ti (7 * k + d))))) = true → wo_W p l e (wo_rm 1) s m args below meth c A D 0 0 6 (MQ below (wo_Q D ((cI, .int) :: (cZ, .boolean) :: tys) (some (.int (le_F (fun k => td (7 * k + d)) (fun k => ti (7 * k + d)) least gr))) (wB cI cZ a (0) gr dy kd wo me ti td la go kp od no ax lv rh re rs ph pr o1 o2 ++ Y) A) args s 0 0 A) 97 [some (.ref (a 0)), some (.int (nI d)), some (.int (bz least)), some (.int (le_F (fun k => td (7 * k + d)) (fun k => ti (7 * k + d)) least k)), some (.int (nI k)), some (.int (nI (7 * k + d)))] [] (wB cI cZ a (0) gr dy kd wo me ti td la go kp od no ax lv rh re rs ph pr o1 o2 ++ Y) := by
            intro hc
            refine x_aload_n C dX3_lean_97 rfl rfl ?_
            refine gB0_tilt C dX3_lean_98 ?_
            refine x_iload C dX3_lean_101 rfl ?_
            refine lB_ti C _ rfl (by omega) dX3_lean_103 ?_
            refine x_istore_n C dX3_lean_104 rfl (by decide) ?_
            refine x_iinc C dX3_lean_105 rfl (nI_1 k) (by decide) ?_
            refine x_goto C (tgt := 34) dX3_lean_108 (by decide) ?_
            have h9 := ih (k + 1) (some (.int (nI (7 * k + d)))) (by omega)
            rw [le_t (n := k) hc] at h9
            exact h9
          refine x_iload C dX3_lean_34 rfl ?_
          refine x_aload_n C dX3_lean_36 rfl rfl ?_
          refine gB0_growers C dX3_lean_37 ?_
          refine x_icmp_ge C (tgt := 111) dX3_lean_40 (by decide) (fun h3 => ?_) (fun h3 => ?_)
          · exact absurd (wo_le (by omega) (by omega) h3) (by omega)
          · refine x_bipush C (v := 7) dX3_lean_43 (by decide) ?_
            refine x_iload C dX3_lean_45 rfl ?_
            refine x_imul C dX3_lean_47 ?_
            refine x_iload_n C dX3_lean_48 rfl rfl ?_
            refine x_iadd C dX3_lean_49 ?_
            refine x_top (wo_7 k d) ?_
            refine x_istore C dX3_lean_50 (by decide) ?_
            refine x_aload_n C dX3_lean_52 rfl rfl ?_
            refine gB0_tilted C dX3_lean_53 ?_
            refine x_iload C dX3_lean_56 rfl ?_
            refine lB_td C _ rfl (by omega) dX3_lean_58 ?_
            refine x_if_eq C (tgt := 105) dX3_lean_59 (by decide) (fun h4 => ?_) (fun h4 => ?_)
            · exact hno (by rw [bz_f h4]; rfl) _
            · refine x_iload_n C dX3_lean_62 rfl rfl ?_
              refine x_ldc C kk_X3_124 dX3_lean_63 ?_
              refine x_icmp_eq C (tgt := 97) dX3_lean_65 (by decide) (fun h5 => ?_) (fun h5 => ?_)
              · exact hyes (by rw [bz_t h4, decide_eq_true h5]; rfl)
              · refine x_iload_n C dX3_lean_68 rfl rfl ?_
                refine x_if_eq C (tgt := 86) dX3_lean_69 (by decide) (fun h7 => ?_) (fun h7 => ?_)
                · refine x_aload_n C dX3_lean_86 rfl rfl ?_
                  refine gB0_tilt C dX3_lean_87 ?_
                  refine x_iload C dX3_lean_90 rfl ?_
                  refine lB_ti C _ rfl (by omega) dX3_lean_92 ?_
                  refine x_iload_n C dX3_lean_93 rfl rfl ?_
                  refine x_icmp_le C (tgt := 105) dX3_lean_94 (by decide) (fun h8 => ?_) (fun h8 => ?_)
                  · exact hno (by rw [bz_t h4, decide_eq_false h5, if_neg (by rw [bz_f h7]; decide), decide_eq_false (Int32.not_lt.mpr h8)]; rfl) _
                  · exact hyes (by rw [bz_t h4, decide_eq_false h5, if_neg (by rw [bz_f h7]; decide), decide_eq_true (Int32.not_le.mp h8)]; rfl)
                · refine x_aload_n C dX3_lean_72 rfl rfl ?_
                  refine gB0_tilt C dX3_lean_73 ?_
                  refine x_iload C dX3_lean_76 rfl ?_
                  refine lB_ti C _ rfl (by omega) dX3_lean_78 ?_
                  refine x_iload_n C dX3_lean_79 rfl rfl ?_
                  refine x_icmp_ge C (tgt := 105) dX3_lean_80 (by decide) (fun h8 => ?_) (fun h8 => ?_)
                  · exact hno (by rw [bz_t h4, decide_eq_false h5, if_pos (bz_t h7), decide_eq_false (Int32.not_lt.mpr h8)]; rfl) _
                  · refine x_goto C (tgt := 97) dX3_lean_83 (by decide) ?_
                    exact hyes (by rw [bz_t h4, decide_eq_false h5, if_pos (bz_t h7), decide_eq_true (Int32.not_le.mp h8)]; rfl)
      exact loop gr 0 none (by omega)
    · exact absurd (by decide) h2
def lo_B (kd : Nat → Int32) (go : Nat → Bool) (gr : Nat) (rh : Bool) (re rs : Int32) (ph : Bool) (pr : Int32) (what : Int32) : Int32 :=
  if what = 0 then (if rh then re else -1000000) else if what = 1 then (if ph then pr else -1000000) else if what = 2 then rs else if what = 3 then nI (wo_cnt (fun k => decide (¬ kd k = 0)) 84) else if what = 4 then nI gr else if what = 5 then nI (wo_cnt go gr) else 0
theorem wo_out6 {x : Int32} (h : in_B x 0 5 = false) : x.toInt < 0 ∨ 5 < x.toInt := by
  have h1 := inB_f h
  rw [Int32.le_iff_toInt_le, Int32.le_iff_toInt_le, show (0 : Int32).toInt = 0 from rfl, show (5 : Int32).toInt = 5 from rfl] at h1
  omega
theorem wo_in6 {x : Int32} (h : in_B x 0 5 = true) : x = 0 ∨ x = 1 ∨ x = 2 ∨ x = 3 ∨ x = 4 ∨ x = 5 := by
  have h1 := inB_t h
  obtain ⟨j, hj, rfl⟩ := nI_of (Int32.not_lt.mpr h1.1)
  have h2 := wo_le (a := j) (b := 5) (by omega) (by omega) h1.2
  have h3 : j = 0 ∨ j = 1 ∨ j = 2 ∨ j = 3 ∨ j = 4 ∨ j = 5 := by omega
  rcases h3 with rfl | rfl | rfl | rfl | rfl | rfl
  · exact Or.inl rfl
  · exact Or.inr (Or.inl rfl)
  · exact Or.inr (Or.inr (Or.inl rfl))
  · exact Or.inr (Or.inr (Or.inr (Or.inl rfl)))
  · exact Or.inr (Or.inr (Or.inr (Or.inr (Or.inl rfl))))
  · exact Or.inr (Or.inr (Or.inr (Or.inr (Or.inr rfl))))
set_option maxRecDepth 100000 in
set_option maxHeartbeats 4000000 in
theorem c_X3_look_1 (x : Int32) (hx : in_B x 0 5 = false) : wo_E l yX3_look cX3_look 4 (some .int) 1 D ((cI, .int) :: (cZ, .boolean) :: tys) [.ref (a 0), .int x] (wB cI cZ a co gr dy kd wo me ti td la go kp od no ax lv rh re rs ph pr o1 o2 ++ Y) (some (.int 0)) (wB cI cZ a (1) gr dy kd wo me ti td la go kp od no ax lv rh re rs ph pr o1 o2 ++ Y) := by
  refine wo_of (ls := [some (.ref (a 0)), some (.int x), none, none]) (by decide) (Nat.le_of_ble_eq_true rfl) rfl ?_
  intro p e s m args below meth c A C
  refine x_aload_n C dX3_look_0 rfl rfl ?_
  refine x_iload_n C dX3_look_1 rfl rfl ?_
  refine x_iconst C (v := 0) dX3_look_2 (by decide) ?_
  refine x_iconst C (v := 5) dX3_look_3 (by decide) ?_
  refine x_callSi C gs_X3_48 (c_X3_in x 0 5) rfl rfl (Nat.le_of_ble_eq_true rfl) ⟨(Nat.le_of_ble_eq_true rfl), (Nat.le_of_ble_eq_true rfl)⟩ ⟨Nat.zero_le _, Nat.zero_le _⟩ dX3_look_4 ?_
  refine x_if_eq C (tgt := 14) dX3_look_7 (by decide) (fun h => ?_) (fun h => ?_)
  · refine x_iconst C (v := 1) dX3_look_14 (by decide) ?_
    refine pB0_code C _ dX3_look_15 ?_
    refine x_iconst C (v := 0) dX3_look_18 (by decide) ?_
    refine x_istore_n C dX3_look_19 rfl (by decide) ?_
    refine x_iload_n C dX3_look_20 rfl rfl ?_
    refine x_tableOut C (tgt := 172) dX3_look_21 (wo_out6 hx) (by decide) ?_
    refine x_iconst C (v := 0) dX3_look_172 (by decide) ?_
    exact x_iret C dX3_look_173 rfl rfl
  · exact absurd hx (by rw [bz_t h]; decide)
set_option maxRecDepth 100000 in
set_option maxHeartbeats 4000000 in
theorem c_X3_look (x : Int32) (hx : in_B x 0 5 = true) (hg : gr ≤ 12) : wo_E l yX3_look cX3_look 4 (some .int) 1 D ((cI, .int) :: (cZ, .boolean) :: tys) [.ref (a 0), .int x] (wB cI cZ a co gr dy kd wo me ti td la go kp od no ax lv rh re rs ph pr o1 o2 ++ Y) (some (.int (lo_B kd go gr rh re rs ph pr x))) (wB cI cZ a (0) gr dy kd wo me ti td la go kp od no ax lv rh re rs ph pr o1 o2 ++ Y) := by
  refine wo_of (ls := [some (.ref (a 0)), some (.int x), none, none]) (by decide) (Nat.le_of_ble_eq_true rfl) rfl ?_
  intro p e s m args below meth c A C
  refine x_aload_n C dX3_look_0 rfl rfl ?_
  refine x_iload_n C dX3_look_1 rfl rfl ?_
  refine x_iconst C (v := 0) dX3_look_2 (by decide) ?_
  refine x_iconst C (v := 5) dX3_look_3 (by decide) ?_
  refine x_callSi C gs_X3_48 (c_X3_in x 0 5) rfl rfl (Nat.le_of_ble_eq_true rfl) ⟨(Nat.le_of_ble_eq_true rfl), (Nat.le_of_ble_eq_true rfl)⟩ ⟨Nat.zero_le _, Nat.zero_le _⟩ dX3_look_4 ?_
  refine x_if_eq C (tgt := 14) dX3_look_7 (by decide) (fun h => ?_) (fun h => ?_)
  · exact absurd hx (by rw [bz_f h]; decide)
  · refine x_iconst C (v := 0) dX3_look_10 (by decide) ?_
    refine x_goto C (tgt := 15) dX3_look_11 (by decide) ?_
    refine pB0_code C _ dX3_look_15 ?_
    refine x_iconst C (v := 0) dX3_look_18 (by decide) ?_
    refine x_istore_n C dX3_look_19 rfl (by decide) ?_
    refine x_iload_n C dX3_look_20 rfl rfl ?_
    rcases wo_in6 hx with rfl | rfl | rfl | rfl | rfl | rfl
    · refine x_tableIn C (off := 39) (tgt := 60) dX3_look_21 (by decide) (by decide) (by decide) (by decide) ?_
      refine x_aload_n C dX3_look_60 rfl rfl ?_
      refine gB0_hasRecord C dX3_look_61 ?_
      refine x_if_eq C (tgt := 74) dX3_look_64 (by decide) (fun h2 => ?_) (fun h2 => ?_)
      · refine x_ldc C kk_X3_124 dX3_look_74 ?_
        exact x_iret C dX3_look_76 (by rw [lo_B, if_pos rfl, bz_f h2]; rfl) rfl
      · refine x_aload_n C dX3_look_67 rfl rfl ?_
        refine gB0_record C dX3_look_68 ?_
        refine x_goto C (tgt := 76) dX3_look_71 (by decide) ?_
        exact x_iret C dX3_look_76 (by rw [lo_B, if_pos rfl, bz_t h2]; rfl) rfl
    · refine x_tableIn C (off := 56) (tgt := 77) dX3_look_21 (by decide) (by decide) (by decide) (by decide) ?_
      refine x_aload_n C dX3_look_77 rfl rfl ?_
      refine gB0_hasPrize C dX3_look_78 ?_
      refine x_if_eq C (tgt := 91) dX3_look_81 (by decide) (fun h2 => ?_) (fun h2 => ?_)
      · refine x_ldc C kk_X3_124 dX3_look_91 ?_
        exact x_iret C dX3_look_93 (by rw [lo_B, if_neg (by decide), if_pos rfl, bz_f h2]; rfl) rfl
      · refine x_aload_n C dX3_look_84 rfl rfl ?_
        refine gB0_prize C dX3_look_85 ?_
        refine x_goto C (tgt := 93) dX3_look_88 (by decide) ?_
        exact x_iret C dX3_look_93 (by rw [lo_B, if_neg (by decide), if_pos rfl, bz_t h2]; rfl) rfl
    · refine x_tableIn C (off := 73) (tgt := 94) dX3_look_21 (by decide) (by decide) (by decide) (by decide) ?_
      refine x_aload_n C dX3_look_94 rfl rfl ?_
      refine gB0_records C dX3_look_95 ?_
      exact x_iret C dX3_look_98 rfl rfl
    · refine x_tableIn C (off := 78) (tgt := 99) dX3_look_21 (by decide) (by decide) (by decide) (by decide) ?_
      refine x_iconst C (v := 0) dX3_look_99 (by decide) ?_
      refine x_istore_n C dX3_look_100 rfl (by decide) ?_
      have loop : ∀ (n k : Nat), n + k = 84 → wo_W p l e (wo_rm 1) s m args below meth c A D 0 0 4 (MQ below (wo_Q D ((cI, .int) :: (cZ, .boolean) :: tys) (some (.int (lo_B kd go gr rh re rs ph pr 3))) (wB cI cZ a (0) gr dy kd wo me ti td la go kp od no ax lv rh re rs ph pr o1 o2 ++ Y) A) args s 0 0 A) 101 [some (.ref (a 0)), some (.int 3), some (.int (nI (wo_cnt (fun k => decide (¬ kd k = 0)) k))), some (.int (nI k))] [] (wB cI cZ a (0) gr dy kd wo me ti td la go kp od no ax lv rh re rs ph pr o1 o2 ++ Y) := by
        intro n
        induction n with
        | zero =>
          intro k hk
          refine x_iload_n C dX3_look_101 rfl rfl ?_
          refine x_bipush C (v := 84) dX3_look_102 (by decide) ?_
          refine x_icmp_ge C (tgt := 130) dX3_look_104 (by decide) (fun h3 => ?_) (fun h3 => ?_)
          · have hk2 : k = 84 := by omega
            subst hk2
            refine x_iload_n C dX3_look_130 rfl rfl ?_
            exact x_iret C dX3_look_131 rfl rfl
          · exact absurd (show nI 84 ≤ nI k from nI_le (by omega) (by omega)) h3
        | succ n ih =>
          intro k hk
          refine x_iload_n C dX3_look_101 rfl rfl ?_
          refine x_bipush C (v := 84) dX3_look_102 (by decide) ?_
          refine x_icmp_ge C (tgt := 130) dX3_look_104 (by decide) (fun h3 => ?_) (fun h3 => ?_)
          · exact absurd (wo_le (a := 84) (b := k) (by omega) (by omega) h3) (by omega)
          · refine x_aload_n C dX3_look_107 rfl rfl ?_
            refine gB0_kind C dX3_look_108 ?_
            refine x_iload_n C dX3_look_111 rfl rfl ?_
            refine lB_kd C _ rfl (by omega) dX3_look_112 ?_
            refine x_if_eq C (tgt := 122) dX3_look_113 (by decide) (fun h4 => ?_) (fun h4 => ?_)
            · refine x_iload_n C dX3_look_122 rfl rfl ?_
              refine x_istore_n C dX3_look_123 rfl (by decide) ?_
              refine x_iinc C dX3_look_124 rfl (nI_1 k) (by decide) ?_
              refine x_goto C (tgt := 101) dX3_look_127 (by decide) ?_
              have h9 := ih (k + 1) (by omega)
              rw [wo_cnt_f (n := k) (q := fun k => decide (¬ kd k = 0)) (by rw [decide_eq_false (fun z => z h4)])] at h9
              exact h9
            · refine x_iload_n C dX3_look_116 rfl rfl ?_
              refine x_iconst C (v := 1) dX3_look_117 (by decide) ?_
              refine x_iadd C dX3_look_118 ?_
              refine x_goto C (tgt := 123) dX3_look_119 (by decide) ?_
              refine x_top (nI_1 _) ?_
              refine x_istore_n C dX3_look_123 rfl (by decide) ?_
              refine x_iinc C dX3_look_124 rfl (nI_1 k) (by decide) ?_
              refine x_goto C (tgt := 101) dX3_look_127 (by decide) ?_
              have h9 := ih (k + 1) (by omega)
              rw [wo_cnt_t (n := k) (q := fun k => decide (¬ kd k = 0)) (by rw [decide_eq_true h4])] at h9
              exact h9
      exact loop 84 0 rfl
    · refine x_tableIn C (off := 111) (tgt := 132) dX3_look_21 (by decide) (by decide) (by decide) (by decide) ?_
      refine x_aload_n C dX3_look_132 rfl rfl ?_
      refine gB0_growers C dX3_look_133 ?_
      exact x_iret C dX3_look_136 rfl rfl
    · refine x_tableIn C (off := 116) (tgt := 137) dX3_look_21 (by decide) (by decide) (by decide) (by decide) ?_
      refine x_iconst C (v := 0) dX3_look_137 (by decide) ?_
      refine x_istore_n C dX3_look_138 rfl (by decide) ?_
      have loop : ∀ (n k : Nat), n + k = gr → wo_W p l e (wo_rm 1) s m args below meth c A D 0 0 4 (MQ below (wo_Q D ((cI, .int) :: (cZ, .boolean) :: tys) (some (.int (lo_B kd go gr rh re rs ph pr 5))) (wB cI cZ a (0) gr dy kd wo me ti td la go kp od no ax lv rh re rs ph pr o1 o2 ++ Y) A) args s 0 0 A) 139 [some (.ref (a 0)), some (.int 5), some (.int (nI (wo_cnt go k))), some (.int (nI k))] [] (wB cI cZ a (0) gr dy kd wo me ti td la go kp od no ax lv rh re rs ph pr o1 o2 ++ Y) := by
        intro n
        induction n with
        | zero =>
          intro k hk
          refine x_iload_n C dX3_look_139 rfl rfl ?_
          refine x_aload_n C dX3_look_140 rfl rfl ?_
          refine gB0_growers C dX3_look_141 ?_
          refine x_icmp_ge C (tgt := 170) dX3_look_144 (by decide) (fun h3 => ?_) (fun h3 => ?_)
          · have hk2 : k = gr := by omega
            subst hk2
            refine x_iload_n C dX3_look_170 rfl rfl ?_
            exact x_iret C dX3_look_171 rfl rfl
          · exact absurd (show nI gr ≤ nI k from nI_le (by omega) (by omega)) h3
        | succ n ih =>
          intro k hk
          refine x_iload_n C dX3_look_139 rfl rfl ?_
          refine x_aload_n C dX3_look_140 rfl rfl ?_
          refine gB0_growers C dX3_look_141 ?_
          refine x_icmp_ge C (tgt := 170) dX3_look_144 (by decide) (fun h3 => ?_) (fun h3 => ?_)
          · exact absurd (wo_le (by omega) (by omega) h3) (by omega)
          · refine x_aload_n C dX3_look_147 rfl rfl ?_
            refine gB0_gone C dX3_look_148 ?_
            refine x_iload_n C dX3_look_151 rfl rfl ?_
            refine lB_go C _ rfl (by omega) dX3_look_152 ?_
            refine x_if_eq C (tgt := 162) dX3_look_153 (by decide) (fun h4 => ?_) (fun h4 => ?_)
            · refine x_iload_n C dX3_look_162 rfl rfl ?_
              refine x_istore_n C dX3_look_163 rfl (by decide) ?_
              refine x_iinc C dX3_look_164 rfl (nI_1 k) (by decide) ?_
              refine x_goto C (tgt := 139) dX3_look_167 (by decide) ?_
              have h9 := ih (k + 1) (by omega)
              rw [wo_cnt_f (n := k) (bz_f h4)] at h9
              exact h9
            · refine x_iload_n C dX3_look_156 rfl rfl ?_
              refine x_iconst C (v := 1) dX3_look_157 (by decide) ?_
              refine x_iadd C dX3_look_158 ?_
              refine x_goto C (tgt := 163) dX3_look_159 (by decide) ?_
              refine x_top (nI_1 _) ?_
              refine x_istore_n C dX3_look_163 rfl (by decide) ?_
              refine x_iinc C dX3_look_164 rfl (nI_1 k) (by decide) ?_
              refine x_goto C (tgt := 139) dX3_look_167 (by decide) ?_
              have h9 := ih (k + 1) (by omega)
              rw [wo_cnt_t (n := k) (bz_t h4)] at h9
              exact h9
      exact loop gr 0 (by omega)
end MDG
end
