section WOR
variable {p : Program} {l : Launch} {e : Env} {R : Room} {s : State} {m : MethodId} {args : Array Value} {below : List Frame} {meth : Method} {c : Code} {A : Nat → Prop} {D : va_G} {cells slots nL : Nat} {Q : State → Prop} {cc : ByteArray} {own : String} {tys : List (ClassId × FieldType)} {ret : Option FieldType}
variable {pc : Nat} {ls : List (Option Value)} {st : List Value} {ws : va_W}
theorem x_iconst (C : wo_C p s m args meth c A D cc nL own tys ret) {n : Int} {v : Int32} (dg : decode cc pc = .ok (.iconst n, 1)) (hv : Int32.ofInt n = v)
    (kk : wo_W p l e R s m args below meth c A D cells slots nL Q (pc + 1) ls (.int v :: st) ws) : wo_W p l e R s m args below meth c A D cells slots nL Q pc ls st ws := fun H locs hP hD hS lv hl => lv_iconst C.1 C.2.1 dg hv (kk H locs hP hD hS lv hl)
theorem x_bipush (C : wo_C p s m args meth c A D cc nL own tys ret) {n : Int} {v : Int32} (dg : decode cc pc = .ok (.bipush n, 2)) (hv : (Int8.ofInt n).toInt32 = v)
    (kk : wo_W p l e R s m args below meth c A D cells slots nL Q (pc + 2) ls (.int v :: st) ws) : wo_W p l e R s m args below meth c A D cells slots nL Q pc ls st ws := fun H locs hP hD hS lv hl => lv_bipush C.1 C.2.1 dg hv (kk H locs hP hD hS lv hl)
theorem x_sipush (C : wo_C p s m args meth c A D cc nL own tys ret) {n : Int} {v : Int32} (dg : decode cc pc = .ok (.sipush n, 3)) (hv : (Int16.ofInt n).toInt32 = v)
    (kk : wo_W p l e R s m args below meth c A D cells slots nL Q (pc + 3) ls (.int v :: st) ws) : wo_W p l e R s m args below meth c A D cells slots nL Q pc ls st ws := fun H locs hP hD hS lv hl => lv_sipush C.1 C.2.1 dg hv (kk H locs hP hD hS lv hl)
theorem x_lconst (C : wo_C p s m args meth c A D cc nL own tys ret) {n : Fin 2} {v : Int64} (dg : decode cc pc = .ok (.lconst n, 1)) (hv : Int64.ofNat (n : Nat) = v)
    (kk : wo_W p l e R s m args below meth c A D cells slots nL Q (pc + 1) ls (.long v :: st) ws) : wo_W p l e R s m args below meth c A D cells slots nL Q pc ls st ws := fun H locs hP hD hS lv hl => lv_lconst C.1 C.2.1 dg hv (kk H locs hP hD hS lv hl)
theorem x_ldc (C : wo_C p s m args meth c A D cc nL own tys ret) {index : Nat} {v : Int32} (hw : Cond.constant own index v ∈ wo_BG) (dg : decode cc pc = .ok (.ldc index, 2))
    (kk : wo_W p l e R s m args below meth c A D cells slots nL Q (pc + 2) ls (.int v :: st) ws) : wo_W p l e R s m args below meth c A D cells slots nL Q pc ls st ws := fun H locs hP hD hS lv hl => lv_ldc C.1 C.2.1 C.2.2.2.1 (C.2.2.2.2.1 _ hw) dg (kk H locs hP hD hS lv hl)
theorem x_iload_n (C : wo_C p s m args meth c A D cc nL own tys ret) {k : Fin 4} {i : Nat} {x : Int32} (dg : decode cc pc = .ok (.iload_n k, 1)) (hi : (k : Nat) = i) (h : ls[i]? = some (some (.int x)))
    (kk : wo_W p l e R s m args below meth c A D cells slots nL Q (pc + 1) ls (.int x :: st) ws) : wo_W p l e R s m args below meth c A D cells slots nL Q pc ls st ws := fun H locs hP hD hS lv hl => lv_iload_n C.1 C.2.1 dg hi (wo_at hl h rfl) (kk H locs hP hD hS lv hl)
theorem x_iload (C : wo_C p s m args meth c A D cc nL own tys ret) {i : Nat} {x : Int32} (dg : decode cc pc = .ok (.iload i, 2)) (h : ls[i]? = some (some (.int x)))
    (kk : wo_W p l e R s m args below meth c A D cells slots nL Q (pc + 2) ls (.int x :: st) ws) : wo_W p l e R s m args below meth c A D cells slots nL Q pc ls st ws := fun H locs hP hD hS lv hl => lv_iload C.1 C.2.1 dg (wo_at hl h rfl) (kk H locs hP hD hS lv hl)
theorem x_istore_n (C : wo_C p s m args meth c A D cc nL own tys ret) {k : Fin 4} {i : Nat} {x : Int32} (dg : decode cc pc = .ok (.istore_n k, 1)) (hi : (k : Nat) = i) (hn : i < nL)
    (kk : wo_W p l e R s m args below meth c A D cells slots nL Q (pc + 1) (ls.set i (some (.int x))) st ws) : wo_W p l e R s m args below meth c A D cells slots nL Q pc ls (.int x :: st) ws := fun H locs hP hD hS lv hl => lv_istore_n C.1 C.2.1 dg hi hl hn rfl (fun lv2 hl2 => kk H locs hP hD hS lv2 (wo_st rfl hl2))
theorem x_istore (C : wo_C p s m args meth c A D cc nL own tys ret) {i : Nat} {x : Int32} (dg : decode cc pc = .ok (.istore i, 2)) (hn : i < nL)
    (kk : wo_W p l e R s m args below meth c A D cells slots nL Q (pc + 2) (ls.set i (some (.int x))) st ws) : wo_W p l e R s m args below meth c A D cells slots nL Q pc ls (.int x :: st) ws := fun H locs hP hD hS lv hl => lv_istore C.1 C.2.1 dg hl hn rfl (fun lv2 hl2 => kk H locs hP hD hS lv2 (wo_st rfl hl2))
theorem x_aload_n (C : wo_C p s m args meth c A D cc nL own tys ret) {k : Fin 4} {i : Nat} {x : Nat} (dg : decode cc pc = .ok (.aload_n k, 1)) (hi : (k : Nat) = i) (h : ls[i]? = some (some (.ref x)))
    (kk : wo_W p l e R s m args below meth c A D cells slots nL Q (pc + 1) ls (.ref x :: st) ws) : wo_W p l e R s m args below meth c A D cells slots nL Q pc ls st ws := fun H locs hP hD hS lv hl => lv_aload_n C.1 C.2.1 dg hi (wo_at hl h rfl) (kk H locs hP hD hS lv hl)
theorem x_aload (C : wo_C p s m args meth c A D cc nL own tys ret) {i : Nat} {x : Nat} (dg : decode cc pc = .ok (.aload i, 2)) (h : ls[i]? = some (some (.ref x)))
    (kk : wo_W p l e R s m args below meth c A D cells slots nL Q (pc + 2) ls (.ref x :: st) ws) : wo_W p l e R s m args below meth c A D cells slots nL Q pc ls st ws := fun H locs hP hD hS lv hl => lv_aload C.1 C.2.1 dg (wo_at hl h rfl) (kk H locs hP hD hS lv hl)
theorem x_astore_n (C : wo_C p s m args meth c A D cc nL own tys ret) {k : Fin 4} {i : Nat} {x : Nat} (dg : decode cc pc = .ok (.astore_n k, 1)) (hi : (k : Nat) = i) (hn : i < nL)
    (kk : wo_W p l e R s m args below meth c A D cells slots nL Q (pc + 1) (ls.set i (some (.ref x))) st ws) : wo_W p l e R s m args below meth c A D cells slots nL Q pc ls (.ref x :: st) ws := fun H locs hP hD hS lv hl => lv_astore_n C.1 C.2.1 dg hi hl hn rfl (fun lv2 hl2 => kk H locs hP hD hS lv2 (wo_st rfl hl2))
theorem x_astore (C : wo_C p s m args meth c A D cc nL own tys ret) {i : Nat} {x : Nat} (dg : decode cc pc = .ok (.astore i, 2)) (hn : i < nL)
    (kk : wo_W p l e R s m args below meth c A D cells slots nL Q (pc + 2) (ls.set i (some (.ref x))) st ws) : wo_W p l e R s m args below meth c A D cells slots nL Q pc ls (.ref x :: st) ws := fun H locs hP hD hS lv hl => lv_astore C.1 C.2.1 dg hl hn rfl (fun lv2 hl2 => kk H locs hP hD hS lv2 (wo_st rfl hl2))
theorem x_iinc (C : wo_C p s m args meth c A D cc nL own tys ret) {i : Nat} {n : Int} {x v : Int32} (dg : decode cc pc = .ok (.iinc i n, 3)) (h : ls[i]? = some (some (.int x))) (hv : x + Int32.ofInt n = v) (hn : i < nL)
    (kk : wo_W p l e R s m args below meth c A D cells slots nL Q (pc + 3) (ls.set i (some (.int v))) st ws) : wo_W p l e R s m args below meth c A D cells slots nL Q pc ls st ws := by
  intro H locs hP hD hS lv hl
  have h1 := wo_lp_mem ls 0 i _ h rfl
  rw [Nat.zero_add] at h1
  obtain ⟨k, hk⟩ := List.mem_iff_getElem?.mp h1
  exact lv_iinc C.1 C.2.1 dg hl hk hv hn rfl (fun lv2 hl2 => kk H locs hP hD hS lv2 (wo_st rfl hl2))
theorem x_iadd (C : wo_C p s m args meth c A D cc nL own tys ret) {x y : Int32} (dg : decode cc pc = .ok (.iadd, 1))
    (kk : wo_W p l e R s m args below meth c A D cells slots nL Q (pc + 1) ls (.int (x + y) :: st) ws) : wo_W p l e R s m args below meth c A D cells slots nL Q pc ls (.int y :: .int x :: st) ws := fun H locs hP hD hS lv hl => lv_iadd C.1 C.2.1 dg (kk H locs hP hD hS lv hl)
theorem x_isub (C : wo_C p s m args meth c A D cc nL own tys ret) {x y : Int32} (dg : decode cc pc = .ok (.isub, 1))
    (kk : wo_W p l e R s m args below meth c A D cells slots nL Q (pc + 1) ls (.int (x - y) :: st) ws) : wo_W p l e R s m args below meth c A D cells slots nL Q pc ls (.int y :: .int x :: st) ws := fun H locs hP hD hS lv hl => lv_isub C.1 C.2.1 dg (kk H locs hP hD hS lv hl)
theorem x_imul (C : wo_C p s m args meth c A D cc nL own tys ret) {x y : Int32} (dg : decode cc pc = .ok (.imul, 1))
    (kk : wo_W p l e R s m args below meth c A D cells slots nL Q (pc + 1) ls (.int (x * y) :: st) ws) : wo_W p l e R s m args below meth c A D cells slots nL Q pc ls (.int y :: .int x :: st) ws := fun H locs hP hD hS lv hl => lv_imul C.1 C.2.1 dg (kk H locs hP hD hS lv hl)
theorem x_iand (C : wo_C p s m args meth c A D cc nL own tys ret) {x y : Int32} (dg : decode cc pc = .ok (.iand, 1))
    (kk : wo_W p l e R s m args below meth c A D cells slots nL Q (pc + 1) ls (.int (x &&& y) :: st) ws) : wo_W p l e R s m args below meth c A D cells slots nL Q pc ls (.int y :: .int x :: st) ws := fun H locs hP hD hS lv hl => lv_iand C.1 C.2.1 dg (kk H locs hP hD hS lv hl)
theorem x_ior (C : wo_C p s m args meth c A D cc nL own tys ret) {x y : Int32} (dg : decode cc pc = .ok (.ior, 1))
    (kk : wo_W p l e R s m args below meth c A D cells slots nL Q (pc + 1) ls (.int (x ||| y) :: st) ws) : wo_W p l e R s m args below meth c A D cells slots nL Q pc ls (.int y :: .int x :: st) ws := fun H locs hP hD hS lv hl => lv_ior C.1 C.2.1 dg (kk H locs hP hD hS lv hl)
theorem x_ishl (C : wo_C p s m args meth c A D cc nL own tys ret) {x y : Int32} (dg : decode cc pc = .ok (.ishl, 1))
    (kk : wo_W p l e R s m args below meth c A D cells slots nL Q (pc + 1) ls (.int (x <<< (y &&& 31)) :: st) ws) : wo_W p l e R s m args below meth c A D cells slots nL Q pc ls (.int y :: .int x :: st) ws := fun H locs hP hD hS lv hl => lv_ishl C.1 C.2.1 dg (kk H locs hP hD hS lv hl)
theorem x_idiv (C : wo_C p s m args meth c A D cc nL own tys ret) {x y : Int32} (dg : decode cc pc = .ok (.idiv, 1)) (hne : ¬ y = 0)
    (kk : wo_W p l e R s m args below meth c A D cells slots nL Q (pc + 1) ls (.int (x / y) :: st) ws) : wo_W p l e R s m args below meth c A D cells slots nL Q pc ls (.int y :: .int x :: st) ws := fun H locs hP hD hS lv hl => lv_idiv C.1 C.2.1 dg hne (kk H locs hP hD hS lv hl)
theorem x_i2l (C : wo_C p s m args meth c A D cc nL own tys ret) {x : Int32} (dg : decode cc pc = .ok (.i2l, 1))
    (kk : wo_W p l e R s m args below meth c A D cells slots nL Q (pc + 1) ls (.long x.toInt64 :: st) ws) : wo_W p l e R s m args below meth c A D cells slots nL Q pc ls (.int x :: st) ws := fun H locs hP hD hS lv hl => lv_i2l C.1 C.2.1 dg rfl (kk H locs hP hD hS lv hl)
theorem x_lcmp (C : wo_C p s m args meth c A D cc nL own tys ret) {x y : Int64} (dg : decode cc pc = .ok (.lcmp, 1))
    (kk : wo_W p l e R s m args below meth c A D cells slots nL Q (pc + 1) ls (.int (lg_cmp x y) :: st) ws) : wo_W p l e R s m args below meth c A D cells slots nL Q pc ls (.long y :: .long x :: st) ws := fun H locs hP hD hS lv hl => W.lcmp C.1 C.2.1 dg (kk H locs hP hD hS lv hl)
theorem x_dup (C : wo_C p s m args meth c A D cc nL own tys ret) {v : Value} (dg : decode cc pc = .ok (.dup, 1)) (hv : v.category = 1)
    (kk : wo_W p l e R s m args below meth c A D cells slots nL Q (pc + 1) ls (v :: v :: st) ws) : wo_W p l e R s m args below meth c A D cells slots nL Q pc ls (v :: st) ws := fun H locs hP hD hS lv hl => lv_dup C.1 C.2.1 dg hv (kk H locs hP hD hS lv hl)
theorem x_pop (C : wo_C p s m args meth c A D cc nL own tys ret) {v : Value} (dg : decode cc pc = .ok (.pop, 1)) (hv : v.category = 1)
    (kk : wo_W p l e R s m args below meth c A D cells slots nL Q (pc + 1) ls st ws) : wo_W p l e R s m args below meth c A D cells slots nL Q pc ls (v :: st) ws := fun H locs hP hD hS lv hl => lv_pop C.1 C.2.1 dg hv (kk H locs hP hD hS lv hl)
theorem x_goto (C : wo_C p s m args meth c A D cc nL own tys ret) {off : Int} {tgt : Nat} (dg : decode cc pc = .ok (.goto off, 3)) (ht : (pc : Int) + off = (tgt : Int))
    (kk : wo_W p l e R s m args below meth c A D cells slots nL Q tgt ls st ws) : wo_W p l e R s m args below meth c A D cells slots nL Q pc ls st ws := fun H locs hP hD hS lv hl => lv_goto C.1 C.2.1 dg ht (kk H locs hP hD hS lv hl)
theorem x_icmp_eq (C : wo_C p s m args meth c A D cc nL own tys ret) {x y : Int32} {off : Int} {tgt : Nat} (dg : decode cc pc = .ok (.if_icmp .eq off, 3)) (ht : (pc : Int) + off = (tgt : Int))
    (kt : x = y → wo_W p l e R s m args below meth c A D cells slots nL Q tgt ls st ws) (kf : ¬ x = y → wo_W p l e R s m args below meth c A D cells slots nL Q (pc + 3) ls st ws) : wo_W p l e R s m args below meth c A D cells slots nL Q pc ls (.int y :: .int x :: st) ws := fun H locs hP hD hS lv hl => lv_icmp_eq C.1 C.2.1 dg ht (fun z => kt z H locs hP hD hS lv hl) (fun z => kf z H locs hP hD hS lv hl)
theorem x_if_eq (C : wo_C p s m args meth c A D cc nL own tys ret) {x : Int32} {off : Int} {tgt : Nat} (dg : decode cc pc = .ok (.ifCond .eq off, 3)) (ht : (pc : Int) + off = (tgt : Int))
    (kt : x = 0 → wo_W p l e R s m args below meth c A D cells slots nL Q tgt ls st ws) (kf : ¬ x = 0 → wo_W p l e R s m args below meth c A D cells slots nL Q (pc + 3) ls st ws) : wo_W p l e R s m args below meth c A D cells slots nL Q pc ls (.int x :: st) ws := fun H locs hP hD hS lv hl => lv_if_eq C.1 C.2.1 dg ht (fun z => kt z H locs hP hD hS lv hl) (fun z => kf z H locs hP hD hS lv hl)
theorem x_icmp_ne (C : wo_C p s m args meth c A D cc nL own tys ret) {x y : Int32} {off : Int} {tgt : Nat} (dg : decode cc pc = .ok (.if_icmp .ne off, 3)) (ht : (pc : Int) + off = (tgt : Int))
    (kt : ¬ x = y → wo_W p l e R s m args below meth c A D cells slots nL Q tgt ls st ws) (kf : x = y → wo_W p l e R s m args below meth c A D cells slots nL Q (pc + 3) ls st ws) : wo_W p l e R s m args below meth c A D cells slots nL Q pc ls (.int y :: .int x :: st) ws := fun H locs hP hD hS lv hl => lv_icmp_ne C.1 C.2.1 dg ht (fun z => kt z H locs hP hD hS lv hl) (fun z => kf z H locs hP hD hS lv hl)
theorem x_if_ne (C : wo_C p s m args meth c A D cc nL own tys ret) {x : Int32} {off : Int} {tgt : Nat} (dg : decode cc pc = .ok (.ifCond .ne off, 3)) (ht : (pc : Int) + off = (tgt : Int))
    (kt : ¬ x = 0 → wo_W p l e R s m args below meth c A D cells slots nL Q tgt ls st ws) (kf : x = 0 → wo_W p l e R s m args below meth c A D cells slots nL Q (pc + 3) ls st ws) : wo_W p l e R s m args below meth c A D cells slots nL Q pc ls (.int x :: st) ws := fun H locs hP hD hS lv hl => lv_if_ne C.1 C.2.1 dg ht (fun z => kt z H locs hP hD hS lv hl) (fun z => kf z H locs hP hD hS lv hl)
theorem x_icmp_lt (C : wo_C p s m args meth c A D cc nL own tys ret) {x y : Int32} {off : Int} {tgt : Nat} (dg : decode cc pc = .ok (.if_icmp .lt off, 3)) (ht : (pc : Int) + off = (tgt : Int))
    (kt : x < y → wo_W p l e R s m args below meth c A D cells slots nL Q tgt ls st ws) (kf : ¬ x < y → wo_W p l e R s m args below meth c A D cells slots nL Q (pc + 3) ls st ws) : wo_W p l e R s m args below meth c A D cells slots nL Q pc ls (.int y :: .int x :: st) ws := fun H locs hP hD hS lv hl => lv_icmp_lt C.1 C.2.1 dg ht (fun z => kt z H locs hP hD hS lv hl) (fun z => kf z H locs hP hD hS lv hl)
theorem x_if_lt (C : wo_C p s m args meth c A D cc nL own tys ret) {x : Int32} {off : Int} {tgt : Nat} (dg : decode cc pc = .ok (.ifCond .lt off, 3)) (ht : (pc : Int) + off = (tgt : Int))
    (kt : x < 0 → wo_W p l e R s m args below meth c A D cells slots nL Q tgt ls st ws) (kf : ¬ x < 0 → wo_W p l e R s m args below meth c A D cells slots nL Q (pc + 3) ls st ws) : wo_W p l e R s m args below meth c A D cells slots nL Q pc ls (.int x :: st) ws := fun H locs hP hD hS lv hl => lv_if_lt C.1 C.2.1 dg ht (fun z => kt z H locs hP hD hS lv hl) (fun z => kf z H locs hP hD hS lv hl)
theorem x_icmp_ge (C : wo_C p s m args meth c A D cc nL own tys ret) {x y : Int32} {off : Int} {tgt : Nat} (dg : decode cc pc = .ok (.if_icmp .ge off, 3)) (ht : (pc : Int) + off = (tgt : Int))
    (kt : y ≤ x → wo_W p l e R s m args below meth c A D cells slots nL Q tgt ls st ws) (kf : ¬ y ≤ x → wo_W p l e R s m args below meth c A D cells slots nL Q (pc + 3) ls st ws) : wo_W p l e R s m args below meth c A D cells slots nL Q pc ls (.int y :: .int x :: st) ws := fun H locs hP hD hS lv hl => lv_icmp_ge C.1 C.2.1 dg ht (fun z => kt z H locs hP hD hS lv hl) (fun z => kf z H locs hP hD hS lv hl)
theorem x_if_ge (C : wo_C p s m args meth c A D cc nL own tys ret) {x : Int32} {off : Int} {tgt : Nat} (dg : decode cc pc = .ok (.ifCond .ge off, 3)) (ht : (pc : Int) + off = (tgt : Int))
    (kt : 0 ≤ x → wo_W p l e R s m args below meth c A D cells slots nL Q tgt ls st ws) (kf : ¬ 0 ≤ x → wo_W p l e R s m args below meth c A D cells slots nL Q (pc + 3) ls st ws) : wo_W p l e R s m args below meth c A D cells slots nL Q pc ls (.int x :: st) ws := fun H locs hP hD hS lv hl => lv_if_ge C.1 C.2.1 dg ht (fun z => kt z H locs hP hD hS lv hl) (fun z => kf z H locs hP hD hS lv hl)
theorem x_icmp_gt (C : wo_C p s m args meth c A D cc nL own tys ret) {x y : Int32} {off : Int} {tgt : Nat} (dg : decode cc pc = .ok (.if_icmp .gt off, 3)) (ht : (pc : Int) + off = (tgt : Int))
    (kt : y < x → wo_W p l e R s m args below meth c A D cells slots nL Q tgt ls st ws) (kf : ¬ y < x → wo_W p l e R s m args below meth c A D cells slots nL Q (pc + 3) ls st ws) : wo_W p l e R s m args below meth c A D cells slots nL Q pc ls (.int y :: .int x :: st) ws := fun H locs hP hD hS lv hl => lv_icmp_gt C.1 C.2.1 dg ht (fun z => kt z H locs hP hD hS lv hl) (fun z => kf z H locs hP hD hS lv hl)
theorem x_if_gt (C : wo_C p s m args meth c A D cc nL own tys ret) {x : Int32} {off : Int} {tgt : Nat} (dg : decode cc pc = .ok (.ifCond .gt off, 3)) (ht : (pc : Int) + off = (tgt : Int))
    (kt : 0 < x → wo_W p l e R s m args below meth c A D cells slots nL Q tgt ls st ws) (kf : ¬ 0 < x → wo_W p l e R s m args below meth c A D cells slots nL Q (pc + 3) ls st ws) : wo_W p l e R s m args below meth c A D cells slots nL Q pc ls (.int x :: st) ws := fun H locs hP hD hS lv hl => lv_if_gt C.1 C.2.1 dg ht (fun z => kt z H locs hP hD hS lv hl) (fun z => kf z H locs hP hD hS lv hl)
theorem x_icmp_le (C : wo_C p s m args meth c A D cc nL own tys ret) {x y : Int32} {off : Int} {tgt : Nat} (dg : decode cc pc = .ok (.if_icmp .le off, 3)) (ht : (pc : Int) + off = (tgt : Int))
    (kt : x ≤ y → wo_W p l e R s m args below meth c A D cells slots nL Q tgt ls st ws) (kf : ¬ x ≤ y → wo_W p l e R s m args below meth c A D cells slots nL Q (pc + 3) ls st ws) : wo_W p l e R s m args below meth c A D cells slots nL Q pc ls (.int y :: .int x :: st) ws := fun H locs hP hD hS lv hl => lv_icmp_le C.1 C.2.1 dg ht (fun z => kt z H locs hP hD hS lv hl) (fun z => kf z H locs hP hD hS lv hl)
theorem x_if_le (C : wo_C p s m args meth c A D cc nL own tys ret) {x : Int32} {off : Int} {tgt : Nat} (dg : decode cc pc = .ok (.ifCond .le off, 3)) (ht : (pc : Int) + off = (tgt : Int))
    (kt : x ≤ 0 → wo_W p l e R s m args below meth c A D cells slots nL Q tgt ls st ws) (kf : ¬ x ≤ 0 → wo_W p l e R s m args below meth c A D cells slots nL Q (pc + 3) ls st ws) : wo_W p l e R s m args below meth c A D cells slots nL Q pc ls (.int x :: st) ws := fun H locs hP hD hS lv hl => lv_if_le C.1 C.2.1 dg ht (fun z => kt z H locs hP hD hS lv hl) (fun z => kf z H locs hP hD hS lv hl)
theorem x_tableIn (C : wo_C p s m args meth c A D cc nL own tys ret) {dflt lo hi : Int} {offs : Array Int} {len : Nat} {x : Int32} {off : Int} {tgt : Nat} (dg : decode cc pc = .ok (.tableswitch dflt lo hi offs, len)) (h1 : ¬ x.toInt < lo) (h2 : ¬ hi < x.toInt) (ho : offs[(x.toInt - lo).toNat]? = some off) (ht : (pc : Int) + off = (tgt : Int))
    (kk : wo_W p l e R s m args below meth c A D cells slots nL Q tgt ls st ws) : wo_W p l e R s m args below meth c A D cells slots nL Q pc ls (.int x :: st) ws := fun H locs hP hD hS lv hl => lv_tableIn C.1 C.2.1 dg h1 h2 ho ht (kk H locs hP hD hS lv hl)
theorem x_tableOut (C : wo_C p s m args meth c A D cc nL own tys ret) {dflt lo hi : Int} {offs : Array Int} {len : Nat} {x : Int32} {tgt : Nat} (dg : decode cc pc = .ok (.tableswitch dflt lo hi offs, len)) (h : x.toInt < lo ∨ hi < x.toInt) (ht : (pc : Int) + dflt = (tgt : Int))
    (kk : wo_W p l e R s m args below meth c A D cells slots nL Q tgt ls st ws) : wo_W p l e R s m args below meth c A D cells slots nL Q pc ls (.int x :: st) ws := fun H locs hP hD hS lv hl => lv_tableOut C.1 C.2.1 dg h ht (kk H locs hP hD hS lv hl)
theorem x_top {x y : Int32} (h : x = y) (kk : wo_W p l e R s m args below meth c A D cells slots nL Q pc ls (.int y :: st) ws) : wo_W p l e R s m args below meth c A D cells slots nL Q pc ls (.int x :: st) ws := by subst h; exact kk
theorem x_ls {ls2 : List (Option Value)} (h : ls = ls2) (kk : wo_W p l e R s m args below meth c A D cells slots nL Q pc ls2 st ws) : wo_W p l e R s m args below meth c A D cells slots nL Q pc ls st ws := by subst h; exact kk
theorem x_ws {ws2 : va_W} (h : ws = ws2) (kk : wo_W p l e R s m args below meth c A D cells slots nL Q pc ls st ws2) : wo_W p l e R s m args below meth c A D cells slots nL Q pc ls st ws := by subst h; exact kk
theorem x_get (C : wo_C p s m args meth c A D cc nL own tys ret) {C0 : String} {T : u_T} {N ci a idx : Nat} {fs : List Value} {v : Value} (hin : ∀ w ∈ u_ws C0 T N, w ∈ wo_BG) (k : Nat) (hlk : Cond.fieldLink own idx (T k).1 (T k).2.1 (T k).2.2.1 ∈ wo_BG) (q : Nat) (hq : ws[q]? = some (a, .inr (ci, fs))) (hci : vwCl[ci]? = some (C0, T, N)) (hk : k < N) (hv : fs[k]? = some v) (dg : decode cc pc = .ok (.getfield idx, 3))
    (kk : wo_W p l e R s m args below meth c A D cells slots nL Q (pc + 3) ls (v :: st) ws) : wo_W p l e R s m args below meth c A D cells slots nL Q pc ls (.ref a :: st) ws := fun H locs hP hD hS lv hl => va_get C.1 C.2.1 C.2.2.2.2.1 hin C.2.2.2.1 C.2.2.2.2.2.1 hP q hq hci k hk (C.2.2.2.2.1 _ hlk) (fun _ h9 => h9) hv dg (kk H locs hP hD hS lv hl)
theorem x_put (C : wo_C p s m args meth c A D cc nL own tys ret) {C0 : String} {T : u_T} {N ci a idx : Nat} {fs : List Value} {v : Value} {ty : FieldType} {ws2 : va_W} (hin : ∀ w ∈ u_ws C0 T N, w ∈ wo_BG) (ty0 : Nat → FieldType) (hty : ∀ k, k < N → parseFieldDescriptor (T k).2.2.1 = some (ty0 k)) (hnm : ∀ a, a < N → ∀ b, b < N → a ≠ b → (T a).2.1 ≠ (T b).2.1) (k : Nat) (hlk : Cond.fieldLink own idx (T k).1 (T k).2.1 (T k).2.2.1 ∈ wo_BG) (q : Nat) (hq : ws[q]? = some (a, .inr (ci, fs))) (hci : vwCl[ci]? = some (C0, T, N)) (hk : k < N) (hfin : (T k).2.2.2 = false) (hd : parseFieldDescriptor (T k).2.2.1 = some ty) (hn : narrow ty v = v) (hfit : fits ty v = true) (hl0 : k < fs.length) (hws : ws.set q (a, .inr (ci, fs.set k v)) = ws2) (dg : decode cc pc = .ok (.putfield idx, 3))
    (kk : wo_W p l e R s m args below meth c A D cells slots nL Q (pc + 3) ls st ws2) : wo_W p l e R s m args below meth c A D cells slots nL Q pc ls (v :: .ref a :: st) ws := by
  subst hws
  exact fun H locs hP hD hS lv hl => va_put C.1 C.2.1 C.2.2.2.2.1 hin ty0 hty hnm C.2.2.2.1 C.2.2.2.2.2.1 hP hD hS q hq hci k hk (C.2.2.2.2.1 _ hlk) (fun _ h9 => h9) hfin hd hn hfit hl0 dg (fun H1 locs1 hP1 hD1 hS1 => kk H1 locs1 hP1 hD1 hS1 lv hl)
theorem x_iald (C : wo_C p s m args meth c A D cc nL own tys ret) {cA : ClassId} {a n : Nat} {f : Nat → Int32} {x : Int32} (q t0 i : Nat) (hq : ws[q]? = some (a, .inl (cA, n, .inl f))) (ht : tys[t0]? = some (cA, .int)) (hx : x = nI i) (hi : i < n) (hn : n < 2 ^ 31) (dg : decode cc pc = .ok (.iaload, 1))
    (kk : wo_W p l e R s m args below meth c A D cells slots nL Q (pc + 1) ls (.int (f i) :: st) ws) : wo_W p l e R s m args below meth c A D cells slots nL Q pc ls (.int x :: .ref a :: st) ws := by
  subst hx
  intro H locs hP hD hS lv hl
  refine va_iald C.1 C.2.1 C.2.2.2.2.2.1 hP q t0 hq ht (vp_in_nI hi hn) dg ?_
  rw [nI_clamp (Nat.lt_trans hi hn)]
  exact kk H locs hP hD hS lv hl
theorem x_zald (C : wo_C p s m args meth c A D cc nL own tys ret) {cA : ClassId} {a n : Nat} {f : Nat → Int32} {x : Int32} (q t0 i : Nat) (hq : ws[q]? = some (a, .inl (cA, n, .inl f))) (ht : tys[t0]? = some (cA, .boolean)) (hx : x = nI i) (hi : i < n) (hn : n < 2 ^ 31) (dg : decode cc pc = .ok (.baload, 1))
    (kk : wo_W p l e R s m args below meth c A D cells slots nL Q (pc + 1) ls (.int (f i) :: st) ws) : wo_W p l e R s m args below meth c A D cells slots nL Q pc ls (.int x :: .ref a :: st) ws := by
  subst hx
  intro H locs hP hD hS lv hl
  refine va_zald C.1 C.2.1 C.2.2.2.2.2.1 hP q t0 hq ht (vp_in_nI hi hn) dg ?_
  rw [nI_clamp (Nat.lt_trans hi hn)]
  exact kk H locs hP hD hS lv hl
theorem x_lald (C : wo_C p s m args meth c A D cc nL own tys ret) {cA : ClassId} {a n : Nat} {f : Nat → Int64} {x : Int32} (q t0 i : Nat) (hq : ws[q]? = some (a, .inl (cA, n, .inr (.inl f)))) (ht : tys[t0]? = some (cA, .long)) (hx : x = nI i) (hi : i < n) (hn : n < 2 ^ 31) (dg : decode cc pc = .ok (.laload, 1))
    (kk : wo_W p l e R s m args below meth c A D cells slots nL Q (pc + 1) ls (.long (f i) :: st) ws) : wo_W p l e R s m args below meth c A D cells slots nL Q pc ls (.int x :: .ref a :: st) ws := by
  subst hx
  intro H locs hP hD hS lv hl
  refine va_lald C.1 C.2.1 C.2.2.2.2.2.1 hP q t0 hq ht (vp_in_nI hi hn) dg ?_
  rw [nI_clamp (Nat.lt_trans hi hn)]
  exact kk H locs hP hD hS lv hl
theorem x_iast (C : wo_C p s m args meth c A D cc nL own tys ret) {cA : ClassId} {a n : Nat} {f : Nat → Int32} {x : Int32} {v : Int32} {ws2 : va_W} (q t0 i : Nat) (hq : ws[q]? = some (a, .inl (cA, n, .inl (f)))) (ht : tys[t0]? = some (cA, .int)) (hx : x = nI i) (hi : i < n) (hn : n < 2 ^ 31) (hws : ws.set q (a, .inl (cA, n, .inl (upd f i v))) = ws2) (dg : decode cc pc = .ok (.iastore, 1))
    (kk : wo_W p l e R s m args below meth c A D cells slots nL Q (pc + 1) ls st ws2) : wo_W p l e R s m args below meth c A D cells slots nL Q pc ls (.int v :: .int x :: .ref a :: st) ws := by
  subst hx
  subst hws
  intro H locs hP hD hS lv hl
  refine va_iast C.1 C.2.1 C.2.2.2.2.2.1 hP hD hS q t0 hq ht (vp_in_nI hi hn) dg ?_
  rw [nI_clamp (Nat.lt_trans hi hn)]
  exact fun H1 locs1 hP1 hD1 hS1 => kk H1 locs1 hP1 hD1 hS1 lv hl
theorem x_zast (C : wo_C p s m args meth c A D cc nL own tys ret) {cA : ClassId} {a n : Nat} {f : Nat → Int32} {x : Int32} {v : Int32} {ws2 : va_W} (q t0 i : Nat) (hq : ws[q]? = some (a, .inl (cA, n, .inl (f)))) (ht : tys[t0]? = some (cA, .boolean)) (hx : x = nI i) (hi : i < n) (hn : n < 2 ^ 31) (hws : ws.set q (a, .inl (cA, n, .inl (upd f i (vp_nar .boolean v)))) = ws2) (dg : decode cc pc = .ok (.bastore, 1))
    (kk : wo_W p l e R s m args below meth c A D cells slots nL Q (pc + 1) ls st ws2) : wo_W p l e R s m args below meth c A D cells slots nL Q pc ls (.int v :: .int x :: .ref a :: st) ws := by
  subst hx
  subst hws
  intro H locs hP hD hS lv hl
  refine va_zast C.1 C.2.1 C.2.2.2.2.2.1 hP hD hS q t0 hq ht (vp_in_nI hi hn) dg ?_
  rw [nI_clamp (Nat.lt_trans hi hn)]
  exact fun H1 locs1 hP1 hD1 hS1 => kk H1 locs1 hP1 hD1 hS1 lv hl
theorem x_last (C : wo_C p s m args meth c A D cc nL own tys ret) {cA : ClassId} {a n : Nat} {f : Nat → Int64} {x : Int32} {v : Int64} {ws2 : va_W} (q t0 i : Nat) (hq : ws[q]? = some (a, .inl (cA, n, .inr (.inl (f))))) (ht : tys[t0]? = some (cA, .long)) (hx : x = nI i) (hi : i < n) (hn : n < 2 ^ 31) (hws : ws.set q (a, .inl (cA, n, .inr (.inl (vp_updL f i v)))) = ws2) (dg : decode cc pc = .ok (.lastore, 1))
    (kk : wo_W p l e R s m args below meth c A D cells slots nL Q (pc + 1) ls st ws2) : wo_W p l e R s m args below meth c A D cells slots nL Q pc ls (.long v :: .int x :: .ref a :: st) ws := by
  subst hx
  subst hws
  intro H locs hP hD hS lv hl
  refine va_last C.1 C.2.1 C.2.2.2.2.2.1 hP hD hS q t0 hq ht (vp_in_nI hi hn) dg ?_
  rw [nI_clamp (Nat.lt_trans hi hn)]
  exact fun H1 locs1 hP1 hD1 hS1 => kk H1 locs1 hP1 hD1 hS1 lv hl
end WOR
