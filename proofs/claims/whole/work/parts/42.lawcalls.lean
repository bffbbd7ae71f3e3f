/-! ===== the law: one call of a script ===== -/
def wo_K (p : Program) (l : Launch) (e : Env) (s : State) (m : MethodId) (args : Array Value) (below : List Frame) (meth : Method) (c : Code) (A : Nat → Prop) (D : va_G) (cells slots : Nat) (Q : State → Prop) (cI cZ cJ : ClassId) (a b : Nat → Nat) (bs o i : Nat) : Prop := ∀ (cells' slots' : Nat) (k : Int32) (WA WB : va_W) (f : Nat → Int64) (x5 x6 : Option Value), cells' ≤ cells + 1 → slots' ≤ slots + 6 → RWc cI cZ a b k WA WB → wo_W p l e room_1 s m args below meth c A D cells' slots' 7 Q 1342 [some (.ref bs), some (.ref (a 0)), some (.ref (b 0)), some (.ref o), some (.int (nI i)), x5, x6] [] (WA ++ wo_o cJ o f :: WB)
section LWQ
variable {p : Program} {l : Launch} {e : Env} {s : State} {m : MethodId} {args : Array Value} {below : List Frame} {meth : Method} {c : Code} {A : Nat → Prop} {D : va_G} {cells slots : Nat} {Q : State → Prop} {tys : List (ClassId × FieldType)} {rt : Option FieldType} {cI cZ cJ : ClassId} {a b : Nat → Nat} {bs o i L : Nat} {xs : Nat → Int32} {WA WB : va_W} {f : Nat → Int64} {x5 x6 : Option Value} {k0 : Int32}
set_option maxRecDepth 100000 in
set_option maxHeartbeats 4000000 in
theorem q_open (C : wo_C p s m args meth c A D cL_law 7 RL ((cI, .int) :: (cZ, .boolean) :: (cJ, .long) :: tys) rt) (hXT : wo_XT A s s.heap) (hX : va_X bs L xs s s.heap) (hbl : bs < s.heap.size) (hbA : ¬ A bs) (hl : l.stackTraces = false) (hi : i + 4 ≤ L) (hL : L ≤ 2049) (hc : cells + 1 ≤ room_1.cells) (hs : slots + 6 ≤ room_1.slots) (h : RWc cI cZ a b k0 WA WB) (K : wo_K p l e s m args below meth c A D cells slots Q cI cZ cJ a b bs o i) : wo_W p l e room_1 s m args below meth c A D cells slots 7 Q 152 [some (.ref bs), some (.ref (a 0)), some (.ref (b 0)), some (.ref o), some (.int (nI i)), x5, x6] [] (WA ++ wo_o cJ o f :: WB) := by
  obtain ⟨k, mc, ms, WA2, WB2, hmc, hms, hA, hB, hRel⟩ := s_open (l := l) (D := D) (cJ := cJ) (tys := tys) hl (xs (i + 1)) h
  obtain ⟨fsB, hfB⟩ := r_B h
  refine x_aload_n C dL_law_152 rfl rfl ?_
  refine x_aload_n C dL_law_153 rfl rfl ?_
  refine x_iload C dL_law_154 rfl ?_
  refine x_iconst C (v := 1) dL_law_156 (by decide) ?_
  refine x_iadd C dL_law_157 ?_
  refine x_sld C hX hbl hbA (i + 1) (nI_add i 1) (by omega) hL dL_law_158 ?_
  refine x_callL C hXT gl_open (hA _) rfl rfl (Nat.le_of_ble_eq_true rfl) ⟨(Nat.le_of_ble_eq_true rfl), (Nat.le_of_ble_eq_true rfl)⟩ ⟨Nat.le_trans (Nat.add_le_add_left hmc cells) hc, Nat.le_trans (Nat.add_le_add_left hms slots) hs⟩ dL_law_159 ?_
  refine x_istore C dL_law_162 (by decide) ?_
  refine x_aload_n C dL_law_164 rfl rfl ?_
  refine x_aload_n C dL_law_165 rfl rfl ?_
  refine x_iload C dL_law_166 rfl ?_
  refine x_iconst C (v := 1) dL_law_168 (by decide) ?_
  refine x_iadd C dL_law_169 ?_
  refine x_sld C hX hbl hbA (i + 1) (nI_add i 1) (by omega) hL dL_law_170 ?_
  refine x_perm w_perm ?_
  refine x_callVSv C gv_L_91 (hB _) 0 (hfB _) rfl rfl rfl (Nat.le_of_ble_eq_true rfl) ⟨(Nat.le_of_ble_eq_true rfl), (Nat.le_of_ble_eq_true rfl)⟩ ⟨Nat.le_trans (Nat.add_le_add_left hmc cells) hc, Nat.le_trans (Nat.add_le_add_left hms slots) hs⟩ dL_law_171 (fun o1 o2 => ?_)
  have hT := hRel o1 o2
  obtain ⟨fsC, hfC⟩ := r_B hT
  refine x_aload_n C dL_law_174 rfl rfl ?_
  refine x_callVi C gv_L_92 (r_thrown hT _) 0 (hfC _) rfl rfl rfl (Nat.le_of_ble_eq_true rfl) ⟨(Nat.le_of_ble_eq_true rfl), (Nat.le_of_ble_eq_true rfl)⟩ ⟨Nat.le_trans (Nat.add_le_add_left hmc cells) hc, Nat.le_trans (Nat.add_le_add_left hms slots) hs⟩ dL_law_175 ?_
  refine x_iload C dL_law_178 rfl ?_
  refine x_icmp_eq C (tgt := 185) dL_law_180 (by decide) (fun _ => ?_) (fun z => absurd rfl z)
  refine x_perm w_perm.symm ?_
  refine x_goto C (tgt := 1342) dL_law_185 (by decide) ?_
  exact K _ _ _ _ _ _ _ _ (Nat.add_le_add_left hmc cells) (Nat.add_le_add_left hms slots) hT
set_option maxRecDepth 100000 in
set_option maxHeartbeats 4000000 in
theorem q_weigh (C : wo_C p s m args meth c A D cL_law 7 RL ((cI, .int) :: (cZ, .boolean) :: (cJ, .long) :: tys) rt) (hXT : wo_XT A s s.heap) (hX : va_X bs L xs s s.heap) (hbl : bs < s.heap.size) (hbA : ¬ A bs) (hl : l.stackTraces = false) (hi : i + 4 ≤ L) (hL : L ≤ 2049) (hc : cells + 1 ≤ room_1.cells) (hs : slots + 6 ≤ room_1.slots) (h : RWc cI cZ a b k0 WA WB) (K : wo_K p l e s m args below meth c A D cells slots Q cI cZ cJ a b bs o i) : wo_W p l e room_1 s m args below meth c A D cells slots 7 Q 188 [some (.ref bs), some (.ref (a 0)), some (.ref (b 0)), some (.ref o), some (.int (nI i)), x5, x6] [] (WA ++ wo_o cJ o f :: WB) := by
  obtain ⟨k, r, mc, ms, WA2, WB2, f2, hmc, hms, hA, hB, hv, hRel⟩ := s_weigh (l := l) (D := D) (cJ := cJ) (tys := tys) hl (xs (i + 1)) (xs (i + 2)) o f h
  obtain ⟨fsB, hfB⟩ := r_B h
  refine x_aload_n C dL_law_188 rfl rfl ?_
  refine x_aload_n C dL_law_189 rfl rfl ?_
  refine x_iload C dL_law_190 rfl ?_
  refine x_iconst C (v := 1) dL_law_192 (by decide) ?_
  refine x_iadd C dL_law_193 ?_
  refine x_sld C hX hbl hbA (i + 1) (nI_add i 1) (by omega) hL dL_law_194 ?_
  refine x_aload_n C dL_law_195 rfl rfl ?_
  refine x_iload C dL_law_196 rfl ?_
  refine x_iconst C (v := 2) dL_law_198 (by decide) ?_
  refine x_iadd C dL_law_199 ?_
  refine x_sld C hX hbl hbA (i + 2) (nI_add i 2) (by omega) hL dL_law_200 ?_
  refine x_aload_n C dL_law_201 rfl rfl ?_
  refine x_callL C hXT gl_weigh (hA _) rfl rfl (Nat.le_of_ble_eq_true rfl) ⟨(Nat.le_of_ble_eq_true rfl), (Nat.le_of_ble_eq_true rfl)⟩ ⟨Nat.le_trans (Nat.add_le_add_left hmc cells) hc, Nat.le_trans (Nat.add_le_add_left hms slots) hs⟩ dL_law_202 ?_
  refine x_istore C dL_law_205 (by decide) ?_
  refine x_aload_n C dL_law_207 rfl rfl ?_
  refine x_aload_n C dL_law_208 rfl rfl ?_
  refine x_iload C dL_law_209 rfl ?_
  refine x_iconst C (v := 1) dL_law_211 (by decide) ?_
  refine x_iadd C dL_law_212 ?_
  refine x_sld C hX hbl hbA (i + 1) (nI_add i 1) (by omega) hL dL_law_213 ?_
  refine x_aload_n C dL_law_214 rfl rfl ?_
  refine x_iload C dL_law_215 rfl ?_
  refine x_iconst C (v := 2) dL_law_217 (by decide) ?_
  refine x_iadd C dL_law_218 ?_
  refine x_sld C hX hbl hbA (i + 2) (nI_add i 2) (by omega) hL dL_law_219 ?_
  refine x_perm w_perm ?_
  refine x_callVSi C gv_L_99 (hB _) 0 (hfB _) rfl rfl rfl (Nat.le_of_ble_eq_true rfl) ⟨(Nat.le_of_ble_eq_true rfl), (Nat.le_of_ble_eq_true rfl)⟩ ⟨Nat.le_trans (Nat.add_le_add_left hmc cells) hc, Nat.le_trans (Nat.add_le_add_left hms slots) hs⟩ dL_law_220 (fun o1 o2 => ?_)
  have hT := hRel o1 o2
  obtain ⟨fsC, hfC⟩ := r_B hT
  refine x_istore C dL_law_223 (by decide) ?_
  refine x_aload_n C dL_law_225 rfl rfl ?_
  refine x_callVi C gv_L_92 (r_thrown hT _) 0 (hfC _) rfl rfl rfl (Nat.le_of_ble_eq_true rfl) ⟨(Nat.le_of_ble_eq_true rfl), (Nat.le_of_ble_eq_true rfl)⟩ ⟨Nat.le_trans (Nat.add_le_add_left hmc cells) hc, Nat.le_trans (Nat.add_le_add_left hms slots) hs⟩ dL_law_226 ?_
  refine x_iload C dL_law_229 rfl ?_
  refine x_icmp_eq C (tgt := 236) dL_law_231 (by decide) (fun _ => ?_) (fun z => absurd rfl z)
  refine x_perm w_perm.symm ?_
  refine x_iload C dL_law_236 rfl ?_
  refine x_if_ne C (tgt := 253) dL_law_238 (by decide) (fun z => ?_) (fun z => ?_)
  · refine x_goto C (tgt := 1342) dL_law_253 (by decide) ?_
    exact K _ _ _ _ _ _ _ _ (Nat.add_le_add_left hmc cells) (Nat.add_le_add_left hms slots) hT
  · have hk : k = 0 := z
    refine x_aload_n C dL_law_241 rfl rfl ?_
    refine x_iconst C (v := 0) dL_law_242 (by decide) ?_
    refine x_lald C WA2.length 2 0 w_at rfl rfl (by decide) (by decide) dL_law_243 ?_
    refine x_iload C dL_law_244 rfl ?_
    refine x_i2l C dL_law_246 ?_
    refine x_lcmp C dL_law_247 ?_
    refine x_top (cmp_eq (hv hk)) ?_
    refine x_if_eq C (tgt := 253) dL_law_248 (by decide) (fun _ => ?_) (fun z => absurd rfl z)
    refine x_goto C (tgt := 1342) dL_law_253 (by decide) ?_
    exact K _ _ _ _ _ _ _ _ (Nat.add_le_add_left hmc cells) (Nat.add_le_add_left hms slots) hT
set_option maxRecDepth 100000 in
set_option maxHeartbeats 4000000 in
theorem q_crack (C : wo_C p s m args meth c A D cL_law 7 RL ((cI, .int) :: (cZ, .boolean) :: (cJ, .long) :: tys) rt) (hXT : wo_XT A s s.heap) (hX : va_X bs L xs s s.heap) (hbl : bs < s.heap.size) (hbA : ¬ A bs) (hl : l.stackTraces = false) (hi : i + 4 ≤ L) (hL : L ≤ 2049) (hc : cells + 1 ≤ room_1.cells) (hs : slots + 6 ≤ room_1.slots) (h : RWc cI cZ a b k0 WA WB) (K : wo_K p l e s m args below meth c A D cells slots Q cI cZ cJ a b bs o i) : wo_W p l e room_1 s m args below meth c A D cells slots 7 Q 256 [some (.ref bs), some (.ref (a 0)), some (.ref (b 0)), some (.ref o), some (.int (nI i)), x5, x6] [] (WA ++ wo_o cJ o f :: WB) := by
  obtain ⟨k, mc, ms, WA2, WB2, hmc, hms, hA, hB, hRel⟩ := s_crack (l := l) (D := D) (cJ := cJ) (tys := tys) hl (xs (i + 1)) (xs (i + 2)) h
  obtain ⟨fsB, hfB⟩ := r_B h
  refine x_aload_n C dL_law_256 rfl rfl ?_
  refine x_aload_n C dL_law_257 rfl rfl ?_
  refine x_iload C dL_law_258 rfl ?_
  refine x_iconst C (v := 1) dL_law_260 (by decide) ?_
  refine x_iadd C dL_law_261 ?_
  refine x_sld C hX hbl hbA (i + 1) (nI_add i 1) (by omega) hL dL_law_262 ?_
  refine x_aload_n C dL_law_263 rfl rfl ?_
  refine x_iload C dL_law_264 rfl ?_
  refine x_iconst C (v := 2) dL_law_266 (by decide) ?_
  refine x_iadd C dL_law_267 ?_
  refine x_sld C hX hbl hbA (i + 2) (nI_add i 2) (by omega) hL dL_law_268 ?_
  refine x_callL C hXT gl_crack (hA _) rfl rfl (Nat.le_of_ble_eq_true rfl) ⟨(Nat.le_of_ble_eq_true rfl), (Nat.le_of_ble_eq_true rfl)⟩ ⟨Nat.le_trans (Nat.add_le_add_left hmc cells) hc, Nat.le_trans (Nat.add_le_add_left hms slots) hs⟩ dL_law_269 ?_
  refine x_istore C dL_law_272 (by decide) ?_
  refine x_aload_n C dL_law_274 rfl rfl ?_
  refine x_aload_n C dL_law_275 rfl rfl ?_
  refine x_iload C dL_law_276 rfl ?_
  refine x_iconst C (v := 1) dL_law_278 (by decide) ?_
  refine x_iadd C dL_law_279 ?_
  refine x_sld C hX hbl hbA (i + 1) (nI_add i 1) (by omega) hL dL_law_280 ?_
  refine x_aload_n C dL_law_281 rfl rfl ?_
  refine x_iload C dL_law_282 rfl ?_
  refine x_iconst C (v := 2) dL_law_284 (by decide) ?_
  refine x_iadd C dL_law_285 ?_
  refine x_sld C hX hbl hbA (i + 2) (nI_add i 2) (by omega) hL dL_law_286 ?_
  refine x_perm w_perm ?_
  refine x_callVSv C gv_L_103 (hB _) 0 (hfB _) rfl rfl rfl (Nat.le_of_ble_eq_true rfl) ⟨(Nat.le_of_ble_eq_true rfl), (Nat.le_of_ble_eq_true rfl)⟩ ⟨Nat.le_trans (Nat.add_le_add_left hmc cells) hc, Nat.le_trans (Nat.add_le_add_left hms slots) hs⟩ dL_law_287 (fun o1 o2 => ?_)
  have hT := hRel o1 o2
  obtain ⟨fsC, hfC⟩ := r_B hT
  refine x_aload_n C dL_law_290 rfl rfl ?_
  refine x_callVi C gv_L_92 (r_thrown hT _) 0 (hfC _) rfl rfl rfl (Nat.le_of_ble_eq_true rfl) ⟨(Nat.le_of_ble_eq_true rfl), (Nat.le_of_ble_eq_true rfl)⟩ ⟨Nat.le_trans (Nat.add_le_add_left hmc cells) hc, Nat.le_trans (Nat.add_le_add_left hms slots) hs⟩ dL_law_291 ?_
  refine x_iload C dL_law_294 rfl ?_
  refine x_icmp_eq C (tgt := 301) dL_law_296 (by decide) (fun _ => ?_) (fun z => absurd rfl z)
  refine x_perm w_perm.symm ?_
  refine x_goto C (tgt := 1342) dL_law_301 (by decide) ?_
  exact K _ _ _ _ _ _ _ _ (Nat.add_le_add_left hmc cells) (Nat.add_le_add_left hms slots) hT
set_option maxRecDepth 100000 in
set_option maxHeartbeats 4000000 in
theorem q_pass (C : wo_C p s m args meth c A D cL_law 7 RL ((cI, .int) :: (cZ, .boolean) :: (cJ, .long) :: tys) rt) (hXT : wo_XT A s s.heap) (hX : va_X bs L xs s s.heap) (hbl : bs < s.heap.size) (hbA : ¬ A bs) (hl : l.stackTraces = false) (hi : i + 4 ≤ L) (hL : L ≤ 2049) (hc : cells + 1 ≤ room_1.cells) (hs : slots + 6 ≤ room_1.slots) (h : RWc cI cZ a b k0 WA WB) (K : wo_K p l e s m args below meth c A D cells slots Q cI cZ cJ a b bs o i) : wo_W p l e room_1 s m args below meth c A D cells slots 7 Q 304 [some (.ref bs), some (.ref (a 0)), some (.ref (b 0)), some (.ref o), some (.int (nI i)), x5, x6] [] (WA ++ wo_o cJ o f :: WB) := by
  obtain ⟨k, mc, ms, WA2, WB2, hmc, hms, hA, hB, hRel⟩ := s_pass (l := l) (D := D) (cJ := cJ) (tys := tys) hl  h
  obtain ⟨fsB, hfB⟩ := r_B h
  refine x_aload_n C dL_law_304 rfl rfl ?_
  refine x_callL C hXT gl_pass (hA _) rfl rfl (Nat.le_of_ble_eq_true rfl) ⟨(Nat.le_of_ble_eq_true rfl), (Nat.le_of_ble_eq_true rfl)⟩ ⟨Nat.le_trans (Nat.add_le_add_left hmc cells) hc, Nat.le_trans (Nat.add_le_add_left hms slots) hs⟩ dL_law_305 ?_
  refine x_istore C dL_law_308 (by decide) ?_
  refine x_aload_n C dL_law_310 rfl rfl ?_
  refine x_perm w_perm ?_
  refine x_callVSv C gv_L_107 (hB _) 0 (hfB _) rfl rfl rfl (Nat.le_of_ble_eq_true rfl) ⟨(Nat.le_of_ble_eq_true rfl), (Nat.le_of_ble_eq_true rfl)⟩ ⟨Nat.le_trans (Nat.add_le_add_left hmc cells) hc, Nat.le_trans (Nat.add_le_add_left hms slots) hs⟩ dL_law_311 (fun o1 o2 => ?_)
  have hT := hRel o1 o2
  obtain ⟨fsC, hfC⟩ := r_B hT
  refine x_aload_n C dL_law_314 rfl rfl ?_
  refine x_callVi C gv_L_92 (r_thrown hT _) 0 (hfC _) rfl rfl rfl (Nat.le_of_ble_eq_true rfl) ⟨(Nat.le_of_ble_eq_true rfl), (Nat.le_of_ble_eq_true rfl)⟩ ⟨Nat.le_trans (Nat.add_le_add_left hmc cells) hc, Nat.le_trans (Nat.add_le_add_left hms slots) hs⟩ dL_law_315 ?_
  refine x_iload C dL_law_318 rfl ?_
  refine x_icmp_eq C (tgt := 325) dL_law_320 (by decide) (fun _ => ?_) (fun z => absurd rfl z)
  refine x_perm w_perm.symm ?_
  refine x_goto C (tgt := 1342) dL_law_325 (by decide) ?_
  exact K _ _ _ _ _ _ _ _ (Nat.add_le_add_left hmc cells) (Nat.add_le_add_left hms slots) hT
set_option maxRecDepth 100000 in
set_option maxHeartbeats 4000000 in
theorem q_leave (C : wo_C p s m args meth c A D cL_law 7 RL ((cI, .int) :: (cZ, .boolean) :: (cJ, .long) :: tys) rt) (hXT : wo_XT A s s.heap) (hX : va_X bs L xs s s.heap) (hbl : bs < s.heap.size) (hbA : ¬ A bs) (hl : l.stackTraces = false) (hi : i + 4 ≤ L) (hL : L ≤ 2049) (hc : cells + 1 ≤ room_1.cells) (hs : slots + 6 ≤ room_1.slots) (h : RWc cI cZ a b k0 WA WB) (K : wo_K p l e s m args below meth c A D cells slots Q cI cZ cJ a b bs o i) : wo_W p l e room_1 s m args below meth c A D cells slots 7 Q 328 [some (.ref bs), some (.ref (a 0)), some (.ref (b 0)), some (.ref o), some (.int (nI i)), x5, x6] [] (WA ++ wo_o cJ o f :: WB) := by
  obtain ⟨k, mc, ms, WA2, WB2, hmc, hms, hA, hB, hRel⟩ := s_leave (l := l) (D := D) (cJ := cJ) (tys := tys) hl (xs (i + 1)) h
  obtain ⟨fsB, hfB⟩ := r_B h
  refine x_aload_n C dL_law_328 rfl rfl ?_
  refine x_aload_n C dL_law_329 rfl rfl ?_
  refine x_iload C dL_law_330 rfl ?_
  refine x_iconst C (v := 1) dL_law_332 (by decide) ?_
  refine x_iadd C dL_law_333 ?_
  refine x_sld C hX hbl hbA (i + 1) (nI_add i 1) (by omega) hL dL_law_334 ?_
  refine x_callL C hXT gl_leave (hA _) rfl rfl (Nat.le_of_ble_eq_true rfl) ⟨(Nat.le_of_ble_eq_true rfl), (Nat.le_of_ble_eq_true rfl)⟩ ⟨Nat.le_trans (Nat.add_le_add_left hmc cells) hc, Nat.le_trans (Nat.add_le_add_left hms slots) hs⟩ dL_law_335 ?_
  refine x_istore C dL_law_338 (by decide) ?_
  refine x_aload_n C dL_law_340 rfl rfl ?_
  refine x_aload_n C dL_law_341 rfl rfl ?_
  refine x_iload C dL_law_342 rfl ?_
  refine x_iconst C (v := 1) dL_law_344 (by decide) ?_
  refine x_iadd C dL_law_345 ?_
  refine x_sld C hX hbl hbA (i + 1) (nI_add i 1) (by omega) hL dL_law_346 ?_
  refine x_perm w_perm ?_
  refine x_callVSv C gv_L_110 (hB _) 0 (hfB _) rfl rfl rfl (Nat.le_of_ble_eq_true rfl) ⟨(Nat.le_of_ble_eq_true rfl), (Nat.le_of_ble_eq_true rfl)⟩ ⟨Nat.le_trans (Nat.add_le_add_left hmc cells) hc, Nat.le_trans (Nat.add_le_add_left hms slots) hs⟩ dL_law_347 (fun o1 o2 => ?_)
  have hT := hRel o1 o2
  obtain ⟨fsC, hfC⟩ := r_B hT
  refine x_aload_n C dL_law_350 rfl rfl ?_
  refine x_callVi C gv_L_92 (r_thrown hT _) 0 (hfC _) rfl rfl rfl (Nat.le_of_ble_eq_true rfl) ⟨(Nat.le_of_ble_eq_true rfl), (Nat.le_of_ble_eq_true rfl)⟩ ⟨Nat.le_trans (Nat.add_le_add_left hmc cells) hc, Nat.le_trans (Nat.add_le_add_left hms slots) hs⟩ dL_law_351 ?_
  refine x_iload C dL_law_354 rfl ?_
  refine x_icmp_eq C (tgt := 361) dL_law_356 (by decide) (fun _ => ?_) (fun z => absurd rfl z)
  refine x_perm w_perm.symm ?_
  refine x_goto C (tgt := 1342) dL_law_361 (by decide) ?_
  exact K _ _ _ _ _ _ _ _ (Nat.add_le_add_left hmc cells) (Nat.add_le_add_left hms slots) hT
set_option maxRecDepth 100000 in
set_option maxHeartbeats 4000000 in
theorem q_appeal (C : wo_C p s m args meth c A D cL_law 7 RL ((cI, .int) :: (cZ, .boolean) :: (cJ, .long) :: tys) rt) (hXT : wo_XT A s s.heap) (hX : va_X bs L xs s s.heap) (hbl : bs < s.heap.size) (hbA : ¬ A bs) (hl : l.stackTraces = false) (hi : i + 4 ≤ L) (hL : L ≤ 2049) (hc : cells + 1 ≤ room_1.cells) (hs : slots + 6 ≤ room_1.slots) (h : RWc cI cZ a b k0 WA WB) (K : wo_K p l e s m args below meth c A D cells slots Q cI cZ cJ a b bs o i) : wo_W p l e room_1 s m args below meth c A D cells slots 7 Q 364 [some (.ref bs), some (.ref (a 0)), some (.ref (b 0)), some (.ref o), some (.int (nI i)), x5, x6] [] (WA ++ wo_o cJ o f :: WB) := by
  obtain ⟨k, r, mc, ms, WA2, WB2, f2, hmc, hms, hA, hB, hv, hRel⟩ := s_appeal (l := l) (D := D) (cJ := cJ) (tys := tys) hl (xs (i + 1)) (xs (i + 2)) o f h
  obtain ⟨fsB, hfB⟩ := r_B h
  refine x_aload_n C dL_law_364 rfl rfl ?_
  refine x_aload_n C dL_law_365 rfl rfl ?_
  refine x_iload C dL_law_366 rfl ?_
  refine x_iconst C (v := 1) dL_law_368 (by decide) ?_
  refine x_iadd C dL_law_369 ?_
  refine x_sld C hX hbl hbA (i + 1) (nI_add i 1) (by omega) hL dL_law_370 ?_
  refine x_aload_n C dL_law_371 rfl rfl ?_
  refine x_iload C dL_law_372 rfl ?_
  refine x_iconst C (v := 2) dL_law_374 (by decide) ?_
  refine x_iadd C dL_law_375 ?_
  refine x_sld C hX hbl hbA (i + 2) (nI_add i 2) (by omega) hL dL_law_376 ?_
  refine x_aload_n C dL_law_377 rfl rfl ?_
  refine x_callL C hXT gl_appeal (hA _) rfl rfl (Nat.le_of_ble_eq_true rfl) ⟨(Nat.le_of_ble_eq_true rfl), (Nat.le_of_ble_eq_true rfl)⟩ ⟨Nat.le_trans (Nat.add_le_add_left hmc cells) hc, Nat.le_trans (Nat.add_le_add_left hms slots) hs⟩ dL_law_378 ?_
  refine x_istore C dL_law_381 (by decide) ?_
  refine x_aload_n C dL_law_383 rfl rfl ?_
  refine x_aload_n C dL_law_384 rfl rfl ?_
  refine x_iload C dL_law_385 rfl ?_
  refine x_iconst C (v := 1) dL_law_387 (by decide) ?_
  refine x_iadd C dL_law_388 ?_
  refine x_sld C hX hbl hbA (i + 1) (nI_add i 1) (by omega) hL dL_law_389 ?_
  refine x_aload_n C dL_law_390 rfl rfl ?_
  refine x_iload C dL_law_391 rfl ?_
  refine x_iconst C (v := 2) dL_law_393 (by decide) ?_
  refine x_iadd C dL_law_394 ?_
  refine x_sld C hX hbl hbA (i + 2) (nI_add i 2) (by omega) hL dL_law_395 ?_
  refine x_perm w_perm ?_
  refine x_callVSi C gv_L_113 (hB _) 0 (hfB _) rfl rfl rfl (Nat.le_of_ble_eq_true rfl) ⟨(Nat.le_of_ble_eq_true rfl), (Nat.le_of_ble_eq_true rfl)⟩ ⟨Nat.le_trans (Nat.add_le_add_left hmc cells) hc, Nat.le_trans (Nat.add_le_add_left hms slots) hs⟩ dL_law_396 (fun o1 o2 => ?_)
  have hT := hRel o1 o2
  obtain ⟨fsC, hfC⟩ := r_B hT
  refine x_istore C dL_law_399 (by decide) ?_
  refine x_aload_n C dL_law_401 rfl rfl ?_
  refine x_callVi C gv_L_92 (r_thrown hT _) 0 (hfC _) rfl rfl rfl (Nat.le_of_ble_eq_true rfl) ⟨(Nat.le_of_ble_eq_true rfl), (Nat.le_of_ble_eq_true rfl)⟩ ⟨Nat.le_trans (Nat.add_le_add_left hmc cells) hc, Nat.le_trans (Nat.add_le_add_left hms slots) hs⟩ dL_law_402 ?_
  refine x_iload C dL_law_405 rfl ?_
  refine x_icmp_eq C (tgt := 412) dL_law_407 (by decide) (fun _ => ?_) (fun z => absurd rfl z)
  refine x_perm w_perm.symm ?_
  refine x_iload C dL_law_412 rfl ?_
  refine x_if_ne C (tgt := 429) dL_law_414 (by decide) (fun z => ?_) (fun z => ?_)
  · refine x_goto C (tgt := 1342) dL_law_429 (by decide) ?_
    exact K _ _ _ _ _ _ _ _ (Nat.add_le_add_left hmc cells) (Nat.add_le_add_left hms slots) hT
  · have hk : k = 0 := z
    refine x_aload_n C dL_law_417 rfl rfl ?_
    refine x_iconst C (v := 0) dL_law_418 (by decide) ?_
    refine x_lald C WA2.length 2 0 w_at rfl rfl (by decide) (by decide) dL_law_419 ?_
    refine x_iload C dL_law_420 rfl ?_
    refine x_i2l C dL_law_422 ?_
    refine x_lcmp C dL_law_423 ?_
    refine x_top (cmp_eq (hv hk)) ?_
    refine x_if_eq C (tgt := 429) dL_law_424 (by decide) (fun _ => ?_) (fun z => absurd rfl z)
    refine x_goto C (tgt := 1342) dL_law_429 (by decide) ?_
    exact K _ _ _ _ _ _ _ _ (Nat.add_le_add_left hmc cells) (Nat.add_le_add_left hms slots) hT
set_option maxRecDepth 100000 in
set_option maxHeartbeats 4000000 in
theorem q_level (C : wo_C p s m args meth c A D cL_law 7 RL ((cI, .int) :: (cZ, .boolean) :: (cJ, .long) :: tys) rt) (hXT : wo_XT A s s.heap) (hX : va_X bs L xs s s.heap) (hbl : bs < s.heap.size) (hbA : ¬ A bs) (hl : l.stackTraces = false) (hi : i + 4 ≤ L) (hL : L ≤ 2049) (hc : cells + 1 ≤ room_1.cells) (hs : slots + 6 ≤ room_1.slots) (h : RWc cI cZ a b k0 WA WB) (K : wo_K p l e s m args below meth c A D cells slots Q cI cZ cJ a b bs o i) : wo_W p l e room_1 s m args below meth c A D cells slots 7 Q 432 [some (.ref bs), some (.ref (a 0)), some (.ref (b 0)), some (.ref o), some (.int (nI i)), x5, x6] [] (WA ++ wo_o cJ o f :: WB) := by
  obtain ⟨r, WA2, WB2, hA, hB, hRel⟩ := r_level (l := l) (D := D) (cJ := cJ) (tys := tys) (decide (¬ xs (i + 1) = 0)) h
  obtain ⟨fsA, hfA⟩ := r_A h
  obtain ⟨fsB, hfB⟩ := r_B h
  have f1 : ∀ v : Int32, v = bz (decide (¬ xs (i + 1) = 0)) → wo_W p l e room_1 s m args below meth c A D cells slots 7 Q 447 [some (.ref bs), some (.ref (a 0)), some (.ref (b 0)), some (.ref o), some (.int (nI i)), x5, x6] (.int v :: .ref (a 0) :: []) (WA ++ wo_o cJ o f :: WB) := by
    intro v hv
    subst hv
    have f2 : ∀ v : Int32, v = bz (decide (¬ xs (i + 1) = 0)) → wo_W p l e room_1 s m args below meth c A D cells slots 7 Q 465 [some (.ref bs), some (.ref (a 0)), some (.ref (b 0)), some (.ref o), some (.int (nI i)), x5, x6] (.int v :: .ref (b 0) :: .int (bz r) :: []) (WB ++ (WA2 ++ [wo_o cJ o f])) := by
      intro v hv
      subst hv
      refine x_callVi C gv_L_118 (hB _) 0 (hfB _) rfl rfl rfl (Nat.le_of_ble_eq_true rfl) ⟨(Nat.le_of_ble_eq_true rfl), (Nat.le_of_ble_eq_true rfl)⟩ ⟨Nat.le_of_succ_le hc, Nat.le_trans (Nat.le_add_right _ 6) hs⟩ dL_law_465 ?_
      refine x_icmp_eq C (tgt := 1342) dL_law_468 (by decide) (fun _ => ?_) (fun z => absurd rfl z)
      refine x_perm w_perm.symm ?_
      exact K _ _ _ _ _ _ _ _ (Nat.le_add_right _ _) (Nat.le_add_right _ _) hRel
    refine x_callVi C gv_L_114 (hA _) 0 (hfA _) rfl rfl rfl (Nat.le_of_ble_eq_true rfl) ⟨(Nat.le_of_ble_eq_true rfl), (Nat.le_of_ble_eq_true rfl)⟩ ⟨Nat.le_of_succ_le hc, Nat.le_trans (Nat.le_add_right _ 6) hs⟩ dL_law_447 ?_
    refine x_perm w_perm ?_
    refine x_aload_n C dL_law_450 rfl rfl ?_
    refine x_aload_n C dL_law_451 rfl rfl ?_
    refine x_iload C dL_law_452 rfl ?_
    refine x_iconst C (v := 1) dL_law_454 (by decide) ?_
    refine x_iadd C dL_law_455 ?_
    refine x_sld C hX hbl hbA (i + 1) (nI_add i 1) (by omega) hL dL_law_456 ?_
    refine x_if_eq C (tgt := 464) dL_law_457 (by decide) (fun z => ?_) (fun z => ?_)
    · refine x_iconst C (v := 0) dL_law_464 (by decide) ?_
      exact f2 0 (by rw [decide_eq_false (fun y => y z)]; rfl)
    · refine x_iconst C (v := 1) dL_law_460 (by decide) ?_
      refine x_goto C (tgt := 465) dL_law_461 (by decide) ?_
      exact f2 1 (by rw [decide_eq_true z]; rfl)
  refine x_aload_n C dL_law_432 rfl rfl ?_
  refine x_aload_n C dL_law_433 rfl rfl ?_
  refine x_iload C dL_law_434 rfl ?_
  refine x_iconst C (v := 1) dL_law_436 (by decide) ?_
  refine x_iadd C dL_law_437 ?_
  refine x_sld C hX hbl hbA (i + 1) (nI_add i 1) (by omega) hL dL_law_438 ?_
  refine x_if_eq C (tgt := 446) dL_law_439 (by decide) (fun z => ?_) (fun z => ?_)
  · refine x_iconst C (v := 0) dL_law_446 (by decide) ?_
    exact f1 0 (by rw [decide_eq_false (fun y => y z)]; rfl)
  · refine x_iconst C (v := 1) dL_law_442 (by decide) ?_
    refine x_goto C (tgt := 447) dL_law_443 (by decide) ?_
    exact f1 1 (by rw [decide_eq_true z]; rfl)
set_option maxRecDepth 100000 in
set_option maxHeartbeats 4000000 in
theorem q_record (C : wo_C p s m args meth c A D cL_law 7 RL ((cI, .int) :: (cZ, .boolean) :: (cJ, .long) :: tys) rt) (hXT : wo_XT A s s.heap) (hX : va_X bs L xs s s.heap) (hbl : bs < s.heap.size) (hbA : ¬ A bs) (hl : l.stackTraces = false) (hi : i + 4 ≤ L) (hL : L ≤ 2049) (hc : cells + 1 ≤ room_1.cells) (hs : slots + 6 ≤ room_1.slots) (h : RWc cI cZ a b k0 WA WB) (K : wo_K p l e s m args below meth c A D cells slots Q cI cZ cJ a b bs o i) : wo_W p l e room_1 s m args below meth c A D cells slots 7 Q 473 [some (.ref bs), some (.ref (a 0)), some (.ref (b 0)), some (.ref o), some (.int (nI i)), x5, x6] [] (WA ++ wo_o cJ o f :: WB) := by
  obtain ⟨k, mc, ms, WA2, WB2, hmc, hms, hA, hB, hRel⟩ := s_record (l := l) (D := D) (cJ := cJ) (tys := tys) hl (xs (i + 1)) h
  obtain ⟨fsB, hfB⟩ := r_B h
  refine x_aload_n C dL_law_473 rfl rfl ?_
  refine x_aload_n C dL_law_474 rfl rfl ?_
  refine x_iload C dL_law_475 rfl ?_
  refine x_iconst C (v := 1) dL_law_477 (by decide) ?_
  refine x_iadd C dL_law_478 ?_
  refine x_sld C hX hbl hbA (i + 1) (nI_add i 1) (by omega) hL dL_law_479 ?_
  refine x_callL C hXT gl_record (hA _) rfl rfl (Nat.le_of_ble_eq_true rfl) ⟨(Nat.le_of_ble_eq_true rfl), (Nat.le_of_ble_eq_true rfl)⟩ ⟨Nat.le_trans (Nat.add_le_add_left hmc cells) hc, Nat.le_trans (Nat.add_le_add_left hms slots) hs⟩ dL_law_480 ?_
  refine x_istore C dL_law_483 (by decide) ?_
  refine x_aload_n C dL_law_485 rfl rfl ?_
  refine x_aload_n C dL_law_486 rfl rfl ?_
  refine x_iload C dL_law_487 rfl ?_
  refine x_iconst C (v := 1) dL_law_489 (by decide) ?_
  refine x_iadd C dL_law_490 ?_
  refine x_sld C hX hbl hbA (i + 1) (nI_add i 1) (by omega) hL dL_law_491 ?_
  refine x_perm w_perm ?_
  refine x_callVSv C gv_L_121 (hB _) 0 (hfB _) rfl rfl rfl (Nat.le_of_ble_eq_true rfl) ⟨(Nat.le_of_ble_eq_true rfl), (Nat.le_of_ble_eq_true rfl)⟩ ⟨Nat.le_trans (Nat.add_le_add_left hmc cells) hc, Nat.le_trans (Nat.add_le_add_left hms slots) hs⟩ dL_law_492 (fun o1 o2 => ?_)
  have hT := hRel o1 o2
  obtain ⟨fsC, hfC⟩ := r_B hT
  refine x_aload_n C dL_law_495 rfl rfl ?_
  refine x_callVi C gv_L_92 (r_thrown hT _) 0 (hfC _) rfl rfl rfl (Nat.le_of_ble_eq_true rfl) ⟨(Nat.le_of_ble_eq_true rfl), (Nat.le_of_ble_eq_true rfl)⟩ ⟨Nat.le_trans (Nat.add_le_add_left hmc cells) hc, Nat.le_trans (Nat.add_le_add_left hms slots) hs⟩ dL_law_496 ?_
  refine x_iload C dL_law_499 rfl ?_
  refine x_icmp_eq C (tgt := 506) dL_law_501 (by decide) (fun _ => ?_) (fun z => absurd rfl z)
  refine x_perm w_perm.symm ?_
  refine x_goto C (tgt := 1342) dL_law_506 (by decide) ?_
  exact K _ _ _ _ _ _ _ _ (Nat.add_le_add_left hmc cells) (Nat.add_le_add_left hms slots) hT
set_option maxRecDepth 100000 in
set_option maxHeartbeats 4000000 in
theorem q_prize (C : wo_C p s m args meth c A D cL_law 7 RL ((cI, .int) :: (cZ, .boolean) :: (cJ, .long) :: tys) rt) (hXT : wo_XT A s s.heap) (hX : va_X bs L xs s s.heap) (hbl : bs < s.heap.size) (hbA : ¬ A bs) (hl : l.stackTraces = false) (hi : i + 4 ≤ L) (hL : L ≤ 2049) (hc : cells + 1 ≤ room_1.cells) (hs : slots + 6 ≤ room_1.slots) (h : RWc cI cZ a b k0 WA WB) (K : wo_K p l e s m args below meth c A D cells slots Q cI cZ cJ a b bs o i) : wo_W p l e room_1 s m args below meth c A D cells slots 7 Q 509 [some (.ref bs), some (.ref (a 0)), some (.ref (b 0)), some (.ref o), some (.int (nI i)), x5, x6] [] (WA ++ wo_o cJ o f :: WB) := by
  obtain ⟨k, mc, ms, WA2, WB2, hmc, hms, hA, hB, hRel⟩ := s_prize (l := l) (D := D) (cJ := cJ) (tys := tys) hl (xs (i + 1)) h
  obtain ⟨fsB, hfB⟩ := r_B h
  refine x_aload_n C dL_law_509 rfl rfl ?_
  refine x_aload_n C dL_law_510 rfl rfl ?_
  refine x_iload C dL_law_511 rfl ?_
  refine x_iconst C (v := 1) dL_law_513 (by decide) ?_
  refine x_iadd C dL_law_514 ?_
  refine x_sld C hX hbl hbA (i + 1) (nI_add i 1) (by omega) hL dL_law_515 ?_
  refine x_callL C hXT gl_prize (hA _) rfl rfl (Nat.le_of_ble_eq_true rfl) ⟨(Nat.le_of_ble_eq_true rfl), (Nat.le_of_ble_eq_true rfl)⟩ ⟨Nat.le_trans (Nat.add_le_add_left hmc cells) hc, Nat.le_trans (Nat.add_le_add_left hms slots) hs⟩ dL_law_516 ?_
  refine x_istore C dL_law_519 (by decide) ?_
  refine x_aload_n C dL_law_521 rfl rfl ?_
  refine x_aload_n C dL_law_522 rfl rfl ?_
  refine x_iload C dL_law_523 rfl ?_
  refine x_iconst C (v := 1) dL_law_525 (by decide) ?_
  refine x_iadd C dL_law_526 ?_
  refine x_sld C hX hbl hbA (i + 1) (nI_add i 1) (by omega) hL dL_law_527 ?_
  refine x_perm w_perm ?_
  refine x_callVSv C gv_L_124 (hB _) 0 (hfB _) rfl rfl rfl (Nat.le_of_ble_eq_true rfl) ⟨(Nat.le_of_ble_eq_true rfl), (Nat.le_of_ble_eq_true rfl)⟩ ⟨Nat.le_trans (Nat.add_le_add_left hmc cells) hc, Nat.le_trans (Nat.add_le_add_left hms slots) hs⟩ dL_law_528 (fun o1 o2 => ?_)
  have hT := hRel o1 o2
  obtain ⟨fsC, hfC⟩ := r_B hT
  refine x_aload_n C dL_law_531 rfl rfl ?_
  refine x_callVi C gv_L_92 (r_thrown hT _) 0 (hfC _) rfl rfl rfl (Nat.le_of_ble_eq_true rfl) ⟨(Nat.le_of_ble_eq_true rfl), (Nat.le_of_ble_eq_true rfl)⟩ ⟨Nat.le_trans (Nat.add_le_add_left hmc cells) hc, Nat.le_trans (Nat.add_le_add_left hms slots) hs⟩ dL_law_532 ?_
  refine x_iload C dL_law_535 rfl ?_
  refine x_icmp_eq C (tgt := 542) dL_law_537 (by decide) (fun _ => ?_) (fun z => absurd rfl z)
  refine x_perm w_perm.symm ?_
  refine x_goto C (tgt := 1342) dL_law_542 (by decide) ?_
  exact K _ _ _ _ _ _ _ _ (Nat.add_le_add_left hmc cells) (Nat.add_le_add_left hms slots) hT
set_option maxRecDepth 100000 in
set_option maxHeartbeats 4000000 in
theorem q_turn (C : wo_C p s m args meth c A D cL_law 7 RL ((cI, .int) :: (cZ, .boolean) :: (cJ, .long) :: tys) rt) (hXT : wo_XT A s s.heap) (hX : va_X bs L xs s s.heap) (hbl : bs < s.heap.size) (hbA : ¬ A bs) (hl : l.stackTraces = false) (hi : i + 4 ≤ L) (hL : L ≤ 2049) (hc : cells + 1 ≤ room_1.cells) (hs : slots + 6 ≤ room_1.slots) (h : RWc cI cZ a b k0 WA WB) (K : wo_K p l e s m args below meth c A D cells slots Q cI cZ cJ a b bs o i) : wo_W p l e room_1 s m args below meth c A D cells slots 7 Q 545 [some (.ref bs), some (.ref (a 0)), some (.ref (b 0)), some (.ref o), some (.int (nI i)), x5, x6] [] (WA ++ wo_o cJ o f :: WB) := by
  obtain ⟨r, WB2, hA, hB, hRel⟩ := r_turn (l := l) (D := D) (cJ := cJ) (tys := tys) h
  obtain ⟨fsA, hfA⟩ := r_A h
  obtain ⟨fsB, hfB⟩ := r_B h
  refine x_aload_n C dL_law_545 rfl rfl ?_
  refine x_callVi C gv_L_125 (hA _) 0 (hfA _) rfl rfl rfl (Nat.le_of_ble_eq_true rfl) ⟨(Nat.le_of_ble_eq_true rfl), (Nat.le_of_ble_eq_true rfl)⟩ ⟨Nat.le_of_succ_le hc, Nat.le_trans (Nat.le_add_right _ 6) hs⟩ dL_law_546 ?_
  refine x_aload_n C dL_law_549 rfl rfl ?_
  refine x_perm w_perm ?_
  refine x_callVi C gv_L_128 (hB _) 0 (hfB _) rfl rfl rfl (Nat.le_of_ble_eq_true rfl) ⟨(Nat.le_of_ble_eq_true rfl), (Nat.le_of_ble_eq_true rfl)⟩ ⟨Nat.le_of_succ_le hc, Nat.le_trans (Nat.le_add_right _ 6) hs⟩ dL_law_550 ?_
  refine x_icmp_eq C (tgt := 1342) dL_law_553 (by decide) (fun _ => ?_) (fun z => absurd rfl z)
  refine x_perm w_perm.symm ?_
  exact K _ _ _ _ _ _ _ _ (Nat.le_add_right _ _) (Nat.le_add_right _ _) hRel
set_option maxRecDepth 100000 in
set_option maxHeartbeats 4000000 in
theorem q_day (C : wo_C p s m args meth c A D cL_law 7 RL ((cI, .int) :: (cZ, .boolean) :: (cJ, .long) :: tys) rt) (hXT : wo_XT A s s.heap) (hX : va_X bs L xs s s.heap) (hbl : bs < s.heap.size) (hbA : ¬ A bs) (hl : l.stackTraces = false) (hi : i + 4 ≤ L) (hL : L ≤ 2049) (hc : cells + 1 ≤ room_1.cells) (hs : slots + 6 ≤ room_1.slots) (h : RWc cI cZ a b k0 WA WB) (K : wo_K p l e s m args below meth c A D cells slots Q cI cZ cJ a b bs o i) : wo_W p l e room_1 s m args below meth c A D cells slots 7 Q 558 [some (.ref bs), some (.ref (a 0)), some (.ref (b 0)), some (.ref o), some (.int (nI i)), x5, x6] [] (WA ++ wo_o cJ o f :: WB) := by
  obtain ⟨r, WB2, hA, hB, hRel⟩ := r_day (l := l) (D := D) (cJ := cJ) (tys := tys) h
  obtain ⟨fsA, hfA⟩ := r_A h
  obtain ⟨fsB, hfB⟩ := r_B h
  refine x_aload_n C dL_law_558 rfl rfl ?_
  refine x_callVi C gv_L_129 (hA _) 0 (hfA _) rfl rfl rfl (Nat.le_of_ble_eq_true rfl) ⟨(Nat.le_of_ble_eq_true rfl), (Nat.le_of_ble_eq_true rfl)⟩ ⟨Nat.le_of_succ_le hc, Nat.le_trans (Nat.le_add_right _ 6) hs⟩ dL_law_559 ?_
  refine x_aload_n C dL_law_562 rfl rfl ?_
  refine x_perm w_perm ?_
  refine x_callVi C gv_L_132 (hB _) 0 (hfB _) rfl rfl rfl (Nat.le_of_ble_eq_true rfl) ⟨(Nat.le_of_ble_eq_true rfl), (Nat.le_of_ble_eq_true rfl)⟩ ⟨Nat.le_of_succ_le hc, Nat.le_trans (Nat.le_add_right _ 6) hs⟩ dL_law_563 ?_
  refine x_icmp_eq C (tgt := 1342) dL_law_566 (by decide) (fun _ => ?_) (fun z => absurd rfl z)
  refine x_perm w_perm.symm ?_
  exact K _ _ _ _ _ _ _ _ (Nat.le_add_right _ _) (Nat.le_add_right _ _) hRel
set_option maxRecDepth 100000 in
set_option maxHeartbeats 4000000 in
theorem q_weight (C : wo_C p s m args meth c A D cL_law 7 RL ((cI, .int) :: (cZ, .boolean) :: (cJ, .long) :: tys) rt) (hXT : wo_XT A s s.heap) (hX : va_X bs L xs s s.heap) (hbl : bs < s.heap.size) (hbA : ¬ A bs) (hl : l.stackTraces = false) (hi : i + 4 ≤ L) (hL : L ≤ 2049) (hc : cells + 1 ≤ room_1.cells) (hs : slots + 6 ≤ room_1.slots) (h : RWc cI cZ a b k0 WA WB) (K : wo_K p l e s m args below meth c A D cells slots Q cI cZ cJ a b bs o i) : wo_W p l e room_1 s m args below meth c A D cells slots 7 Q 571 [some (.ref bs), some (.ref (a 0)), some (.ref (b 0)), some (.ref o), some (.int (nI i)), x5, x6] [] (WA ++ wo_o cJ o f :: WB) := by
  obtain ⟨k, r, mc, ms, WA2, WB2, f2, hmc, hms, hA, hB, hv, hRel⟩ := s_weight (l := l) (D := D) (cJ := cJ) (tys := tys) hl (xs (i + 1)) (xs (i + 2)) o f h
  obtain ⟨fsB, hfB⟩ := r_B h
  refine x_aload_n C dL_law_571 rfl rfl ?_
  refine x_aload_n C dL_law_572 rfl rfl ?_
  refine x_iload C dL_law_573 rfl ?_
  refine x_iconst C (v := 1) dL_law_575 (by decide) ?_
  refine x_iadd C dL_law_576 ?_
  refine x_sld C hX hbl hbA (i + 1) (nI_add i 1) (by omega) hL dL_law_577 ?_
  refine x_aload_n C dL_law_578 rfl rfl ?_
  refine x_iload C dL_law_579 rfl ?_
  refine x_iconst C (v := 2) dL_law_581 (by decide) ?_
  refine x_iadd C dL_law_582 ?_
  refine x_sld C hX hbl hbA (i + 2) (nI_add i 2) (by omega) hL dL_law_583 ?_
  refine x_aload_n C dL_law_584 rfl rfl ?_
  refine x_callL C hXT gl_weight (hA _) rfl rfl (Nat.le_of_ble_eq_true rfl) ⟨(Nat.le_of_ble_eq_true rfl), (Nat.le_of_ble_eq_true rfl)⟩ ⟨Nat.le_trans (Nat.add_le_add_left hmc cells) hc, Nat.le_trans (Nat.add_le_add_left hms slots) hs⟩ dL_law_585 ?_
  refine x_istore C dL_law_588 (by decide) ?_
  refine x_aload_n C dL_law_590 rfl rfl ?_
  refine x_aload_n C dL_law_591 rfl rfl ?_
  refine x_iload C dL_law_592 rfl ?_
  refine x_iconst C (v := 1) dL_law_594 (by decide) ?_
  refine x_iadd C dL_law_595 ?_
  refine x_sld C hX hbl hbA (i + 1) (nI_add i 1) (by omega) hL dL_law_596 ?_
  refine x_aload_n C dL_law_597 rfl rfl ?_
  refine x_iload C dL_law_598 rfl ?_
  refine x_iconst C (v := 2) dL_law_600 (by decide) ?_
  refine x_iadd C dL_law_601 ?_
  refine x_sld C hX hbl hbA (i + 2) (nI_add i 2) (by omega) hL dL_law_602 ?_
  refine x_perm w_perm ?_
  refine x_callVSi C gv_L_135 (hB _) 0 (hfB _) rfl rfl rfl (Nat.le_of_ble_eq_true rfl) ⟨(Nat.le_of_ble_eq_true rfl), (Nat.le_of_ble_eq_true rfl)⟩ ⟨Nat.le_trans (Nat.add_le_add_left hmc cells) hc, Nat.le_trans (Nat.add_le_add_left hms slots) hs⟩ dL_law_603 (fun o1 o2 => ?_)
  have hT := hRel o1 o2
  obtain ⟨fsC, hfC⟩ := r_B hT
  refine x_istore C dL_law_606 (by decide) ?_
  refine x_aload_n C dL_law_608 rfl rfl ?_
  refine x_callVi C gv_L_92 (r_thrown hT _) 0 (hfC _) rfl rfl rfl (Nat.le_of_ble_eq_true rfl) ⟨(Nat.le_of_ble_eq_true rfl), (Nat.le_of_ble_eq_true rfl)⟩ ⟨Nat.le_trans (Nat.add_le_add_left hmc cells) hc, Nat.le_trans (Nat.add_le_add_left hms slots) hs⟩ dL_law_609 ?_
  refine x_iload C dL_law_612 rfl ?_
  refine x_icmp_eq C (tgt := 619) dL_law_614 (by decide) (fun _ => ?_) (fun z => absurd rfl z)
  refine x_perm w_perm.symm ?_
  refine x_iload C dL_law_619 rfl ?_
  refine x_if_ne C (tgt := 636) dL_law_621 (by decide) (fun z => ?_) (fun z => ?_)
  · refine x_goto C (tgt := 1342) dL_law_636 (by decide) ?_
    exact K _ _ _ _ _ _ _ _ (Nat.add_le_add_left hmc cells) (Nat.add_le_add_left hms slots) hT
  · have hk : k = 0 := z
    refine x_aload_n C dL_law_624 rfl rfl ?_
    refine x_iconst C (v := 0) dL_law_625 (by decide) ?_
    refine x_lald C WA2.length 2 0 w_at rfl rfl (by decide) (by decide) dL_law_626 ?_
    refine x_iload C dL_law_627 rfl ?_
    refine x_i2l C dL_law_629 ?_
    refine x_lcmp C dL_law_630 ?_
    refine x_top (cmp_eq (hv hk)) ?_
    refine x_if_eq C (tgt := 636) dL_law_631 (by decide) (fun _ => ?_) (fun z => absurd rfl z)
    refine x_goto C (tgt := 1342) dL_law_636 (by decide) ?_
    exact K _ _ _ _ _ _ _ _ (Nat.add_le_add_left hmc cells) (Nat.add_le_add_left hms slots) hT
set_option maxRecDepth 100000 in
set_option maxHeartbeats 4000000 in
theorem q_tilt (C : wo_C p s m args meth c A D cL_law 7 RL ((cI, .int) :: (cZ, .boolean) :: (cJ, .long) :: tys) rt) (hXT : wo_XT A s s.heap) (hX : va_X bs L xs s s.heap) (hbl : bs < s.heap.size) (hbA : ¬ A bs) (hl : l.stackTraces = false) (hi : i + 4 ≤ L) (hL : L ≤ 2049) (hc : cells + 1 ≤ room_1.cells) (hs : slots + 6 ≤ room_1.slots) (h : RWc cI cZ a b k0 WA WB) (K : wo_K p l e s m args below meth c A D cells slots Q cI cZ cJ a b bs o i) : wo_W p l e room_1 s m args below meth c A D cells slots 7 Q 639 [some (.ref bs), some (.ref (a 0)), some (.ref (b 0)), some (.ref o), some (.int (nI i)), x5, x6] [] (WA ++ wo_o cJ o f :: WB) := by
  obtain ⟨k, r, mc, ms, WA2, WB2, f2, hmc, hms, hA, hB, hv, hRel⟩ := s_tilt (l := l) (D := D) (cJ := cJ) (tys := tys) hl (xs (i + 1)) (xs (i + 2)) o f h
  obtain ⟨fsB, hfB⟩ := r_B h
  refine x_aload_n C dL_law_639 rfl rfl ?_
  refine x_aload_n C dL_law_640 rfl rfl ?_
  refine x_iload C dL_law_641 rfl ?_
  refine x_iconst C (v := 1) dL_law_643 (by decide) ?_
  refine x_iadd C dL_law_644 ?_
  refine x_sld C hX hbl hbA (i + 1) (nI_add i 1) (by omega) hL dL_law_645 ?_
  refine x_aload_n C dL_law_646 rfl rfl ?_
  refine x_iload C dL_law_647 rfl ?_
  refine x_iconst C (v := 2) dL_law_649 (by decide) ?_
  refine x_iadd C dL_law_650 ?_
  refine x_sld C hX hbl hbA (i + 2) (nI_add i 2) (by omega) hL dL_law_651 ?_
  refine x_aload_n C dL_law_652 rfl rfl ?_
  refine x_callL C hXT gl_tilt (hA _) rfl rfl (Nat.le_of_ble_eq_true rfl) ⟨(Nat.le_of_ble_eq_true rfl), (Nat.le_of_ble_eq_true rfl)⟩ ⟨Nat.le_trans (Nat.add_le_add_left hmc cells) hc, Nat.le_trans (Nat.add_le_add_left hms slots) hs⟩ dL_law_653 ?_
  refine x_istore C dL_law_656 (by decide) ?_
  refine x_aload_n C dL_law_658 rfl rfl ?_
  refine x_aload_n C dL_law_659 rfl rfl ?_
  refine x_iload C dL_law_660 rfl ?_
  refine x_iconst C (v := 1) dL_law_662 (by decide) ?_
  refine x_iadd C dL_law_663 ?_
  refine x_sld C hX hbl hbA (i + 1) (nI_add i 1) (by omega) hL dL_law_664 ?_
  refine x_aload_n C dL_law_665 rfl rfl ?_
  refine x_iload C dL_law_666 rfl ?_
  refine x_iconst C (v := 2) dL_law_668 (by decide) ?_
  refine x_iadd C dL_law_669 ?_
  refine x_sld C hX hbl hbA (i + 2) (nI_add i 2) (by omega) hL dL_law_670 ?_
  refine x_perm w_perm ?_
  refine x_callVSi C gv_L_138 (hB _) 0 (hfB _) rfl rfl rfl (Nat.le_of_ble_eq_true rfl) ⟨(Nat.le_of_ble_eq_true rfl), (Nat.le_of_ble_eq_true rfl)⟩ ⟨Nat.le_trans (Nat.add_le_add_left hmc cells) hc, Nat.le_trans (Nat.add_le_add_left hms slots) hs⟩ dL_law_671 (fun o1 o2 => ?_)
  have hT := hRel o1 o2
  obtain ⟨fsC, hfC⟩ := r_B hT
  refine x_istore C dL_law_674 (by decide) ?_
  refine x_aload_n C dL_law_676 rfl rfl ?_
  refine x_callVi C gv_L_92 (r_thrown hT _) 0 (hfC _) rfl rfl rfl (Nat.le_of_ble_eq_true rfl) ⟨(Nat.le_of_ble_eq_true rfl), (Nat.le_of_ble_eq_true rfl)⟩ ⟨Nat.le_trans (Nat.add_le_add_left hmc cells) hc, Nat.le_trans (Nat.add_le_add_left hms slots) hs⟩ dL_law_677 ?_
  refine x_iload C dL_law_680 rfl ?_
  refine x_icmp_eq C (tgt := 687) dL_law_682 (by decide) (fun _ => ?_) (fun z => absurd rfl z)
  refine x_perm w_perm.symm ?_
  refine x_iload C dL_law_687 rfl ?_
  refine x_if_ne C (tgt := 704) dL_law_689 (by decide) (fun z => ?_) (fun z => ?_)
  · refine x_goto C (tgt := 1342) dL_law_704 (by decide) ?_
    exact K _ _ _ _ _ _ _ _ (Nat.add_le_add_left hmc cells) (Nat.add_le_add_left hms slots) hT
  · have hk : k = 0 := z
    refine x_aload_n C dL_law_692 rfl rfl ?_
    refine x_iconst C (v := 0) dL_law_693 (by decide) ?_
    refine x_lald C WA2.length 2 0 w_at rfl rfl (by decide) (by decide) dL_law_694 ?_
    refine x_iload C dL_law_695 rfl ?_
    refine x_i2l C dL_law_697 ?_
    refine x_lcmp C dL_law_698 ?_
    refine x_top (cmp_eq (hv hk)) ?_
    refine x_if_eq C (tgt := 704) dL_law_699 (by decide) (fun _ => ?_) (fun z => absurd rfl z)
    refine x_goto C (tgt := 1342) dL_law_704 (by decide) ?_
    exact K _ _ _ _ _ _ _ _ (Nat.add_le_add_left hmc cells) (Nat.add_le_add_left hms slots) hT
set_option maxRecDepth 100000 in
set_option maxHeartbeats 4000000 in
theorem q_best (C : wo_C p s m args meth c A D cL_law 7 RL ((cI, .int) :: (cZ, .boolean) :: (cJ, .long) :: tys) rt) (hXT : wo_XT A s s.heap) (hX : va_X bs L xs s s.heap) (hbl : bs < s.heap.size) (hbA : ¬ A bs) (hl : l.stackTraces = false) (hi : i + 4 ≤ L) (hL : L ≤ 2049) (hc : cells + 1 ≤ room_1.cells) (hs : slots + 6 ≤ room_1.slots) (h : RWc cI cZ a b k0 WA WB) (K : wo_K p l e s m args below meth c A D cells slots Q cI cZ cJ a b bs o i) : wo_W p l e room_1 s m args below meth c A D cells slots 7 Q 707 [some (.ref bs), some (.ref (a 0)), some (.ref (b 0)), some (.ref o), some (.int (nI i)), x5, x6] [] (WA ++ wo_o cJ o f :: WB) := by
  obtain ⟨k, r, mc, ms, WA2, WB2, f2, hmc, hms, hA, hB, hv, hRel⟩ := s_best (l := l) (D := D) (cJ := cJ) (tys := tys) hl (xs (i + 1)) o f h
  obtain ⟨fsB, hfB⟩ := r_B h
  refine x_aload_n C dL_law_707 rfl rfl ?_
  refine x_aload_n C dL_law_708 rfl rfl ?_
  refine x_iload C dL_law_709 rfl ?_
  refine x_iconst C (v := 1) dL_law_711 (by decide) ?_
  refine x_iadd C dL_law_712 ?_
  refine x_sld C hX hbl hbA (i + 1) (nI_add i 1) (by omega) hL dL_law_713 ?_
  refine x_aload_n C dL_law_714 rfl rfl ?_
  refine x_callL C hXT gl_best (hA _) rfl rfl (Nat.le_of_ble_eq_true rfl) ⟨(Nat.le_of_ble_eq_true rfl), (Nat.le_of_ble_eq_true rfl)⟩ ⟨Nat.le_trans (Nat.add_le_add_left hmc cells) hc, Nat.le_trans (Nat.add_le_add_left hms slots) hs⟩ dL_law_715 ?_
  refine x_istore C dL_law_718 (by decide) ?_
  refine x_aload_n C dL_law_720 rfl rfl ?_
  refine x_aload_n C dL_law_721 rfl rfl ?_
  refine x_iload C dL_law_722 rfl ?_
  refine x_iconst C (v := 1) dL_law_724 (by decide) ?_
  refine x_iadd C dL_law_725 ?_
  refine x_sld C hX hbl hbA (i + 1) (nI_add i 1) (by omega) hL dL_law_726 ?_
  refine x_perm w_perm ?_
  refine x_callVSi C gv_L_142 (hB _) 0 (hfB _) rfl rfl rfl (Nat.le_of_ble_eq_true rfl) ⟨(Nat.le_of_ble_eq_true rfl), (Nat.le_of_ble_eq_true rfl)⟩ ⟨Nat.le_trans (Nat.add_le_add_left hmc cells) hc, Nat.le_trans (Nat.add_le_add_left hms slots) hs⟩ dL_law_727 (fun o1 o2 => ?_)
  have hT := hRel o1 o2
  obtain ⟨fsC, hfC⟩ := r_B hT
  refine x_istore C dL_law_730 (by decide) ?_
  refine x_aload_n C dL_law_732 rfl rfl ?_
  refine x_callVi C gv_L_92 (r_thrown hT _) 0 (hfC _) rfl rfl rfl (Nat.le_of_ble_eq_true rfl) ⟨(Nat.le_of_ble_eq_true rfl), (Nat.le_of_ble_eq_true rfl)⟩ ⟨Nat.le_trans (Nat.add_le_add_left hmc cells) hc, Nat.le_trans (Nat.add_le_add_left hms slots) hs⟩ dL_law_733 ?_
  refine x_iload C dL_law_736 rfl ?_
  refine x_icmp_eq C (tgt := 743) dL_law_738 (by decide) (fun _ => ?_) (fun z => absurd rfl z)
  refine x_perm w_perm.symm ?_
  refine x_iload C dL_law_743 rfl ?_
  refine x_if_ne C (tgt := 760) dL_law_745 (by decide) (fun z => ?_) (fun z => ?_)
  · refine x_goto C (tgt := 1342) dL_law_760 (by decide) ?_
    exact K _ _ _ _ _ _ _ _ (Nat.add_le_add_left hmc cells) (Nat.add_le_add_left hms slots) hT
  · have hk : k = 0 := z
    refine x_aload_n C dL_law_748 rfl rfl ?_
    refine x_iconst C (v := 0) dL_law_749 (by decide) ?_
    refine x_lald C WA2.length 2 0 w_at rfl rfl (by decide) (by decide) dL_law_750 ?_
    refine x_iload C dL_law_751 rfl ?_
    refine x_i2l C dL_law_753 ?_
    refine x_lcmp C dL_law_754 ?_
    refine x_top (cmp_eq (hv hk)) ?_
    refine x_if_eq C (tgt := 760) dL_law_755 (by decide) (fun _ => ?_) (fun z => absurd rfl z)
    refine x_goto C (tgt := 1342) dL_law_760 (by decide) ?_
    exact K _ _ _ _ _ _ _ _ (Nat.add_le_add_left hmc cells) (Nat.add_le_add_left hms slots) hT
set_option maxRecDepth 100000 in
set_option maxHeartbeats 4000000 in
theorem q_place (C : wo_C p s m args meth c A D cL_law 7 RL ((cI, .int) :: (cZ, .boolean) :: (cJ, .long) :: tys) rt) (hXT : wo_XT A s s.heap) (hX : va_X bs L xs s s.heap) (hbl : bs < s.heap.size) (hbA : ¬ A bs) (hl : l.stackTraces = false) (hi : i + 4 ≤ L) (hL : L ≤ 2049) (hc : cells + 1 ≤ room_1.cells) (hs : slots + 6 ≤ room_1.slots) (h : RWc cI cZ a b k0 WA WB) (K : wo_K p l e s m args below meth c A D cells slots Q cI cZ cJ a b bs o i) : wo_W p l e room_1 s m args below meth c A D cells slots 7 Q 763 [some (.ref bs), some (.ref (a 0)), some (.ref (b 0)), some (.ref o), some (.int (nI i)), x5, x6] [] (WA ++ wo_o cJ o f :: WB) := by
  obtain ⟨k, r, mc, ms, WA2, WB2, f2, hmc, hms, hA, hB, hv, hRel⟩ := s_place (l := l) (D := D) (cJ := cJ) (tys := tys) hl (xs (i + 1)) o f h
  obtain ⟨fsB, hfB⟩ := r_B h
  refine x_aload_n C dL_law_763 rfl rfl ?_
  refine x_aload_n C dL_law_764 rfl rfl ?_
  refine x_iload C dL_law_765 rfl ?_
  refine x_iconst C (v := 1) dL_law_767 (by decide) ?_
  refine x_iadd C dL_law_768 ?_
  refine x_sld C hX hbl hbA (i + 1) (nI_add i 1) (by omega) hL dL_law_769 ?_
  refine x_aload_n C dL_law_770 rfl rfl ?_
  refine x_callL C hXT gl_place (hA _) rfl rfl (Nat.le_of_ble_eq_true rfl) ⟨(Nat.le_of_ble_eq_true rfl), (Nat.le_of_ble_eq_true rfl)⟩ ⟨Nat.le_trans (Nat.add_le_add_left hmc cells) hc, Nat.le_trans (Nat.add_le_add_left hms slots) hs⟩ dL_law_771 ?_
  refine x_istore C dL_law_774 (by decide) ?_
  refine x_aload_n C dL_law_776 rfl rfl ?_
  refine x_aload_n C dL_law_777 rfl rfl ?_
  refine x_iload C dL_law_778 rfl ?_
  refine x_iconst C (v := 1) dL_law_780 (by decide) ?_
  refine x_iadd C dL_law_781 ?_
  refine x_sld C hX hbl hbA (i + 1) (nI_add i 1) (by omega) hL dL_law_782 ?_
  refine x_perm w_perm ?_
  refine x_callVSi C gv_L_145 (hB _) 0 (hfB _) rfl rfl rfl (Nat.le_of_ble_eq_true rfl) ⟨(Nat.le_of_ble_eq_true rfl), (Nat.le_of_ble_eq_true rfl)⟩ ⟨Nat.le_trans (Nat.add_le_add_left hmc cells) hc, Nat.le_trans (Nat.add_le_add_left hms slots) hs⟩ dL_law_783 (fun o1 o2 => ?_)
  have hT := hRel o1 o2
  obtain ⟨fsC, hfC⟩ := r_B hT
  refine x_istore C dL_law_786 (by decide) ?_
  refine x_aload_n C dL_law_788 rfl rfl ?_
  refine x_callVi C gv_L_92 (r_thrown hT _) 0 (hfC _) rfl rfl rfl (Nat.le_of_ble_eq_true rfl) ⟨(Nat.le_of_ble_eq_true rfl), (Nat.le_of_ble_eq_true rfl)⟩ ⟨Nat.le_trans (Nat.add_le_add_left hmc cells) hc, Nat.le_trans (Nat.add_le_add_left hms slots) hs⟩ dL_law_789 ?_
  refine x_iload C dL_law_792 rfl ?_
  refine x_icmp_eq C (tgt := 799) dL_law_794 (by decide) (fun _ => ?_) (fun z => absurd rfl z)
  refine x_perm w_perm.symm ?_
  refine x_iload C dL_law_799 rfl ?_
  refine x_if_ne C (tgt := 816) dL_law_801 (by decide) (fun z => ?_) (fun z => ?_)
  · refine x_goto C (tgt := 1342) dL_law_816 (by decide) ?_
    exact K _ _ _ _ _ _ _ _ (Nat.add_le_add_left hmc cells) (Nat.add_le_add_left hms slots) hT
  · have hk : k = 0 := z
    refine x_aload_n C dL_law_804 rfl rfl ?_
    refine x_iconst C (v := 0) dL_law_805 (by decide) ?_
    refine x_lald C WA2.length 2 0 w_at rfl rfl (by decide) (by decide) dL_law_806 ?_
    refine x_iload C dL_law_807 rfl ?_
    refine x_i2l C dL_law_809 ?_
    refine x_lcmp C dL_law_810 ?_
    refine x_top (cmp_eq (hv hk)) ?_
    refine x_if_eq C (tgt := 816) dL_law_811 (by decide) (fun _ => ?_) (fun z => absurd rfl z)
    refine x_goto C (tgt := 1342) dL_law_816 (by decide) ?_
    exact K _ _ _ _ _ _ _ _ (Nat.add_le_add_left hmc cells) (Nat.add_le_add_left hms slots) hT
set_option maxRecDepth 100000 in
set_option maxHeartbeats 4000000 in
theorem q_wins (C : wo_C p s m args meth c A D cL_law 7 RL ((cI, .int) :: (cZ, .boolean) :: (cJ, .long) :: tys) rt) (hXT : wo_XT A s s.heap) (hX : va_X bs L xs s s.heap) (hbl : bs < s.heap.size) (hbA : ¬ A bs) (hl : l.stackTraces = false) (hi : i + 4 ≤ L) (hL : L ≤ 2049) (hc : cells + 1 ≤ room_1.cells) (hs : slots + 6 ≤ room_1.slots) (h : RWc cI cZ a b k0 WA WB) (K : wo_K p l e s m args below meth c A D cells slots Q cI cZ cJ a b bs o i) : wo_W p l e room_1 s m args below meth c A D cells slots 7 Q 819 [some (.ref bs), some (.ref (a 0)), some (.ref (b 0)), some (.ref o), some (.int (nI i)), x5, x6] [] (WA ++ wo_o cJ o f :: WB) := by
  obtain ⟨k, r, mc, ms, WA2, WB2, f2, hmc, hms, hA, hB, hv, hRel⟩ := s_wins (l := l) (D := D) (cJ := cJ) (tys := tys) hl (xs (i + 1)) o f h
  obtain ⟨fsB, hfB⟩ := r_B h
  refine x_aload_n C dL_law_819 rfl rfl ?_
  refine x_aload_n C dL_law_820 rfl rfl ?_
  refine x_iload C dL_law_821 rfl ?_
  refine x_iconst C (v := 1) dL_law_823 (by decide) ?_
  refine x_iadd C dL_law_824 ?_
  refine x_sld C hX hbl hbA (i + 1) (nI_add i 1) (by omega) hL dL_law_825 ?_
  refine x_aload_n C dL_law_826 rfl rfl ?_
  refine x_callL C hXT gl_wins (hA _) rfl rfl (Nat.le_of_ble_eq_true rfl) ⟨(Nat.le_of_ble_eq_true rfl), (Nat.le_of_ble_eq_true rfl)⟩ ⟨Nat.le_trans (Nat.add_le_add_left hmc cells) hc, Nat.le_trans (Nat.add_le_add_left hms slots) hs⟩ dL_law_827 ?_
  refine x_istore C dL_law_830 (by decide) ?_
  refine x_aload_n C dL_law_832 rfl rfl ?_
  refine x_aload_n C dL_law_833 rfl rfl ?_
  refine x_iload C dL_law_834 rfl ?_
  refine x_iconst C (v := 1) dL_law_836 (by decide) ?_
  refine x_iadd C dL_law_837 ?_
  refine x_sld C hX hbl hbA (i + 1) (nI_add i 1) (by omega) hL dL_law_838 ?_
  refine x_perm w_perm ?_
  refine x_callVSi C gv_L_148 (hB _) 0 (hfB _) rfl rfl rfl (Nat.le_of_ble_eq_true rfl) ⟨(Nat.le_of_ble_eq_true rfl), (Nat.le_of_ble_eq_true rfl)⟩ ⟨Nat.le_trans (Nat.add_le_add_left hmc cells) hc, Nat.le_trans (Nat.add_le_add_left hms slots) hs⟩ dL_law_839 (fun o1 o2 => ?_)
  have hT := hRel o1 o2
  obtain ⟨fsC, hfC⟩ := r_B hT
  refine x_istore C dL_law_842 (by decide) ?_
  refine x_aload_n C dL_law_844 rfl rfl ?_
  refine x_callVi C gv_L_92 (r_thrown hT _) 0 (hfC _) rfl rfl rfl (Nat.le_of_ble_eq_true rfl) ⟨(Nat.le_of_ble_eq_true rfl), (Nat.le_of_ble_eq_true rfl)⟩ ⟨Nat.le_trans (Nat.add_le_add_left hmc cells) hc, Nat.le_trans (Nat.add_le_add_left hms slots) hs⟩ dL_law_845 ?_
  refine x_iload C dL_law_848 rfl ?_
  refine x_icmp_eq C (tgt := 855) dL_law_850 (by decide) (fun _ => ?_) (fun z => absurd rfl z)
  refine x_perm w_perm.symm ?_
  refine x_iload C dL_law_855 rfl ?_
  refine x_if_ne C (tgt := 879) dL_law_857 (by decide) (fun z => ?_) (fun z => ?_)
  · refine x_goto C (tgt := 1342) dL_law_879 (by decide) ?_
    exact K _ _ _ _ _ _ _ _ (Nat.add_le_add_left hmc cells) (Nat.add_le_add_left hms slots) hT
  · have hk : k = 0 := z
    have fj : ∀ v : Int64, v = (bz r).toInt64 → wo_W p l e room_1 s m args below meth c A D (cells + mc) (slots + ms) 7 Q 873 [some (.ref bs), some (.ref (a 0)), some (.ref (b 0)), some (.ref o), some (.int (nI i)), some (.int k), some (.int (bz r))] (.long v :: .long (f2 0) :: []) (WA2 ++ wo_o cJ o f2 :: WB2 o1 o2) := by
      intro v hvv
      subst hvv
      refine x_lcmp C dL_law_873 ?_
      refine x_top (cmp_eq (hv hk)) ?_
      refine x_if_eq C (tgt := 879) dL_law_874 (by decide) (fun _ => ?_) (fun z => absurd rfl z)
      refine x_goto C (tgt := 1342) dL_law_879 (by decide) ?_
      exact K _ _ _ _ _ _ _ _ (Nat.add_le_add_left hmc cells) (Nat.add_le_add_left hms slots) hT
    refine x_aload_n C dL_law_860 rfl rfl ?_
    refine x_iconst C (v := 0) dL_law_861 (by decide) ?_
    refine x_lald C WA2.length 2 0 w_at rfl rfl (by decide) (by decide) dL_law_862 ?_
    refine x_iload C dL_law_863 rfl ?_
    refine x_if_eq C (tgt := 872) dL_law_865 (by decide) (fun y => ?_) (fun y => ?_)
    · refine x_lconst C (v := 0) dL_law_872 (by decide) ?_
      exact fj 0 (by rw [y]; rfl)
    · refine x_lconst C (v := 1) dL_law_868 (by decide) ?_
      refine x_goto C (tgt := 873) dL_law_869 (by decide) ?_
      exact fj 1 (by cases r with | false => exact absurd rfl y | true => rfl)
set_option maxRecDepth 100000 in
set_option maxHeartbeats 4000000 in
theorem q_count (C : wo_C p s m args meth c A D cL_law 7 RL ((cI, .int) :: (cZ, .boolean) :: (cJ, .long) :: tys) rt) (hXT : wo_XT A s s.heap) (hX : va_X bs L xs s s.heap) (hbl : bs < s.heap.size) (hbA : ¬ A bs) (hl : l.stackTraces = false) (hi : i + 4 ≤ L) (hL : L ≤ 2049) (hc : cells + 1 ≤ room_1.cells) (hs : slots + 6 ≤ room_1.slots) (h : RWc cI cZ a b k0 WA WB) (K : wo_K p l e s m args below meth c A D cells slots Q cI cZ cJ a b bs o i) : wo_W p l e room_1 s m args below meth c A D cells slots 7 Q 882 [some (.ref bs), some (.ref (a 0)), some (.ref (b 0)), some (.ref o), some (.int (nI i)), x5, x6] [] (WA ++ wo_o cJ o f :: WB) := by
  obtain ⟨k, r, mc, ms, WA2, WB2, f2, hmc, hms, hA, hB, hv, hRel⟩ := s_count (l := l) (D := D) (cJ := cJ) (tys := tys) hl (xs (i + 1)) (xs (i + 2)) (xs (i + 3)) o f h
  obtain ⟨fsB, hfB⟩ := r_B h
  refine x_aload_n C dL_law_882 rfl rfl ?_
  refine x_aload_n C dL_law_883 rfl rfl ?_
  refine x_iload C dL_law_884 rfl ?_
  refine x_iconst C (v := 1) dL_law_886 (by decide) ?_
  refine x_iadd C dL_law_887 ?_
  refine x_sld C hX hbl hbA (i + 1) (nI_add i 1) (by omega) hL dL_law_888 ?_
  refine x_aload_n C dL_law_889 rfl rfl ?_
  refine x_iload C dL_law_890 rfl ?_
  refine x_iconst C (v := 2) dL_law_892 (by decide) ?_
  refine x_iadd C dL_law_893 ?_
  refine x_sld C hX hbl hbA (i + 2) (nI_add i 2) (by omega) hL dL_law_894 ?_
  refine x_aload_n C dL_law_895 rfl rfl ?_
  refine x_iload C dL_law_896 rfl ?_
  refine x_iconst C (v := 3) dL_law_898 (by decide) ?_
  refine x_iadd C dL_law_899 ?_
  refine x_sld C hX hbl hbA (i + 3) (nI_add i 3) (by omega) hL dL_law_900 ?_
  refine x_aload_n C dL_law_901 rfl rfl ?_
  refine x_callL C hXT gl_count (hA _) rfl rfl (Nat.le_of_ble_eq_true rfl) ⟨(Nat.le_of_ble_eq_true rfl), (Nat.le_of_ble_eq_true rfl)⟩ ⟨Nat.le_trans (Nat.add_le_add_left hmc cells) hc, Nat.le_trans (Nat.add_le_add_left hms slots) hs⟩ dL_law_902 ?_
  refine x_istore C dL_law_905 (by decide) ?_
  refine x_aload_n C dL_law_907 rfl rfl ?_
  refine x_aload_n C dL_law_908 rfl rfl ?_
  refine x_iload C dL_law_909 rfl ?_
  refine x_iconst C (v := 1) dL_law_911 (by decide) ?_
  refine x_iadd C dL_law_912 ?_
  refine x_sld C hX hbl hbA (i + 1) (nI_add i 1) (by omega) hL dL_law_913 ?_
  refine x_aload_n C dL_law_914 rfl rfl ?_
  refine x_iload C dL_law_915 rfl ?_
  refine x_iconst C (v := 2) dL_law_917 (by decide) ?_
  refine x_iadd C dL_law_918 ?_
  refine x_sld C hX hbl hbA (i + 2) (nI_add i 2) (by omega) hL dL_law_919 ?_
  refine x_aload_n C dL_law_920 rfl rfl ?_
  refine x_iload C dL_law_921 rfl ?_
  refine x_iconst C (v := 3) dL_law_923 (by decide) ?_
  refine x_iadd C dL_law_924 ?_
  refine x_sld C hX hbl hbA (i + 3) (nI_add i 3) (by omega) hL dL_law_925 ?_
  refine x_perm w_perm ?_
  refine x_callVSi C gv_L_152 (hB _) 0 (hfB _) rfl rfl rfl (Nat.le_of_ble_eq_true rfl) ⟨(Nat.le_of_ble_eq_true rfl), (Nat.le_of_ble_eq_true rfl)⟩ ⟨Nat.le_trans (Nat.add_le_add_left hmc cells) hc, Nat.le_trans (Nat.add_le_add_left hms slots) hs⟩ dL_law_926 (fun o1 o2 => ?_)
  have hT := hRel o1 o2
  obtain ⟨fsC, hfC⟩ := r_B hT
  refine x_istore C dL_law_929 (by decide) ?_
  refine x_aload_n C dL_law_931 rfl rfl ?_
  refine x_callVi C gv_L_92 (r_thrown hT _) 0 (hfC _) rfl rfl rfl (Nat.le_of_ble_eq_true rfl) ⟨(Nat.le_of_ble_eq_true rfl), (Nat.le_of_ble_eq_true rfl)⟩ ⟨Nat.le_trans (Nat.add_le_add_left hmc cells) hc, Nat.le_trans (Nat.add_le_add_left hms slots) hs⟩ dL_law_932 ?_
  refine x_iload C dL_law_935 rfl ?_
  refine x_icmp_eq C (tgt := 942) dL_law_937 (by decide) (fun _ => ?_) (fun z => absurd rfl z)
  refine x_perm w_perm.symm ?_
  refine x_iload C dL_law_942 rfl ?_
  refine x_if_ne C (tgt := 959) dL_law_944 (by decide) (fun z => ?_) (fun z => ?_)
  · refine x_goto C (tgt := 1342) dL_law_959 (by decide) ?_
    exact K _ _ _ _ _ _ _ _ (Nat.add_le_add_left hmc cells) (Nat.add_le_add_left hms slots) hT
  · have hk : k = 0 := z
    refine x_aload_n C dL_law_947 rfl rfl ?_
    refine x_iconst C (v := 0) dL_law_948 (by decide) ?_
    refine x_lald C WA2.length 2 0 w_at rfl rfl (by decide) (by decide) dL_law_949 ?_
    refine x_iload C dL_law_950 rfl ?_
    refine x_i2l C dL_law_952 ?_
    refine x_lcmp C dL_law_953 ?_
    refine x_top (cmp_eq (hv hk)) ?_
    refine x_if_eq C (tgt := 959) dL_law_954 (by decide) (fun _ => ?_) (fun z => absurd rfl z)
    refine x_goto C (tgt := 1342) dL_law_959 (by decide) ?_
    exact K _ _ _ _ _ _ _ _ (Nat.add_le_add_left hmc cells) (Nat.add_le_add_left hms slots) hT
set_option maxRecDepth 100000 in
set_option maxHeartbeats 4000000 in
theorem q_first (C : wo_C p s m args meth c A D cL_law 7 RL ((cI, .int) :: (cZ, .boolean) :: (cJ, .long) :: tys) rt) (hXT : wo_XT A s s.heap) (hX : va_X bs L xs s s.heap) (hbl : bs < s.heap.size) (hbA : ¬ A bs) (hl : l.stackTraces = false) (hi : i + 4 ≤ L) (hL : L ≤ 2049) (hc : cells + 1 ≤ room_1.cells) (hs : slots + 6 ≤ room_1.slots) (h : RWc cI cZ a b k0 WA WB) (K : wo_K p l e s m args below meth c A D cells slots Q cI cZ cJ a b bs o i) : wo_W p l e room_1 s m args below meth c A D cells slots 7 Q 962 [some (.ref bs), some (.ref (a 0)), some (.ref (b 0)), some (.ref o), some (.int (nI i)), x5, x6] [] (WA ++ wo_o cJ o f :: WB) := by
  obtain ⟨k, r, mc, ms, WA2, WB2, f2, hmc, hms, hA, hB, hv, hRel⟩ := s_first (l := l) (D := D) (cJ := cJ) (tys := tys) hl (xs (i + 1)) (xs (i + 2)) (xs (i + 3)) o f h
  obtain ⟨fsB, hfB⟩ := r_B h
  refine x_aload_n C dL_law_962 rfl rfl ?_
  refine x_aload_n C dL_law_963 rfl rfl ?_
  refine x_iload C dL_law_964 rfl ?_
  refine x_iconst C (v := 1) dL_law_966 (by decide) ?_
  refine x_iadd C dL_law_967 ?_
  refine x_sld C hX hbl hbA (i + 1) (nI_add i 1) (by omega) hL dL_law_968 ?_
  refine x_aload_n C dL_law_969 rfl rfl ?_
  refine x_iload C dL_law_970 rfl ?_
  refine x_iconst C (v := 2) dL_law_972 (by decide) ?_
  refine x_iadd C dL_law_973 ?_
  refine x_sld C hX hbl hbA (i + 2) (nI_add i 2) (by omega) hL dL_law_974 ?_
  refine x_aload_n C dL_law_975 rfl rfl ?_
  refine x_iload C dL_law_976 rfl ?_
  refine x_iconst C (v := 3) dL_law_978 (by decide) ?_
  refine x_iadd C dL_law_979 ?_
  refine x_sld C hX hbl hbA (i + 3) (nI_add i 3) (by omega) hL dL_law_980 ?_
  refine x_aload_n C dL_law_981 rfl rfl ?_
  refine x_callL C hXT gl_first (hA _) rfl rfl (Nat.le_of_ble_eq_true rfl) ⟨(Nat.le_of_ble_eq_true rfl), (Nat.le_of_ble_eq_true rfl)⟩ ⟨Nat.le_trans (Nat.add_le_add_left hmc cells) hc, Nat.le_trans (Nat.add_le_add_left hms slots) hs⟩ dL_law_982 ?_
  refine x_istore C dL_law_985 (by decide) ?_
  refine x_aload_n C dL_law_987 rfl rfl ?_
  refine x_aload_n C dL_law_988 rfl rfl ?_
  refine x_iload C dL_law_989 rfl ?_
  refine x_iconst C (v := 1) dL_law_991 (by decide) ?_
  refine x_iadd C dL_law_992 ?_
  refine x_sld C hX hbl hbA (i + 1) (nI_add i 1) (by omega) hL dL_law_993 ?_
  refine x_aload_n C dL_law_994 rfl rfl ?_
  refine x_iload C dL_law_995 rfl ?_
  refine x_iconst C (v := 2) dL_law_997 (by decide) ?_
  refine x_iadd C dL_law_998 ?_
  refine x_sld C hX hbl hbA (i + 2) (nI_add i 2) (by omega) hL dL_law_999 ?_
  refine x_aload_n C dL_law_1000 rfl rfl ?_
  refine x_iload C dL_law_1001 rfl ?_
  refine x_iconst C (v := 3) dL_law_1003 (by decide) ?_
  refine x_iadd C dL_law_1004 ?_
  refine x_sld C hX hbl hbA (i + 3) (nI_add i 3) (by omega) hL dL_law_1005 ?_
  refine x_perm w_perm ?_
  refine x_callVSi C gv_L_155 (hB _) 0 (hfB _) rfl rfl rfl (Nat.le_of_ble_eq_true rfl) ⟨(Nat.le_of_ble_eq_true rfl), (Nat.le_of_ble_eq_true rfl)⟩ ⟨Nat.le_trans (Nat.add_le_add_left hmc cells) hc, Nat.le_trans (Nat.add_le_add_left hms slots) hs⟩ dL_law_1006 (fun o1 o2 => ?_)
  have hT := hRel o1 o2
  obtain ⟨fsC, hfC⟩ := r_B hT
  refine x_istore C dL_law_1009 (by decide) ?_
  refine x_aload_n C dL_law_1011 rfl rfl ?_
  refine x_callVi C gv_L_92 (r_thrown hT _) 0 (hfC _) rfl rfl rfl (Nat.le_of_ble_eq_true rfl) ⟨(Nat.le_of_ble_eq_true rfl), (Nat.le_of_ble_eq_true rfl)⟩ ⟨Nat.le_trans (Nat.add_le_add_left hmc cells) hc, Nat.le_trans (Nat.add_le_add_left hms slots) hs⟩ dL_law_1012 ?_
  refine x_iload C dL_law_1015 rfl ?_
  refine x_icmp_eq C (tgt := 1022) dL_law_1017 (by decide) (fun _ => ?_) (fun z => absurd rfl z)
  refine x_perm w_perm.symm ?_
  refine x_iload C dL_law_1022 rfl ?_
  refine x_if_ne C (tgt := 1039) dL_law_1024 (by decide) (fun z => ?_) (fun z => ?_)
  · refine x_goto C (tgt := 1342) dL_law_1039 (by decide) ?_
    exact K _ _ _ _ _ _ _ _ (Nat.add_le_add_left hmc cells) (Nat.add_le_add_left hms slots) hT
  · have hk : k = 0 := z
    refine x_aload_n C dL_law_1027 rfl rfl ?_
    refine x_iconst C (v := 0) dL_law_1028 (by decide) ?_
    refine x_lald C WA2.length 2 0 w_at rfl rfl (by decide) (by decide) dL_law_1029 ?_
    refine x_iload C dL_law_1030 rfl ?_
    refine x_i2l C dL_law_1032 ?_
    refine x_lcmp C dL_law_1033 ?_
    refine x_top (cmp_eq (hv hk)) ?_
    refine x_if_eq C (tgt := 1039) dL_law_1034 (by decide) (fun _ => ?_) (fun z => absurd rfl z)
    refine x_goto C (tgt := 1342) dL_law_1039 (by decide) ?_
    exact K _ _ _ _ _ _ _ _ (Nat.add_le_add_left hmc cells) (Nat.add_le_add_left hms slots) hT
set_option maxRecDepth 100000 in
set_option maxHeartbeats 4000000 in
theorem q_lamps (C : wo_C p s m args meth c A D cL_law 7 RL ((cI, .int) :: (cZ, .boolean) :: (cJ, .long) :: tys) rt) (hXT : wo_XT A s s.heap) (hX : va_X bs L xs s s.heap) (hbl : bs < s.heap.size) (hbA : ¬ A bs) (hl : l.stackTraces = false) (hi : i + 4 ≤ L) (hL : L ≤ 2049) (hc : cells + 1 ≤ room_1.cells) (hs : slots + 6 ≤ room_1.slots) (h : RWc cI cZ a b k0 WA WB) (K : wo_K p l e s m args below meth c A D cells slots Q cI cZ cJ a b bs o i) : wo_W p l e room_1 s m args below meth c A D cells slots 7 Q 1042 [some (.ref bs), some (.ref (a 0)), some (.ref (b 0)), some (.ref o), some (.int (nI i)), x5, x6] [] (WA ++ wo_o cJ o f :: WB) := by
  obtain ⟨k, r, mc, ms, WA2, WB2, f2, hmc, hms, hA, hB, hv, hRel⟩ := s_lamps (l := l) (D := D) (cJ := cJ) (tys := tys) hl (xs (i + 1)) (xs (i + 2)) (xs (i + 3)) o f h
  obtain ⟨fsB, hfB⟩ := r_B h
  refine x_aload_n C dL_law_1042 rfl rfl ?_
  refine x_aload_n C dL_law_1043 rfl rfl ?_
  refine x_iload C dL_law_1044 rfl ?_
  refine x_iconst C (v := 1) dL_law_1046 (by decide) ?_
  refine x_iadd C dL_law_1047 ?_
  refine x_sld C hX hbl hbA (i + 1) (nI_add i 1) (by omega) hL dL_law_1048 ?_
  refine x_aload_n C dL_law_1049 rfl rfl ?_
  refine x_iload C dL_law_1050 rfl ?_
  refine x_iconst C (v := 2) dL_law_1052 (by decide) ?_
  refine x_iadd C dL_law_1053 ?_
  refine x_sld C hX hbl hbA (i + 2) (nI_add i 2) (by omega) hL dL_law_1054 ?_
  refine x_aload_n C dL_law_1055 rfl rfl ?_
  refine x_iload C dL_law_1056 rfl ?_
  refine x_iconst C (v := 3) dL_law_1058 (by decide) ?_
  refine x_iadd C dL_law_1059 ?_
  refine x_sld C hX hbl hbA (i + 3) (nI_add i 3) (by omega) hL dL_law_1060 ?_
  refine x_aload_n C dL_law_1061 rfl rfl ?_
  refine x_callL C hXT gl_lamps (hA _) rfl rfl (Nat.le_of_ble_eq_true rfl) ⟨(Nat.le_of_ble_eq_true rfl), (Nat.le_of_ble_eq_true rfl)⟩ ⟨Nat.le_trans (Nat.add_le_add_left hmc cells) hc, Nat.le_trans (Nat.add_le_add_left hms slots) hs⟩ dL_law_1062 ?_
  refine x_istore C dL_law_1065 (by decide) ?_
  refine x_aload_n C dL_law_1067 rfl rfl ?_
  refine x_aload_n C dL_law_1068 rfl rfl ?_
  refine x_iload C dL_law_1069 rfl ?_
  refine x_iconst C (v := 1) dL_law_1071 (by decide) ?_
  refine x_iadd C dL_law_1072 ?_
  refine x_sld C hX hbl hbA (i + 1) (nI_add i 1) (by omega) hL dL_law_1073 ?_
  refine x_aload_n C dL_law_1074 rfl rfl ?_
  refine x_iload C dL_law_1075 rfl ?_
  refine x_iconst C (v := 2) dL_law_1077 (by decide) ?_
  refine x_iadd C dL_law_1078 ?_
  refine x_sld C hX hbl hbA (i + 2) (nI_add i 2) (by omega) hL dL_law_1079 ?_
  refine x_aload_n C dL_law_1080 rfl rfl ?_
  refine x_iload C dL_law_1081 rfl ?_
  refine x_iconst C (v := 3) dL_law_1083 (by decide) ?_
  refine x_iadd C dL_law_1084 ?_
  refine x_sld C hX hbl hbA (i + 3) (nI_add i 3) (by omega) hL dL_law_1085 ?_
  refine x_perm w_perm ?_
  refine x_callVSi C gv_L_158 (hB _) 0 (hfB _) rfl rfl rfl (Nat.le_of_ble_eq_true rfl) ⟨(Nat.le_of_ble_eq_true rfl), (Nat.le_of_ble_eq_true rfl)⟩ ⟨Nat.le_trans (Nat.add_le_add_left hmc cells) hc, Nat.le_trans (Nat.add_le_add_left hms slots) hs⟩ dL_law_1086 (fun o1 o2 => ?_)
  have hT := hRel o1 o2
  obtain ⟨fsC, hfC⟩ := r_B hT
  refine x_istore C dL_law_1089 (by decide) ?_
  refine x_aload_n C dL_law_1091 rfl rfl ?_
  refine x_callVi C gv_L_92 (r_thrown hT _) 0 (hfC _) rfl rfl rfl (Nat.le_of_ble_eq_true rfl) ⟨(Nat.le_of_ble_eq_true rfl), (Nat.le_of_ble_eq_true rfl)⟩ ⟨Nat.le_trans (Nat.add_le_add_left hmc cells) hc, Nat.le_trans (Nat.add_le_add_left hms slots) hs⟩ dL_law_1092 ?_
  refine x_iload C dL_law_1095 rfl ?_
  refine x_icmp_eq C (tgt := 1102) dL_law_1097 (by decide) (fun _ => ?_) (fun z => absurd rfl z)
  refine x_perm w_perm.symm ?_
  refine x_iload C dL_law_1102 rfl ?_
  refine x_if_ne C (tgt := 1119) dL_law_1104 (by decide) (fun z => ?_) (fun z => ?_)
  · refine x_goto C (tgt := 1342) dL_law_1119 (by decide) ?_
    exact K _ _ _ _ _ _ _ _ (Nat.add_le_add_left hmc cells) (Nat.add_le_add_left hms slots) hT
  · have hk : k = 0 := z
    refine x_aload_n C dL_law_1107 rfl rfl ?_
    refine x_iconst C (v := 0) dL_law_1108 (by decide) ?_
    refine x_lald C WA2.length 2 0 w_at rfl rfl (by decide) (by decide) dL_law_1109 ?_
    refine x_iload C dL_law_1110 rfl ?_
    refine x_i2l C dL_law_1112 ?_
    refine x_lcmp C dL_law_1113 ?_
    refine x_top (cmp_eq (hv hk)) ?_
    refine x_if_eq C (tgt := 1119) dL_law_1114 (by decide) (fun _ => ?_) (fun z => absurd rfl z)
    refine x_goto C (tgt := 1342) dL_law_1119 (by decide) ?_
    exact K _ _ _ _ _ _ _ _ (Nat.add_le_add_left hmc cells) (Nat.add_le_add_left hms slots) hT
set_option maxRecDepth 100000 in
set_option maxHeartbeats 4000000 in
theorem q_stands (C : wo_C p s m args meth c A D cL_law 7 RL ((cI, .int) :: (cZ, .boolean) :: (cJ, .long) :: tys) rt) (hXT : wo_XT A s s.heap) (hX : va_X bs L xs s s.heap) (hbl : bs < s.heap.size) (hbA : ¬ A bs) (hl : l.stackTraces = false) (hi : i + 4 ≤ L) (hL : L ≤ 2049) (hc : cells + 1 ≤ room_1.cells) (hs : slots + 6 ≤ room_1.slots) (h : RWc cI cZ a b k0 WA WB) (K : wo_K p l e s m args below meth c A D cells slots Q cI cZ cJ a b bs o i) : wo_W p l e room_1 s m args below meth c A D cells slots 7 Q 1122 [some (.ref bs), some (.ref (a 0)), some (.ref (b 0)), some (.ref o), some (.int (nI i)), x5, x6] [] (WA ++ wo_o cJ o f :: WB) := by
  obtain ⟨k, r, mc, ms, WA2, WB2, f2, hmc, hms, hA, hB, hv, hRel⟩ := s_stands (l := l) (D := D) (cJ := cJ) (tys := tys) hl (xs (i + 1)) (xs (i + 2)) (xs (i + 3)) o f h
  obtain ⟨fsB, hfB⟩ := r_B h
  refine x_aload_n C dL_law_1122 rfl rfl ?_
  refine x_aload_n C dL_law_1123 rfl rfl ?_
  refine x_iload C dL_law_1124 rfl ?_
  refine x_iconst C (v := 1) dL_law_1126 (by decide) ?_
  refine x_iadd C dL_law_1127 ?_
  refine x_sld C hX hbl hbA (i + 1) (nI_add i 1) (by omega) hL dL_law_1128 ?_
  refine x_aload_n C dL_law_1129 rfl rfl ?_
  refine x_iload C dL_law_1130 rfl ?_
  refine x_iconst C (v := 2) dL_law_1132 (by decide) ?_
  refine x_iadd C dL_law_1133 ?_
  refine x_sld C hX hbl hbA (i + 2) (nI_add i 2) (by omega) hL dL_law_1134 ?_
  refine x_aload_n C dL_law_1135 rfl rfl ?_
  refine x_iload C dL_law_1136 rfl ?_
  refine x_iconst C (v := 3) dL_law_1138 (by decide) ?_
  refine x_iadd C dL_law_1139 ?_
  refine x_sld C hX hbl hbA (i + 3) (nI_add i 3) (by omega) hL dL_law_1140 ?_
  refine x_aload_n C dL_law_1141 rfl rfl ?_
  refine x_callL C hXT gl_stands (hA _) rfl rfl (Nat.le_of_ble_eq_true rfl) ⟨(Nat.le_of_ble_eq_true rfl), (Nat.le_of_ble_eq_true rfl)⟩ ⟨Nat.le_trans (Nat.add_le_add_left hmc cells) hc, Nat.le_trans (Nat.add_le_add_left hms slots) hs⟩ dL_law_1142 ?_
  refine x_istore C dL_law_1145 (by decide) ?_
  refine x_aload_n C dL_law_1147 rfl rfl ?_
  refine x_aload_n C dL_law_1148 rfl rfl ?_
  refine x_iload C dL_law_1149 rfl ?_
  refine x_iconst C (v := 1) dL_law_1151 (by decide) ?_
  refine x_iadd C dL_law_1152 ?_
  refine x_sld C hX hbl hbA (i + 1) (nI_add i 1) (by omega) hL dL_law_1153 ?_
  refine x_aload_n C dL_law_1154 rfl rfl ?_
  refine x_iload C dL_law_1155 rfl ?_
  refine x_iconst C (v := 2) dL_law_1157 (by decide) ?_
  refine x_iadd C dL_law_1158 ?_
  refine x_sld C hX hbl hbA (i + 2) (nI_add i 2) (by omega) hL dL_law_1159 ?_
  refine x_aload_n C dL_law_1160 rfl rfl ?_
  refine x_iload C dL_law_1161 rfl ?_
  refine x_iconst C (v := 3) dL_law_1163 (by decide) ?_
  refine x_iadd C dL_law_1164 ?_
  refine x_sld C hX hbl hbA (i + 3) (nI_add i 3) (by omega) hL dL_law_1165 ?_
  refine x_perm w_perm ?_
  refine x_callVSi C gv_L_161 (hB _) 0 (hfB _) rfl rfl rfl (Nat.le_of_ble_eq_true rfl) ⟨(Nat.le_of_ble_eq_true rfl), (Nat.le_of_ble_eq_true rfl)⟩ ⟨Nat.le_trans (Nat.add_le_add_left hmc cells) hc, Nat.le_trans (Nat.add_le_add_left hms slots) hs⟩ dL_law_1166 (fun o1 o2 => ?_)
  have hT := hRel o1 o2
  obtain ⟨fsC, hfC⟩ := r_B hT
  refine x_istore C dL_law_1169 (by decide) ?_
  refine x_aload_n C dL_law_1171 rfl rfl ?_
  refine x_callVi C gv_L_92 (r_thrown hT _) 0 (hfC _) rfl rfl rfl (Nat.le_of_ble_eq_true rfl) ⟨(Nat.le_of_ble_eq_true rfl), (Nat.le_of_ble_eq_true rfl)⟩ ⟨Nat.le_trans (Nat.add_le_add_left hmc cells) hc, Nat.le_trans (Nat.add_le_add_left hms slots) hs⟩ dL_law_1172 ?_
  refine x_iload C dL_law_1175 rfl ?_
  refine x_icmp_eq C (tgt := 1182) dL_law_1177 (by decide) (fun _ => ?_) (fun z => absurd rfl z)
  refine x_perm w_perm.symm ?_
  refine x_iload C dL_law_1182 rfl ?_
  refine x_if_ne C (tgt := 1199) dL_law_1184 (by decide) (fun z => ?_) (fun z => ?_)
  · refine x_goto C (tgt := 1342) dL_law_1199 (by decide) ?_
    exact K _ _ _ _ _ _ _ _ (Nat.add_le_add_left hmc cells) (Nat.add_le_add_left hms slots) hT
  · have hk : k = 0 := z
    refine x_aload_n C dL_law_1187 rfl rfl ?_
    refine x_iconst C (v := 0) dL_law_1188 (by decide) ?_
    refine x_lald C WA2.length 2 0 w_at rfl rfl (by decide) (by decide) dL_law_1189 ?_
    refine x_iload C dL_law_1190 rfl ?_
    refine x_i2l C dL_law_1192 ?_
    refine x_lcmp C dL_law_1193 ?_
    refine x_top (cmp_eq (hv hk)) ?_
    refine x_if_eq C (tgt := 1199) dL_law_1194 (by decide) (fun _ => ?_) (fun z => absurd rfl z)
    refine x_goto C (tgt := 1342) dL_law_1199 (by decide) ?_
    exact K _ _ _ _ _ _ _ _ (Nat.add_le_add_left hmc cells) (Nat.add_le_add_left hms slots) hT
set_option maxRecDepth 100000 in
set_option maxHeartbeats 4000000 in
theorem q_lean (C : wo_C p s m args meth c A D cL_law 7 RL ((cI, .int) :: (cZ, .boolean) :: (cJ, .long) :: tys) rt) (hXT : wo_XT A s s.heap) (hX : va_X bs L xs s s.heap) (hbl : bs < s.heap.size) (hbA : ¬ A bs) (hl : l.stackTraces = false) (hi : i + 4 ≤ L) (hL : L ≤ 2049) (hc : cells + 1 ≤ room_1.cells) (hs : slots + 6 ≤ room_1.slots) (h : RWc cI cZ a b k0 WA WB) (K : wo_K p l e s m args below meth c A D cells slots Q cI cZ cJ a b bs o i) : wo_W p l e room_1 s m args below meth c A D cells slots 7 Q 1202 [some (.ref bs), some (.ref (a 0)), some (.ref (b 0)), some (.ref o), some (.int (nI i)), x5, x6] [] (WA ++ wo_o cJ o f :: WB) := by
  obtain ⟨k, r, mc, ms, WA2, WB2, f2, hmc, hms, hA, hB, hv, hRel⟩ := s_lean (l := l) (D := D) (cJ := cJ) (tys := tys) hl (xs (i + 1)) (decide (¬ xs (i + 2) = 0)) o f h
  obtain ⟨fsB, hfB⟩ := r_B h
  have f1 : ∀ v : Int32, v = bz (decide (¬ xs (i + 2) = 0)) → wo_W p l e room_1 s m args below meth c A D cells slots 7 Q 1223 [some (.ref bs), some (.ref (a 0)), some (.ref (b 0)), some (.ref o), some (.int (nI i)), x5, x6] (.int v :: .int (xs (i + 1)) :: .ref (a 0) :: []) (WA ++ wo_o cJ o f :: WB) := by
    intro v hv
    subst hv
    have f3 : ∀ v : Int32, v = bz (decide (¬ xs (i + 2) = 0)) → wo_W p l e room_1 s m args below meth c A D (cells + mc) (slots + ms) 7 Q 1250 [some (.ref bs), some (.ref (a 0)), some (.ref (b 0)), some (.ref o), some (.int (nI i)), some (.int k), x6] (.int v :: .int (xs (i + 1)) :: .ref (b 0) :: []) (WA2 ++ wo_o cJ o f2 :: WB) := by
      intro v hv
      subst hv
      refine x_perm w_perm ?_
      refine x_callVSi C gv_L_165 (hB _) 0 (hfB _) rfl rfl rfl (Nat.le_of_ble_eq_true rfl) ⟨(Nat.le_of_ble_eq_true rfl), (Nat.le_of_ble_eq_true rfl)⟩ ⟨Nat.le_trans (Nat.add_le_add_left hmc cells) hc, Nat.le_trans (Nat.add_le_add_left hms slots) hs⟩ dL_law_1250 (fun o1 o2 => ?_)
      have hT := hRel o1 o2
      obtain ⟨fsC, hfC⟩ := r_B hT
      refine x_istore C dL_law_1253 (by decide) ?_
      refine x_aload_n C dL_law_1255 rfl rfl ?_
      refine x_callVi C gv_L_92 (r_thrown hT _) 0 (hfC _) rfl rfl rfl (Nat.le_of_ble_eq_true rfl) ⟨(Nat.le_of_ble_eq_true rfl), (Nat.le_of_ble_eq_true rfl)⟩ ⟨Nat.le_trans (Nat.add_le_add_left hmc cells) hc, Nat.le_trans (Nat.add_le_add_left hms slots) hs⟩ dL_law_1256 ?_
      refine x_iload C dL_law_1259 rfl ?_
      refine x_icmp_eq C (tgt := 1266) dL_law_1261 (by decide) (fun _ => ?_) (fun z => absurd rfl z)
      refine x_perm w_perm.symm ?_
      refine x_iload C dL_law_1266 rfl ?_
      refine x_if_ne C (tgt := 1283) dL_law_1268 (by decide) (fun z => ?_) (fun z => ?_)
      · refine x_goto C (tgt := 1342) dL_law_1283 (by decide) ?_
        exact K _ _ _ _ _ _ _ _ (Nat.add_le_add_left hmc cells) (Nat.add_le_add_left hms slots) hT
      · have hk : k = 0 := z
        refine x_aload_n C dL_law_1271 rfl rfl ?_
        refine x_iconst C (v := 0) dL_law_1272 (by decide) ?_
        refine x_lald C WA2.length 2 0 w_at rfl rfl (by decide) (by decide) dL_law_1273 ?_
        refine x_iload C dL_law_1274 rfl ?_
        refine x_i2l C dL_law_1276 ?_
        refine x_lcmp C dL_law_1277 ?_
        refine x_top (cmp_eq (hv hk)) ?_
        refine x_if_eq C (tgt := 1283) dL_law_1278 (by decide) (fun _ => ?_) (fun z => absurd rfl z)
        refine x_goto C (tgt := 1342) dL_law_1283 (by decide) ?_
        exact K _ _ _ _ _ _ _ _ (Nat.add_le_add_left hmc cells) (Nat.add_le_add_left hms slots) hT
    refine x_aload_n C dL_law_1223 rfl rfl ?_
    refine x_callL C hXT gl_lean (hA _) rfl rfl (Nat.le_of_ble_eq_true rfl) ⟨(Nat.le_of_ble_eq_true rfl), (Nat.le_of_ble_eq_true rfl)⟩ ⟨Nat.le_trans (Nat.add_le_add_left hmc cells) hc, Nat.le_trans (Nat.add_le_add_left hms slots) hs⟩ dL_law_1224 ?_
    refine x_istore C dL_law_1227 (by decide) ?_
    refine x_aload_n C dL_law_1229 rfl rfl ?_
    refine x_aload_n C dL_law_1230 rfl rfl ?_
    refine x_iload C dL_law_1231 rfl ?_
    refine x_iconst C (v := 1) dL_law_1233 (by decide) ?_
    refine x_iadd C dL_law_1234 ?_
    refine x_sld C hX hbl hbA (i + 1) (nI_add i 1) (by omega) hL dL_law_1235 ?_
    refine x_aload_n C dL_law_1236 rfl rfl ?_
    refine x_iload C dL_law_1237 rfl ?_
    refine x_iconst C (v := 2) dL_law_1239 (by decide) ?_
    refine x_iadd C dL_law_1240 ?_
    refine x_sld C hX hbl hbA (i + 2) (nI_add i 2) (by omega) hL dL_law_1241 ?_
    refine x_if_eq C (tgt := 1249) dL_law_1242 (by decide) (fun z => ?_) (fun z => ?_)
    · refine x_iconst C (v := 0) dL_law_1249 (by decide) ?_
      exact f3 0 (by rw [decide_eq_false (fun y => y z)]; rfl)
    · refine x_iconst C (v := 1) dL_law_1245 (by decide) ?_
      refine x_goto C (tgt := 1250) dL_law_1246 (by decide) ?_
      exact f3 1 (by rw [decide_eq_true z]; rfl)
  refine x_aload_n C dL_law_1202 rfl rfl ?_
  refine x_aload_n C dL_law_1203 rfl rfl ?_
  refine x_iload C dL_law_1204 rfl ?_
  refine x_iconst C (v := 1) dL_law_1206 (by decide) ?_
  refine x_iadd C dL_law_1207 ?_
  refine x_sld C hX hbl hbA (i + 1) (nI_add i 1) (by omega) hL dL_law_1208 ?_
  refine x_aload_n C dL_law_1209 rfl rfl ?_
  refine x_iload C dL_law_1210 rfl ?_
  refine x_iconst C (v := 2) dL_law_1212 (by decide) ?_
  refine x_iadd C dL_law_1213 ?_
  refine x_sld C hX hbl hbA (i + 2) (nI_add i 2) (by omega) hL dL_law_1214 ?_
  refine x_if_eq C (tgt := 1222) dL_law_1215 (by decide) (fun z => ?_) (fun z => ?_)
  · refine x_iconst C (v := 0) dL_law_1222 (by decide) ?_
    exact f1 0 (by rw [decide_eq_false (fun y => y z)]; rfl)
  · refine x_iconst C (v := 1) dL_law_1218 (by decide) ?_
    refine x_goto C (tgt := 1223) dL_law_1219 (by decide) ?_
    exact f1 1 (by rw [decide_eq_true z]; rfl)
set_option maxRecDepth 100000 in
set_option maxHeartbeats 4000000 in
theorem q_look (C : wo_C p s m args meth c A D cL_law 7 RL ((cI, .int) :: (cZ, .boolean) :: (cJ, .long) :: tys) rt) (hXT : wo_XT A s s.heap) (hX : va_X bs L xs s s.heap) (hbl : bs < s.heap.size) (hbA : ¬ A bs) (hl : l.stackTraces = false) (hi : i + 4 ≤ L) (hL : L ≤ 2049) (hc : cells + 1 ≤ room_1.cells) (hs : slots + 6 ≤ room_1.slots) (h : RWc cI cZ a b k0 WA WB) (K : wo_K p l e s m args below meth c A D cells slots Q cI cZ cJ a b bs o i) : wo_W p l e room_1 s m args below meth c A D cells slots 7 Q 1286 [some (.ref bs), some (.ref (a 0)), some (.ref (b 0)), some (.ref o), some (.int (nI i)), x5, x6] [] (WA ++ wo_o cJ o f :: WB) := by
  obtain ⟨k, r, mc, ms, WA2, WB2, f2, hmc, hms, hA, hB, hv, hRel⟩ := s_look (l := l) (D := D) (cJ := cJ) (tys := tys) hl (xs (i + 1)) o f h
  obtain ⟨fsB, hfB⟩ := r_B h
  refine x_aload_n C dL_law_1286 rfl rfl ?_
  refine x_aload_n C dL_law_1287 rfl rfl ?_
  refine x_iload C dL_law_1288 rfl ?_
  refine x_iconst C (v := 1) dL_law_1290 (by decide) ?_
  refine x_iadd C dL_law_1291 ?_
  refine x_sld C hX hbl hbA (i + 1) (nI_add i 1) (by omega) hL dL_law_1292 ?_
  refine x_aload_n C dL_law_1293 rfl rfl ?_
  refine x_callL C hXT gl_look (hA _) rfl rfl (Nat.le_of_ble_eq_true rfl) ⟨(Nat.le_of_ble_eq_true rfl), (Nat.le_of_ble_eq_true rfl)⟩ ⟨Nat.le_trans (Nat.add_le_add_left hmc cells) hc, Nat.le_trans (Nat.add_le_add_left hms slots) hs⟩ dL_law_1294 ?_
  refine x_istore C dL_law_1297 (by decide) ?_
  refine x_aload_n C dL_law_1299 rfl rfl ?_
  refine x_aload_n C dL_law_1300 rfl rfl ?_
  refine x_iload C dL_law_1301 rfl ?_
  refine x_iconst C (v := 1) dL_law_1303 (by decide) ?_
  refine x_iadd C dL_law_1304 ?_
  refine x_sld C hX hbl hbA (i + 1) (nI_add i 1) (by omega) hL dL_law_1305 ?_
  refine x_perm w_perm ?_
  refine x_callVSi C gv_L_168 (hB _) 0 (hfB _) rfl rfl rfl (Nat.le_of_ble_eq_true rfl) ⟨(Nat.le_of_ble_eq_true rfl), (Nat.le_of_ble_eq_true rfl)⟩ ⟨Nat.le_trans (Nat.add_le_add_left hmc cells) hc, Nat.le_trans (Nat.add_le_add_left hms slots) hs⟩ dL_law_1306 (fun o1 o2 => ?_)
  have hT := hRel o1 o2
  obtain ⟨fsC, hfC⟩ := r_B hT
  refine x_istore C dL_law_1309 (by decide) ?_
  refine x_aload_n C dL_law_1311 rfl rfl ?_
  refine x_callVi C gv_L_92 (r_thrown hT _) 0 (hfC _) rfl rfl rfl (Nat.le_of_ble_eq_true rfl) ⟨(Nat.le_of_ble_eq_true rfl), (Nat.le_of_ble_eq_true rfl)⟩ ⟨Nat.le_trans (Nat.add_le_add_left hmc cells) hc, Nat.le_trans (Nat.add_le_add_left hms slots) hs⟩ dL_law_1312 ?_
  refine x_iload C dL_law_1315 rfl ?_
  refine x_icmp_eq C (tgt := 1322) dL_law_1317 (by decide) (fun _ => ?_) (fun z => absurd rfl z)
  refine x_perm w_perm.symm ?_
  refine x_iload C dL_law_1322 rfl ?_
  refine x_if_ne C (tgt := 1339) dL_law_1324 (by decide) (fun z => ?_) (fun z => ?_)
  · refine x_goto C (tgt := 1342) dL_law_1339 (by decide) ?_
    exact K _ _ _ _ _ _ _ _ (Nat.add_le_add_left hmc cells) (Nat.add_le_add_left hms slots) hT
  · have hk : k = 0 := z
    refine x_aload_n C dL_law_1327 rfl rfl ?_
    refine x_iconst C (v := 0) dL_law_1328 (by decide) ?_
    refine x_lald C WA2.length 2 0 w_at rfl rfl (by decide) (by decide) dL_law_1329 ?_
    refine x_iload C dL_law_1330 rfl ?_
    refine x_i2l C dL_law_1332 ?_
    refine x_lcmp C dL_law_1333 ?_
    refine x_top (cmp_eq (hv hk)) ?_
    refine x_if_eq C (tgt := 1339) dL_law_1334 (by decide) (fun _ => ?_) (fun z => absurd rfl z)
    refine x_goto C (tgt := 1342) dL_law_1339 (by decide) ?_
    exact K _ _ _ _ _ _ _ _ (Nat.add_le_add_left hmc cells) (Nat.add_le_add_left hms slots) hT
end LWQ
