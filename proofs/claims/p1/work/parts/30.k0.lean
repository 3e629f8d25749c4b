def yX5_init : MethodName := ⟨RX5, "<init>", "()V"⟩
def yX6_init : MethodName := ⟨RX6, "<init>", "()V"⟩
def yX0_init : MethodName := ⟨RX0, "<init>", "()V"⟩
def yX1_init : MethodName := ⟨RX1, "<init>", "()V"⟩
def yX7_init : MethodName := ⟨RX7, "<init>", "()V"⟩
def yX9_init : MethodName := ⟨RX9, "<init>", "()V"⟩
def yX3_init : MethodName := ⟨RX3, "<init>", "()V"⟩
def yX4_init : MethodName := ⟨RX4, "<init>", "()V"⟩
def yX8_init : MethodName := ⟨RX8, "<init>", "()V"⟩
def yX10_init : MethodName := ⟨RX10, "<init>", "()V"⟩
def yX11_init : MethodName := ⟨RX11, "<init>", "()V"⟩
theorem kw_113 : Cond.methodLink RX10 3 objectInit ∈ lw_gd := lw_g (List.mem_of_getElem? (i := 113) (by decide +kernel)) rfl
theorem kw_114 : Cond.instanceMethod objectInit ∈ lw_gd := lw_g (List.mem_of_getElem? (i := 114) (by decide +kernel)) rfl
theorem kw_115 : Cond.code objectInit ⟨#[0xb1]⟩ 1 none ∈ lw_gd := lw_g (List.mem_of_getElem? (i := 115) (by decide +kernel)) rfl
theorem kw_116 : Cond.classLink RX10 9 RX5 ∈ lw_gd := lw_g (List.mem_of_getElem? (i := 116) (by decide +kernel)) rfl
theorem kw_117 : Cond.instantiable RX5 10 ∈ lw_gd := lw_g (List.mem_of_getElem? (i := 117) (by decide +kernel)) rfl
theorem kw_118 : Cond.methodLinkNest RX10 11 yX5_init "ReactiveSheet" ∈ lw_ns := lw_n (List.mem_of_getElem? (i := 118) (by decide +kernel)) rfl
theorem kw_119 : Cond.instanceMethod yX5_init ∈ lw_gd := lw_g (List.mem_of_getElem? (i := 119) (by decide +kernel)) rfl
theorem kw_120 : Cond.code yX5_init prog_7_method_1_code 1 none ∈ lw_gd := lw_g (List.mem_of_getElem? (i := 120) (by decide +kernel)) rfl
theorem kw_121 : Cond.methodLink RX5 1 objectInit ∈ lw_gd := lw_g (List.mem_of_getElem? (i := 121) (by decide +kernel)) rfl
theorem kw_153 : Cond.arrayClass .int ∈ lw_gd := lw_g (List.mem_of_getElem? (i := 153) (by decide +kernel)) rfl
theorem kw_154 : Cond.classLink RX10 18 RX6 ∈ lw_gd := lw_g (List.mem_of_getElem? (i := 154) (by decide +kernel)) rfl
theorem kw_155 : Cond.instantiable RX6 4 ∈ lw_gd := lw_g (List.mem_of_getElem? (i := 155) (by decide +kernel)) rfl
theorem kw_156 : Cond.methodLinkNest RX10 20 yX6_init "ReactiveSheet" ∈ lw_ns := lw_n (List.mem_of_getElem? (i := 156) (by decide +kernel)) rfl
theorem kw_157 : Cond.instanceMethod yX6_init ∈ lw_gd := lw_g (List.mem_of_getElem? (i := 157) (by decide +kernel)) rfl
theorem kw_158 : Cond.code yX6_init prog_8_method_1_code 1 none ∈ lw_gd := lw_g (List.mem_of_getElem? (i := 158) (by decide +kernel)) rfl
theorem kw_159 : Cond.methodLink RX6 3 objectInit ∈ lw_gd := lw_g (List.mem_of_getElem? (i := 159) (by decide +kernel)) rfl
theorem kw_161 : Cond.fieldLink RX6 15 "ReactiveSheet$Speller" "work" "[I" ∈ lw_gd := lw_g (List.mem_of_getElem? (i := 161) (by decide +kernel)) rfl
theorem kw_163 : Cond.fieldLink RX6 22 "ReactiveSheet$Speller" "waiting" "I" ∈ lw_gd := lw_g (List.mem_of_getElem? (i := 163) (by decide +kernel)) rfl
theorem kw_173 : Cond.classLink RX10 25 RX1 ∈ lw_gd := lw_g (List.mem_of_getElem? (i := 173) (by decide +kernel)) rfl
theorem kw_174 : Cond.instantiable RX1 8 ∈ lw_gd := lw_g (List.mem_of_getElem? (i := 174) (by decide +kernel)) rfl
theorem kw_175 : Cond.methodLinkNest RX10 27 yX1_init "ReactiveSheet" ∈ lw_ns := lw_n (List.mem_of_getElem? (i := 175) (by decide +kernel)) rfl
theorem kw_176 : Cond.instanceMethod yX1_init ∈ lw_gd := lw_g (List.mem_of_getElem? (i := 176) (by decide +kernel)) rfl
theorem kw_177 : Cond.code yX1_init prog_3_method_1_code 1 none ∈ lw_gd := lw_g (List.mem_of_getElem? (i := 177) (by decide +kernel)) rfl
theorem kw_178 : Cond.methodLink RX1 3 objectInit ∈ lw_gd := lw_g (List.mem_of_getElem? (i := 178) (by decide +kernel)) rfl
theorem kw_179 : Cond.classLink RX1 9 RX0 ∈ lw_gd := lw_g (List.mem_of_getElem? (i := 179) (by decide +kernel)) rfl
theorem kw_180 : Cond.instantiable RX0 12 ∈ lw_gd := lw_g (List.mem_of_getElem? (i := 180) (by decide +kernel)) rfl
theorem kw_181 : Cond.methodLink RX1 11 yX0_init ∈ lw_gd := lw_g (List.mem_of_getElem? (i := 181) (by decide +kernel)) rfl
theorem kw_182 : Cond.instanceMethod yX0_init ∈ lw_gd := lw_g (List.mem_of_getElem? (i := 182) (by decide +kernel)) rfl
theorem kw_183 : Cond.code yX0_init prog_2_method_1_code 2 none ∈ lw_gd := lw_g (List.mem_of_getElem? (i := 183) (by decide +kernel)) rfl
theorem kw_184 : Cond.methodLink RX0 3 objectInit ∈ lw_gd := lw_g (List.mem_of_getElem? (i := 184) (by decide +kernel)) rfl
theorem kw_185 : Cond.classLink RX0 22 RX2 ∈ lw_gd := lw_g (List.mem_of_getElem? (i := 185) (by decide +kernel)) rfl
theorem kw_224 : Cond.arrayClass .long ∈ lw_gd := lw_g (List.mem_of_getElem? (i := 224) (by decide +kernel)) rfl
theorem kw_227 : Cond.fieldLink RX1 23 "ReactiveSheet$Engine" "results" "[J" ∈ lw_gd := lw_g (List.mem_of_getElem? (i := 227) (by decide +kernel)) rfl
theorem kw_232 : Cond.fieldLink RX1 41 "ReactiveSheet$Engine" "number" "J" ∈ lw_gd := lw_g (List.mem_of_getElem? (i := 232) (by decide +kernel)) rfl
theorem kw_250 : Cond.classLink RX10 32 RX7 ∈ lw_gd := lw_g (List.mem_of_getElem? (i := 250) (by decide +kernel)) rfl
theorem kw_251 : Cond.instantiable RX7 4 ∈ lw_gd := lw_g (List.mem_of_getElem? (i := 251) (by decide +kernel)) rfl
theorem kw_252 : Cond.methodLinkNest RX10 34 yX7_init "ReactiveSheet" ∈ lw_ns := lw_n (List.mem_of_getElem? (i := 252) (by decide +kernel)) rfl
theorem kw_253 : Cond.instanceMethod yX7_init ∈ lw_gd := lw_g (List.mem_of_getElem? (i := 253) (by decide +kernel)) rfl
theorem kw_254 : Cond.code yX7_init prog_9_method_1_code 1 none ∈ lw_gd := lw_g (List.mem_of_getElem? (i := 254) (by decide +kernel)) rfl
theorem kw_255 : Cond.methodLink RX7 3 objectInit ∈ lw_gd := lw_g (List.mem_of_getElem? (i := 255) (by decide +kernel)) rfl
theorem kw_256 : Cond.classLink RX7 19 RX2 ∈ lw_gd := lw_g (List.mem_of_getElem? (i := 256) (by decide +kernel)) rfl
theorem kw_270 : Cond.classLink RX10 42 RX9 ∈ lw_gd := lw_g (List.mem_of_getElem? (i := 270) (by decide +kernel)) rfl
theorem kw_271 : Cond.instantiable RX9 12 ∈ lw_gd := lw_g (List.mem_of_getElem? (i := 271) (by decide +kernel)) rfl
theorem kw_272 : Cond.methodLinkNest RX10 44 yX9_init "ReactiveSheet" ∈ lw_ns := lw_n (List.mem_of_getElem? (i := 272) (by decide +kernel)) rfl
theorem kw_273 : Cond.instanceMethod yX9_init ∈ lw_gd := lw_g (List.mem_of_getElem? (i := 273) (by decide +kernel)) rfl
theorem kw_274 : Cond.code yX9_init prog_11_method_1_code 1 none ∈ lw_gd := lw_g (List.mem_of_getElem? (i := 274) (by decide +kernel)) rfl
theorem kw_275 : Cond.methodLink RX9 3 objectInit ∈ lw_gd := lw_g (List.mem_of_getElem? (i := 275) (by decide +kernel)) rfl
theorem kw_313 : Cond.classLink RX10 49 RX3 ∈ lw_gd := lw_g (List.mem_of_getElem? (i := 313) (by decide +kernel)) rfl
theorem kw_314 : Cond.instantiable RX3 2 ∈ lw_gd := lw_g (List.mem_of_getElem? (i := 314) (by decide +kernel)) rfl
theorem kw_315 : Cond.methodLinkNest RX10 51 yX3_init "ReactiveSheet" ∈ lw_ns := lw_n (List.mem_of_getElem? (i := 315) (by decide +kernel)) rfl
theorem kw_316 : Cond.instanceMethod yX3_init ∈ lw_gd := lw_g (List.mem_of_getElem? (i := 316) (by decide +kernel)) rfl
theorem kw_317 : Cond.code yX3_init prog_5_method_1_code 1 none ∈ lw_gd := lw_g (List.mem_of_getElem? (i := 317) (by decide +kernel)) rfl
theorem kw_318 : Cond.methodLink RX3 3 objectInit ∈ lw_gd := lw_g (List.mem_of_getElem? (i := 318) (by decide +kernel)) rfl
theorem kw_326 : Cond.classLink RX10 56 RX4 ∈ lw_gd := lw_g (List.mem_of_getElem? (i := 326) (by decide +kernel)) rfl
theorem kw_327 : Cond.instantiable RX4 2 ∈ lw_gd := lw_g (List.mem_of_getElem? (i := 327) (by decide +kernel)) rfl
theorem kw_328 : Cond.methodLink RX10 58 yX4_init ∈ lw_gd := lw_g (List.mem_of_getElem? (i := 328) (by decide +kernel)) rfl
theorem kw_329 : Cond.instanceMethod yX4_init ∈ lw_gd := lw_g (List.mem_of_getElem? (i := 329) (by decide +kernel)) rfl
theorem kw_330 : Cond.code yX4_init prog_6_method_1_code 2 none ∈ lw_gd := lw_g (List.mem_of_getElem? (i := 330) (by decide +kernel)) rfl
theorem kw_331 : Cond.methodLink RX4 3 objectInit ∈ lw_gd := lw_g (List.mem_of_getElem? (i := 331) (by decide +kernel)) rfl
theorem kw_339 : Cond.classLink RX10 63 RX8 ∈ lw_gd := lw_g (List.mem_of_getElem? (i := 339) (by decide +kernel)) rfl
theorem kw_340 : Cond.instantiable RX8 2 ∈ lw_gd := lw_g (List.mem_of_getElem? (i := 340) (by decide +kernel)) rfl
theorem kw_341 : Cond.methodLinkNest RX10 65 yX8_init "ReactiveSheet" ∈ lw_ns := lw_n (List.mem_of_getElem? (i := 341) (by decide +kernel)) rfl
theorem kw_342 : Cond.instanceMethod yX8_init ∈ lw_gd := lw_g (List.mem_of_getElem? (i := 342) (by decide +kernel)) rfl
theorem kw_343 : Cond.code yX8_init prog_10_method_1_code 1 none ∈ lw_gd := lw_g (List.mem_of_getElem? (i := 343) (by decide +kernel)) rfl
theorem kw_344 : Cond.methodLink RX8 3 objectInit ∈ lw_gd := lw_g (List.mem_of_getElem? (i := 344) (by decide +kernel)) rfl
theorem kw_352 : Cond.classLink RX10 70 RX0 ∈ lw_gd := lw_g (List.mem_of_getElem? (i := 352) (by decide +kernel)) rfl
theorem kw_353 : Cond.methodLink RX10 72 yX0_init ∈ lw_gd := lw_g (List.mem_of_getElem? (i := 353) (by decide +kernel)) rfl
theorem kw_1191 : Cond.methodLink RX11 3 objectInit ∈ lw_gd := lw_g (List.mem_of_getElem? (i := 1191) (by decide +kernel)) rfl
theorem kw_1421 : Cond.arrayClass .boolean ∈ lw_gd := lw_g (List.mem_of_getElem? (i := 1421) (by decide +kernel)) rfl
/-! CONSTRUCTORS: from an object's cell with its defaults to its whole graph, in a state that is said -/
def lw_Oz (U : State) : Prop := lw_Nz U ∧ va_AO "ReactiveSheet$Formula" U
theorem lw_Oz.warm {s U : State} (hW : s.WarmedH U.vm) (h : lw_Oz s) : lw_Oz U := ⟨h.1.warm hW, h.2.moved hW.alike⟩
theorem lw_Oz.same {u U : State} (hv : u.vm = U.vm) (h : lw_Oz u) : lw_Oz U := ⟨h.1.same hv, h.2.moved (by rw [hv]; exact Vm.Alike.refl _)⟩
def KC (D : va_G) (ca : Nat → ClassId) (l : Launch) (y : MethodName) (ws : List Cond) (rm : Room) (ci : Nat) (defs : List Value) (mc ms : Nat) (wa : (Nat → Nat) → fw_S → va_W) (Pr : fw_S → Prop) : Prop :=
  ∀ (h0 sz : Nat), Met l y ws rm (va_Pc [.ref h0] (fun U => U.heap.size = sz ∧ va_P D classes [(h0, .inr (ci, defs))] U.heap ∧ va_K D classes (tyv ca) U ∧ lw_Oz U ∧ va_D (fun _ => True) [(h0, .inr (ci, defs))]))
    (fun _ st oc z => (oc = .returned none ∧ ∃ (a : Nat → Nat) (t : fw_S), a 0 = h0 ∧ Pr t ∧ va_P D classes (wa a t) z.heap ∧ va_D (va_A [(h0, .inr (ci, defs))] sz) (wa a t)) ∧ va_F (va_A [(h0, .inr (ci, defs))] sz) st z) mc ms (va_A [(h0, .inr (ci, defs))] sz)
def RXn (n k : Nat) (w : fw_S → va_W) (D : va_G) (p : Program) (l : Launch) (e : Env) (R : Room) (s : State) (m : MethodId) (args : Array Value) (below : List Frame) (meth : Method) (c : Code) (A : Nat → Prop) (cc : ByteArray) (Q : State → Prop) (op : Instr) (v : List Value) (u : fw_S) : Prop :=
  ∀ (H : Heap) (locs : List Loc) (pc : Nat) (ls : Array Slot), va_P D classes (w u) H → va_S A s.heap H locs → decode cc pc = .ok (op, 1) → W p l e R s m args below meth c H locs n k Q (F0 m pc ls v)
section FWK
variable {D : va_G} {ca : Nat → ClassId} {tys : List (ClassId × FieldType)} {p : Program} {l : Launch} {e : Env} {R : Room} {s : State} {m : MethodId} {args : Array Value} {below : List Frame} {meth : Method} {c : Code} {H : Heap} {locs : List Loc} {A : Nat → Prop} {Q : State → Prop} {cells slots : Nat} {cc bytes : ByteArray} {pc : Nat} {ls : Array Slot} {rest : List Value} {ws : va_W}
/-- a new row of numbers, of the class that is known already -/
theorem fw_newa (hexec : p.tables.exec = Jvm.exec) (hb : c.code = cc) {atype : ArrayType} (harr : (Cond.arrayClass (newarray.typeOf atype)).before args s = true) {ty : FieldType} (hty : newarray.typeOf atype = ty) (hK : va_K D classes tys s) (hP : va_P D classes ws H) (hD : va_D A ws) (hS : va_S A s.heap H locs) (hA : ∀ q, s.heap.size ≤ q → A q)
    {n : Int32} {N' : Nat} {a0 : vp_A} (ha : ∀ cA : ClassId, vp_cell cA a0 = arrV cA N' (fun _ => defaultValue ty)) (hn : ¬ n < 0) (hN : n.toNatClampNeg = N') (hbytes : N' * componentBytes ty ≤ 536870912) (hcells : cells + 1 ≤ R.cells) (hslots : slots + N' ≤ R.slots) (hdg : decode cc pc = .ok (.newarray atype, 2)) {cA : ClassId} (t0 : Nat) (ht : tys[t0]? = some (cA, ty)) (hprim : ∀ x : ClassId, va_RA s x ty → s.vm.findClass ("[" ++ ty.toString) = some x)
    (kk : ∀ (q : Nat) (H1 : Heap), va_P D classes (ws ++ [(q, .inl (cA, a0))]) H1 → va_D A (ws ++ [(q, .inl (cA, a0))]) → va_S A s.heap H1 locs →
      W p l e R s m args below meth c H1 locs (cells + 1) (slots + N') Q (F0 m (pc + 2) ls (.ref q :: rest))) : W p l e R s m args below meth c H locs cells slots Q (F0 m pc ls (.int n :: rest)) := by
  refine va_newa hexec hb harr hty hK hP hD hS hA ha hn hN hbytes hcells hslots hdg (fun q cB H1 hK1 hP1 hD1 hS1 => ?_)
  have e1 := hprim _ (hK.2 t0 _ ht).2
  have e2 := hprim cB (hK1.2 tys.length (cB, ty) (by simp)).2
  obtain rfl : cA = cB := Option.some.inj (e1.symm.trans e2)
  exact kk q H1 hP1 hD1 hS1
theorem fw_newq (hexec : p.tables.exec = Jvm.exec) (hb : c.code = cc) {own C : String} {index : Nat} (hown : s.vm.findClass own = some m.cls) (hclink : (Cond.classLink own index C).before args s = true) (hover : va_AO C s) (hK : va_K D classes tys s) (hP : va_P D classes ws H) (hD : va_D A ws) (hS : va_S A s.heap H locs) (hA : ∀ q, s.heap.size ≤ q → A q)
    {n : Int32} {N' : Nat} (hn : ¬ n < 0) (hN : n.toNatClampNeg = N') (hbytes : N' * 4 ≤ 536870912) (hcells : cells + 1 ≤ R.cells) (hslots : slots + N' ≤ R.slots) (hdg : decode cc pc = .ok (.anewarray index, 3)) {cA : ClassId} (t0 : Nat) (ht : tys[t0]? = some (cA, .object C))
    (kk : ∀ (q : Nat) (H1 : Heap), va_P D classes (ws ++ [(q, .inl (cA, N', .inr (.inr (.inr (.inr (fun _ => none))))))]) H1 → va_D A (ws ++ [(q, .inl (cA, N', .inr (.inr (.inr (.inr (fun _ => none))))))]) → va_S A s.heap H1 locs →
      W p l e R s m args below meth c H1 locs (cells + 1) (slots + N') Q (F0 m (pc + 3) ls (.ref q :: rest))) : W p l e R s m args below meth c H locs cells slots Q (F0 m pc ls (.int n :: rest)) := by
  refine va_newq hexec hb hown hclink hover hK hP hD hS hA hn hN hbytes hcells hslots hdg (fun q cB H1 hK1 hP1 hD1 hS1 => ?_)
  obtain ⟨_, _, _, _, _, e1⟩ := (hK.2 t0 _ ht).2
  obtain ⟨_, _, _, _, _, e2⟩ := (hK1.2 tys.length (cB, .object C) (by simp)).2
  obtain rfl : cA = cB := Option.some.inj (e1.symm.trans e2)
  exact kk q H1 hP1 hD1 hS1
variable {nL maxL index : Nat} {own : String} {y : MethodName} {rm : Room} {ci mc ms : Nat} {defs : List Value} {wa : (Nat → Nat) → fw_S → va_W} {Pr : fw_S → Prop} {q : Nat} {Ts : List Cond}
theorem fw_kpre (hK : va_K D classes (tyv ca) s) (hO : lw_Oz s) (hP : va_P D classes [(q, .inr (ci, defs))] H) (hD : va_D A [(q, .inr (ci, defs))]) : PreS s H (va_Pc [.ref q] (fun U => U.heap.size = H.size ∧ va_P D classes [(q, .inr (ci, defs))] U.heap ∧ va_K D classes (tyv ca) U ∧ lw_Oz U ∧ va_D (fun _ => True) [(q, .inr (ci, defs))])) (.ref q :: []) :=
  ⟨fun a U g mk z => ⟨z.1, z.2.1, z.2.2.1, va_K.moved (u := U) (U := U.calling g mk a) (Vm.Alike.refl U.vm) z.2.2.2.1, lw_Oz.same (u := U) (U := U.calling g mk a) rfl z.2.2.2.2.1, z.2.2.2.2.2⟩,
   fun U hU hW => ⟨rfl, by rw [hU], by rw [hU]; exact hP, va_K.moved hW.alike hK, hO.warm hW, hD.weaken (fun _ _ _ _ => trivial)⟩⟩
theorem fw_kgo (hr : va_Run p l e R s m args below meth c H locs cells slots mc ms (F0 m pc ls (.ref q :: rest)) rest (fun st oc z => (oc = .returned none ∧ ∃ (a : Nat → Nat) (t : fw_S), a 0 = q ∧ Pr t ∧ va_P D classes (wa a t) z.heap ∧ va_D (va_A [(q, .inr (ci, defs))] H.size) (wa a t)) ∧ va_F (va_A [(q, .inr (ci, defs))] H.size) st z) (va_A [(q, .inr (ci, defs))] H.size)) (hS : va_S A s.heap H locs) (hA : ∀ x, va_A [(q, .inr (ci, defs))] H.size x → A x)
    (kk : ∀ (a : Nat → Nat) (t : fw_S) (H1 : Heap) (locs1 : List Loc), a 0 = q → Pr t → (∀ x, x < H.size → ¬ va_A [(q, .inr (ci, defs))] H.size x → H1[x]? = H[x]?) → va_P D classes (wa a t) H1 → va_D (va_A [(q, .inr (ci, defs))] H.size) (wa a t) → va_S A s.heap H1 locs1 → W p l e R s m args below meth c H1 locs1 (cells + mc) (slots + ms) Q (F0 m (pc + 3) ls rest)) : W p l e R s m args below meth c H locs cells slots Q (F0 m pc ls (.ref q :: rest)) := by
  intro T hT X
  obtain ⟨v, st₀, t', T', L, h0, X', hL, e1, e2, ⟨⟨hv, a, t, ha, hp, hP, hD⟩, hz, hk⟩, st⟩ := hr T hT X
  cases hv
  rw [h0] at hz hk
  obtain ⟨t2, a1, b1⟩ := kk a t T'.heap (locs ++ L) ha hp (fun x h1 h2 => by rw [e1]; exact hk x h1 h2) (by rw [e1]; exact hP) hD
    ⟨Nat.le_trans hS.1 (by rw [e1]; exact hz), fun x h1 h2 => by rw [e1, hk x (Nat.lt_of_lt_of_le h1 hS.1) (fun z => h2 (hA x z))]; exact hS.2.1 x h1 h2, fun x hx => by
      rcases List.mem_append.mp hx with h | h
      · exact hS.2.2 x h
      · exact hA _ (hL x h)⟩ T' rfl X'
  exact ⟨t2, st t2 a1, b1⟩
theorem fw_kgood {y : MethodName} {bytes : ByteArray} {maxL : Nat} {ret : Option FieldType} (h4 : Cond.code y bytes maxL ret ∈ lw_gd) : GoodIn lw_gd (.code y bytes maxL ret :: lw_gd) := fun q hq => by
    rcases List.mem_cons.mp hq with rfl | hq
    · exact lw_good _ h4
    · exact lw_good _ hq
/-- a constructor's call, by a link of one's own, or to a nest mate's private one -/
theorem fw_K1 (hx : p.tables.exec = Jvm.exec) (hb : c.code = cc) (hml : c.maxLocals = nL) (hown : s.vm.findClass own = some m.cls) (hts : ∀ x ∈ lw_gd, x.before args s = true) (hM : KC D ca l y (.code y bytes maxL none :: lw_gd) rm ci defs mc ms wa Pr) (h1 : Cond.methodLink own index y ∈ lw_gd) (h2 : Cond.instanceMethod y ∈ lw_gd) (h3 : Cond.initialized y.cls ∈ lw_gd) (h4 : Cond.code y bytes maxL none ∈ lw_gd)
    (hK : va_K D classes (tyv ca) s) (hO : lw_Oz s) (hPc : va_P D classes [(q, .inr (ci, defs))] H) (hDc : va_D A [(q, .inr (ci, defs))]) (hFc : ∀ x, va_A [(q, .inr (ci, defs))] H.size x → A x) (hS : va_S A s.heap H locs) (hsz : ls.size = nL) (hrc : rm.cells = mc) (hrs : rm.slots = ms) (hc : cells + mc ≤ R.cells ∧ slots + ms ≤ R.slots) (hy1 : y.name = "<init>")
    (hd : y.cls ≠ "java/lang/invoke/MethodHandle" ∧ y.cls ≠ "java/lang/invoke/VarHandle" ∧ (parseMethodDescriptor y.desc).map (fun d => d.parameters.length) = some 0) (hR : rm.frames + 1 ≤ R.frames ∧ 8 + (maxL + 11) + rm.locals ≤ R.locals) (hW : (rest.map fun v => v.category).sum ≤ 8) (hdg : decode cc pc = .ok (.invokespecial index, 3))
    (kk : ∀ (a : Nat → Nat) (t : fw_S) (H1 : Heap) (locs1 : List Loc), a 0 = q → Pr t → (∀ x, x < H.size → ¬ va_A [(q, .inr (ci, defs))] H.size x → H1[x]? = H[x]?) → va_P D classes (wa a t) H1 → va_D (va_A [(q, .inr (ci, defs))] H.size) (wa a t) → va_S A s.heap H1 locs1 → W p l e R s m args below meth c H1 locs1 (cells + mc) (slots + ms) Q (F0 m (pc + 3) ls rest)) : W p l e R s m args below meth c H locs cells slots Q (F0 m pc ls (.ref q :: rest)) :=
  fw_kgo (va_runI (n := 0) (As := []) ⟨hx, hb, hml, hown, hts⟩ (hM q H.size) ⟨callB_of 0 hts (fw_kgood h4) rfl hrc hrs (hts _ h3) (hts _ h1) hd hR, hy1, hts _ h2⟩ (fw_kpre hK hO hPc hDc) rfl rfl hsz rfl (lv_room hW) hdg hc) hS hFc kk
theorem fw_K2 {host : String} (hx : p.tables.exec = Jvm.exec) (hb : c.code = cc) (hml : c.maxLocals = nL) (hown : s.vm.findClass own = some m.cls) (hts : ∀ x ∈ lw_gd, x.before args s = true) (hM : KC D ca l y (.code y bytes maxL none :: lw_gd) rm ci defs mc ms wa Pr) (h1 : Cond.methodLinkNest own index y host ∈ lw_ns) (h2 : Cond.instanceMethod y ∈ lw_gd) (h3 : Cond.initialized y.cls ∈ lw_gd) (h4 : Cond.code y bytes maxL none ∈ lw_gd)
    (hK : va_K D classes (tyv ca) s) (hO : lw_Oz s) (hPc : va_P D classes [(q, .inr (ci, defs))] H) (hDc : va_D A [(q, .inr (ci, defs))]) (hFc : ∀ x, va_A [(q, .inr (ci, defs))] H.size x → A x) (hS : va_S A s.heap H locs) (hsz : ls.size = nL) (hrc : rm.cells = mc) (hrs : rm.slots = ms) (hc : cells + mc ≤ R.cells ∧ slots + ms ≤ R.slots) (hy1 : y.name = "<init>")
    (hd : y.cls ≠ "java/lang/invoke/MethodHandle" ∧ y.cls ≠ "java/lang/invoke/VarHandle" ∧ (parseMethodDescriptor y.desc).map (fun d => d.parameters.length) = some 0) (hR : rm.frames + 1 ≤ R.frames ∧ 8 + (maxL + 11) + rm.locals ≤ R.locals) (hW : (rest.map fun v => v.category).sum ≤ 8) (hdg : decode cc pc = .ok (.invokespecial index, 3))
    (kk : ∀ (a : Nat → Nat) (t : fw_S) (H1 : Heap) (locs1 : List Loc), a 0 = q → Pr t → (∀ x, x < H.size → ¬ va_A [(q, .inr (ci, defs))] H.size x → H1[x]? = H[x]?) → va_P D classes (wa a t) H1 → va_D (va_A [(q, .inr (ci, defs))] H.size) (wa a t) → va_S A s.heap H1 locs1 → W p l e R s m args below meth c H1 locs1 (cells + mc) (slots + ms) Q (F0 m (pc + 3) ls rest)) : W p l e R s m args below meth c H locs cells slots Q (F0 m pc ls (.ref q :: rest)) :=
  fw_kgo (va_runIN (n := 0) (As := []) ⟨hx, hb, hml, hown, hts⟩ (hM q H.size) ⟨va_cnB 0 hts (fw_kgood h4) rfl hrc hrs (hO.1 _ h1) (hts _ h3) hd hR, hy1, hts _ h2⟩ (fw_kpre hK hO hPc hDc) rfl rfl hsz rfl (lv_room hW) hdg hc) hS hFc kk
end FWK

