/-! THE FRAME: a fixed graph of cells; its contents as a state of four families (int fields, long fields, int arrays, long arrays); a method as a function on such states; its contract. -/
/-- the words that stay true as the tables grow warmer; the links to a nest mate's private methods -/
def lw_gd : List Cond := lw_tbl.filter goodWord
def lw_isN : Cond → Bool
  | .methodLinkNest _ _ _ _ => true
  | _ => false
def lw_ns : List Cond := lw_tbl.filter lw_isN
theorem lw_g {q : Cond} (h : q ∈ lw_tbl) (hg : goodWord q = true) : q ∈ lw_gd := List.mem_filter.mpr ⟨h, hg⟩
theorem lw_n {q : Cond} (h : q ∈ lw_tbl) (hg : lw_isN q = true) : q ∈ lw_ns := List.mem_filter.mpr ⟨h, hg⟩
theorem lw_good (q : Cond) (h : q ∈ lw_gd) : q ∈ lw_gd ∧ ((q.onTables && q.keeps) = true ∨ ∃ ty, q = .arrayClass ty) := ⟨h, good_of_word (List.mem_filter.mp h).2⟩
def lw_Nz (U : State) : Prop := ∀ q ∈ lw_ns, va_Nw q U
theorem lw_Nz.warm {s U : State} (hW : s.WarmedH U.vm) (h : lw_Nz s) : lw_Nz U := by
  intro q hq
  have h1 := h q hq
  have h2 := (List.mem_filter.mp hq).2
  cases q <;> first | exact va_Nw.warmM hW h1 | (simp [lw_isN] at h2)
theorem lw_Nz.same {u U : State} (hv : u.vm = U.vm) (h : lw_Nz u) : lw_Nz U := by
  intro q hq
  have h1 := h q hq
  have h2 := (List.mem_filter.mp hq).2
  cases q <;> first | exact va_Nw.same rfl hv h1 | (simp [lw_isN] at h2)
abbrev fw_S : Type := (Nat → Int32) × (Nat → Int64) × (Nat → Nat → Int32) × (Nat → Nat → Int64)
def st_I (t : fw_S) (k : Nat) : Int32 := t.1 k
def st_J (t : fw_S) (k : Nat) : Int64 := t.2.1 k
def st_F (t : fw_S) (k : Nat) : Nat → Int32 := t.2.2.1 k
def st_G (t : fw_S) (k : Nat) : Nat → Int64 := t.2.2.2 k
def up_I (t : fw_S) (k : Nat) (v : Int32) : fw_S := (fun j => if j = k then v else t.1 j, t.2.1, t.2.2.1, t.2.2.2)
def up_J (t : fw_S) (k : Nat) (v : Int64) : fw_S := (t.1, fun j => if j = k then v else t.2.1 j, t.2.2.1, t.2.2.2)
def up_F (t : fw_S) (k : Nat) (v : Nat → Int32) : fw_S := (t.1, t.2.1, fun j => if j = k then v else t.2.2.1 j, t.2.2.2)
def up_G (t : fw_S) (k : Nat) (v : Nat → Int64) : fw_S := (t.1, t.2.1, t.2.2.1, fun j => if j = k then v else t.2.2.2 j)
/-- a step's answer is taken up -/
def fb_b {α β : Type} (o : Option (α × fw_S)) (k : α → fw_S → Option β) : Option β := match o with
  | none => none
  | some q => k q.1 q.2
def fb_v {β : Type} (o : Option fw_S) (k : fw_S → Option β) : Option β := match o with
  | none => none
  | some q => k q
def fb_l {α β : Type} (v : α) (k : α → Option β) : Option β := k v
theorem fb_bs {α β : Type} {o : Option (α × fw_S)} {k : α → fw_S → Option β} {b : β} (h : fb_b o k = some b) : ∃ r t, o = some (r, t) ∧ k r t = some b := by
  cases o with
  | none => cases h
  | some q => exact ⟨q.1, q.2, rfl, h⟩
theorem fb_vs {β : Type} {o : Option fw_S} {k : fw_S → Option β} {b : β} (h : fb_v o k = some b) : ∃ t, o = some t ∧ k t = some b := by
  cases o with
  | none => cases h
  | some q => exact ⟨q, rfl, h⟩
theorem fb_ls {α β : Type} {v : α} {k : α → Option β} {b : β} (h : fb_l v k = some b) : ∃ x, x = v ∧ k x = some b := ⟨v, rfl, h⟩
/-- a guard -/
def fb_g {β : Type} (p : Prop) [Decidable p] (x : Option β) : Option β := if p then x else none
theorem fb_if {β : Type} {p : Prop} [Decidable p] {x : Option β} {b : β} (h : fb_g p x = some b) : p ∧ x = some b := by
  unfold fb_g at h
  by_cases hp : p
  · rw [if_pos hp] at h; exact ⟨hp, h⟩
  · rw [if_neg hp] at h; cases h
theorem fb_ifn {β : Type} {p : Prop} [Decidable p] {x : Option β} {b : β} (h : (if p then none else x) = some b) : ¬ p ∧ x = some b := by
  by_cases hp : p
  · rw [if_pos hp] at h; cases h
  · rw [if_neg hp] at h; exact ⟨hp, h⟩
theorem fb_t {β : Type} {p : Prop} [Decidable p] {x y : Option β} {b : β} (hp : p) (h : (if p then x else y) = some b) : x = some b := by rw [if_pos hp] at h; exact h
theorem fb_f {β : Type} {p : Prop} [Decidable p] {x y : Option β} {b : β} (hp : ¬ p) (h : (if p then x else y) = some b) : y = some b := by rw [if_neg hp] at h; exact h
theorem fb_e {α : Type} {x r : α} {t u : fw_S} (h : some (x, t) = some (r, u)) : r = x ∧ u = t := by cases h; exact ⟨rfl, rfl⟩
theorem fb_ev {t u : fw_S} (h : some t = some u) : u = t := by cases h; rfl
/-- a boolean's number -/
theorem fb_z {z : Int32} (h : z = 0 ∨ z = 1) : narrow .boolean (.int z) = .int z ∧ fits .boolean (.int z) = true := by
  rcases h with rfl | rfl <;> exact ⟨rfl, rfl⟩
theorem fb_nq (i : Nat) : va_up (fun _ : Nat => (none : Option Nat)) i none = fun _ => none := by
  funext j
  simp [va_up]
def tyv (ca : Nat → ClassId) : List (ClassId × FieldType) := [(ca 0, .int), (ca 1, .long), (ca 2, .boolean), (ca 3, .object "ReactiveSheet$Formula")]
/-- the graph's addresses don't hang on its contents -/
def fw_ok (w : fw_S → va_W) : Prop := ∀ t u : fw_S, (w t).map Prod.fst = (w u).map Prod.fst
theorem fw_at {w1 w2 : va_W} (h : w1.map Prod.fst = w2.map Prod.fst) {k : Nat} {q : Nat × va_E} (hq : w2[k]? = some q) : ∃ q', w1[k]? = some q' ∧ q'.1 = q.1 := by
  have h1 : (w1.map Prod.fst)[k]? = some q.1 := by rw [h, List.getElem?_map, hq]; rfl
  rw [List.getElem?_map] at h1
  cases hw : w1[k]? with
  | none => rw [hw] at h1; cases h1
  | some q' => rw [hw] at h1; exact ⟨q', rfl, Option.some.inj h1⟩
theorem fw_D {w1 w2 : va_W} {A : Nat → Prop} (h : w1.map Prod.fst = w2.map Prod.fst) (hD : va_D A w1) : va_D A w2 := by
  refine ⟨fun i j p q hp hq he => ?_, fun k q hq => ?_⟩
  · obtain ⟨p', hp', ep⟩ := fw_at h hp
    obtain ⟨q', hq', eq⟩ := fw_at h hq
    exact hD.1 i j p' q' hp' hq' (by rw [ep, eq]; exact he)
  · obtain ⟨q', hq', eq⟩ := fw_at h hq
    rw [← eq]
    exact hD.2 k q' hq'
/-- A CONTRACT: called with these values over the graph in state t, the method returns qv, and the graph is in state u -/
def MC (w : fw_S → va_W) (D : va_G) (tys : List (ClassId × FieldType)) (l : Launch) (y : MethodName) (ws : List Cond) (rm : Room) (av : List Value) (qv : Option Value) (t u : fw_S) : Prop :=
  ∀ sz : Nat, Met l y ws rm (va_Pc av (fun U => U.heap.size = sz ∧ va_P D classes (w t) U.heap ∧ va_K D classes tys U ∧ lw_Nz U ∧ va_D (fun _ => True) (w t)))
    (fun _ st oc z => (oc = .returned qv ∧ va_P D classes (w u) z.heap) ∧ va_F (va_A (w t) sz) st z) 0 0 (va_A (w t) sz)
/-- what stays the same all through a method's walk -/
def CX (w : fw_S → va_W) (D : va_G) (tys : List (ClassId × FieldType)) (p : Program) (s : State) (m : MethodId) (args : Array Value) (c : Code) (A : Nat → Prop) (cc : ByteArray) (nL : Nat) (own : String) : Prop :=
  p.tables.exec = Jvm.exec ∧ c.code = cc ∧ c.maxLocals = nL ∧ s.vm.findClass own = some m.cls ∧ (∀ q ∈ lw_gd, q.before args s = true) ∧ lw_Nz s ∧ va_K D classes tys s ∧ (∀ t, va_D A (w t)) ∧ ∀ q, s.heap.size ≤ q → A q
/-- the method's end, at whatever return -/
def RX (w : fw_S → va_W) (D : va_G) (p : Program) (l : Launch) (e : Env) (R : Room) (s : State) (m : MethodId) (args : Array Value) (below : List Frame) (meth : Method) (c : Code) (A : Nat → Prop) (cc : ByteArray) (Q : State → Prop) (op : Instr) (v : List Value) (u : fw_S) : Prop :=
  ∀ (H : Heap) (locs : List Loc) (pc : Nat) (ls : Array Slot), va_P D classes (w u) H → va_S A s.heap H locs → decode cc pc = .ok (op, 1) → W p l e R s m args below meth c H locs 0 0 Q (F0 m pc ls v)
section FWC
variable {w : fw_S → va_W} {D : va_G} {tys : List (ClassId × FieldType)} {p : Program} {l : Launch} {e : Env} {R : Room} {s : State} {m : MethodId} {args : Array Value} {below : List Frame} {meth : Method} {c : Code} {H : Heap} {locs : List Loc} {A : Nat → Prop} {Q : State → Prop} {cells slots : Nat}
theorem fw_call {A1 : Nat → Prop} {pc : Nat} {ls : Array Slot} {st0 rest : List Value} {qv : Option Value} {u : fw_S} (hr : va_Run p l e R s m args below meth c H locs cells slots 0 0 (F0 m pc ls st0) rest (fun st oc z => (oc = .returned qv ∧ va_P D classes (w u) z.heap) ∧ va_F A1 st z) A1) (hS : va_S A s.heap H locs) (hA : ∀ q, A1 q → A q)
    (kk : ∀ (H1 : Heap) (locs1 : List Loc), va_P D classes (w u) H1 → va_S A s.heap H1 locs1 → W p l e R s m args below meth c H1 locs1 cells slots Q (F0 m (pc + 3) ls (qv.toList ++ rest))) : W p l e R s m args below meth c H locs cells slots Q (F0 m pc ls st0) := by
  intro T hT X
  obtain ⟨v, st₀, t, T', L, h0, X', hL, e1, e2, ⟨⟨hv, hp⟩, hz, hk⟩, st⟩ := hr T hT X
  cases hv
  rw [h0] at hz hk
  obtain ⟨t2, a1, b1⟩ := kk T'.heap (locs ++ L) (by rw [e1]; exact hp)
    ⟨Nat.le_trans hS.1 (by rw [e1]; exact hz), fun q h1 h2 => by rw [e1, hk q (Nat.lt_of_lt_of_le h1 hS.1) (fun z => h2 (hA q z))]; exact hS.2.1 q h1 h2, fun q hq => by
      rcases List.mem_append.mp hq with h | h
      · exact hS.2.2 q h
      · exact hA _ (hL q h)⟩ T' rfl X'
  exact ⟨t2, st t2 a1, b1⟩
theorem fw_free {t : fw_S} (hD : va_D A (w t)) (hS : va_S A s.heap H locs) (hA : ∀ q, s.heap.size ≤ q → A q) : ∀ q, va_A (w t) H.size q → A q := by
  rintro q (⟨k, x, hk⟩ | h)
  · exact hD.2 k _ hk
  · exact hA q (Nat.le_trans hS.1 h)
theorem fw_pre {t : fw_S} {av : List Value} (hN : lw_Nz s) (hK : va_K D classes tys s) (hP : va_P D classes (w t) H) (hD : va_D A (w t)) : PreS s H (va_Pc av (fun U => U.heap.size = H.size ∧ va_P D classes (w t) U.heap ∧ va_K D classes tys U ∧ lw_Nz U ∧ va_D (fun _ => True) (w t))) av :=
  ⟨fun a U g mk q => ⟨q.1, q.2.1, q.2.2.1, va_K.moved (u := U) (U := U.calling g mk a) (Vm.Alike.refl U.vm) q.2.2.2.1, lw_Nz.same (u := U) (U := U.calling g mk a) rfl q.2.2.2.2.1, q.2.2.2.2.2⟩,
   fun U hU hW => ⟨rfl, by rw [hU], by rw [hU]; exact hP, va_K.moved hW.alike hK, hN.warm hW, hD.weaken (fun _ _ _ _ => trivial)⟩⟩
variable {cc bytes : ByteArray} {nL maxL index n : Nat} {own : String} {y : MethodName} {ret : Option FieldType} {rm : Room} {qv : Option Value} {t u : fw_S} {pc : Nat} {ls : Array Slot} {As rest st0 : List Value} {ws' : List Cond} {lv : List (Nat × Value)}
/-- a static method of the same nest or of the JDK -/
theorem fw_S1 (C : CX w D tys p s m args c A cc nL own) (hM : MC w D tys l y (.code y bytes maxL ret :: lw_gd) rm As qv t u) (h1 : Cond.methodLink own index y ∈ lw_gd) (h2 : Cond.static y ∈ lw_gd) (h3 : Cond.initialized y.cls ∈ lw_gd) (h4 : Cond.code y bytes maxL ret ∈ lw_gd)
    (hP : va_P D classes (w t) H) (hS : va_S A s.heap H locs) (hl : lv_has ls nL lv) (hrc : rm.cells = 0) (hrs : rm.slots = 0) (hc : cells ≤ R.cells ∧ slots ≤ R.slots)
    (hd : y.cls ≠ "java/lang/invoke/MethodHandle" ∧ y.cls ≠ "java/lang/invoke/VarHandle" ∧ (parseMethodDescriptor y.desc).map (fun d => d.parameters.length) = some n) (hR : rm.frames + 1 ≤ R.frames ∧ 8 + (maxL + 11) + rm.locals ≤ R.locals)
    (hn : As.length = n) (hst : st0 = As.reverse ++ rest) (hW : (rest.map fun v => v.category).sum ≤ 8) (hdg : decode cc pc = .ok (.invokestatic index, 3))
    (kk : ∀ (H1 : Heap) (locs1 : List Loc), va_P D classes (w u) H1 → va_S A s.heap H1 locs1 → W p l e R s m args below meth c H1 locs1 cells slots Q (F0 m (pc + 3) ls (qv.toList ++ rest))) : W p l e R s m args below meth c H locs cells slots Q (F0 m pc ls st0) := by
  obtain ⟨hx, hb, hml, hown, hts, hN, hK, hD, hA⟩ := C
  have hG : GoodIn lw_gd (.code y bytes maxL ret :: lw_gd) := fun q hq => by
    rcases List.mem_cons.mp hq with rfl | hq
    · exact lw_good _ h4
    · exact lw_good _ hq
  subst hst
  exact fw_call (va_runS (n := n) (mc := 0) (ms := 0) ⟨hx, hb, hml, hown, hts⟩ (hM H.size) ⟨callB_of n hts hG rfl hrc hrs (hts _ h3) (hts _ h1) hd hR, hts _ h2⟩ (fw_pre hN hK hP (hD t)) rfl hn hl.1 rfl (lv_room hW) hdg (by omega)) hS (fw_free (hD t) hS hA) kk
theorem fw_S2 {host : String} (C : CX w D tys p s m args c A cc nL own) (hM : MC w D tys l y (.code y bytes maxL ret :: lw_gd) rm As qv t u) (h1 : Cond.methodLinkNest own index y host ∈ lw_ns) (h2 : Cond.static y ∈ lw_gd) (h3 : Cond.initialized y.cls ∈ lw_gd) (h4 : Cond.code y bytes maxL ret ∈ lw_gd)
    (hP : va_P D classes (w t) H) (hS : va_S A s.heap H locs) (hl : lv_has ls nL lv) (hrc : rm.cells = 0) (hrs : rm.slots = 0) (hc : cells ≤ R.cells ∧ slots ≤ R.slots)
    (hd : y.cls ≠ "java/lang/invoke/MethodHandle" ∧ y.cls ≠ "java/lang/invoke/VarHandle" ∧ (parseMethodDescriptor y.desc).map (fun d => d.parameters.length) = some n) (hR : rm.frames + 1 ≤ R.frames ∧ 8 + (maxL + 11) + rm.locals ≤ R.locals)
    (hn : As.length = n) (hst : st0 = As.reverse ++ rest) (hW : (rest.map fun v => v.category).sum ≤ 8) (hdg : decode cc pc = .ok (.invokestatic index, 3))
    (kk : ∀ (H1 : Heap) (locs1 : List Loc), va_P D classes (w u) H1 → va_S A s.heap H1 locs1 → W p l e R s m args below meth c H1 locs1 cells slots Q (F0 m (pc + 3) ls (qv.toList ++ rest))) : W p l e R s m args below meth c H locs cells slots Q (F0 m pc ls st0) := by
  obtain ⟨hx, hb, hml, hown, hts, hN, hK, hD, hA⟩ := C
  have hG : GoodIn lw_gd (.code y bytes maxL ret :: lw_gd) := fun q hq => by
    rcases List.mem_cons.mp hq with rfl | hq
    · exact lw_good _ h4
    · exact lw_good _ hq
  subst hst
  exact fw_call (va_runSN (n := n) (mc := 0) (ms := 0) ⟨hx, hb, hml, hown, hts⟩ (hM H.size) ⟨va_cnB n hts hG rfl hrc hrs (hN _ h1) (hts _ h3) hd hR, hts _ h2, trivial⟩ (fw_pre hN hK hP (hD t)) rfl hn hl.1 rfl (lv_room hW) hdg (by omega)) hS (fw_free (hD t) hS hA) kk
/-- a method of an object of the graph -/
theorem fw_V1 {b q0 ci : Nat} {fs : List Value} {T : u_T} {N : Nat} (C : CX w D tys p s m args c A cc nL own) (hM : MC w D tys l y (.code y bytes maxL ret :: lw_gd) rm (.ref b :: As) qv t u) (h1 : Cond.methodLink own index y ∈ lw_gd) (h2 : Cond.instanceMethod y ∈ lw_gd) (h3 : Cond.initialized y.cls ∈ lw_gd) (h4 : Cond.code y bytes maxL ret ∈ lw_gd) (h5 : Cond.selects y.cls y y ∈ lw_gd)
    (hP : va_P D classes (w t) H) (hS : va_S A s.heap H locs) (hl : lv_has ls nL lv) (he : (w t)[q0]? = some (b, .inr (ci, fs))) (hcl : classes[ci]? = some (y.cls, T, N)) (hrc : rm.cells = 0) (hrs : rm.slots = 0) (hc : cells ≤ R.cells ∧ slots ≤ R.slots)
    (hd : y.cls ≠ "java/lang/invoke/MethodHandle" ∧ y.cls ≠ "java/lang/invoke/VarHandle" ∧ (parseMethodDescriptor y.desc).map (fun d => d.parameters.length) = some n) (hR : rm.frames + 1 ≤ R.frames ∧ 8 + (maxL + 11) + rm.locals ≤ R.locals)
    (hn : As.length = n) (hst : st0 = As.reverse ++ .ref b :: rest) (hW : (rest.map fun v => v.category).sum ≤ 8) (hdg : decode cc pc = .ok (.invokevirtual index, 3))
    (kk : ∀ (H1 : Heap) (locs1 : List Loc), va_P D classes (w u) H1 → va_S A s.heap H1 locs1 → W p l e R s m args below meth c H1 locs1 cells slots Q (F0 m (pc + 3) ls (qv.toList ++ rest))) : W p l e R s m args below meth c H locs cells slots Q (F0 m pc ls st0) := by
  obtain ⟨hx, hb, hml, hown, hts, hN, hK, hD, hA⟩ := C
  have hG : GoodIn lw_gd (.code y bytes maxL ret :: lw_gd) := fun q hq => by
    rcases List.mem_cons.mp hq with rfl | hq
    · exact lw_good _ h4
    · exact lw_good _ hq
  subst hst
  have hp := fw_pre (av := .ref b :: As) hN hK hP (hD t)
  exact fw_call (va_runV (n := n) (mc := 0) (ms := 0) (C := y.cls) ⟨hx, hb, hml, hown, hts⟩ (hM H.size) ⟨callB_of n hts hG rfl hrc hrs (hts _ h3) (hts _ h1) hd hR, hts _ h2, hts _ h5⟩ ⟨hp.1, va_recv hK hP hcl he, hp.2⟩ rfl hn hl.1 rfl (lv_room hW) hdg (by omega)) hS (fw_free (hD t) hS hA) kk
end FWC
/-- as Met.ofW, also for a class of which some methods have rows of their own, where this one has none -/
theorem fw_ofW {l : Launch} {y : MethodName} {ws ws' : List Cond} {rm : Room} {Pc : Array Value → State → Prop} {Qc : Array Value → State → Outcome → State → Prop} {mc ms : Nat} {free : Addr → Prop} {cc : ByteArray} {maxL : Nat} {ret : Option FieldType}
    (hy : plainFor y = true) (hw : ws = Cond.code y cc maxL ret :: ws')
    (body : ∀ p e s m args below meth c s₁, BodyLoose p l y (headSpec ws rm) cc maxL ret e s m args below meth c s₁ → c.maxLocals = maxL → Pc args s →
      W p l e (headSpec ws rm).room s m args below meth c s.heap [] 0 0 (MQ below Qc args s mc ms free) (entryFrame m args maxL)) : Met l y ws rm Pc Qc mc ms free := by
  refine MetFree.of_bodySF (code := cc) (maxLocals := maxL) (ret := ret) hy ?_ ?_
  · intro args s m h hn
    obtain ⟨meth, c, h1, h2, h3, h4, h5, h6, -, -⟩ := Cond.code_spec hn (atoms_spec (ws := ws) h _ (by rw [hw]; exact List.mem_cons_self))
    exact ⟨meth, c, h1, h2, h3, h4, h5, h6⟩
  · intro p e s m args below meth c s₁ B hml hP _
    have hh0 : s₁.heap = s.heap := by rw [B.state]; rfl
    obtain ⟨t, a1, o, b1, b2, b3⟩ := body p e s m args below meth c s₁ B hml hP s₁ hh0 (Stand.of_body B)
    exact ⟨t, o, a1, b1, b2, ⟨b3.1, b3.2⟩⟩
section FWM
variable {w : fw_S → va_W} {D : va_G} {tys : List (ClassId × FieldType)} {l : Launch} {y : MethodName} {rm : Room} {av : List Value} {qv : Option Value} {t u : fw_S} {cc : ByteArray} {nL : Nat} {ret : Option FieldType}
/-- a method's contract out of a walk from its first instruction -/
theorem fw_met (hok : fw_ok w) (hy : plainFor y = true) (hrc : rm.cells = 0) (hrs : rm.slots = 0) (hlen : (lg_sl av).length ≤ nL)
    (body : ∀ (p : Program) (e : Env) (s : State) (m : MethodId) (args : Array Value) (below : List Frame) (meth : Method) (c : Code) (A : Nat → Prop) (Q : State → Prop) (ls : Array Slot), CX w D tys p s m args c A cc nL y.cls → meth.sig.returnType = ret → meth.locks = false → va_P D classes (w t) s.heap → va_S A s.heap s.heap [] → lv_has ls nL (lv_args 0 av) →
      Q = MQ below (fun _ st oc z => (oc = .returned qv ∧ va_P D classes (w u) z.heap) ∧ va_F A st z) args s 0 0 A →
      W p l e rm s m args below meth c s.heap [] 0 0 Q (F0 m 0 ls [])) : MC w D tys l y (.code y cc nL ret :: lw_gd) rm av qv t u := by
  intro sz
  refine fw_ofW (cc := cc) (maxL := nL) (ret := ret) hy rfl ?_
  intro p e s m args below meth c s₁ B hml hv
  obtain ⟨rfl, hsz, hP, hK, hN, hD0⟩ := hv
  have hts := atoms_spec (ws := .code y cc nL ret :: lw_gd) B.pre
  subst hsz
  have hD := hD0.self (sz := s.heap.size)
  have hA : ∀ q : Nat, s.heap.size ≤ q → va_A (w t) s.heap.size q := fun q h => Or.inr h
  have hl := lv_entry av hlen
  rw [lg_entry_eq]
  exact body p e s m _ below meth c _ _ _ ⟨B.exec, B.bytes, hml, findClass_of_methodNamed B.named, fun q hq => hts q (List.mem_cons_of_mem _ hq), hN, hK, fun x => fw_D (hok t x) hD, hA⟩ B.returns B.notSynchronized hP va_S.rf hl rfl
end FWM
section FWR
variable {w : fw_S → va_W} {D : va_G} {tys : List (ClassId × FieldType)} {p : Program} {l : Launch} {e : Env} {R : Room} {s : State} {m : MethodId} {args : Array Value} {below : List Frame} {meth : Method} {c : Code} {A : Nat → Prop} {Q : State → Prop} {cc : ByteArray} {nL : Nat} {own : String} {u : fw_S}
theorem fw_ri {v : Int32} (C : CX w D tys p s m args c A cc nL own) (hr : meth.sig.returnType = some .int) (hk : meth.locks = false) (hQ : Q = MQ below (fun _ st oc z => (oc = .returned (some (.int v)) ∧ va_P D classes (w u) z.heap) ∧ va_F A st z) args s 0 0 A) : RX w D p l e R s m args below meth c A cc Q .ireturn [.int v] u :=
  fun H locs pc ls hP hS hdg => by rw [hQ]; exact W.iret C.1 C.2.1 hr (fun t ht _ => ⟨⟨rfl, by rw [ht]; exact hP⟩, hS.F ht⟩) hS.2.2 hdg hk
theorem fw_rz {v : Int32} (C : CX w D tys p s m args c A cc nL own) (hr : meth.sig.returnType = some .boolean) (hk : meth.locks = false) (hz : v = 0 ∨ v = 1) (hQ : Q = MQ below (fun _ st oc z => (oc = .returned (some (.int v)) ∧ va_P D classes (w u) z.heap) ∧ va_F A st z) args s 0 0 A) : RX w D p l e R s m args below meth c A cc Q .ireturn [.int v] u :=
  fun H locs pc ls hP hS hdg => by rw [hQ]; exact W.zret C.1 C.2.1 hr (fb_z hz).1 (fun t ht _ => ⟨⟨rfl, by rw [ht]; exact hP⟩, hS.F ht⟩) hS.2.2 hdg hk
theorem fw_rl {v : Int64} (C : CX w D tys p s m args c A cc nL own) (hr : meth.sig.returnType = some .long) (hk : meth.locks = false) (hQ : Q = MQ below (fun _ st oc z => (oc = .returned (some (.long v)) ∧ va_P D classes (w u) z.heap) ∧ va_F A st z) args s 0 0 A) : RX w D p l e R s m args below meth c A cc Q .lreturn [.long v] u :=
  fun H locs pc ls hP hS hdg => by rw [hQ]; exact W.lret C.1 C.2.1 hr (fun t ht _ => ⟨⟨rfl, by rw [ht]; exact hP⟩, hS.F ht⟩) hS.2.2 hdg hk
theorem fw_rv (C : CX w D tys p s m args c A cc nL own) (hr : meth.sig.returnType = none) (hk : meth.locks = false) (hQ : Q = MQ below (fun _ st oc z => (oc = .returned none ∧ va_P D classes (w u) z.heap) ∧ va_F A st z) args s 0 0 A) : RX w D p l e R s m args below meth c A cc Q .return_ [] u :=
  fun H locs pc ls hP hS hdg => by rw [hQ]; exact W.vret C.1 C.2.1 hr (fun t ht _ => ⟨⟨rfl, by rw [ht]; exact hP⟩, hS.F ht⟩) hS.2.2 hdg hk
theorem fw_ra {v : Value} {n : String} (C : CX w D tys p s m args c A cc nL own) (hr : meth.sig.returnType = some (.object n)) (hk : meth.locks = false) (hv : v = .null ∨ ∃ a, v = .ref a) (hQ : Q = MQ below (fun _ st oc z => (oc = .returned (some v) ∧ va_P D classes (w u) z.heap) ∧ va_F A st z) args s 0 0 A) : RX w D p l e R s m args below meth c A cc Q .areturn [v] u :=
  fun H locs pc ls hP hS hdg => by rw [hQ]; exact W.aret C.1 C.2.1 hr (Or.inl ⟨n, rfl⟩) hv (fun t ht _ => ⟨⟨rfl, by rw [ht]; exact hP⟩, hS.F ht⟩) hS.2.2 hdg hk
end FWR
