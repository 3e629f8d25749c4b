/-! THE CLAIM OUT OF ONE WALK OF THE LAW'S BODY. Your part is whole_start (and what it stands on); all else here is the same for every law, but numbers. -/
def R_law : String := "ReactiveSheetLaw"
def lw_P (b : Addr) (xs : List Int32) (args : Array Value) (s : State) : Prop := args = #[.ref b] ∧ s.IntsAt b xs ∧ xs.length ≤ 8 ∧ (Jvm.Cond.and given_1 narrow_1).before args s = true
def lw_Q (_ : Array Value) (s : State) (o : Outcome) (t : State) : Prop := o = .returned (some (.int 1)) ∧ Framed s o t [] 600000 7302250
def lw_Z (below : List Frame) (a : Array Value) (s : State) : State → Prop := fun t => ∃ o, t.status = .running ∧ Ended t below o ∧ lw_Q a s o t
/-- the law's own end, with 1 on the stack, nothing written that was there before, its room as the claim has it -/
theorem lw_ret {p : Program} {l : Launch} {e : Env} {s : State} {m : MethodId} {below : List Frame} {meth : Method} {c : Code} {b : Nat} (hx : p.tables.exec = Jvm.exec) (hb : c.code = code) (hr : meth.sig.returnType = ret) (hlocks : meth.locks = false) {pc : Nat} {H : Heap} {ls : Array Slot} (hdg : decode code pc = .ok (.ireturn, 1)) : W p l e room_1 s m #[Value.ref b] below meth c H [] 600000 7302250 (lw_Z below #[Value.ref b] s) (F0 m pc ls [.int 1]) := by
  intro T hT X
  obtain ⟨fs, hret, hrun, hended, hW, hframe⟩ := X.leave (v := some (.int 1)) (hlocks := hlocks) (fun h => by rw [hr] at h; cases h)
  have hmeth' : T.vm.method? m = some meth := X.method'
  refine ⟨T.setFrames fs, ?_, .returned (some (.int 1)), hrun, hended, rfl, ⟨_, rfl⟩, hW, hframe⟩
  jvm_step X.here [X.here.top, hx, hb, hdg, hmeth', hr, ret, narrow_b1]
  (try refine ⟨rfl, ?_⟩); (try refine ⟨rfl, ?_⟩)
  first | (intro acts; rw [hret _ acts rfl rfl rfl]) | rw [hret _ _ rfl rfl rfl]
  exact Steps.refl _
/-- what holds at the law's entry: the machine, the code, the tables' words (any of lw_tbl by 'hts w (by decide +kernel)'), the script of L ints xs at the cell b, what the Statement gives of the start (any of its parts by flat_of_before) -/
def lw_At (p : Program) (s : State) (m : MethodId) (meth : Method) (c : Code) (b L : Nat) (xs : Nat → Int32) : Prop :=
  p.tables.exec = Jvm.exec ∧ c.code = code ∧ meth.sig.returnType = ret ∧ c.maxLocals = 4 ∧ s.vm.findClass R_law = some m.cls ∧ (∀ w ∈ lw_tbl, w.before #[Value.ref b] s = true) ∧ va_X b L xs s s.heap ∧ b < s.heap.size ∧ meth.locks = false ∧ (Jvm.Cond.and given_1 narrow_1).before #[Value.ref b] s = true
/-! THE LAW's calls: one graph is worked on, the other stands -/
def ap_L (l1 l2 : List Nat) : Prop := ∀ p ∈ l1, ∀ q ∈ l2, p ≠ q
section FWL
variable {D : va_G} {ca : Nat → ClassId} {p : Program} {l : Launch} {e : Env} {R : Room} {s : State} {m : MethodId} {args : Array Value} {below : List Frame} {meth : Method} {c : Code} {H : Heap} {locs : List Loc} {A : Nat → Prop} {Q : State → Prop} {cells slots : Nat}
theorem fw_LV {w1 : fw_S → va_W} {W2 : va_W} {cc bytes : ByteArray} {nL maxL index n : Nat} {own : String} {y : MethodName} {ret : Option FieldType} {rm : Room} {qv : Option Value} {t u : fw_S} {pc : Nat} {ls : Array Slot} {As rest st0 : List Value} {lv : List (Nat × Value)} {b q0 ci : Nat} {fs : List Value} {T : u_T} {N : Nat}
    (hx : p.tables.exec = Jvm.exec) (hb : c.code = cc) (hml : c.maxLocals = nL) (hown : s.vm.findClass own = some m.cls) (hts : ∀ x ∈ lw_gd, x.before args s = true) (hN : lw_Nz s) (hK : va_K D classes (tyv ca) s)
    (hM : MC w1 D (tyv ca) l y (.code y bytes maxL ret :: lw_gd) rm (.ref b :: As) qv t u) (h1 : Cond.methodLink own index y ∈ lw_gd) (h2 : Cond.instanceMethod y ∈ lw_gd) (h3 : Cond.initialized y.cls ∈ lw_gd) (h4 : Cond.code y bytes maxL ret ∈ lw_gd) (h5 : Cond.selects y.cls y y ∈ lw_gd)
    (hP : va_P D classes (w1 t) H) (hP2 : va_P D classes W2 H) (hap : ap_L ((w1 t).map Prod.fst) (W2.map Prod.fst)) (hD : va_D A (w1 t)) (hS : va_S A s.heap H locs) (hA : ∀ q, s.heap.size ≤ q → A q) (hl : lv_has ls nL lv) (he : (w1 t)[q0]? = some (b, .inr (ci, fs))) (hcl : classes[ci]? = some (y.cls, T, N)) (hrc : rm.cells = 0) (hrs : rm.slots = 0) (hc : cells ≤ R.cells ∧ slots ≤ R.slots)
    (hd : y.cls ≠ "java/lang/invoke/MethodHandle" ∧ y.cls ≠ "java/lang/invoke/VarHandle" ∧ (parseMethodDescriptor y.desc).map (fun d => d.parameters.length) = some n) (hR : rm.frames + 1 ≤ R.frames ∧ 8 + (maxL + 11) + rm.locals ≤ R.locals)
    (hn : As.length = n) (hst : st0 = As.reverse ++ .ref b :: rest) (hW : (rest.map fun v => v.category).sum ≤ 8) (hdg : decode cc pc = .ok (.invokevirtual index, 3))
    (kk : ∀ (H1 : Heap) (locs1 : List Loc), va_P D classes (w1 u) H1 → va_P D classes W2 H1 → va_S A s.heap H1 locs1 → W p l e R s m args below meth c H1 locs1 cells slots Q (F0 m (pc + 3) ls (qv.toList ++ rest))) : W p l e R s m args below meth c H locs cells slots Q (F0 m pc ls st0) := by
  subst hst
  have hp := fw_pre (av := .ref b :: As) hN hK hP hD
  have hr : va_Run p l e R s m args below meth c H locs cells slots 0 0 (F0 m pc ls (As.reverse ++ .ref b :: rest)) rest (fun st oc z => (oc = .returned qv ∧ va_P D classes (w1 u) z.heap) ∧ va_F (va_A (w1 t) H.size) st z) (va_A (w1 t) H.size) :=
    va_runV (n := n) (mc := 0) (ms := 0) (C := y.cls) ⟨hx, hb, hml, hown, hts⟩ (hM H.size) ⟨callB_of n hts (fw_kgood h4) rfl hrc hrs (hts _ h3) (hts _ h1) hd hR, hts _ h2, hts _ h5⟩ ⟨hp.1, va_recv hK hP hcl he, hp.2⟩ rfl hn hl.1 rfl (lv_room hW) hdg (by omega)
  have hF := fw_free hD hS hA
  intro T' hT X
  obtain ⟨v, st₀, t', T2, L, h0, X', hL, e1, e2, ⟨⟨hv, hp1⟩, hz, hk⟩, st⟩ := hr T' hT X
  cases hv
  rw [h0] at hz hk
  have hP2' : va_P D classes W2 t'.heap := hP2.kept (fun k q hq => hk q.1 (hP2 k q hq).lt (by
    rintro (⟨i, x, hi⟩ | h)
    · exact hap q.1 (List.mem_map.mpr ⟨_, List.mem_of_getElem? hi, rfl⟩) q.1 (List.mem_map.mpr ⟨_, List.mem_of_getElem? hq, rfl⟩) rfl
    · exact absurd (hP2 k q hq).lt (Nat.not_lt.mpr h)))
  obtain ⟨t2, a1, b1⟩ := kk T2.heap (locs ++ L) (by rw [e1]; exact hp1) (by rw [e1]; exact hP2')
    ⟨Nat.le_trans hS.1 (by rw [e1]; exact hz), fun q h1 h2 => by rw [e1, hk q (Nat.lt_of_lt_of_le h1 hS.1) (fun z => h2 (hF q z))]; exact hS.2.1 q h1 h2, fun q hq => by
      rcases List.mem_append.mp hq with h | h
      · exact hS.2.2 q h
      · exact hF _ (hL q h)⟩ T2 rfl X'
  exact ⟨t2, st t2 a1, b1⟩
end FWL
/-! THE LAW: small rows -/
theorem lw_mf {α : Type} {o : Option (α × fw_S)} {r : α} (h : o.map Prod.fst = some r) : ∃ u, o = some (r, u) := by
  cases o with
  | none => simp at h
  | some q =>
    obtain ⟨x, u⟩ := q
    have h : some x = some r := h
    exact ⟨u, by rw [Option.some.inj h]⟩
theorem lw_cmp0 (x : Int64) : lg_cmp x x = 0 := (lg_cmp_eq x x).mpr rfl
theorem lw_in0 : vp_in (0 : Int32) 8 := by unfold vp_in; decide
theorem lw_in1 : vp_in ((0 : Int32) + 1) 8 := by unfold vp_in; decide
theorem lw_in2 : vp_in ((0 : Int32) + 2) 8 := by unfold vp_in; decide
theorem lw_in3 : vp_in ((0 : Int32) + 3) 8 := by unfold vp_in; decide
theorem lw_in4 : vp_in ((0 : Int32) + 4) 8 := by unfold vp_in; decide
theorem lw_in5 : vp_in ((0 : Int32) + 5) 8 := by unfold vp_in; decide
theorem lw_in6 : vp_in ((0 : Int32) + 6) 8 := by unfold vp_in; decide
theorem lw_in7 : vp_in ((0 : Int32) + 7) 8 := by unfold vp_in; decide
theorem lw_L9 : ∀ L : Nat, L < 9 → ¬ (Int32.ofNat L - 8 < (0 : Int32)) → L = 8 := by decide
theorem lw_L8 {L : Nat} (hL : L ≤ 8) (h : ¬ (Int32.ofNat L - 8 < (0 : Int32))) : L = 8 := lw_L9 L (Nat.lt_succ_of_le hL) h
theorem lw_36 {z : Int} (h1 : ¬ z < 0) (h2 : ¬ 35 < z) : ∃ n : Nat, n < 36 ∧ z = (n : Int) := ⟨z.toNat, by omega, by omega⟩
theorem lw_c600 : 600000 ≤ room_1.cells ∧ 7302250 ≤ room_1.slots := ⟨Nat.le_of_ble_eq_true rfl, Nat.le_of_ble_eq_true rfl⟩
theorem lw_Pn {D : va_G} {cl : List vw_C} {H : Heap} : va_P D cl [] H := fun k q h => by simp at h
theorem lw_apn {l1 : List Nat} : ap_L l1 (([] : va_W).map Prod.fst) := fun _ _ _ h => absurd h List.not_mem_nil
theorem lw_Nn {b : Addr} {s : State} (hts : ∀ w ∈ lw_tbl, w.before #[Value.ref b] s = true) : lw_Nz s := by
  intro q hq
  have h1 := hts q (List.mem_filter.mp hq).1
  have h2 := (List.mem_filter.mp hq).2
  cases q <;> first | (simp [lw_isN] at h2; done) | exact va_Nw.of rfl h1
section FWJ
variable {D : va_G} {cl : List vw_C} {A : Nat → Prop} {H0 H H1 : Heap} {locs : List Loc} {w1 w2 ws wa : va_W} {q : Nat} {x : va_E}
theorem fw_Pl (h : va_P D cl (w1 ++ w2) H) : va_P D cl w1 H := fun k r hk => h k r (by rw [List.getElem?_append_left (List.getElem?_eq_some_iff.mp hk).1]; exact hk)
theorem fw_Pr (h : va_P D cl (w1 ++ w2) H) : va_P D cl w2 H := fun k r hk => h (w1.length + k) r (by rw [List.getElem?_append_right (Nat.le_add_right _ _), Nat.add_sub_cancel_left]; exact hk)
theorem fw_Dr (h : va_D A (w1 ++ w2)) : va_D A w2 := by
  have hr : ∀ (k : Nat) (r : Nat × va_E), w2[k]? = some r → (w1 ++ w2)[w1.length + k]? = some r := fun k r hk => by rw [List.getElem?_append_right (Nat.le_add_right _ _), Nat.add_sub_cancel_left]; exact hk
  refine ⟨fun i j r u hi hj he => ?_, fun k r hk => h.2 _ r (hr k r hk)⟩
  have := h.1 _ _ r u (hr i r hi) (hr j u hj) he
  omega
theorem fw_Fr2 (hD : va_D A (w1 ++ [(q, x)])) (hS : va_S A H0 H locs) (hA : ∀ q, H0.size ≤ q → A q) : ∀ y, va_A [(q, x)] H.size y → A y := by
  rintro y (⟨k, e, hk⟩ | h)
  · exact (fw_Dr hD).2 k _ hk
  · exact hA y (Nat.le_trans hS.1 h)
theorem fw_J2 (hP : va_P D cl ws H) (hD : va_D A (ws ++ [(q, x)])) (hk : ∀ y, y < H.size → ¬ va_A [(q, x)] H.size y → H1[y]? = H[y]?) (hDa : va_D (va_A [(q, x)] H.size) wa) : va_P D cl ws H1 ∧ ap_L (ws.map Prod.fst) (wa.map Prod.fst) := by
  have hno : ∀ (k : Nat) (r : Nat × va_E), ws[k]? = some r → ¬ va_A [(q, x)] H.size r.1 := by
    rintro k r hr (⟨i, e, hi⟩ | h)
    · have hz : i < 1 := (List.getElem?_eq_some_iff.mp hi).1
      have h0 : i = 0 := by omega
      subst h0
      have hi : some (q, x) = some (r.1, e) := hi
      have e1 : q = r.1 := congrArg Prod.fst (Option.some.inj hi)
      have hlt := (List.getElem?_eq_some_iff.mp hr).1
      have h3 := hD.1 k ws.length r (q, x) (by rw [List.getElem?_append_left hlt]; exact hr) (by rw [List.getElem?_append_right (Nat.le_refl _), Nat.sub_self]; rfl) e1.symm
      omega
    · exact absurd (hP k r hr).lt (Nat.not_lt.mpr h)
  refine ⟨hP.kept (fun k r hr => hk r.1 (hP k r hr).lt (hno k r hr)), ?_⟩
  intro y hy z hz he
  obtain ⟨r, hr, rfl⟩ := List.mem_map.mp hy
  obtain ⟨u, hu, rfl⟩ := List.mem_map.mp hz
  obtain ⟨i, hi⟩ := List.getElem?_of_mem hr
  obtain ⟨j, hj⟩ := List.getElem?_of_mem hu
  exact hno i r hi (by rw [he]; exact hDa.2 j u hj)
end FWJ
