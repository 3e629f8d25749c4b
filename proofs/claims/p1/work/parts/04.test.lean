def yX10_isCell : MethodName := ⟨RX10, "isCell", "(J)Z"⟩
def yX0_kindOf : MethodName := ⟨RX0, "kindOf", "(I)I"⟩
def yX0_countOf : MethodName := ⟨RX0, "countOf", "(I)I"⟩
def yX10_bit : MethodName := ⟨RX10, "bit", "(I)J"⟩
def yX0_plain : MethodName := ⟨RX0, "plain", "()J"⟩
theorem kw_92 : Cond.initialized RX10 ∈ lw_gd := lw_g (List.mem_of_getElem? (i := 92) (by decide +kernel)) rfl
theorem kw_187 : Cond.fieldLink RX0 9 "ReactiveSheet$Cells" "kinds" "[I" ∈ lw_gd := lw_g (List.mem_of_getElem? (i := 187) (by decide +kernel)) rfl
theorem kw_399 : Cond.static yX10_isCell ∈ lw_gd := lw_g (List.mem_of_getElem? (i := 399) (by decide +kernel)) rfl
theorem kw_400 : Cond.code yX10_isCell prog_1_method_38_code 2 (some .boolean) ∈ lw_gd := lw_g (List.mem_of_getElem? (i := 400) (by decide +kernel)) rfl
theorem kw_401 : Cond.constantLong RX10 296 (32) ∈ lw_gd := lw_g (List.mem_of_getElem? (i := 401) (by decide +kernel)) rfl
theorem kw_408 : Cond.static yX10_bit ∈ lw_gd := lw_g (List.mem_of_getElem? (i := 408) (by decide +kernel)) rfl
theorem kw_409 : Cond.code yX10_bit prog_1_method_39_code 1 (some .long) ∈ lw_gd := lw_g (List.mem_of_getElem? (i := 409) (by decide +kernel)) rfl
theorem kw_429 : Cond.methodLinkNest RX0 69 yX10_isCell "ReactiveSheet" ∈ lw_ns := lw_n (List.mem_of_getElem? (i := 429) (by decide +kernel)) rfl
theorem kw_456 : Cond.methodLinkNest RX0 73 yX10_bit "ReactiveSheet" ∈ lw_ns := lw_n (List.mem_of_getElem? (i := 456) (by decide +kernel)) rfl
theorem dX0_countOf_0 : decode prog_2_method_28_code 0 = .ok (.iconst 0, 1) := by decide +kernel
theorem dX0_countOf_1 : decode prog_2_method_28_code 1 = .ok (.istore_n 2, 1) := by decide +kernel
theorem dX0_countOf_2 : decode prog_2_method_28_code 2 = .ok (.iconst 0, 1) := by decide +kernel
theorem dX0_countOf_3 : decode prog_2_method_28_code 3 = .ok (.istore_n 3, 1) := by decide +kernel
theorem dX0_countOf_4 : decode prog_2_method_28_code 4 = .ok (.iload_n 3, 1) := by decide +kernel
theorem dX0_countOf_5 : decode prog_2_method_28_code 5 = .ok (.bipush 32, 2) := by decide +kernel
theorem dX0_countOf_7 : decode prog_2_method_28_code 7 = .ok (.if_icmp .ge 22, 3) := by decide +kernel
theorem dX0_countOf_10 : decode prog_2_method_28_code 10 = .ok (.aload_n 0, 1) := by decide +kernel
theorem dX0_countOf_11 : decode prog_2_method_28_code 11 = .ok (.getfield 9, 3) := by decide +kernel
theorem dX0_countOf_14 : decode prog_2_method_28_code 14 = .ok (.iload_n 3, 1) := by decide +kernel
theorem dX0_countOf_15 : decode prog_2_method_28_code 15 = .ok (.iaload, 1) := by decide +kernel
theorem dX0_countOf_16 : decode prog_2_method_28_code 16 = .ok (.iload_n 1, 1) := by decide +kernel
theorem dX0_countOf_17 : decode prog_2_method_28_code 17 = .ok (.if_icmp .ne 6, 3) := by decide +kernel
theorem dX0_countOf_20 : decode prog_2_method_28_code 20 = .ok (.iinc 2 1, 3) := by decide +kernel
theorem dX0_countOf_23 : decode prog_2_method_28_code 23 = .ok (.iinc 3 1, 3) := by decide +kernel
theorem dX0_countOf_26 : decode prog_2_method_28_code 26 = .ok (.goto (-22), 3) := by decide +kernel
theorem dX0_countOf_29 : decode prog_2_method_28_code 29 = .ok (.iload_n 2, 1) := by decide +kernel
theorem dX0_countOf_30 : decode prog_2_method_28_code 30 = .ok (.ireturn, 1) := by decide +kernel
theorem dX0_kindOf_0 : decode prog_2_method_10_code 0 = .ok (.iload_n 1, 1) := by decide +kernel
theorem dX0_kindOf_1 : decode prog_2_method_10_code 1 = .ok (.i2l, 1) := by decide +kernel
theorem dX0_kindOf_2 : decode prog_2_method_10_code 2 = .ok (.invokestatic 69, 3) := by decide +kernel
theorem dX0_kindOf_5 : decode prog_2_method_10_code 5 = .ok (.ifCond .eq 12, 3) := by decide +kernel
theorem dX0_kindOf_8 : decode prog_2_method_10_code 8 = .ok (.aload_n 0, 1) := by decide +kernel
theorem dX0_kindOf_9 : decode prog_2_method_10_code 9 = .ok (.getfield 9, 3) := by decide +kernel
theorem dX0_kindOf_12 : decode prog_2_method_10_code 12 = .ok (.iload_n 1, 1) := by decide +kernel
theorem dX0_kindOf_13 : decode prog_2_method_10_code 13 = .ok (.iaload, 1) := by decide +kernel
theorem dX0_kindOf_14 : decode prog_2_method_10_code 14 = .ok (.goto 4, 3) := by decide +kernel
theorem dX0_kindOf_17 : decode prog_2_method_10_code 17 = .ok (.iconst 0, 1) := by decide +kernel
theorem dX0_kindOf_18 : decode prog_2_method_10_code 18 = .ok (.ireturn, 1) := by decide +kernel
theorem dX0_plain_0 : decode prog_2_method_30_code 0 = .ok (.lconst 0, 1) := by decide +kernel
theorem dX0_plain_1 : decode prog_2_method_30_code 1 = .ok (.lstore_n 1, 1) := by decide +kernel
theorem dX0_plain_2 : decode prog_2_method_30_code 2 = .ok (.iconst 0, 1) := by decide +kernel
theorem dX0_plain_3 : decode prog_2_method_30_code 3 = .ok (.istore_n 3, 1) := by decide +kernel
theorem dX0_plain_4 : decode prog_2_method_30_code 4 = .ok (.iload_n 3, 1) := by decide +kernel
theorem dX0_plain_5 : decode prog_2_method_30_code 5 = .ok (.bipush 32, 2) := by decide +kernel
theorem dX0_plain_7 : decode prog_2_method_30_code 7 = .ok (.if_icmp .ge 26, 3) := by decide +kernel
theorem dX0_plain_10 : decode prog_2_method_30_code 10 = .ok (.aload_n 0, 1) := by decide +kernel
theorem dX0_plain_11 : decode prog_2_method_30_code 11 = .ok (.getfield 9, 3) := by decide +kernel
theorem dX0_plain_14 : decode prog_2_method_30_code 14 = .ok (.iload_n 3, 1) := by decide +kernel
theorem dX0_plain_15 : decode prog_2_method_30_code 15 = .ok (.iaload, 1) := by decide +kernel
theorem dX0_plain_16 : decode prog_2_method_30_code 16 = .ok (.iconst 2, 1) := by decide +kernel
theorem dX0_plain_17 : decode prog_2_method_30_code 17 = .ok (.if_icmp .eq 10, 3) := by decide +kernel
theorem dX0_plain_20 : decode prog_2_method_30_code 20 = .ok (.lload_n 1, 1) := by decide +kernel
theorem dX0_plain_21 : decode prog_2_method_30_code 21 = .ok (.iload_n 3, 1) := by decide +kernel
theorem dX0_plain_22 : decode prog_2_method_30_code 22 = .ok (.invokestatic 73, 3) := by decide +kernel
theorem dX0_plain_25 : decode prog_2_method_30_code 25 = .ok (.lor, 1) := by decide +kernel
theorem dX0_plain_26 : decode prog_2_method_30_code 26 = .ok (.lstore_n 1, 1) := by decide +kernel
theorem dX0_plain_27 : decode prog_2_method_30_code 27 = .ok (.iinc 3 1, 3) := by decide +kernel
theorem dX0_plain_30 : decode prog_2_method_30_code 30 = .ok (.goto (-26), 3) := by decide +kernel
theorem dX0_plain_33 : decode prog_2_method_30_code 33 = .ok (.lload_n 1, 1) := by decide +kernel
theorem dX0_plain_34 : decode prog_2_method_30_code 34 = .ok (.lreturn, 1) := by decide +kernel
theorem dX10_bit_0 : decode prog_1_method_39_code 0 = .ok (.lconst 1, 1) := by decide +kernel
theorem dX10_bit_1 : decode prog_1_method_39_code 1 = .ok (.iload_n 0, 1) := by decide +kernel
theorem dX10_bit_2 : decode prog_1_method_39_code 2 = .ok (.lshl, 1) := by decide +kernel
theorem dX10_bit_3 : decode prog_1_method_39_code 3 = .ok (.lreturn, 1) := by decide +kernel
theorem dX10_isCell_0 : decode prog_1_method_38_code 0 = .ok (.lload_n 0, 1) := by decide +kernel
theorem dX10_isCell_1 : decode prog_1_method_38_code 1 = .ok (.lconst 0, 1) := by decide +kernel
theorem dX10_isCell_2 : decode prog_1_method_38_code 2 = .ok (.lcmp, 1) := by decide +kernel
theorem dX10_isCell_3 : decode prog_1_method_38_code 3 = .ok (.ifCond .lt 15, 3) := by decide +kernel
theorem dX10_isCell_6 : decode prog_1_method_38_code 6 = .ok (.lload_n 0, 1) := by decide +kernel
theorem dX10_isCell_7 : decode prog_1_method_38_code 7 = .ok (.ldc2_w 296, 3) := by decide +kernel
theorem dX10_isCell_10 : decode prog_1_method_38_code 10 = .ok (.lcmp, 1) := by decide +kernel
theorem dX10_isCell_11 : decode prog_1_method_38_code 11 = .ok (.ifCond .ge 7, 3) := by decide +kernel
theorem dX10_isCell_14 : decode prog_1_method_38_code 14 = .ok (.iconst 1, 1) := by decide +kernel
theorem dX10_isCell_15 : decode prog_1_method_38_code 15 = .ok (.goto 4, 3) := by decide +kernel
theorem dX10_isCell_18 : decode prog_1_method_38_code 18 = .ok (.iconst 0, 1) := by decide +kernel
theorem dX10_isCell_19 : decode prog_1_method_38_code 19 = .ok (.ireturn, 1) := by decide +kernel
/-! ReactiveSheet.isCell(J)Z [] -/
abbrev rm_X_X10_isCell : Room := { frames := 0, cells := 0, slots := 0, locals := 0 }
def b_X_X10_isCell_19  (t : fw_S) (z0 : Int32) : Option (Int32 × fw_S) := fb_g (z0 = 0 ∨ z0 = 1) (some (z0, t))
def b_X_X10_isCell_18  (t : fw_S)  : Option (Int32 × fw_S) := b_X_X10_isCell_19 t ((0 : Int32))
def b_X_X10_isCell_14  (t : fw_S)  : Option (Int32 × fw_S) := b_X_X10_isCell_19 t ((1 : Int32))
def b_X_X10_isCell_6  (t : fw_S) (y0 : Int64) : Option (Int32 × fw_S) := if 0 ≤ (lg_cmp y0 ((32 : Int64))) then b_X_X10_isCell_18 t else b_X_X10_isCell_14 t
def b_X_X10_isCell_0  (t : fw_S) (y0 : Int64) : Option (Int32 × fw_S) := if (lg_cmp y0 ((0 : Int64))) < 0 then b_X_X10_isCell_18 t else b_X_X10_isCell_6 t y0
def f_X_X10_isCell (t : fw_S) (y0 : Int64) : Option (Int32 × fw_S) := b_X_X10_isCell_0 t y0
set_option maxRecDepth 20000 in
theorem w_X_X10_isCell_19 {p : Program} {l : Launch} {e : Env} {s : State} {m : MethodId} {args : Array Value} {below : List Frame} {meth : Method} {c : Code} {A : Nat → Prop} {Q : State → Prop} {D : va_G} {ca : Nat → ClassId} {a : Nat → Nat} {u : fw_S} {r : Int32}  (C : CX (WX ca a) D (tyv ca) p s m args c A prog_1_method_38_code 2 RX10) (hr : (r = 0 ∨ r = 1) → RX (WX ca a) D p l e rm_X_X10_isCell s m args below meth c A prog_1_method_38_code Q .ireturn [.int r] u) {t : fw_S} {z0 : Int32} {H : Heap} {locs : List Loc} {ls : Array Slot} (hf : b_X_X10_isCell_19  t z0 = some (r, u)) (hP : va_P D classes (WX ca a t) H) (hS : va_S A s.heap H locs) (hl : lv_has ls 2 []) : W p l e rm_X_X10_isCell s m args below meth c H locs 0 0 Q (F0 m 19 ls [.int z0]) := by
  obtain ⟨hx, hb, hml, hown, hts, hN, hK, hD, hA⟩ := id C
  have hf : (fb_g (z0 = 0 ∨ z0 = 1) (some (z0, t))) = some (r, u) := hf
  obtain ⟨h_19, hf⟩ := fb_if hf
  cases hf
  exact hr h_19 _ _ _ _ hP hS dX10_isCell_19
set_option maxRecDepth 20000 in
theorem w_X_X10_isCell_18 {p : Program} {l : Launch} {e : Env} {s : State} {m : MethodId} {args : Array Value} {below : List Frame} {meth : Method} {c : Code} {A : Nat → Prop} {Q : State → Prop} {D : va_G} {ca : Nat → ClassId} {a : Nat → Nat} {u : fw_S} {r : Int32}  (C : CX (WX ca a) D (tyv ca) p s m args c A prog_1_method_38_code 2 RX10) (hr : (r = 0 ∨ r = 1) → RX (WX ca a) D p l e rm_X_X10_isCell s m args below meth c A prog_1_method_38_code Q .ireturn [.int r] u) {t : fw_S}  {H : Heap} {locs : List Loc} {ls : Array Slot} (hf : b_X_X10_isCell_18  t  = some (r, u)) (hP : va_P D classes (WX ca a t) H) (hS : va_S A s.heap H locs) (hl : lv_has ls 2 []) : W p l e rm_X_X10_isCell s m args below meth c H locs 0 0 Q (F0 m 18 ls []) := by
  obtain ⟨hx, hb, hml, hown, hts, hN, hK, hD, hA⟩ := id C
  have hf : (b_X_X10_isCell_19 t ((0 : Int32))) = some (r, u) := hf
  refine lv_iconst (v := 0) hx hb dX10_isCell_18 (by decide) ?_
  exact w_X_X10_isCell_19 C hr hf hP hS (lv_sub hl [] rfl)
set_option maxRecDepth 20000 in
theorem w_X_X10_isCell_14 {p : Program} {l : Launch} {e : Env} {s : State} {m : MethodId} {args : Array Value} {below : List Frame} {meth : Method} {c : Code} {A : Nat → Prop} {Q : State → Prop} {D : va_G} {ca : Nat → ClassId} {a : Nat → Nat} {u : fw_S} {r : Int32}  (C : CX (WX ca a) D (tyv ca) p s m args c A prog_1_method_38_code 2 RX10) (hr : (r = 0 ∨ r = 1) → RX (WX ca a) D p l e rm_X_X10_isCell s m args below meth c A prog_1_method_38_code Q .ireturn [.int r] u) {t : fw_S}  {H : Heap} {locs : List Loc} {ls : Array Slot} (hf : b_X_X10_isCell_14  t  = some (r, u)) (hP : va_P D classes (WX ca a t) H) (hS : va_S A s.heap H locs) (hl : lv_has ls 2 []) : W p l e rm_X_X10_isCell s m args below meth c H locs 0 0 Q (F0 m 14 ls []) := by
  obtain ⟨hx, hb, hml, hown, hts, hN, hK, hD, hA⟩ := id C
  have hf : (b_X_X10_isCell_19 t ((1 : Int32))) = some (r, u) := hf
  refine lv_iconst (v := 1) hx hb dX10_isCell_14 (by decide) ?_
  refine lv_goto (tgt := 19) hx hb dX10_isCell_15 (by decide) ?_
  exact w_X_X10_isCell_19 C hr hf hP hS (lv_sub hl [] rfl)
set_option maxRecDepth 20000 in
theorem w_X_X10_isCell_6 {p : Program} {l : Launch} {e : Env} {s : State} {m : MethodId} {args : Array Value} {below : List Frame} {meth : Method} {c : Code} {A : Nat → Prop} {Q : State → Prop} {D : va_G} {ca : Nat → ClassId} {a : Nat → Nat} {u : fw_S} {r : Int32}  (C : CX (WX ca a) D (tyv ca) p s m args c A prog_1_method_38_code 2 RX10) (hr : (r = 0 ∨ r = 1) → RX (WX ca a) D p l e rm_X_X10_isCell s m args below meth c A prog_1_method_38_code Q .ireturn [.int r] u) {t : fw_S} {y0 : Int64} {H : Heap} {locs : List Loc} {ls : Array Slot} (hf : b_X_X10_isCell_6  t y0 = some (r, u)) (hP : va_P D classes (WX ca a t) H) (hS : va_S A s.heap H locs) (hl : lv_has ls 2 [(0, .long y0)]) : W p l e rm_X_X10_isCell s m args below meth c H locs 0 0 Q (F0 m 6 ls []) := by
  obtain ⟨hx, hb, hml, hown, hts, hN, hK, hD, hA⟩ := id C
  have hf : (if 0 ≤ (lg_cmp y0 ((32 : Int64))) then b_X_X10_isCell_18 t else b_X_X10_isCell_14 t) = some (r, u) := hf
  refine lv_lload_n hx hb dX10_isCell_6 rfl (lv_at hl 0 rfl) ?_
  refine lv_ldc2 (v := (32)) hx hb hown (hts _ kw_401) dX10_isCell_7 ?_
  refine W.lcmp hx hb dX10_isCell_10 ?_
  refine lv_if_ge (tgt := 18) hx hb dX10_isCell_11 (by decide) (fun h_11 => ?_) (fun h_11 => ?_)
  · have hf := fb_t h_11 hf
    exact w_X_X10_isCell_18 C hr hf hP hS (lv_sub hl [] rfl)
  · have hf := fb_f h_11 hf
    exact w_X_X10_isCell_14 C hr hf hP hS (lv_sub hl [] rfl)
set_option maxRecDepth 20000 in
theorem w_X_X10_isCell_0 {p : Program} {l : Launch} {e : Env} {s : State} {m : MethodId} {args : Array Value} {below : List Frame} {meth : Method} {c : Code} {A : Nat → Prop} {Q : State → Prop} {D : va_G} {ca : Nat → ClassId} {a : Nat → Nat} {u : fw_S} {r : Int32}  (C : CX (WX ca a) D (tyv ca) p s m args c A prog_1_method_38_code 2 RX10) (hr : (r = 0 ∨ r = 1) → RX (WX ca a) D p l e rm_X_X10_isCell s m args below meth c A prog_1_method_38_code Q .ireturn [.int r] u) {t : fw_S} {y0 : Int64} {H : Heap} {locs : List Loc} {ls : Array Slot} (hf : b_X_X10_isCell_0  t y0 = some (r, u)) (hP : va_P D classes (WX ca a t) H) (hS : va_S A s.heap H locs) (hl : lv_has ls 2 [(0, .long y0)]) : W p l e rm_X_X10_isCell s m args below meth c H locs 0 0 Q (F0 m 0 ls []) := by
  obtain ⟨hx, hb, hml, hown, hts, hN, hK, hD, hA⟩ := id C
  have hf : (if (lg_cmp y0 ((0 : Int64))) < 0 then b_X_X10_isCell_18 t else b_X_X10_isCell_6 t y0) = some (r, u) := hf
  refine lv_lload_n hx hb dX10_isCell_0 rfl (lv_at hl 0 rfl) ?_
  refine lv_lconst (v := 0) hx hb dX10_isCell_1 (by decide) ?_
  refine W.lcmp hx hb dX10_isCell_2 ?_
  refine lv_if_lt (tgt := 18) hx hb dX10_isCell_3 (by decide) (fun h_3 => ?_) (fun h_3 => ?_)
  · have hf := fb_t h_3 hf
    exact w_X_X10_isCell_18 C hr hf hP hS (lv_sub hl [] rfl)
  · have hf := fb_f h_3 hf
    exact w_X_X10_isCell_6 C hr hf hP hS (lv_sub hl [0] rfl)
set_option maxRecDepth 20000 in
theorem c_X_X10_isCell {l : Launch} {D : va_G} {ca : Nat → ClassId} {a : Nat → Nat} {t : fw_S} {y0 : Int64} {u : fw_S} {r : Int32} (hf : f_X_X10_isCell t y0 = some (r, u)) : MC (WX ca a) D (tyv ca) l yX10_isCell (.code yX10_isCell prog_1_method_38_code 2 (some .boolean) :: lw_gd) rm_X_X10_isCell [.long y0] (some (.int r)) t u := by
  refine fw_met (okX ca a) (by decide +kernel) rfl rfl (Nat.le_of_ble_eq_true rfl) ?_
  intro p e s m args below meth c A Q ls C hr hk hP hS hl hQ
  exact w_X_X10_isCell_0 C (fun hz => fw_rz C hr hk hz hQ) hf hP hS (lv_sub hl [0] rfl)
/-! ReactiveSheet.Cells.kindOf(I)I ['x.engine.now'] -/
abbrev rm_X_X0_kindOf__4 : Room := { frames := 1, cells := 0, slots := 0, locals := 21 }
def b_X_X0_kindOf__4_18  (t : fw_S) (z0 : Int32) : Option (Int32 × fw_S) := some (z0, t)
def b_X_X0_kindOf__4_17  (t : fw_S)  : Option (Int32 × fw_S) := b_X_X0_kindOf__4_18 t ((0 : Int32))
def b_X_X0_kindOf__4_8  (t : fw_S) (x1 : Int32) : Option (Int32 × fw_S) := fb_g (¬ (x1 < 0 ∨ 32 ≤ x1.toNatClampNeg)) (b_X_X0_kindOf__4_18 t (st_F t 8 x1.toNatClampNeg))
def b_X_X0_kindOf__4_0  (t : fw_S) (x1 : Int32) : Option (Int32 × fw_S) := fb_b (f_X_X10_isCell t x1.toInt64) fun v_2 t_1 => (if v_2 = 0 then b_X_X0_kindOf__4_17 t_1 else b_X_X0_kindOf__4_8 t_1 x1)
def f_X_X0_kindOf__4 (t : fw_S) (x1 : Int32) : Option (Int32 × fw_S) := b_X_X0_kindOf__4_0 t x1
set_option maxRecDepth 20000 in
theorem w_X_X0_kindOf__4_18 {p : Program} {l : Launch} {e : Env} {s : State} {m : MethodId} {args : Array Value} {below : List Frame} {meth : Method} {c : Code} {A : Nat → Prop} {Q : State → Prop} {D : va_G} {ca : Nat → ClassId} {a : Nat → Nat} {u : fw_S} {r : Int32}  (C : CX (WX ca a) D (tyv ca) p s m args c A prog_2_method_10_code 2 RX0) (hr : True → RX (WX ca a) D p l e rm_X_X0_kindOf__4 s m args below meth c A prog_2_method_10_code Q .ireturn [.int r] u) {t : fw_S} {z0 : Int32} {H : Heap} {locs : List Loc} {ls : Array Slot} (hf : b_X_X0_kindOf__4_18  t z0 = some (r, u)) (hP : va_P D classes (WX ca a t) H) (hS : va_S A s.heap H locs) (hl : lv_has ls 2 []) : W p l e rm_X_X0_kindOf__4 s m args below meth c H locs 0 0 Q (F0 m 18 ls [.int z0]) := by
  obtain ⟨hx, hb, hml, hown, hts, hN, hK, hD, hA⟩ := id C
  have hf : (some (z0, t)) = some (r, u) := hf
  cases hf
  exact hr trivial _ _ _ _ hP hS dX0_kindOf_18
set_option maxRecDepth 20000 in
theorem w_X_X0_kindOf__4_17 {p : Program} {l : Launch} {e : Env} {s : State} {m : MethodId} {args : Array Value} {below : List Frame} {meth : Method} {c : Code} {A : Nat → Prop} {Q : State → Prop} {D : va_G} {ca : Nat → ClassId} {a : Nat → Nat} {u : fw_S} {r : Int32}  (C : CX (WX ca a) D (tyv ca) p s m args c A prog_2_method_10_code 2 RX0) (hr : True → RX (WX ca a) D p l e rm_X_X0_kindOf__4 s m args below meth c A prog_2_method_10_code Q .ireturn [.int r] u) {t : fw_S}  {H : Heap} {locs : List Loc} {ls : Array Slot} (hf : b_X_X0_kindOf__4_17  t  = some (r, u)) (hP : va_P D classes (WX ca a t) H) (hS : va_S A s.heap H locs) (hl : lv_has ls 2 []) : W p l e rm_X_X0_kindOf__4 s m args below meth c H locs 0 0 Q (F0 m 17 ls []) := by
  obtain ⟨hx, hb, hml, hown, hts, hN, hK, hD, hA⟩ := id C
  have hf : (b_X_X0_kindOf__4_18 t ((0 : Int32))) = some (r, u) := hf
  refine lv_iconst (v := 0) hx hb dX0_kindOf_17 (by decide) ?_
  exact w_X_X0_kindOf__4_18 C hr hf hP hS (lv_sub hl [] rfl)
set_option maxRecDepth 20000 in
theorem w_X_X0_kindOf__4_8 {p : Program} {l : Launch} {e : Env} {s : State} {m : MethodId} {args : Array Value} {below : List Frame} {meth : Method} {c : Code} {A : Nat → Prop} {Q : State → Prop} {D : va_G} {ca : Nat → ClassId} {a : Nat → Nat} {u : fw_S} {r : Int32}  (C : CX (WX ca a) D (tyv ca) p s m args c A prog_2_method_10_code 2 RX0) (hr : True → RX (WX ca a) D p l e rm_X_X0_kindOf__4 s m args below meth c A prog_2_method_10_code Q .ireturn [.int r] u) {t : fw_S} {x1 : Int32} {H : Heap} {locs : List Loc} {ls : Array Slot} (hf : b_X_X0_kindOf__4_8  t x1 = some (r, u)) (hP : va_P D classes (WX ca a t) H) (hS : va_S A s.heap H locs) (hl : lv_has ls 2 [(0, .ref (a 4)), (1, .int x1)]) : W p l e rm_X_X0_kindOf__4 s m args below meth c H locs 0 0 Q (F0 m 8 ls []) := by
  obtain ⟨hx, hb, hml, hown, hts, hN, hK, hD, hA⟩ := id C
  have hf : (fb_g (¬ (x1 < 0 ∨ 32 ≤ x1.toNatClampNeg)) (b_X_X0_kindOf__4_18 t (st_F t 8 x1.toNatClampNeg))) = some (r, u) := hf
  refine lv_aload_n hx hb dX0_kindOf_8 rfl (lv_at hl 0 rfl) ?_
  refine va_get (D := D) (ci := 0) (v := .ref (a 22)) (C := RX0) (T := TX0) (N := 12) hx hb hts inX0 hown hK hP 4 (heX_4 ca a t) rfl 0 (by decide) (hts _ kw_187) (fun _ h9 => h9) rfl dX0_kindOf_9 ?_
  refine lv_iload_n hx hb dX0_kindOf_12 rfl (lv_at hl 1 rfl) ?_
  obtain ⟨h_13, hf⟩ := fb_if hf
  refine va_iald hx hb hK hP 22 0 (haX_22 ca a t) rfl h_13 dX0_kindOf_13 ?_
  refine lv_goto (tgt := 18) hx hb dX0_kindOf_14 (by decide) ?_
  exact w_X_X0_kindOf__4_18 C hr hf hP hS (lv_sub hl [] rfl)
set_option maxRecDepth 20000 in
theorem w_X_X0_kindOf__4_0 {p : Program} {l : Launch} {e : Env} {s : State} {m : MethodId} {args : Array Value} {below : List Frame} {meth : Method} {c : Code} {A : Nat → Prop} {Q : State → Prop} {D : va_G} {ca : Nat → ClassId} {a : Nat → Nat} {u : fw_S} {r : Int32}  (C : CX (WX ca a) D (tyv ca) p s m args c A prog_2_method_10_code 2 RX0) (hr : True → RX (WX ca a) D p l e rm_X_X0_kindOf__4 s m args below meth c A prog_2_method_10_code Q .ireturn [.int r] u) {t : fw_S} {x1 : Int32} {H : Heap} {locs : List Loc} {ls : Array Slot} (hf : b_X_X0_kindOf__4_0  t x1 = some (r, u)) (hP : va_P D classes (WX ca a t) H) (hS : va_S A s.heap H locs) (hl : lv_has ls 2 [(0, .ref (a 4)), (1, .int x1)]) : W p l e rm_X_X0_kindOf__4 s m args below meth c H locs 0 0 Q (F0 m 0 ls []) := by
  obtain ⟨hx, hb, hml, hown, hts, hN, hK, hD, hA⟩ := id C
  have hf : (fb_b (f_X_X10_isCell t x1.toInt64) fun v_2 t_1 => (if v_2 = 0 then b_X_X0_kindOf__4_17 t_1 else b_X_X0_kindOf__4_8 t_1 x1)) = some (r, u) := hf
  refine lv_iload_n hx hb dX0_kindOf_0 rfl (lv_at hl 1 rfl) ?_
  refine lv_i2l hx hb dX0_kindOf_1 rfl ?_
  obtain ⟨v_2, t_1, g_2, hf⟩ := fb_bs hf
  refine fw_S2 (As := [.long x1.toInt64]) (rest := []) (n := 1) C (c_X_X10_isCell (l := l) (D := D) (ca := ca) (a := a) g_2) kw_429 kw_399 kw_92 kw_400 hP hS hl rfl rfl (by decide) (by decide +kernel) ⟨Nat.le_of_ble_eq_true rfl, Nat.le_of_ble_eq_true rfl⟩ rfl rfl (Nat.le_of_ble_eq_true rfl) dX0_kindOf_2 (fun H locs hP hS => ?_)
  refine W.eq (g2 := F0 m 5 ls [.int v_2]) rfl ?_
  refine lv_if_eq (tgt := 17) hx hb dX0_kindOf_5 (by decide) (fun h_5 => ?_) (fun h_5 => ?_)
  · have hf := fb_t h_5 hf
    exact w_X_X0_kindOf__4_17 C hr hf hP hS (lv_sub hl [] rfl)
  · have hf := fb_f h_5 hf
    exact w_X_X0_kindOf__4_8 C hr hf hP hS (lv_sub hl [0, 1] rfl)
set_option maxRecDepth 20000 in
theorem c_X_X0_kindOf__4 {l : Launch} {D : va_G} {ca : Nat → ClassId} {a : Nat → Nat} {t : fw_S} {x1 : Int32} {u : fw_S} {r : Int32} (hf : f_X_X0_kindOf__4 t x1 = some (r, u)) : MC (WX ca a) D (tyv ca) l yX0_kindOf (.code yX0_kindOf prog_2_method_10_code 2 (some .int) :: lw_gd) rm_X_X0_kindOf__4 [.ref (a 4), .int x1] (some (.int r)) t u := by
  refine fw_met (okX ca a) (by decide +kernel) rfl rfl (Nat.le_of_ble_eq_true rfl) ?_
  intro p e s m args below meth c A Q ls C hr hk hP hS hl hQ
  exact w_X_X0_kindOf__4_0 C (fun _ => fw_ri C hr hk hQ) hf hP hS (lv_sub hl [0, 1] rfl)
/-! ReactiveSheet.Cells.countOf(I)I ['x.engine.now'] -/
abbrev rm_X_X0_countOf__4 : Room := { frames := 0, cells := 0, slots := 0, locals := 0 }
def b_X_X0_countOf__4_29  (t : fw_S) (x2 : Int32) : Option (Int32 × fw_S) := some (x2, t)
def b_X_X0_countOf__4_23 (k4 : fw_S → Int32 → Int32 → Int32 → Option (Int32 × fw_S)) (t : fw_S) (x1 : Int32) (x2 : Int32) (x3 : Int32) : Option (Int32 × fw_S) := k4 t x1 x2 (x3 + 1)
def b_X_X0_countOf__4_20 (k4 : fw_S → Int32 → Int32 → Int32 → Option (Int32 × fw_S)) (t : fw_S) (x1 : Int32) (x2 : Int32) (x3 : Int32) : Option (Int32 × fw_S) := b_X_X0_countOf__4_23 k4 t x1 (x2 + 1) x3
def b_X_X0_countOf__4_10 (k4 : fw_S → Int32 → Int32 → Int32 → Option (Int32 × fw_S)) (t : fw_S) (x1 : Int32) (x2 : Int32) (x3 : Int32) : Option (Int32 × fw_S) := fb_g (¬ (x3 < 0 ∨ 32 ≤ x3.toNatClampNeg)) (if (st_F t 8 x3.toNatClampNeg) = x1 then b_X_X0_countOf__4_20 k4 t x1 x2 x3 else b_X_X0_countOf__4_23 k4 t x1 x2 x3)
def b_X_X0_countOf__4_4  : Nat → (fw_S → Int32 → Int32 → Int32 → Option (Int32 × fw_S))
  | 0 => fun _ _ _ _ => none
  | n + 1 => fun t x1 x2 x3 => if ((32 : Int32)) ≤ x3 then b_X_X0_countOf__4_29 t x2 else b_X_X0_countOf__4_10 (b_X_X0_countOf__4_4 n) t x1 x2 x3
def b_X_X0_countOf__4_0  (t : fw_S) (x1 : Int32) : Option (Int32 × fw_S) := b_X_X0_countOf__4_4 3000 t x1 ((0 : Int32)) ((0 : Int32))
def f_X_X0_countOf__4 (t : fw_S) (x1 : Int32) : Option (Int32 × fw_S) := b_X_X0_countOf__4_0 t x1
set_option maxRecDepth 20000 in
theorem w_X_X0_countOf__4_29 {p : Program} {l : Launch} {e : Env} {s : State} {m : MethodId} {args : Array Value} {below : List Frame} {meth : Method} {c : Code} {A : Nat → Prop} {Q : State → Prop} {D : va_G} {ca : Nat → ClassId} {a : Nat → Nat} {u : fw_S} {r : Int32}  (C : CX (WX ca a) D (tyv ca) p s m args c A prog_2_method_28_code 4 RX0) (hr : True → RX (WX ca a) D p l e rm_X_X0_countOf__4 s m args below meth c A prog_2_method_28_code Q .ireturn [.int r] u) {t : fw_S} {x2 : Int32} {H : Heap} {locs : List Loc} {ls : Array Slot} (hf : b_X_X0_countOf__4_29  t x2 = some (r, u)) (hP : va_P D classes (WX ca a t) H) (hS : va_S A s.heap H locs) (hl : lv_has ls 4 [(2, .int x2)]) : W p l e rm_X_X0_countOf__4 s m args below meth c H locs 0 0 Q (F0 m 29 ls []) := by
  obtain ⟨hx, hb, hml, hown, hts, hN, hK, hD, hA⟩ := id C
  have hf : (some (x2, t)) = some (r, u) := hf
  refine lv_iload_n hx hb dX0_countOf_29 rfl (lv_at hl 0 rfl) ?_
  cases hf
  exact hr trivial _ _ _ _ hP hS dX0_countOf_30
set_option maxRecDepth 20000 in
theorem w_X_X0_countOf__4_23 {p : Program} {l : Launch} {e : Env} {s : State} {m : MethodId} {args : Array Value} {below : List Frame} {meth : Method} {c : Code} {A : Nat → Prop} {Q : State → Prop} {D : va_G} {ca : Nat → ClassId} {a : Nat → Nat} {u : fw_S} {r : Int32} {k4 : fw_S → Int32 → Int32 → Int32 → Option (Int32 × fw_S)} (C : CX (WX ca a) D (tyv ca) p s m args c A prog_2_method_28_code 4 RX0) (hr : True → RX (WX ca a) D p l e rm_X_X0_countOf__4 s m args below meth c A prog_2_method_28_code Q .ireturn [.int r] u) (hk4 : ∀ (t : fw_S) (x1 : Int32) (x2 : Int32) (x3 : Int32) (H : Heap) (locs : List Loc) (ls : Array Slot), k4 t x1 x2 x3 = some (r, u) → va_P D classes (WX ca a t) H → va_S A s.heap H locs → lv_has ls 4 [(0, .ref (a 4)), (1, .int x1), (2, .int x2), (3, .int x3)] → W p l e rm_X_X0_countOf__4 s m args below meth c H locs 0 0 Q (F0 m 4 ls [])) {t : fw_S} {x1 : Int32} {x2 : Int32} {x3 : Int32} {H : Heap} {locs : List Loc} {ls : Array Slot} (hf : b_X_X0_countOf__4_23 k4 t x1 x2 x3 = some (r, u)) (hP : va_P D classes (WX ca a t) H) (hS : va_S A s.heap H locs) (hl : lv_has ls 4 [(0, .ref (a 4)), (1, .int x1), (2, .int x2), (3, .int x3)]) : W p l e rm_X_X0_countOf__4 s m args below meth c H locs 0 0 Q (F0 m 23 ls []) := by
  obtain ⟨hx, hb, hml, hown, hts, hN, hK, hD, hA⟩ := id C
  have hf : (k4 t x1 x2 (x3 + 1)) = some (r, u) := hf
  refine lv_iinc (v := x3 + 1) (lv' := [(3, .int (x3 + 1)), (0, .ref (a 4)), (1, .int x1), (2, .int x2)]) hx hb dX0_countOf_23 hl (k := 3) rfl rfl (by decide) rfl (fun ls hl => ?_)
  refine lv_goto (tgt := 4) hx hb dX0_countOf_26 (by decide) ?_
  exact hk4 t x1 x2 (x3 + 1) _ _ _ hf hP hS (lv_sub hl [1, 2, 3, 0] rfl)
set_option maxRecDepth 20000 in
theorem w_X_X0_countOf__4_20 {p : Program} {l : Launch} {e : Env} {s : State} {m : MethodId} {args : Array Value} {below : List Frame} {meth : Method} {c : Code} {A : Nat → Prop} {Q : State → Prop} {D : va_G} {ca : Nat → ClassId} {a : Nat → Nat} {u : fw_S} {r : Int32} {k4 : fw_S → Int32 → Int32 → Int32 → Option (Int32 × fw_S)} (C : CX (WX ca a) D (tyv ca) p s m args c A prog_2_method_28_code 4 RX0) (hr : True → RX (WX ca a) D p l e rm_X_X0_countOf__4 s m args below meth c A prog_2_method_28_code Q .ireturn [.int r] u) (hk4 : ∀ (t : fw_S) (x1 : Int32) (x2 : Int32) (x3 : Int32) (H : Heap) (locs : List Loc) (ls : Array Slot), k4 t x1 x2 x3 = some (r, u) → va_P D classes (WX ca a t) H → va_S A s.heap H locs → lv_has ls 4 [(0, .ref (a 4)), (1, .int x1), (2, .int x2), (3, .int x3)] → W p l e rm_X_X0_countOf__4 s m args below meth c H locs 0 0 Q (F0 m 4 ls [])) {t : fw_S} {x1 : Int32} {x2 : Int32} {x3 : Int32} {H : Heap} {locs : List Loc} {ls : Array Slot} (hf : b_X_X0_countOf__4_20 k4 t x1 x2 x3 = some (r, u)) (hP : va_P D classes (WX ca a t) H) (hS : va_S A s.heap H locs) (hl : lv_has ls 4 [(0, .ref (a 4)), (1, .int x1), (2, .int x2), (3, .int x3)]) : W p l e rm_X_X0_countOf__4 s m args below meth c H locs 0 0 Q (F0 m 20 ls []) := by
  obtain ⟨hx, hb, hml, hown, hts, hN, hK, hD, hA⟩ := id C
  have hf : (b_X_X0_countOf__4_23 k4 t x1 (x2 + 1) x3) = some (r, u) := hf
  refine lv_iinc (v := x2 + 1) (lv' := [(2, .int (x2 + 1)), (0, .ref (a 4)), (1, .int x1), (3, .int x3)]) hx hb dX0_countOf_20 hl (k := 2) rfl rfl (by decide) rfl (fun ls hl => ?_)
  exact w_X_X0_countOf__4_23 C hr hk4 hf hP hS (lv_sub hl [1, 2, 0, 3] rfl)
set_option maxRecDepth 20000 in
theorem w_X_X0_countOf__4_10 {p : Program} {l : Launch} {e : Env} {s : State} {m : MethodId} {args : Array Value} {below : List Frame} {meth : Method} {c : Code} {A : Nat → Prop} {Q : State → Prop} {D : va_G} {ca : Nat → ClassId} {a : Nat → Nat} {u : fw_S} {r : Int32} {k4 : fw_S → Int32 → Int32 → Int32 → Option (Int32 × fw_S)} (C : CX (WX ca a) D (tyv ca) p s m args c A prog_2_method_28_code 4 RX0) (hr : True → RX (WX ca a) D p l e rm_X_X0_countOf__4 s m args below meth c A prog_2_method_28_code Q .ireturn [.int r] u) (hk4 : ∀ (t : fw_S) (x1 : Int32) (x2 : Int32) (x3 : Int32) (H : Heap) (locs : List Loc) (ls : Array Slot), k4 t x1 x2 x3 = some (r, u) → va_P D classes (WX ca a t) H → va_S A s.heap H locs → lv_has ls 4 [(0, .ref (a 4)), (1, .int x1), (2, .int x2), (3, .int x3)] → W p l e rm_X_X0_countOf__4 s m args below meth c H locs 0 0 Q (F0 m 4 ls [])) {t : fw_S} {x1 : Int32} {x2 : Int32} {x3 : Int32} {H : Heap} {locs : List Loc} {ls : Array Slot} (hf : b_X_X0_countOf__4_10 k4 t x1 x2 x3 = some (r, u)) (hP : va_P D classes (WX ca a t) H) (hS : va_S A s.heap H locs) (hl : lv_has ls 4 [(0, .ref (a 4)), (1, .int x1), (2, .int x2), (3, .int x3)]) : W p l e rm_X_X0_countOf__4 s m args below meth c H locs 0 0 Q (F0 m 10 ls []) := by
  obtain ⟨hx, hb, hml, hown, hts, hN, hK, hD, hA⟩ := id C
  have hf : (fb_g (¬ (x3 < 0 ∨ 32 ≤ x3.toNatClampNeg)) (if (st_F t 8 x3.toNatClampNeg) = x1 then b_X_X0_countOf__4_20 k4 t x1 x2 x3 else b_X_X0_countOf__4_23 k4 t x1 x2 x3)) = some (r, u) := hf
  refine lv_aload_n hx hb dX0_countOf_10 rfl (lv_at hl 0 rfl) ?_
  refine va_get (D := D) (ci := 0) (v := .ref (a 22)) (C := RX0) (T := TX0) (N := 12) hx hb hts inX0 hown hK hP 4 (heX_4 ca a t) rfl 0 (by decide) (hts _ kw_187) (fun _ h9 => h9) rfl dX0_countOf_11 ?_
  refine lv_iload_n hx hb dX0_countOf_14 rfl (lv_at hl 3 rfl) ?_
  obtain ⟨h_15, hf⟩ := fb_if hf
  refine va_iald hx hb hK hP 22 0 (haX_22 ca a t) rfl h_15 dX0_countOf_15 ?_
  refine lv_iload_n hx hb dX0_countOf_16 rfl (lv_at hl 1 rfl) ?_
  refine lv_icmp_ne (tgt := 23) hx hb dX0_countOf_17 (by decide) (fun h_17 => ?_) (fun h_17 => ?_)
  · have hf := fb_f h_17 hf
    exact w_X_X0_countOf__4_23 C hr hk4 hf hP hS (lv_sub hl [0, 1, 2, 3] rfl)
  · have hf := fb_t h_17 hf
    exact w_X_X0_countOf__4_20 C hr hk4 hf hP hS (lv_sub hl [0, 1, 2, 3] rfl)
set_option maxRecDepth 20000 in
theorem w_X_X0_countOf__4_4 {p : Program} {l : Launch} {e : Env} {s : State} {m : MethodId} {args : Array Value} {below : List Frame} {meth : Method} {c : Code} {A : Nat → Prop} {Q : State → Prop} {D : va_G} {ca : Nat → ClassId} {a : Nat → Nat} {u : fw_S} {r : Int32}  (C : CX (WX ca a) D (tyv ca) p s m args c A prog_2_method_28_code 4 RX0) (hr : True → RX (WX ca a) D p l e rm_X_X0_countOf__4 s m args below meth c A prog_2_method_28_code Q .ireturn [.int r] u) : ∀ (n : Nat) (t : fw_S) (x1 : Int32) (x2 : Int32) (x3 : Int32) (H : Heap) (locs : List Loc) (ls : Array Slot), b_X_X0_countOf__4_4  n t x1 x2 x3 = some (r, u) → va_P D classes (WX ca a t) H → va_S A s.heap H locs → lv_has ls 4 [(0, .ref (a 4)), (1, .int x1), (2, .int x2), (3, .int x3)] → W p l e rm_X_X0_countOf__4 s m args below meth c H locs 0 0 Q (F0 m 4 ls []) := by
  obtain ⟨hx, hb, hml, hown, hts, hN, hK, hD, hA⟩ := id C
  intro n
  induction n with
  | zero => intro t x1 x2 x3 H locs ls hf; cases hf
  | succ n hk4 =>
    intro t x1 x2 x3 H locs ls hf hP hS hl
    have hf : (if ((32 : Int32)) ≤ x3 then b_X_X0_countOf__4_29 t x2 else b_X_X0_countOf__4_10 (b_X_X0_countOf__4_4 n) t x1 x2 x3) = some (r, u) := hf
    refine lv_iload_n hx hb dX0_countOf_4 rfl (lv_at hl 3 rfl) ?_
    refine lv_bipush (v := 32) hx hb dX0_countOf_5 (by decide) ?_
    refine lv_icmp_ge (tgt := 29) hx hb dX0_countOf_7 (by decide) (fun h_7 => ?_) (fun h_7 => ?_)
    · have hf := fb_t h_7 hf
      exact w_X_X0_countOf__4_29 C hr hf hP hS (lv_sub hl [2] rfl)
    · have hf := fb_f h_7 hf
      exact w_X_X0_countOf__4_10 C hr hk4 hf hP hS (lv_sub hl [0, 1, 2, 3] rfl)
set_option maxRecDepth 20000 in
theorem w_X_X0_countOf__4_0 {p : Program} {l : Launch} {e : Env} {s : State} {m : MethodId} {args : Array Value} {below : List Frame} {meth : Method} {c : Code} {A : Nat → Prop} {Q : State → Prop} {D : va_G} {ca : Nat → ClassId} {a : Nat → Nat} {u : fw_S} {r : Int32}  (C : CX (WX ca a) D (tyv ca) p s m args c A prog_2_method_28_code 4 RX0) (hr : True → RX (WX ca a) D p l e rm_X_X0_countOf__4 s m args below meth c A prog_2_method_28_code Q .ireturn [.int r] u) {t : fw_S} {x1 : Int32} {H : Heap} {locs : List Loc} {ls : Array Slot} (hf : b_X_X0_countOf__4_0  t x1 = some (r, u)) (hP : va_P D classes (WX ca a t) H) (hS : va_S A s.heap H locs) (hl : lv_has ls 4 [(0, .ref (a 4)), (1, .int x1)]) : W p l e rm_X_X0_countOf__4 s m args below meth c H locs 0 0 Q (F0 m 0 ls []) := by
  obtain ⟨hx, hb, hml, hown, hts, hN, hK, hD, hA⟩ := id C
  have hf : (b_X_X0_countOf__4_4 3000 t x1 ((0 : Int32)) ((0 : Int32))) = some (r, u) := hf
  refine lv_iconst (v := 0) hx hb dX0_countOf_0 (by decide) ?_
  refine lv_istore_n (lv' := [(2, .int ((0 : Int32))), (0, .ref (a 4)), (1, .int x1)]) hx hb dX0_countOf_1 rfl hl (by decide) rfl (fun ls hl => ?_)
  refine lv_iconst (v := 0) hx hb dX0_countOf_2 (by decide) ?_
  refine lv_istore_n (lv' := [(3, .int ((0 : Int32))), (2, .int ((0 : Int32))), (0, .ref (a 4)), (1, .int x1)]) hx hb dX0_countOf_3 rfl hl (by decide) rfl (fun ls hl => ?_)
  exact w_X_X0_countOf__4_4 C hr 3000 t x1 ((0 : Int32)) ((0 : Int32)) _ _ _ hf hP hS (lv_sub hl [2, 3, 1, 0] rfl)
set_option maxRecDepth 20000 in
theorem c_X_X0_countOf__4 {l : Launch} {D : va_G} {ca : Nat → ClassId} {a : Nat → Nat} {t : fw_S} {x1 : Int32} {u : fw_S} {r : Int32} (hf : f_X_X0_countOf__4 t x1 = some (r, u)) : MC (WX ca a) D (tyv ca) l yX0_countOf (.code yX0_countOf prog_2_method_28_code 4 (some .int) :: lw_gd) rm_X_X0_countOf__4 [.ref (a 4), .int x1] (some (.int r)) t u := by
  refine fw_met (okX ca a) (by decide +kernel) rfl rfl (Nat.le_of_ble_eq_true rfl) ?_
  intro p e s m args below meth c A Q ls C hr hk hP hS hl hQ
  exact w_X_X0_countOf__4_0 C (fun _ => fw_ri C hr hk hQ) hf hP hS (lv_sub hl [0, 1] rfl)
/-! ReactiveSheet.bit(I)J [] -/
abbrev rm_X_X10_bit : Room := { frames := 0, cells := 0, slots := 0, locals := 0 }
def b_X_X10_bit_0  (t : fw_S) (x0 : Int32) : Option (Int64 × fw_S) := some (((1 : Int64)) <<< (x0.toInt64 &&& 63), t)
def f_X_X10_bit (t : fw_S) (x0 : Int32) : Option (Int64 × fw_S) := b_X_X10_bit_0 t x0
set_option maxRecDepth 20000 in
theorem w_X_X10_bit_0 {p : Program} {l : Launch} {e : Env} {s : State} {m : MethodId} {args : Array Value} {below : List Frame} {meth : Method} {c : Code} {A : Nat → Prop} {Q : State → Prop} {D : va_G} {ca : Nat → ClassId} {a : Nat → Nat} {u : fw_S} {r : Int64}  (C : CX (WX ca a) D (tyv ca) p s m args c A prog_1_method_39_code 1 RX10) (hr : True → RX (WX ca a) D p l e rm_X_X10_bit s m args below meth c A prog_1_method_39_code Q .lreturn [.long r] u) {t : fw_S} {x0 : Int32} {H : Heap} {locs : List Loc} {ls : Array Slot} (hf : b_X_X10_bit_0  t x0 = some (r, u)) (hP : va_P D classes (WX ca a t) H) (hS : va_S A s.heap H locs) (hl : lv_has ls 1 [(0, .int x0)]) : W p l e rm_X_X10_bit s m args below meth c H locs 0 0 Q (F0 m 0 ls []) := by
  obtain ⟨hx, hb, hml, hown, hts, hN, hK, hD, hA⟩ := id C
  have hf : (some (((1 : Int64)) <<< (x0.toInt64 &&& 63), t)) = some (r, u) := hf
  refine lv_lconst (v := 1) hx hb dX10_bit_0 (by decide) ?_
  refine lv_iload_n hx hb dX10_bit_1 rfl (lv_at hl 0 rfl) ?_
  refine lv_lshl hx hb dX10_bit_2 rfl ?_
  cases hf
  exact hr trivial _ _ _ _ hP hS dX10_bit_3
set_option maxRecDepth 20000 in
theorem c_X_X10_bit {l : Launch} {D : va_G} {ca : Nat → ClassId} {a : Nat → Nat} {t : fw_S} {x0 : Int32} {u : fw_S} {r : Int64} (hf : f_X_X10_bit t x0 = some (r, u)) : MC (WX ca a) D (tyv ca) l yX10_bit (.code yX10_bit prog_1_method_39_code 1 (some .long) :: lw_gd) rm_X_X10_bit [.int x0] (some (.long r)) t u := by
  refine fw_met (okX ca a) (by decide +kernel) rfl rfl (Nat.le_of_ble_eq_true rfl) ?_
  intro p e s m args below meth c A Q ls C hr hk hP hS hl hQ
  exact w_X_X10_bit_0 C (fun _ => fw_rl C hr hk hQ) hf hP hS (lv_sub hl [0] rfl)
/-! ReactiveSheet.Cells.plain()J ['x.engine.now'] -/
abbrev rm_X_X0_plain__4 : Room := { frames := 1, cells := 0, slots := 0, locals := 20 }
def b_X_X0_plain__4_33  (t : fw_S) (y1 : Int64) : Option (Int64 × fw_S) := some (y1, t)
def b_X_X0_plain__4_27 (k4 : fw_S → Int64 → Int32 → Option (Int64 × fw_S)) (t : fw_S) (y1 : Int64) (x3 : Int32) : Option (Int64 × fw_S) := k4 t y1 (x3 + 1)
def b_X_X0_plain__4_20 (k4 : fw_S → Int64 → Int32 → Option (Int64 × fw_S)) (t : fw_S) (y1 : Int64) (x3 : Int32) : Option (Int64 × fw_S) := fb_b (f_X_X10_bit t x3) fun v_2 t_1 => (b_X_X0_plain__4_27 k4 t_1 (y1 ||| v_2) x3)
def b_X_X0_plain__4_10 (k4 : fw_S → Int64 → Int32 → Option (Int64 × fw_S)) (t : fw_S) (y1 : Int64) (x3 : Int32) : Option (Int64 × fw_S) := fb_g (¬ (x3 < 0 ∨ 32 ≤ x3.toNatClampNeg)) (if (st_F t 8 x3.toNatClampNeg) = ((2 : Int32)) then b_X_X0_plain__4_27 k4 t y1 x3 else b_X_X0_plain__4_20 k4 t y1 x3)
def b_X_X0_plain__4_4  : Nat → (fw_S → Int64 → Int32 → Option (Int64 × fw_S))
  | 0 => fun _ _ _ => none
  | n + 1 => fun t y1 x3 => if ((32 : Int32)) ≤ x3 then b_X_X0_plain__4_33 t y1 else b_X_X0_plain__4_10 (b_X_X0_plain__4_4 n) t y1 x3
def b_X_X0_plain__4_0  (t : fw_S)  : Option (Int64 × fw_S) := b_X_X0_plain__4_4 3000 t ((0 : Int64)) ((0 : Int32))
def f_X_X0_plain__4 (t : fw_S)  : Option (Int64 × fw_S) := b_X_X0_plain__4_0 t 
set_option maxRecDepth 20000 in
theorem w_X_X0_plain__4_33 {p : Program} {l : Launch} {e : Env} {s : State} {m : MethodId} {args : Array Value} {below : List Frame} {meth : Method} {c : Code} {A : Nat → Prop} {Q : State → Prop} {D : va_G} {ca : Nat → ClassId} {a : Nat → Nat} {u : fw_S} {r : Int64}  (C : CX (WX ca a) D (tyv ca) p s m args c A prog_2_method_30_code 4 RX0) (hr : True → RX (WX ca a) D p l e rm_X_X0_plain__4 s m args below meth c A prog_2_method_30_code Q .lreturn [.long r] u) {t : fw_S} {y1 : Int64} {H : Heap} {locs : List Loc} {ls : Array Slot} (hf : b_X_X0_plain__4_33  t y1 = some (r, u)) (hP : va_P D classes (WX ca a t) H) (hS : va_S A s.heap H locs) (hl : lv_has ls 4 [(1, .long y1)]) : W p l e rm_X_X0_plain__4 s m args below meth c H locs 0 0 Q (F0 m 33 ls []) := by
  obtain ⟨hx, hb, hml, hown, hts, hN, hK, hD, hA⟩ := id C
  have hf : (some (y1, t)) = some (r, u) := hf
  refine lv_lload_n hx hb dX0_plain_33 rfl (lv_at hl 0 rfl) ?_
  cases hf
  exact hr trivial _ _ _ _ hP hS dX0_plain_34
set_option maxRecDepth 20000 in
theorem w_X_X0_plain__4_27 {p : Program} {l : Launch} {e : Env} {s : State} {m : MethodId} {args : Array Value} {below : List Frame} {meth : Method} {c : Code} {A : Nat → Prop} {Q : State → Prop} {D : va_G} {ca : Nat → ClassId} {a : Nat → Nat} {u : fw_S} {r : Int64} {k4 : fw_S → Int64 → Int32 → Option (Int64 × fw_S)} (C : CX (WX ca a) D (tyv ca) p s m args c A prog_2_method_30_code 4 RX0) (hr : True → RX (WX ca a) D p l e rm_X_X0_plain__4 s m args below meth c A prog_2_method_30_code Q .lreturn [.long r] u) (hk4 : ∀ (t : fw_S) (y1 : Int64) (x3 : Int32) (H : Heap) (locs : List Loc) (ls : Array Slot), k4 t y1 x3 = some (r, u) → va_P D classes (WX ca a t) H → va_S A s.heap H locs → lv_has ls 4 [(0, .ref (a 4)), (1, .long y1), (3, .int x3)] → W p l e rm_X_X0_plain__4 s m args below meth c H locs 0 0 Q (F0 m 4 ls [])) {t : fw_S} {y1 : Int64} {x3 : Int32} {H : Heap} {locs : List Loc} {ls : Array Slot} (hf : b_X_X0_plain__4_27 k4 t y1 x3 = some (r, u)) (hP : va_P D classes (WX ca a t) H) (hS : va_S A s.heap H locs) (hl : lv_has ls 4 [(0, .ref (a 4)), (1, .long y1), (3, .int x3)]) : W p l e rm_X_X0_plain__4 s m args below meth c H locs 0 0 Q (F0 m 27 ls []) := by
  obtain ⟨hx, hb, hml, hown, hts, hN, hK, hD, hA⟩ := id C
  have hf : (k4 t y1 (x3 + 1)) = some (r, u) := hf
  refine lv_iinc (v := x3 + 1) (lv' := [(3, .int (x3 + 1)), (0, .ref (a 4)), (1, .long y1)]) hx hb dX0_plain_27 hl (k := 2) rfl rfl (by decide) rfl (fun ls hl => ?_)
  refine lv_goto (tgt := 4) hx hb dX0_plain_30 (by decide) ?_
  exact hk4 t y1 (x3 + 1) _ _ _ hf hP hS (lv_sub hl [1, 2, 0] rfl)
set_option maxRecDepth 20000 in
theorem w_X_X0_plain__4_20 {p : Program} {l : Launch} {e : Env} {s : State} {m : MethodId} {args : Array Value} {below : List Frame} {meth : Method} {c : Code} {A : Nat → Prop} {Q : State → Prop} {D : va_G} {ca : Nat → ClassId} {a : Nat → Nat} {u : fw_S} {r : Int64} {k4 : fw_S → Int64 → Int32 → Option (Int64 × fw_S)} (C : CX (WX ca a) D (tyv ca) p s m args c A prog_2_method_30_code 4 RX0) (hr : True → RX (WX ca a) D p l e rm_X_X0_plain__4 s m args below meth c A prog_2_method_30_code Q .lreturn [.long r] u) (hk4 : ∀ (t : fw_S) (y1 : Int64) (x3 : Int32) (H : Heap) (locs : List Loc) (ls : Array Slot), k4 t y1 x3 = some (r, u) → va_P D classes (WX ca a t) H → va_S A s.heap H locs → lv_has ls 4 [(0, .ref (a 4)), (1, .long y1), (3, .int x3)] → W p l e rm_X_X0_plain__4 s m args below meth c H locs 0 0 Q (F0 m 4 ls [])) {t : fw_S} {y1 : Int64} {x3 : Int32} {H : Heap} {locs : List Loc} {ls : Array Slot} (hf : b_X_X0_plain__4_20 k4 t y1 x3 = some (r, u)) (hP : va_P D classes (WX ca a t) H) (hS : va_S A s.heap H locs) (hl : lv_has ls 4 [(0, .ref (a 4)), (1, .long y1), (3, .int x3)]) : W p l e rm_X_X0_plain__4 s m args below meth c H locs 0 0 Q (F0 m 20 ls []) := by
  obtain ⟨hx, hb, hml, hown, hts, hN, hK, hD, hA⟩ := id C
  have hf : (fb_b (f_X_X10_bit t x3) fun v_2 t_1 => (b_X_X0_plain__4_27 k4 t_1 (y1 ||| v_2) x3)) = some (r, u) := hf
  refine lv_lload_n hx hb dX0_plain_20 rfl (lv_at hl 1 rfl) ?_
  refine lv_iload_n hx hb dX0_plain_21 rfl (lv_at hl 2 rfl) ?_
  obtain ⟨v_2, t_1, g_22, hf⟩ := fb_bs hf
  refine fw_S2 (As := [.int x3]) (rest := [.long y1]) (n := 1) C (c_X_X10_bit (l := l) (D := D) (ca := ca) (a := a) g_22) kw_456 kw_408 kw_92 kw_409 hP hS hl rfl rfl (by decide) (by decide +kernel) ⟨Nat.le_of_ble_eq_true rfl, Nat.le_of_ble_eq_true rfl⟩ rfl rfl (Nat.le_of_ble_eq_true rfl) dX0_plain_22 (fun H locs hP hS => ?_)
  refine W.eq (g2 := F0 m 25 ls [.long v_2, .long y1]) rfl ?_
  refine lv_lor hx hb dX0_plain_25 ?_
  refine lv_lstore_n (lv' := [(1, .long (y1 ||| v_2)), (0, .ref (a 4)), (3, .int x3)]) hx hb dX0_plain_26 rfl hl (by decide) rfl (fun ls hl => ?_)
  exact w_X_X0_plain__4_27 C hr hk4 hf hP hS (lv_sub hl [1, 0, 2] rfl)
set_option maxRecDepth 20000 in
theorem w_X_X0_plain__4_10 {p : Program} {l : Launch} {e : Env} {s : State} {m : MethodId} {args : Array Value} {below : List Frame} {meth : Method} {c : Code} {A : Nat → Prop} {Q : State → Prop} {D : va_G} {ca : Nat → ClassId} {a : Nat → Nat} {u : fw_S} {r : Int64} {k4 : fw_S → Int64 → Int32 → Option (Int64 × fw_S)} (C : CX (WX ca a) D (tyv ca) p s m args c A prog_2_method_30_code 4 RX0) (hr : True → RX (WX ca a) D p l e rm_X_X0_plain__4 s m args below meth c A prog_2_method_30_code Q .lreturn [.long r] u) (hk4 : ∀ (t : fw_S) (y1 : Int64) (x3 : Int32) (H : Heap) (locs : List Loc) (ls : Array Slot), k4 t y1 x3 = some (r, u) → va_P D classes (WX ca a t) H → va_S A s.heap H locs → lv_has ls 4 [(0, .ref (a 4)), (1, .long y1), (3, .int x3)] → W p l e rm_X_X0_plain__4 s m args below meth c H locs 0 0 Q (F0 m 4 ls [])) {t : fw_S} {y1 : Int64} {x3 : Int32} {H : Heap} {locs : List Loc} {ls : Array Slot} (hf : b_X_X0_plain__4_10 k4 t y1 x3 = some (r, u)) (hP : va_P D classes (WX ca a t) H) (hS : va_S A s.heap H locs) (hl : lv_has ls 4 [(0, .ref (a 4)), (1, .long y1), (3, .int x3)]) : W p l e rm_X_X0_plain__4 s m args below meth c H locs 0 0 Q (F0 m 10 ls []) := by
  obtain ⟨hx, hb, hml, hown, hts, hN, hK, hD, hA⟩ := id C
  have hf : (fb_g (¬ (x3 < 0 ∨ 32 ≤ x3.toNatClampNeg)) (if (st_F t 8 x3.toNatClampNeg) = ((2 : Int32)) then b_X_X0_plain__4_27 k4 t y1 x3 else b_X_X0_plain__4_20 k4 t y1 x3)) = some (r, u) := hf
  refine lv_aload_n hx hb dX0_plain_10 rfl (lv_at hl 0 rfl) ?_
  refine va_get (D := D) (ci := 0) (v := .ref (a 22)) (C := RX0) (T := TX0) (N := 12) hx hb hts inX0 hown hK hP 4 (heX_4 ca a t) rfl 0 (by decide) (hts _ kw_187) (fun _ h9 => h9) rfl dX0_plain_11 ?_
  refine lv_iload_n hx hb dX0_plain_14 rfl (lv_at hl 2 rfl) ?_
  obtain ⟨h_15, hf⟩ := fb_if hf
  refine va_iald hx hb hK hP 22 0 (haX_22 ca a t) rfl h_15 dX0_plain_15 ?_
  refine lv_iconst (v := 2) hx hb dX0_plain_16 (by decide) ?_
  refine lv_icmp_eq (tgt := 27) hx hb dX0_plain_17 (by decide) (fun h_17 => ?_) (fun h_17 => ?_)
  · have hf := fb_t h_17 hf
    exact w_X_X0_plain__4_27 C hr hk4 hf hP hS (lv_sub hl [0, 1, 2] rfl)
  · have hf := fb_f h_17 hf
    exact w_X_X0_plain__4_20 C hr hk4 hf hP hS (lv_sub hl [0, 1, 2] rfl)
set_option maxRecDepth 20000 in
theorem w_X_X0_plain__4_4 {p : Program} {l : Launch} {e : Env} {s : State} {m : MethodId} {args : Array Value} {below : List Frame} {meth : Method} {c : Code} {A : Nat → Prop} {Q : State → Prop} {D : va_G} {ca : Nat → ClassId} {a : Nat → Nat} {u : fw_S} {r : Int64}  (C : CX (WX ca a) D (tyv ca) p s m args c A prog_2_method_30_code 4 RX0) (hr : True → RX (WX ca a) D p l e rm_X_X0_plain__4 s m args below meth c A prog_2_method_30_code Q .lreturn [.long r] u) : ∀ (n : Nat) (t : fw_S) (y1 : Int64) (x3 : Int32) (H : Heap) (locs : List Loc) (ls : Array Slot), b_X_X0_plain__4_4  n t y1 x3 = some (r, u) → va_P D classes (WX ca a t) H → va_S A s.heap H locs → lv_has ls 4 [(0, .ref (a 4)), (1, .long y1), (3, .int x3)] → W p l e rm_X_X0_plain__4 s m args below meth c H locs 0 0 Q (F0 m 4 ls []) := by
  obtain ⟨hx, hb, hml, hown, hts, hN, hK, hD, hA⟩ := id C
  intro n
  induction n with
  | zero => intro t y1 x3 H locs ls hf; cases hf
  | succ n hk4 =>
    intro t y1 x3 H locs ls hf hP hS hl
    have hf : (if ((32 : Int32)) ≤ x3 then b_X_X0_plain__4_33 t y1 else b_X_X0_plain__4_10 (b_X_X0_plain__4_4 n) t y1 x3) = some (r, u) := hf
    refine lv_iload_n hx hb dX0_plain_4 rfl (lv_at hl 2 rfl) ?_
    refine lv_bipush (v := 32) hx hb dX0_plain_5 (by decide) ?_
    refine lv_icmp_ge (tgt := 33) hx hb dX0_plain_7 (by decide) (fun h_7 => ?_) (fun h_7 => ?_)
    · have hf := fb_t h_7 hf
      exact w_X_X0_plain__4_33 C hr hf hP hS (lv_sub hl [1] rfl)
    · have hf := fb_f h_7 hf
      exact w_X_X0_plain__4_10 C hr hk4 hf hP hS (lv_sub hl [0, 1, 2] rfl)
set_option maxRecDepth 20000 in
theorem w_X_X0_plain__4_0 {p : Program} {l : Launch} {e : Env} {s : State} {m : MethodId} {args : Array Value} {below : List Frame} {meth : Method} {c : Code} {A : Nat → Prop} {Q : State → Prop} {D : va_G} {ca : Nat → ClassId} {a : Nat → Nat} {u : fw_S} {r : Int64}  (C : CX (WX ca a) D (tyv ca) p s m args c A prog_2_method_30_code 4 RX0) (hr : True → RX (WX ca a) D p l e rm_X_X0_plain__4 s m args below meth c A prog_2_method_30_code Q .lreturn [.long r] u) {t : fw_S}  {H : Heap} {locs : List Loc} {ls : Array Slot} (hf : b_X_X0_plain__4_0  t  = some (r, u)) (hP : va_P D classes (WX ca a t) H) (hS : va_S A s.heap H locs) (hl : lv_has ls 4 [(0, .ref (a 4))]) : W p l e rm_X_X0_plain__4 s m args below meth c H locs 0 0 Q (F0 m 0 ls []) := by
  obtain ⟨hx, hb, hml, hown, hts, hN, hK, hD, hA⟩ := id C
  have hf : (b_X_X0_plain__4_4 3000 t ((0 : Int64)) ((0 : Int32))) = some (r, u) := hf
  refine lv_lconst (v := 0) hx hb dX0_plain_0 (by decide) ?_
  refine lv_lstore_n (lv' := [(1, .long ((0 : Int64))), (0, .ref (a 4))]) hx hb dX0_plain_1 rfl hl (by decide) rfl (fun ls hl => ?_)
  refine lv_iconst (v := 0) hx hb dX0_plain_2 (by decide) ?_
  refine lv_istore_n (lv' := [(3, .int ((0 : Int32))), (1, .long ((0 : Int64))), (0, .ref (a 4))]) hx hb dX0_plain_3 rfl hl (by decide) rfl (fun ls hl => ?_)
  exact w_X_X0_plain__4_4 C hr 3000 t ((0 : Int64)) ((0 : Int32)) _ _ _ hf hP hS (lv_sub hl [2, 1, 0] rfl)
set_option maxRecDepth 20000 in
theorem c_X_X0_plain__4 {l : Launch} {D : va_G} {ca : Nat → ClassId} {a : Nat → Nat} {t : fw_S}  {u : fw_S} {r : Int64} (hf : f_X_X0_plain__4 t  = some (r, u)) : MC (WX ca a) D (tyv ca) l yX0_plain (.code yX0_plain prog_2_method_30_code 4 (some .long) :: lw_gd) rm_X_X0_plain__4 [.ref (a 4)] (some (.long r)) t u := by
  refine fw_met (okX ca a) (by decide +kernel) rfl rfl (Nat.le_of_ble_eq_true rfl) ?_
  intro p e s m args below meth c A Q ls C hr hk hP hS hl hQ
  exact w_X_X0_plain__4_0 C (fun _ => fw_rl C hr hk hQ) hf hP hS (lv_sub hl [0] rfl)
