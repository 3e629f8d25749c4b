theorem dX10_undo_0 : decode prog_1_method_37_code 0 = .ok (.aload_n 0, 1) := by decide +kernel
theorem dX10_undo_1 : decode prog_1_method_37_code 1 = .ok (.getfield 84, 3) := by decide +kernel
theorem dX10_undo_4 : decode prog_1_method_37_code 4 = .ok (.ifCond .eq 10, 3) := by decide +kernel
theorem dX10_undo_7 : decode prog_1_method_37_code 7 = .ok (.aload_n 0, 1) := by decide +kernel
theorem dX10_undo_8 : decode prog_1_method_37_code 8 = .ok (.getfield 80, 3) := by decide +kernel
theorem dX10_undo_11 : decode prog_1_method_37_code 11 = .ok (.ifCond .eq 6, 3) := by decide +kernel
theorem dX10_undo_14 : decode prog_1_method_37_code 14 = .ok (.bipush (-3), 2) := by decide +kernel
theorem dX10_undo_16 : decode prog_1_method_37_code 16 = .ok (.ireturn, 1) := by decide +kernel
theorem dX10_undo_17 : decode prog_1_method_37_code 17 = .ok (.aload_n 0, 1) := by decide +kernel
theorem dX10_undo_18 : decode prog_1_method_37_code 18 = .ok (.getfield 28, 3) := by decide +kernel
theorem dX10_undo_21 : decode prog_1_method_37_code 21 = .ok (.invokevirtual 106, 3) := by decide +kernel
theorem dX10_undo_24 : decode prog_1_method_37_code 24 = .ok (.aload_n 0, 1) := by decide +kernel
theorem dX10_undo_25 : decode prog_1_method_37_code 25 = .ok (.getfield 73, 3) := by decide +kernel
theorem dX10_undo_28 : decode prog_1_method_37_code 28 = .ok (.invokevirtual 286, 3) := by decide +kernel
theorem dX10_undo_31 : decode prog_1_method_37_code 31 = .ok (.aload_n 0, 1) := by decide +kernel
theorem dX10_undo_32 : decode prog_1_method_37_code 32 = .ok (.getfield 45, 3) := by decide +kernel
theorem dX10_undo_35 : decode prog_1_method_37_code 35 = .ok (.aload_n 0, 1) := by decide +kernel
theorem dX10_undo_36 : decode prog_1_method_37_code 36 = .ok (.getfield 77, 3) := by decide +kernel
theorem dX10_undo_39 : decode prog_1_method_37_code 39 = .ok (.invokevirtual 290, 3) := by decide +kernel
theorem dX10_undo_42 : decode prog_1_method_37_code 42 = .ok (.aload_n 0, 1) := by decide +kernel
theorem dX10_undo_43 : decode prog_1_method_37_code 43 = .ok (.getfield 73, 3) := by decide +kernel
theorem dX10_undo_46 : decode prog_1_method_37_code 46 = .ok (.invokevirtual 293, 3) := by decide +kernel
theorem dX10_undo_49 : decode prog_1_method_37_code 49 = .ok (.ireturn, 1) := by decide +kernel
/-! ReactiveSheet.Cells.readCount(I)I ['x.keptCells'] -/
abbrev rm_X_X0_readCount__12 : Room := { frames := 1, cells := 0, slots := 0, locals := 21 }
def b_X_X0_readCount__12_18  (t : fw_S) (z0 : Int32) : Option (Int32 × fw_S) := some (z0, t)
def b_X_X0_readCount__12_17  (t : fw_S)  : Option (Int32 × fw_S) := b_X_X0_readCount__12_18 t ((0 : Int32))
def b_X_X0_readCount__12_8  (t : fw_S) (x1 : Int32) : Option (Int32 × fw_S) := fb_g (¬ (x1 < 0 ∨ 32 ≤ x1.toNatClampNeg)) (b_X_X0_readCount__12_18 t (st_F t 39 x1.toNatClampNeg))
def b_X_X0_readCount__12_0  (t : fw_S) (x1 : Int32) : Option (Int32 × fw_S) := fb_b (f_X_X10_isCell t x1.toInt64) fun v_2 t_1 => (if v_2 = 0 then b_X_X0_readCount__12_17 t_1 else b_X_X0_readCount__12_8 t_1 x1)
def f_X_X0_readCount__12 (t : fw_S) (x1 : Int32) : Option (Int32 × fw_S) := b_X_X0_readCount__12_0 t x1
set_option maxRecDepth 20000 in
theorem w_X_X0_readCount__12_18 {p : Program} {l : Launch} {e : Env} {s : State} {m : MethodId} {args : Array Value} {below : List Frame} {meth : Method} {c : Code} {A : Nat → Prop} {Q : State → Prop} {D : va_G} {ca : Nat → ClassId} {a : Nat → Nat} {u : fw_S} {r : Int32}  (C : CX (WX ca a) D (tyv ca) p s m args c A prog_2_method_19_code 2 RX0) (hr : True → RX (WX ca a) D p l e rm_X_X0_readCount__12 s m args below meth c A prog_2_method_19_code Q .ireturn [.int r] u) {t : fw_S} {z0 : Int32} {H : Heap} {locs : List Loc} {ls : Array Slot} (hf : b_X_X0_readCount__12_18  t z0 = some (r, u)) (hP : va_P D classes (WX ca a t) H) (hS : va_S A s.heap H locs) (hl : lv_has ls 2 []) : W p l e rm_X_X0_readCount__12 s m args below meth c H locs 0 0 Q (F0 m 18 ls [.int z0]) := by
  obtain ⟨hx, hb, hml, hown, hts, hN, hK, hD, hA⟩ := id C
  have hf : (some (z0, t)) = some (r, u) := hf
  obtain ⟨e_18, e2_18⟩ := fb_e hf
  subst e_18; subst e2_18
  exact hr trivial _ _ _ _ hP hS dX0_readCount_18
set_option maxRecDepth 20000 in
theorem w_X_X0_readCount__12_17 {p : Program} {l : Launch} {e : Env} {s : State} {m : MethodId} {args : Array Value} {below : List Frame} {meth : Method} {c : Code} {A : Nat → Prop} {Q : State → Prop} {D : va_G} {ca : Nat → ClassId} {a : Nat → Nat} {u : fw_S} {r : Int32}  (C : CX (WX ca a) D (tyv ca) p s m args c A prog_2_method_19_code 2 RX0) (hr : True → RX (WX ca a) D p l e rm_X_X0_readCount__12 s m args below meth c A prog_2_method_19_code Q .ireturn [.int r] u) {t : fw_S}  {H : Heap} {locs : List Loc} {ls : Array Slot} (hf : b_X_X0_readCount__12_17  t  = some (r, u)) (hP : va_P D classes (WX ca a t) H) (hS : va_S A s.heap H locs) (hl : lv_has ls 2 []) : W p l e rm_X_X0_readCount__12 s m args below meth c H locs 0 0 Q (F0 m 17 ls []) := by
  obtain ⟨hx, hb, hml, hown, hts, hN, hK, hD, hA⟩ := id C
  have hf : (b_X_X0_readCount__12_18 t ((0 : Int32))) = some (r, u) := hf
  refine lv_iconst (v := 0) hx hb dX0_readCount_17 (by decide) ?_
  exact w_X_X0_readCount__12_18 C hr hf hP hS (lv_sub hl [] rfl)
set_option maxRecDepth 20000 in
theorem w_X_X0_readCount__12_8 {p : Program} {l : Launch} {e : Env} {s : State} {m : MethodId} {args : Array Value} {below : List Frame} {meth : Method} {c : Code} {A : Nat → Prop} {Q : State → Prop} {D : va_G} {ca : Nat → ClassId} {a : Nat → Nat} {u : fw_S} {r : Int32}  (C : CX (WX ca a) D (tyv ca) p s m args c A prog_2_method_19_code 2 RX0) (hr : True → RX (WX ca a) D p l e rm_X_X0_readCount__12 s m args below meth c A prog_2_method_19_code Q .ireturn [.int r] u) {t : fw_S} {x1 : Int32} {H : Heap} {locs : List Loc} {ls : Array Slot} (hf : b_X_X0_readCount__12_8  t x1 = some (r, u)) (hP : va_P D classes (WX ca a t) H) (hS : va_S A s.heap H locs) (hl : lv_has ls 2 [(0, .ref (a 12)), (1, .int x1)]) : W p l e rm_X_X0_readCount__12 s m args below meth c H locs 0 0 Q (F0 m 8 ls []) := by
  obtain ⟨hx, hb, hml, hown, hts, hN, hK, hD, hA⟩ := id C
  have hf : (fb_g (¬ (x1 < 0 ∨ 32 ≤ x1.toNatClampNeg)) (b_X_X0_readCount__12_18 t (st_F t 39 x1.toNatClampNeg))) = some (r, u) := hf
  refine lv_aload_n hx hb dX0_readCount_8 rfl (lv_at hl 0 rfl) ?_
  refine va_get (D := D) (ci := 0) (v := .ref (a 70)) (C := RX0) (T := TX0) (N := 12) hx hb hts inX0 hown hK hP 12 (heX_12 ca a t) rfl 8 (by decide) (hts _ kw_195) (fun _ h9 => h9) rfl dX0_readCount_9 ?_
  refine lv_iload_n hx hb dX0_readCount_12 rfl (lv_at hl 1 rfl) ?_
  obtain ⟨h_13, hf⟩ := fb_if hf
  refine va_iald hx hb hK hP 70 0 (haX_70 ca a t) rfl h_13 dX0_readCount_13 ?_
  refine lv_goto (tgt := 18) hx hb dX0_readCount_14 (by decide) ?_
  exact w_X_X0_readCount__12_18 C hr hf hP hS (lv_sub hl [] rfl)
set_option maxRecDepth 20000 in
theorem w_X_X0_readCount__12_0 {p : Program} {l : Launch} {e : Env} {s : State} {m : MethodId} {args : Array Value} {below : List Frame} {meth : Method} {c : Code} {A : Nat → Prop} {Q : State → Prop} {D : va_G} {ca : Nat → ClassId} {a : Nat → Nat} {u : fw_S} {r : Int32}  (C : CX (WX ca a) D (tyv ca) p s m args c A prog_2_method_19_code 2 RX0) (hr : True → RX (WX ca a) D p l e rm_X_X0_readCount__12 s m args below meth c A prog_2_method_19_code Q .ireturn [.int r] u) {t : fw_S} {x1 : Int32} {H : Heap} {locs : List Loc} {ls : Array Slot} (hf : b_X_X0_readCount__12_0  t x1 = some (r, u)) (hP : va_P D classes (WX ca a t) H) (hS : va_S A s.heap H locs) (hl : lv_has ls 2 [(0, .ref (a 12)), (1, .int x1)]) : W p l e rm_X_X0_readCount__12 s m args below meth c H locs 0 0 Q (F0 m 0 ls []) := by
  obtain ⟨hx, hb, hml, hown, hts, hN, hK, hD, hA⟩ := id C
  have hf : (fb_b (f_X_X10_isCell t x1.toInt64) fun v_2 t_1 => (if v_2 = 0 then b_X_X0_readCount__12_17 t_1 else b_X_X0_readCount__12_8 t_1 x1)) = some (r, u) := hf
  refine lv_iload_n hx hb dX0_readCount_0 rfl (lv_at hl 1 rfl) ?_
  refine lv_i2l hx hb dX0_readCount_1 rfl ?_
  obtain ⟨v_2, t_1, g_2, hf⟩ := fb_bs hf
  refine fw_S2 (As := [.long x1.toInt64]) (rest := []) (n := 1) C (c_X_X10_isCell (l := l) (D := D) (ca := ca) (a := a) g_2) kw_429 kw_399 kw_92 kw_400 hP hS hl rfl rfl (by decide) (by decide +kernel) ⟨Nat.le_of_ble_eq_true rfl, Nat.le_of_ble_eq_true rfl⟩ rfl rfl (Nat.le_of_ble_eq_true rfl) dX0_readCount_2 (fun H locs hP hS => ?_)
  refine W.eq (g2 := F0 m 5 ls [.int v_2]) rfl ?_
  refine lv_if_eq (tgt := 17) hx hb dX0_readCount_5 (by decide) (fun h_5 => ?_) (fun h_5 => ?_)
  · have hf := fb_t h_5 hf
    exact w_X_X0_readCount__12_17 C hr hf hP hS (lv_sub hl [] rfl)
  · have hf := fb_f h_5 hf
    exact w_X_X0_readCount__12_8 C hr hf hP hS (lv_sub hl [0, 1] rfl)
set_option maxRecDepth 20000 in
theorem c_X_X0_readCount__12 {l : Launch} {D : va_G} {ca : Nat → ClassId} {a : Nat → Nat} {t : fw_S} {x1 : Int32} {u : fw_S} {r : Int32} (hf : f_X_X0_readCount__12 t x1 = some (r, u)) : MC (WX ca a) D (tyv ca) l yX0_readCount (.code yX0_readCount prog_2_method_19_code 2 (some .int) :: lw_gd) rm_X_X0_readCount__12 [.ref (a 12), .int x1] (some (.int r)) t u := by
  refine fw_met (okX ca a) (by decide +kernel) rfl rfl (Nat.le_of_ble_eq_true rfl) ?_
  intro p e s m args below meth c A Q ls C hr hk hP hS hl hQ
  exact w_X_X0_readCount__12_0 C (fun _ => fw_ri C hr hk hQ) hf hP hS (lv_sub hl [0, 1] rfl)
/-! ReactiveSheet.Cells.takeFrom(LReactiveSheet.Cells;)V ['x.engine.now', 'x.keptCells'] -/
abbrev rm_X_X0_takeFrom__4_12 : Room := { frames := 2, cells := 0, slots := 0, locals := 100 }
def b_X_X0_takeFrom__4_12_182  (t : fw_S)  : Option fw_S := fb_l (up_J t 4 (st_J t 11)) fun t_1 => (fb_l (up_J t_1 5 (st_J t_1 12)) fun t_2 => (some t_2))
def b_X_X0_takeFrom__4_12_176 (k122 : fw_S → Int32 → Option fw_S) (t : fw_S) (x2 : Int32) : Option fw_S := k122 t (x2 + 1)
def b_X_X0_takeFrom__4_12_156 (k122 : fw_S → Int32 → Option fw_S) (t : fw_S) (x2 : Int32) (x3 : Int32) : Option fw_S := fb_g (¬ (x2 * ((32 : Int32))) < 0 ∧ ¬ (x2 * ((32 : Int32))) < 0 ∧ ¬ x3 < 0 ∧ (x2 * ((32 : Int32))).toNatClampNeg + x3.toNatClampNeg ≤ 1024 ∧ (x2 * ((32 : Int32))).toNatClampNeg + x3.toNatClampNeg ≤ 1024) (fb_l (up_F t 13 (va_cpy (st_F t 38) (st_F t 13) (x2 * ((32 : Int32))).toNatClampNeg (x2 * ((32 : Int32))).toNatClampNeg x3.toNatClampNeg)) fun t_1 => (b_X_X0_takeFrom__4_12_176 k122 t_1 x2))
def b_X_X0_takeFrom__4_12_150 (k122 : fw_S → Int32 → Option fw_S) (t : fw_S) (x2 : Int32) (x3 : Int32) : Option fw_S := if ((32 : Int32)) < x3 then b_X_X0_takeFrom__4_12_176 k122 t x2 else b_X_X0_takeFrom__4_12_156 k122 t x2 x3
def b_X_X0_takeFrom__4_12_128 (k122 : fw_S → Int32 → Option fw_S) (t : fw_S) (x2 : Int32) : Option fw_S := fb_g (¬ (x2 < 0 ∨ 32 ≤ x2.toNatClampNeg)) (fb_g (¬ (x2 < 0 ∨ 32 ≤ x2.toNatClampNeg)) (fb_b (f_X_X0_readCount__12 t x2) fun v_2 t_1 => (if v_2 ≤ 0 then b_X_X0_takeFrom__4_12_176 k122 t_1 x2 else b_X_X0_takeFrom__4_12_150 k122 t_1 x2 v_2)))
def b_X_X0_takeFrom__4_12_122  : Nat → (fw_S → Int32 → Option fw_S)
  | 0 => fun _ _ => none
  | n + 1 => fun t x2 => if ((32 : Int32)) ≤ x2 then b_X_X0_takeFrom__4_12_182 t else b_X_X0_takeFrom__4_12_128 (b_X_X0_takeFrom__4_12_122 n) t x2
def b_X_X0_takeFrom__4_12_0  (t : fw_S)  : Option fw_S := fb_g (¬ ((0 : Int32)) < 0 ∧ ¬ ((0 : Int32)) < 0 ∧ ¬ ((32 : Int32)) < 0 ∧ ((0 : Int32)).toNatClampNeg + ((32 : Int32)).toNatClampNeg ≤ 32 ∧ ((0 : Int32)).toNatClampNeg + ((32 : Int32)).toNatClampNeg ≤ 32) (fb_l (up_F t 8 (va_cpy (st_F t 33) (st_F t 8) ((0 : Int32)).toNatClampNeg ((0 : Int32)).toNatClampNeg ((32 : Int32)).toNatClampNeg)) fun t_1 => (fb_g (¬ ((0 : Int32)) < 0 ∧ ¬ ((0 : Int32)) < 0 ∧ ¬ ((32 : Int32)) < 0 ∧ ((0 : Int32)).toNatClampNeg + ((32 : Int32)).toNatClampNeg ≤ 32 ∧ ((0 : Int32)).toNatClampNeg + ((32 : Int32)).toNatClampNeg ≤ 32) (fb_l (up_G t_1 0 (va_cpy (st_G t_1 11) (st_G t_1 0) ((0 : Int32)).toNatClampNeg ((0 : Int32)).toNatClampNeg ((32 : Int32)).toNatClampNeg)) fun t_2 => (fb_g (¬ ((0 : Int32)) < 0 ∧ ¬ ((0 : Int32)) < 0 ∧ ¬ ((32 : Int32)) < 0 ∧ ((0 : Int32)).toNatClampNeg + ((32 : Int32)).toNatClampNeg ≤ 32 ∧ ((0 : Int32)).toNatClampNeg + ((32 : Int32)).toNatClampNeg ≤ 32) (fb_l (up_F t_2 9 (va_cpy (st_F t_2 34) (st_F t_2 9) ((0 : Int32)).toNatClampNeg ((0 : Int32)).toNatClampNeg ((32 : Int32)).toNatClampNeg)) fun t_3 => (fb_g (¬ ((0 : Int32)) < 0 ∧ ¬ ((0 : Int32)) < 0 ∧ ¬ ((32 : Int32)) < 0 ∧ ((0 : Int32)).toNatClampNeg + ((32 : Int32)).toNatClampNeg ≤ 32 ∧ ((0 : Int32)).toNatClampNeg + ((32 : Int32)).toNatClampNeg ≤ 32) (fb_l (up_F t_3 10 (va_cpy (st_F t_3 35) (st_F t_3 10) ((0 : Int32)).toNatClampNeg ((0 : Int32)).toNatClampNeg ((32 : Int32)).toNatClampNeg)) fun t_4 => (fb_g (¬ ((0 : Int32)) < 0 ∧ ¬ ((0 : Int32)) < 0 ∧ ¬ ((32 : Int32)) < 0 ∧ ((0 : Int32)).toNatClampNeg + ((32 : Int32)).toNatClampNeg ≤ 32 ∧ ((0 : Int32)).toNatClampNeg + ((32 : Int32)).toNatClampNeg ≤ 32) (fb_l (up_F t_4 11 (va_cpy (st_F t_4 36) (st_F t_4 11) ((0 : Int32)).toNatClampNeg ((0 : Int32)).toNatClampNeg ((32 : Int32)).toNatClampNeg)) fun t_5 => (fb_g (¬ ((0 : Int32)) < 0 ∧ ¬ ((0 : Int32)) < 0 ∧ ¬ ((32 : Int32)) < 0 ∧ ((0 : Int32)).toNatClampNeg + ((32 : Int32)).toNatClampNeg ≤ 32 ∧ ((0 : Int32)).toNatClampNeg + ((32 : Int32)).toNatClampNeg ≤ 32) (fb_l (up_F t_5 12 (va_cpy (st_F t_5 37) (st_F t_5 12) ((0 : Int32)).toNatClampNeg ((0 : Int32)).toNatClampNeg ((32 : Int32)).toNatClampNeg)) fun t_6 => (fb_g (¬ ((0 : Int32)) < 0 ∧ ¬ ((0 : Int32)) < 0 ∧ ¬ ((32 : Int32)) < 0 ∧ ((0 : Int32)).toNatClampNeg + ((32 : Int32)).toNatClampNeg ≤ 32 ∧ ((0 : Int32)).toNatClampNeg + ((32 : Int32)).toNatClampNeg ≤ 32) (fb_l (up_F t_6 14 (va_cpy (st_F t_6 39) (st_F t_6 14) ((0 : Int32)).toNatClampNeg ((0 : Int32)).toNatClampNeg ((32 : Int32)).toNatClampNeg)) fun t_7 => (fb_g (¬ ((0 : Int32)) < 0 ∧ ¬ ((0 : Int32)) < 0 ∧ ¬ ((32 : Int32)) < 0 ∧ ((0 : Int32)).toNatClampNeg + ((32 : Int32)).toNatClampNeg ≤ 32 ∧ ((0 : Int32)).toNatClampNeg + ((32 : Int32)).toNatClampNeg ≤ 32) (fb_l (up_G t_7 1 (va_cpy (st_G t_7 12) (st_G t_7 1) ((0 : Int32)).toNatClampNeg ((0 : Int32)).toNatClampNeg ((32 : Int32)).toNatClampNeg)) fun t_8 => (b_X_X0_takeFrom__4_12_122 3000 t_8 ((0 : Int32))))))))))))))))))
def f_X_X0_takeFrom__4_12 (t : fw_S)  : Option fw_S := b_X_X0_takeFrom__4_12_0 t 
set_option maxRecDepth 20000 in
theorem w_X_X0_takeFrom__4_12_182 {p : Program} {l : Launch} {e : Env} {s : State} {m : MethodId} {args : Array Value} {below : List Frame} {meth : Method} {c : Code} {A : Nat → Prop} {Q : State → Prop} {D : va_G} {ca : Nat → ClassId} {a : Nat → Nat} {u : fw_S}  (C : CX (WX ca a) D (tyv ca) p s m args c A prog_2_method_2_code 4 RX0) (hr : True → RX (WX ca a) D p l e rm_X_X0_takeFrom__4_12 s m args below meth c A prog_2_method_2_code Q .return_ [] u) {t : fw_S}  {H : Heap} {locs : List Loc} {ls : Array Slot} (hf : b_X_X0_takeFrom__4_12_182  t  = some u) (hP : va_P D classes (WX ca a t) H) (hS : va_S A s.heap H locs) (hl : lv_has ls 4 [(0, .ref (a 4)), (1, .ref (a 12))]) : W p l e rm_X_X0_takeFrom__4_12 s m args below meth c H locs 0 0 Q (F0 m 182 ls []) := by
  obtain ⟨hx, hb, hml, hown, hts, hN, hK, hD, hA⟩ := id C
  have hf : (fb_l (up_J t 4 (st_J t 11)) fun t_1 => (fb_l (up_J t_1 5 (st_J t_1 12)) fun t_2 => (some t_2))) = some u := hf
  refine lv_aload_n hx hb dX0_takeFrom_182 rfl (lv_at hl 0 rfl) ?_
  refine lv_aload_n hx hb dX0_takeFrom_183 rfl (lv_at hl 1 rfl) ?_
  refine va_get (D := D) (ci := 0) (v := .long (st_J t 11)) (C := RX0) (T := TX0) (N := 12) hx hb hts inX0 hown hK hP 12 (heX_12 ca a t) rfl 10 (by decide) (hts _ kw_197) (fun _ h9 => h9) rfl dX0_takeFrom_184 ?_
  refine va_put (D := D) (ci := 0) (v := .long (st_J t 11)) (ty := .long) (C := RX0) (T := TX0) (N := 12) hx hb hts inX0 tyX0 tyX0_ok nmX0 hown hK hP (hD t) hS 4 (heX_4 ca a t) rfl 10 (by decide) (hts _ kw_197) (fun _ h9 => h9) rfl (by decide +kernel) rfl rfl (Nat.le_of_ble_eq_true rfl) dX0_takeFrom_187 (fun H locs hP _ hS => ?_)
  rw [suX_4_10] at hP
  obtain ⟨t_1, e_187, hf⟩ := fb_ls hf
  rw [← e_187] at hP
  refine lv_aload_n hx hb dX0_takeFrom_190 rfl (lv_at hl 0 rfl) ?_
  refine lv_aload_n hx hb dX0_takeFrom_191 rfl (lv_at hl 1 rfl) ?_
  refine va_get (D := D) (ci := 0) (v := .long (st_J t_1 12)) (C := RX0) (T := TX0) (N := 12) hx hb hts inX0 hown hK hP 12 (heX_12 ca a t_1) rfl 11 (by decide) (hts _ kw_198) (fun _ h9 => h9) rfl dX0_takeFrom_192 ?_
  refine va_put (D := D) (ci := 0) (v := .long (st_J t_1 12)) (ty := .long) (C := RX0) (T := TX0) (N := 12) hx hb hts inX0 tyX0 tyX0_ok nmX0 hown hK hP (hD t_1) hS 4 (heX_4 ca a t_1) rfl 11 (by decide) (hts _ kw_198) (fun _ h9 => h9) rfl (by decide +kernel) rfl rfl (Nat.le_of_ble_eq_true rfl) dX0_takeFrom_195 (fun H locs hP _ hS => ?_)
  rw [suX_4_11] at hP
  obtain ⟨t_2, e_195, hf⟩ := fb_ls hf
  rw [← e_195] at hP
  have e_198 := fb_ev hf
  subst e_198
  exact hr trivial _ _ _ _ hP hS dX0_takeFrom_198
set_option maxRecDepth 20000 in
theorem w_X_X0_takeFrom__4_12_176 {p : Program} {l : Launch} {e : Env} {s : State} {m : MethodId} {args : Array Value} {below : List Frame} {meth : Method} {c : Code} {A : Nat → Prop} {Q : State → Prop} {D : va_G} {ca : Nat → ClassId} {a : Nat → Nat} {u : fw_S} {k122 : fw_S → Int32 → Option fw_S} (C : CX (WX ca a) D (tyv ca) p s m args c A prog_2_method_2_code 4 RX0) (hr : True → RX (WX ca a) D p l e rm_X_X0_takeFrom__4_12 s m args below meth c A prog_2_method_2_code Q .return_ [] u) (hk122 : ∀ (t : fw_S) (x2 : Int32) (H : Heap) (locs : List Loc) (ls : Array Slot), k122 t x2 = some u → va_P D classes (WX ca a t) H → va_S A s.heap H locs → lv_has ls 4 [(0, .ref (a 4)), (1, .ref (a 12)), (2, .int x2)] → W p l e rm_X_X0_takeFrom__4_12 s m args below meth c H locs 0 0 Q (F0 m 122 ls [])) {t : fw_S} {x2 : Int32} {H : Heap} {locs : List Loc} {ls : Array Slot} (hf : b_X_X0_takeFrom__4_12_176 k122 t x2 = some u) (hP : va_P D classes (WX ca a t) H) (hS : va_S A s.heap H locs) (hl : lv_has ls 4 [(0, .ref (a 4)), (1, .ref (a 12)), (2, .int x2)]) : W p l e rm_X_X0_takeFrom__4_12 s m args below meth c H locs 0 0 Q (F0 m 176 ls []) := by
  obtain ⟨hx, hb, hml, hown, hts, hN, hK, hD, hA⟩ := id C
  have hf : (k122 t (x2 + 1)) = some u := hf
  refine lv_iinc (v := x2 + 1) (lv' := [(2, .int (x2 + 1)), (0, .ref (a 4)), (1, .ref (a 12))]) hx hb dX0_takeFrom_176 hl (k := 2) rfl rfl (by decide) rfl (fun ls hl => ?_)
  refine lv_goto (tgt := 122) hx hb dX0_takeFrom_179 (by decide) ?_
  exact hk122 t (x2 + 1) _ _ _ hf hP hS (lv_sub hl [1, 2, 0] rfl)
set_option maxRecDepth 20000 in
theorem w_X_X0_takeFrom__4_12_156 {p : Program} {l : Launch} {e : Env} {s : State} {m : MethodId} {args : Array Value} {below : List Frame} {meth : Method} {c : Code} {A : Nat → Prop} {Q : State → Prop} {D : va_G} {ca : Nat → ClassId} {a : Nat → Nat} {u : fw_S} {k122 : fw_S → Int32 → Option fw_S} (C : CX (WX ca a) D (tyv ca) p s m args c A prog_2_method_2_code 4 RX0) (hr : True → RX (WX ca a) D p l e rm_X_X0_takeFrom__4_12 s m args below meth c A prog_2_method_2_code Q .return_ [] u) (hk122 : ∀ (t : fw_S) (x2 : Int32) (H : Heap) (locs : List Loc) (ls : Array Slot), k122 t x2 = some u → va_P D classes (WX ca a t) H → va_S A s.heap H locs → lv_has ls 4 [(0, .ref (a 4)), (1, .ref (a 12)), (2, .int x2)] → W p l e rm_X_X0_takeFrom__4_12 s m args below meth c H locs 0 0 Q (F0 m 122 ls [])) {t : fw_S} {x2 : Int32} {x3 : Int32} {H : Heap} {locs : List Loc} {ls : Array Slot} (hf : b_X_X0_takeFrom__4_12_156 k122 t x2 x3 = some u) (hP : va_P D classes (WX ca a t) H) (hS : va_S A s.heap H locs) (hl : lv_has ls 4 [(0, .ref (a 4)), (1, .ref (a 12)), (2, .int x2), (3, .int x3)]) : W p l e rm_X_X0_takeFrom__4_12 s m args below meth c H locs 0 0 Q (F0 m 156 ls []) := by
  obtain ⟨hx, hb, hml, hown, hts, hN, hK, hD, hA⟩ := id C
  have hf : (fb_g (¬ (x2 * ((32 : Int32))) < 0 ∧ ¬ (x2 * ((32 : Int32))) < 0 ∧ ¬ x3 < 0 ∧ (x2 * ((32 : Int32))).toNatClampNeg + x3.toNatClampNeg ≤ 1024 ∧ (x2 * ((32 : Int32))).toNatClampNeg + x3.toNatClampNeg ≤ 1024) (fb_l (up_F t 13 (va_cpy (st_F t 38) (st_F t 13) (x2 * ((32 : Int32))).toNatClampNeg (x2 * ((32 : Int32))).toNatClampNeg x3.toNatClampNeg)) fun t_1 => (b_X_X0_takeFrom__4_12_176 k122 t_1 x2))) = some u := hf
  refine lv_aload_n hx hb dX0_takeFrom_156 rfl (lv_at hl 1 rfl) ?_
  refine va_get (D := D) (ci := 0) (v := .ref (a 69)) (C := RX0) (T := TX0) (N := 12) hx hb hts inX0 hown hK hP 12 (heX_12 ca a t) rfl 7 (by decide) (hts _ kw_194) (fun _ h9 => h9) rfl dX0_takeFrom_157 ?_
  refine lv_iload_n hx hb dX0_takeFrom_160 rfl (lv_at hl 2 rfl) ?_
  refine lv_bipush (v := 32) hx hb dX0_takeFrom_161 (by decide) ?_
  refine lv_imul hx hb dX0_takeFrom_163 ?_
  refine lv_aload_n hx hb dX0_takeFrom_164 rfl (lv_at hl 0 rfl) ?_
  refine va_get (D := D) (ci := 0) (v := .ref (a 29)) (C := RX0) (T := TX0) (N := 12) hx hb hts inX0 hown hK hP 4 (heX_4 ca a t) rfl 7 (by decide) (hts _ kw_194) (fun _ h9 => h9) rfl dX0_takeFrom_165 ?_
  refine lv_iload_n hx hb dX0_takeFrom_168 rfl (lv_at hl 2 rfl) ?_
  refine lv_bipush (v := 32) hx hb dX0_takeFrom_169 (by decide) ?_
  refine lv_imul hx hb dX0_takeFrom_171 ?_
  refine lv_iload_n hx hb dX0_takeFrom_172 rfl (lv_at hl 3 rfl) ?_
  obtain ⟨⟨h1_173, h2_173, h3_173, h4_173, h5_173⟩, hf⟩ := fb_if hf
  refine va_copyi hx hb (hml.trans hl.1.symm) hown (hts _ kw_422) (hts _ kw_424) (hts _ kw_423) (hts _ kw_103) hK hP (hD t) hS 69 29 0 0 (haX_69 ca a t) (haX_29 ca a t) rfl rfl rfl h1_173 h2_173 h3_173 h4_173 h5_173 (fun _ _ => rfl) (Nat.le_of_ble_eq_true rfl) (Nat.le_of_ble_eq_true rfl) dX0_takeFrom_173 (fun H locs hP _ hS => ?_)
  rw [saX_29] at hP
  obtain ⟨t_1, e_173, hf⟩ := fb_ls hf
  rw [← e_173] at hP
  exact w_X_X0_takeFrom__4_12_176 C hr hk122 hf hP hS (lv_sub hl [0, 1, 2] rfl)
set_option maxRecDepth 20000 in
theorem w_X_X0_takeFrom__4_12_150 {p : Program} {l : Launch} {e : Env} {s : State} {m : MethodId} {args : Array Value} {below : List Frame} {meth : Method} {c : Code} {A : Nat → Prop} {Q : State → Prop} {D : va_G} {ca : Nat → ClassId} {a : Nat → Nat} {u : fw_S} {k122 : fw_S → Int32 → Option fw_S} (C : CX (WX ca a) D (tyv ca) p s m args c A prog_2_method_2_code 4 RX0) (hr : True → RX (WX ca a) D p l e rm_X_X0_takeFrom__4_12 s m args below meth c A prog_2_method_2_code Q .return_ [] u) (hk122 : ∀ (t : fw_S) (x2 : Int32) (H : Heap) (locs : List Loc) (ls : Array Slot), k122 t x2 = some u → va_P D classes (WX ca a t) H → va_S A s.heap H locs → lv_has ls 4 [(0, .ref (a 4)), (1, .ref (a 12)), (2, .int x2)] → W p l e rm_X_X0_takeFrom__4_12 s m args below meth c H locs 0 0 Q (F0 m 122 ls [])) {t : fw_S} {x2 : Int32} {x3 : Int32} {H : Heap} {locs : List Loc} {ls : Array Slot} (hf : b_X_X0_takeFrom__4_12_150 k122 t x2 x3 = some u) (hP : va_P D classes (WX ca a t) H) (hS : va_S A s.heap H locs) (hl : lv_has ls 4 [(0, .ref (a 4)), (1, .ref (a 12)), (2, .int x2), (3, .int x3)]) : W p l e rm_X_X0_takeFrom__4_12 s m args below meth c H locs 0 0 Q (F0 m 150 ls []) := by
  obtain ⟨hx, hb, hml, hown, hts, hN, hK, hD, hA⟩ := id C
  have hf : (if ((32 : Int32)) < x3 then b_X_X0_takeFrom__4_12_176 k122 t x2 else b_X_X0_takeFrom__4_12_156 k122 t x2 x3) = some u := hf
  refine lv_iload_n hx hb dX0_takeFrom_150 rfl (lv_at hl 3 rfl) ?_
  refine lv_bipush (v := 32) hx hb dX0_takeFrom_151 (by decide) ?_
  refine lv_icmp_gt (tgt := 176) hx hb dX0_takeFrom_153 (by decide) (fun h_153 => ?_) (fun h_153 => ?_)
  · have hf := fb_t h_153 hf
    exact w_X_X0_takeFrom__4_12_176 C hr hk122 hf hP hS (lv_sub hl [0, 1, 2] rfl)
  · have hf := fb_f h_153 hf
    exact w_X_X0_takeFrom__4_12_156 C hr hk122 hf hP hS (lv_sub hl [0, 1, 2, 3] rfl)
set_option maxRecDepth 20000 in
theorem w_X_X0_takeFrom__4_12_128 {p : Program} {l : Launch} {e : Env} {s : State} {m : MethodId} {args : Array Value} {below : List Frame} {meth : Method} {c : Code} {A : Nat → Prop} {Q : State → Prop} {D : va_G} {ca : Nat → ClassId} {a : Nat → Nat} {u : fw_S} {k122 : fw_S → Int32 → Option fw_S} (C : CX (WX ca a) D (tyv ca) p s m args c A prog_2_method_2_code 4 RX0) (hr : True → RX (WX ca a) D p l e rm_X_X0_takeFrom__4_12 s m args below meth c A prog_2_method_2_code Q .return_ [] u) (hk122 : ∀ (t : fw_S) (x2 : Int32) (H : Heap) (locs : List Loc) (ls : Array Slot), k122 t x2 = some u → va_P D classes (WX ca a t) H → va_S A s.heap H locs → lv_has ls 4 [(0, .ref (a 4)), (1, .ref (a 12)), (2, .int x2)] → W p l e rm_X_X0_takeFrom__4_12 s m args below meth c H locs 0 0 Q (F0 m 122 ls [])) {t : fw_S} {x2 : Int32} {H : Heap} {locs : List Loc} {ls : Array Slot} (hf : b_X_X0_takeFrom__4_12_128 k122 t x2 = some u) (hP : va_P D classes (WX ca a t) H) (hS : va_S A s.heap H locs) (hl : lv_has ls 4 [(0, .ref (a 4)), (1, .ref (a 12)), (2, .int x2)]) : W p l e rm_X_X0_takeFrom__4_12 s m args below meth c H locs 0 0 Q (F0 m 128 ls []) := by
  obtain ⟨hx, hb, hml, hown, hts, hN, hK, hD, hA⟩ := id C
  have hf : (fb_g (¬ (x2 < 0 ∨ 32 ≤ x2.toNatClampNeg)) (fb_g (¬ (x2 < 0 ∨ 32 ≤ x2.toNatClampNeg)) (fb_b (f_X_X0_readCount__12 t x2) fun v_2 t_1 => (if v_2 ≤ 0 then b_X_X0_takeFrom__4_12_176 k122 t_1 x2 else b_X_X0_takeFrom__4_12_150 k122 t_1 x2 v_2)))) = some u := hf
  refine lv_aload_n hx hb dX0_takeFrom_128 rfl (lv_at hl 0 rfl) ?_
  refine va_get (D := D) (ci := 0) (v := .ref (a 25)) (C := RX0) (T := TX0) (N := 12) hx hb hts inX0 hown hK hP 4 (heX_4 ca a t) rfl 3 (by decide) (hts _ kw_190) (fun _ h9 => h9) rfl dX0_takeFrom_129 ?_
  refine lv_iload_n hx hb dX0_takeFrom_132 rfl (lv_at hl 2 rfl) ?_
  refine lv_aload_n hx hb dX0_takeFrom_133 rfl (lv_at hl 1 rfl) ?_
  refine va_get (D := D) (ci := 0) (v := .ref (a 65)) (C := RX0) (T := TX0) (N := 12) hx hb hts inX0 hown hK hP 12 (heX_12 ca a t) rfl 3 (by decide) (hts _ kw_190) (fun _ h9 => h9) rfl dX0_takeFrom_134 ?_
  refine lv_iload_n hx hb dX0_takeFrom_137 rfl (lv_at hl 2 rfl) ?_
  obtain ⟨h_138, hf⟩ := fb_if hf
  refine va_aldq hx hb hK hP 65 3 (haX_65 ca a t) rfl h_138 dX0_takeFrom_138 ?_
  obtain ⟨h_139, hf⟩ := fb_if hf
  refine va_astqN (C := "ReactiveSheet$Formula") hx hb hK hP (hD t) hS 25 3 (haX_25 ca a t) rfl h_139 dX0_takeFrom_139 (fun H locs hP _ hS => ?_)
  rw [fb_nq, saX_25] at hP
  refine lv_aload_n hx hb dX0_takeFrom_140 rfl (lv_at hl 1 rfl) ?_
  refine lv_iload_n hx hb dX0_takeFrom_141 rfl (lv_at hl 2 rfl) ?_
  obtain ⟨v_2, t_1, g_142, hf⟩ := fb_bs hf
  refine fw_V1 (As := [.int x2]) (rest := []) (n := 1) (q0 := 12) C (c_X_X0_readCount__12 (l := l) (D := D) (ca := ca) (a := a) g_142) kw_425 kw_426 kw_96 kw_428 kw_427 hP hS hl (heX_12 ca a t) rfl rfl rfl (by decide) (by decide +kernel) ⟨Nat.le_of_ble_eq_true rfl, Nat.le_of_ble_eq_true rfl⟩ rfl rfl (Nat.le_of_ble_eq_true rfl) dX0_takeFrom_142 (fun H locs hP hS => ?_)
  refine W.eq (g2 := F0 m 145 ls [.int v_2]) rfl ?_
  refine lv_istore_n (lv' := [(3, .int v_2), (0, .ref (a 4)), (1, .ref (a 12)), (2, .int x2)]) hx hb dX0_takeFrom_145 rfl hl (by decide) rfl (fun ls hl => ?_)
  refine lv_iload_n hx hb dX0_takeFrom_146 rfl (lv_at hl 0 rfl) ?_
  refine lv_if_le (tgt := 176) hx hb dX0_takeFrom_147 (by decide) (fun h_147 => ?_) (fun h_147 => ?_)
  · have hf := fb_t h_147 hf
    exact w_X_X0_takeFrom__4_12_176 C hr hk122 hf hP hS (lv_sub hl [1, 2, 3] rfl)
  · have hf := fb_f h_147 hf
    exact w_X_X0_takeFrom__4_12_150 C hr hk122 hf hP hS (lv_sub hl [1, 2, 3, 0] rfl)
set_option maxRecDepth 20000 in
theorem w_X_X0_takeFrom__4_12_122 {p : Program} {l : Launch} {e : Env} {s : State} {m : MethodId} {args : Array Value} {below : List Frame} {meth : Method} {c : Code} {A : Nat → Prop} {Q : State → Prop} {D : va_G} {ca : Nat → ClassId} {a : Nat → Nat} {u : fw_S}  (C : CX (WX ca a) D (tyv ca) p s m args c A prog_2_method_2_code 4 RX0) (hr : True → RX (WX ca a) D p l e rm_X_X0_takeFrom__4_12 s m args below meth c A prog_2_method_2_code Q .return_ [] u) : ∀ (n : Nat) (t : fw_S) (x2 : Int32) (H : Heap) (locs : List Loc) (ls : Array Slot), b_X_X0_takeFrom__4_12_122  n t x2 = some u → va_P D classes (WX ca a t) H → va_S A s.heap H locs → lv_has ls 4 [(0, .ref (a 4)), (1, .ref (a 12)), (2, .int x2)] → W p l e rm_X_X0_takeFrom__4_12 s m args below meth c H locs 0 0 Q (F0 m 122 ls []) := by
  obtain ⟨hx, hb, hml, hown, hts, hN, hK, hD, hA⟩ := id C
  intro n
  induction n with
  | zero => intro t x2 H locs ls hf; cases hf
  | succ n hk122 =>
    intro t x2 H locs ls hf hP hS hl
    have hf : (if ((32 : Int32)) ≤ x2 then b_X_X0_takeFrom__4_12_182 t else b_X_X0_takeFrom__4_12_128 (b_X_X0_takeFrom__4_12_122 n) t x2) = some u := hf
    refine lv_iload_n hx hb dX0_takeFrom_122 rfl (lv_at hl 2 rfl) ?_
    refine lv_bipush (v := 32) hx hb dX0_takeFrom_123 (by decide) ?_
    refine lv_icmp_ge (tgt := 182) hx hb dX0_takeFrom_125 (by decide) (fun h_125 => ?_) (fun h_125 => ?_)
    · have hf := fb_t h_125 hf
      exact w_X_X0_takeFrom__4_12_182 C hr hf hP hS (lv_sub hl [0, 1] rfl)
    · have hf := fb_f h_125 hf
      exact w_X_X0_takeFrom__4_12_128 C hr hk122 hf hP hS (lv_sub hl [0, 1, 2] rfl)
set_option maxRecDepth 20000 in
theorem w_X_X0_takeFrom__4_12_0 {p : Program} {l : Launch} {e : Env} {s : State} {m : MethodId} {args : Array Value} {below : List Frame} {meth : Method} {c : Code} {A : Nat → Prop} {Q : State → Prop} {D : va_G} {ca : Nat → ClassId} {a : Nat → Nat} {u : fw_S}  (C : CX (WX ca a) D (tyv ca) p s m args c A prog_2_method_2_code 4 RX0) (hr : True → RX (WX ca a) D p l e rm_X_X0_takeFrom__4_12 s m args below meth c A prog_2_method_2_code Q .return_ [] u) {t : fw_S}  {H : Heap} {locs : List Loc} {ls : Array Slot} (hf : b_X_X0_takeFrom__4_12_0  t  = some u) (hP : va_P D classes (WX ca a t) H) (hS : va_S A s.heap H locs) (hl : lv_has ls 4 [(0, .ref (a 4)), (1, .ref (a 12))]) : W p l e rm_X_X0_takeFrom__4_12 s m args below meth c H locs 0 0 Q (F0 m 0 ls []) := by
  obtain ⟨hx, hb, hml, hown, hts, hN, hK, hD, hA⟩ := id C
  have hf : (fb_g (¬ ((0 : Int32)) < 0 ∧ ¬ ((0 : Int32)) < 0 ∧ ¬ ((32 : Int32)) < 0 ∧ ((0 : Int32)).toNatClampNeg + ((32 : Int32)).toNatClampNeg ≤ 32 ∧ ((0 : Int32)).toNatClampNeg + ((32 : Int32)).toNatClampNeg ≤ 32) (fb_l (up_F t 8 (va_cpy (st_F t 33) (st_F t 8) ((0 : Int32)).toNatClampNeg ((0 : Int32)).toNatClampNeg ((32 : Int32)).toNatClampNeg)) fun t_1 => (fb_g (¬ ((0 : Int32)) < 0 ∧ ¬ ((0 : Int32)) < 0 ∧ ¬ ((32 : Int32)) < 0 ∧ ((0 : Int32)).toNatClampNeg + ((32 : Int32)).toNatClampNeg ≤ 32 ∧ ((0 : Int32)).toNatClampNeg + ((32 : Int32)).toNatClampNeg ≤ 32) (fb_l (up_G t_1 0 (va_cpy (st_G t_1 11) (st_G t_1 0) ((0 : Int32)).toNatClampNeg ((0 : Int32)).toNatClampNeg ((32 : Int32)).toNatClampNeg)) fun t_2 => (fb_g (¬ ((0 : Int32)) < 0 ∧ ¬ ((0 : Int32)) < 0 ∧ ¬ ((32 : Int32)) < 0 ∧ ((0 : Int32)).toNatClampNeg + ((32 : Int32)).toNatClampNeg ≤ 32 ∧ ((0 : Int32)).toNatClampNeg + ((32 : Int32)).toNatClampNeg ≤ 32) (fb_l (up_F t_2 9 (va_cpy (st_F t_2 34) (st_F t_2 9) ((0 : Int32)).toNatClampNeg ((0 : Int32)).toNatClampNeg ((32 : Int32)).toNatClampNeg)) fun t_3 => (fb_g (¬ ((0 : Int32)) < 0 ∧ ¬ ((0 : Int32)) < 0 ∧ ¬ ((32 : Int32)) < 0 ∧ ((0 : Int32)).toNatClampNeg + ((32 : Int32)).toNatClampNeg ≤ 32 ∧ ((0 : Int32)).toNatClampNeg + ((32 : Int32)).toNatClampNeg ≤ 32) (fb_l (up_F t_3 10 (va_cpy (st_F t_3 35) (st_F t_3 10) ((0 : Int32)).toNatClampNeg ((0 : Int32)).toNatClampNeg ((32 : Int32)).toNatClampNeg)) fun t_4 => (fb_g (¬ ((0 : Int32)) < 0 ∧ ¬ ((0 : Int32)) < 0 ∧ ¬ ((32 : Int32)) < 0 ∧ ((0 : Int32)).toNatClampNeg + ((32 : Int32)).toNatClampNeg ≤ 32 ∧ ((0 : Int32)).toNatClampNeg + ((32 : Int32)).toNatClampNeg ≤ 32) (fb_l (up_F t_4 11 (va_cpy (st_F t_4 36) (st_F t_4 11) ((0 : Int32)).toNatClampNeg ((0 : Int32)).toNatClampNeg ((32 : Int32)).toNatClampNeg)) fun t_5 => (fb_g (¬ ((0 : Int32)) < 0 ∧ ¬ ((0 : Int32)) < 0 ∧ ¬ ((32 : Int32)) < 0 ∧ ((0 : Int32)).toNatClampNeg + ((32 : Int32)).toNatClampNeg ≤ 32 ∧ ((0 : Int32)).toNatClampNeg + ((32 : Int32)).toNatClampNeg ≤ 32) (fb_l (up_F t_5 12 (va_cpy (st_F t_5 37) (st_F t_5 12) ((0 : Int32)).toNatClampNeg ((0 : Int32)).toNatClampNeg ((32 : Int32)).toNatClampNeg)) fun t_6 => (fb_g (¬ ((0 : Int32)) < 0 ∧ ¬ ((0 : Int32)) < 0 ∧ ¬ ((32 : Int32)) < 0 ∧ ((0 : Int32)).toNatClampNeg + ((32 : Int32)).toNatClampNeg ≤ 32 ∧ ((0 : Int32)).toNatClampNeg + ((32 : Int32)).toNatClampNeg ≤ 32) (fb_l (up_F t_6 14 (va_cpy (st_F t_6 39) (st_F t_6 14) ((0 : Int32)).toNatClampNeg ((0 : Int32)).toNatClampNeg ((32 : Int32)).toNatClampNeg)) fun t_7 => (fb_g (¬ ((0 : Int32)) < 0 ∧ ¬ ((0 : Int32)) < 0 ∧ ¬ ((32 : Int32)) < 0 ∧ ((0 : Int32)).toNatClampNeg + ((32 : Int32)).toNatClampNeg ≤ 32 ∧ ((0 : Int32)).toNatClampNeg + ((32 : Int32)).toNatClampNeg ≤ 32) (fb_l (up_G t_7 1 (va_cpy (st_G t_7 12) (st_G t_7 1) ((0 : Int32)).toNatClampNeg ((0 : Int32)).toNatClampNeg ((32 : Int32)).toNatClampNeg)) fun t_8 => (b_X_X0_takeFrom__4_12_122 3000 t_8 ((0 : Int32))))))))))))))))))) = some u := hf
  refine lv_aload_n hx hb dX0_takeFrom_0 rfl (lv_at hl 1 rfl) ?_
  refine va_get (D := D) (ci := 0) (v := .ref (a 62)) (C := RX0) (T := TX0) (N := 12) hx hb hts inX0 hown hK hP 12 (heX_12 ca a t) rfl 0 (by decide) (hts _ kw_187) (fun _ h9 => h9) rfl dX0_takeFrom_1 ?_
  refine lv_iconst (v := 0) hx hb dX0_takeFrom_4 (by decide) ?_
  refine lv_aload_n hx hb dX0_takeFrom_5 rfl (lv_at hl 0 rfl) ?_
  refine va_get (D := D) (ci := 0) (v := .ref (a 22)) (C := RX0) (T := TX0) (N := 12) hx hb hts inX0 hown hK hP 4 (heX_4 ca a t) rfl 0 (by decide) (hts _ kw_187) (fun _ h9 => h9) rfl dX0_takeFrom_6 ?_
  refine lv_iconst (v := 0) hx hb dX0_takeFrom_9 (by decide) ?_
  refine lv_bipush (v := 32) hx hb dX0_takeFrom_10 (by decide) ?_
  obtain ⟨⟨h1_12, h2_12, h3_12, h4_12, h5_12⟩, hf⟩ := fb_if hf
  refine va_copyi hx hb (hml.trans hl.1.symm) hown (hts _ kw_422) (hts _ kw_424) (hts _ kw_423) (hts _ kw_103) hK hP (hD t) hS 62 22 0 0 (haX_62 ca a t) (haX_22 ca a t) rfl rfl rfl h1_12 h2_12 h3_12 h4_12 h5_12 (fun _ _ => rfl) (Nat.le_of_ble_eq_true rfl) (Nat.le_of_ble_eq_true rfl) dX0_takeFrom_12 (fun H locs hP _ hS => ?_)
  rw [saX_22] at hP
  obtain ⟨t_1, e_12, hf⟩ := fb_ls hf
  rw [← e_12] at hP
  refine lv_aload_n hx hb dX0_takeFrom_15 rfl (lv_at hl 1 rfl) ?_
  refine va_get (D := D) (ci := 0) (v := .ref (a 63)) (C := RX0) (T := TX0) (N := 12) hx hb hts inX0 hown hK hP 12 (heX_12 ca a t_1) rfl 1 (by decide) (hts _ kw_188) (fun _ h9 => h9) rfl dX0_takeFrom_16 ?_
  refine lv_iconst (v := 0) hx hb dX0_takeFrom_19 (by decide) ?_
  refine lv_aload_n hx hb dX0_takeFrom_20 rfl (lv_at hl 0 rfl) ?_
  refine va_get (D := D) (ci := 0) (v := .ref (a 23)) (C := RX0) (T := TX0) (N := 12) hx hb hts inX0 hown hK hP 4 (heX_4 ca a t_1) rfl 1 (by decide) (hts _ kw_188) (fun _ h9 => h9) rfl dX0_takeFrom_21 ?_
  refine lv_iconst (v := 0) hx hb dX0_takeFrom_24 (by decide) ?_
  refine lv_bipush (v := 32) hx hb dX0_takeFrom_25 (by decide) ?_
  obtain ⟨⟨h1_27, h2_27, h3_27, h4_27, h5_27⟩, hf⟩ := fb_if hf
  refine va_copyl hx hb (hml.trans hl.1.symm) hown (hts _ kw_422) (hts _ kw_424) (hts _ kw_423) (hts _ kw_103) hK hP (hD t_1) hS 63 23 1 1 (haX_63 ca a t_1) (haX_23 ca a t_1) rfl rfl rfl h1_27 h2_27 h3_27 h4_27 h5_27 (fun _ _ => rfl) (Nat.le_of_ble_eq_true rfl) (Nat.le_of_ble_eq_true rfl) dX0_takeFrom_27 (fun H locs hP _ hS => ?_)
  rw [saX_23] at hP
  obtain ⟨t_2, e_27, hf⟩ := fb_ls hf
  rw [← e_27] at hP
  refine lv_aload_n hx hb dX0_takeFrom_30 rfl (lv_at hl 1 rfl) ?_
  refine va_get (D := D) (ci := 0) (v := .ref (a 64)) (C := RX0) (T := TX0) (N := 12) hx hb hts inX0 hown hK hP 12 (heX_12 ca a t_2) rfl 2 (by decide) (hts _ kw_189) (fun _ h9 => h9) rfl dX0_takeFrom_31 ?_
  refine lv_iconst (v := 0) hx hb dX0_takeFrom_34 (by decide) ?_
  refine lv_aload_n hx hb dX0_takeFrom_35 rfl (lv_at hl 0 rfl) ?_
  refine va_get (D := D) (ci := 0) (v := .ref (a 24)) (C := RX0) (T := TX0) (N := 12) hx hb hts inX0 hown hK hP 4 (heX_4 ca a t_2) rfl 2 (by decide) (hts _ kw_189) (fun _ h9 => h9) rfl dX0_takeFrom_36 ?_
  refine lv_iconst (v := 0) hx hb dX0_takeFrom_39 (by decide) ?_
  refine lv_bipush (v := 32) hx hb dX0_takeFrom_40 (by decide) ?_
  obtain ⟨⟨h1_42, h2_42, h3_42, h4_42, h5_42⟩, hf⟩ := fb_if hf
  refine va_copyi hx hb (hml.trans hl.1.symm) hown (hts _ kw_422) (hts _ kw_424) (hts _ kw_423) (hts _ kw_103) hK hP (hD t_2) hS 64 24 0 0 (haX_64 ca a t_2) (haX_24 ca a t_2) rfl rfl rfl h1_42 h2_42 h3_42 h4_42 h5_42 (fun _ _ => rfl) (Nat.le_of_ble_eq_true rfl) (Nat.le_of_ble_eq_true rfl) dX0_takeFrom_42 (fun H locs hP _ hS => ?_)
  rw [saX_24] at hP
  obtain ⟨t_3, e_42, hf⟩ := fb_ls hf
  rw [← e_42] at hP
  refine lv_aload_n hx hb dX0_takeFrom_45 rfl (lv_at hl 1 rfl) ?_
  refine va_get (D := D) (ci := 0) (v := .ref (a 66)) (C := RX0) (T := TX0) (N := 12) hx hb hts inX0 hown hK hP 12 (heX_12 ca a t_3) rfl 4 (by decide) (hts _ kw_191) (fun _ h9 => h9) rfl dX0_takeFrom_46 ?_
  refine lv_iconst (v := 0) hx hb dX0_takeFrom_49 (by decide) ?_
  refine lv_aload_n hx hb dX0_takeFrom_50 rfl (lv_at hl 0 rfl) ?_
  refine va_get (D := D) (ci := 0) (v := .ref (a 26)) (C := RX0) (T := TX0) (N := 12) hx hb hts inX0 hown hK hP 4 (heX_4 ca a t_3) rfl 4 (by decide) (hts _ kw_191) (fun _ h9 => h9) rfl dX0_takeFrom_51 ?_
  refine lv_iconst (v := 0) hx hb dX0_takeFrom_54 (by decide) ?_
  refine lv_bipush (v := 32) hx hb dX0_takeFrom_55 (by decide) ?_
  obtain ⟨⟨h1_57, h2_57, h3_57, h4_57, h5_57⟩, hf⟩ := fb_if hf
  refine va_copyi hx hb (hml.trans hl.1.symm) hown (hts _ kw_422) (hts _ kw_424) (hts _ kw_423) (hts _ kw_103) hK hP (hD t_3) hS 66 26 0 0 (haX_66 ca a t_3) (haX_26 ca a t_3) rfl rfl rfl h1_57 h2_57 h3_57 h4_57 h5_57 (fun _ _ => rfl) (Nat.le_of_ble_eq_true rfl) (Nat.le_of_ble_eq_true rfl) dX0_takeFrom_57 (fun H locs hP _ hS => ?_)
  rw [saX_26] at hP
  obtain ⟨t_4, e_57, hf⟩ := fb_ls hf
  rw [← e_57] at hP
  refine lv_aload_n hx hb dX0_takeFrom_60 rfl (lv_at hl 1 rfl) ?_
  refine va_get (D := D) (ci := 0) (v := .ref (a 67)) (C := RX0) (T := TX0) (N := 12) hx hb hts inX0 hown hK hP 12 (heX_12 ca a t_4) rfl 5 (by decide) (hts _ kw_192) (fun _ h9 => h9) rfl dX0_takeFrom_61 ?_
  refine lv_iconst (v := 0) hx hb dX0_takeFrom_64 (by decide) ?_
  refine lv_aload_n hx hb dX0_takeFrom_65 rfl (lv_at hl 0 rfl) ?_
  refine va_get (D := D) (ci := 0) (v := .ref (a 27)) (C := RX0) (T := TX0) (N := 12) hx hb hts inX0 hown hK hP 4 (heX_4 ca a t_4) rfl 5 (by decide) (hts _ kw_192) (fun _ h9 => h9) rfl dX0_takeFrom_66 ?_
  refine lv_iconst (v := 0) hx hb dX0_takeFrom_69 (by decide) ?_
  refine lv_bipush (v := 32) hx hb dX0_takeFrom_70 (by decide) ?_
  obtain ⟨⟨h1_72, h2_72, h3_72, h4_72, h5_72⟩, hf⟩ := fb_if hf
  refine va_copyi hx hb (hml.trans hl.1.symm) hown (hts _ kw_422) (hts _ kw_424) (hts _ kw_423) (hts _ kw_103) hK hP (hD t_4) hS 67 27 0 0 (haX_67 ca a t_4) (haX_27 ca a t_4) rfl rfl rfl h1_72 h2_72 h3_72 h4_72 h5_72 (fun _ _ => rfl) (Nat.le_of_ble_eq_true rfl) (Nat.le_of_ble_eq_true rfl) dX0_takeFrom_72 (fun H locs hP _ hS => ?_)
  rw [saX_27] at hP
  obtain ⟨t_5, e_72, hf⟩ := fb_ls hf
  rw [← e_72] at hP
  refine lv_aload_n hx hb dX0_takeFrom_75 rfl (lv_at hl 1 rfl) ?_
  refine va_get (D := D) (ci := 0) (v := .ref (a 68)) (C := RX0) (T := TX0) (N := 12) hx hb hts inX0 hown hK hP 12 (heX_12 ca a t_5) rfl 6 (by decide) (hts _ kw_193) (fun _ h9 => h9) rfl dX0_takeFrom_76 ?_
  refine lv_iconst (v := 0) hx hb dX0_takeFrom_79 (by decide) ?_
  refine lv_aload_n hx hb dX0_takeFrom_80 rfl (lv_at hl 0 rfl) ?_
  refine va_get (D := D) (ci := 0) (v := .ref (a 28)) (C := RX0) (T := TX0) (N := 12) hx hb hts inX0 hown hK hP 4 (heX_4 ca a t_5) rfl 6 (by decide) (hts _ kw_193) (fun _ h9 => h9) rfl dX0_takeFrom_81 ?_
  refine lv_iconst (v := 0) hx hb dX0_takeFrom_84 (by decide) ?_
  refine lv_bipush (v := 32) hx hb dX0_takeFrom_85 (by decide) ?_
  obtain ⟨⟨h1_87, h2_87, h3_87, h4_87, h5_87⟩, hf⟩ := fb_if hf
  refine va_copyi hx hb (hml.trans hl.1.symm) hown (hts _ kw_422) (hts _ kw_424) (hts _ kw_423) (hts _ kw_103) hK hP (hD t_5) hS 68 28 0 0 (haX_68 ca a t_5) (haX_28 ca a t_5) rfl rfl rfl h1_87 h2_87 h3_87 h4_87 h5_87 (fun _ _ => rfl) (Nat.le_of_ble_eq_true rfl) (Nat.le_of_ble_eq_true rfl) dX0_takeFrom_87 (fun H locs hP _ hS => ?_)
  rw [saX_28] at hP
  obtain ⟨t_6, e_87, hf⟩ := fb_ls hf
  rw [← e_87] at hP
  refine lv_aload_n hx hb dX0_takeFrom_90 rfl (lv_at hl 1 rfl) ?_
  refine va_get (D := D) (ci := 0) (v := .ref (a 70)) (C := RX0) (T := TX0) (N := 12) hx hb hts inX0 hown hK hP 12 (heX_12 ca a t_6) rfl 8 (by decide) (hts _ kw_195) (fun _ h9 => h9) rfl dX0_takeFrom_91 ?_
  refine lv_iconst (v := 0) hx hb dX0_takeFrom_94 (by decide) ?_
  refine lv_aload_n hx hb dX0_takeFrom_95 rfl (lv_at hl 0 rfl) ?_
  refine va_get (D := D) (ci := 0) (v := .ref (a 30)) (C := RX0) (T := TX0) (N := 12) hx hb hts inX0 hown hK hP 4 (heX_4 ca a t_6) rfl 8 (by decide) (hts _ kw_195) (fun _ h9 => h9) rfl dX0_takeFrom_96 ?_
  refine lv_iconst (v := 0) hx hb dX0_takeFrom_99 (by decide) ?_
  refine lv_bipush (v := 32) hx hb dX0_takeFrom_100 (by decide) ?_
  obtain ⟨⟨h1_102, h2_102, h3_102, h4_102, h5_102⟩, hf⟩ := fb_if hf
  refine va_copyi hx hb (hml.trans hl.1.symm) hown (hts _ kw_422) (hts _ kw_424) (hts _ kw_423) (hts _ kw_103) hK hP (hD t_6) hS 70 30 0 0 (haX_70 ca a t_6) (haX_30 ca a t_6) rfl rfl rfl h1_102 h2_102 h3_102 h4_102 h5_102 (fun _ _ => rfl) (Nat.le_of_ble_eq_true rfl) (Nat.le_of_ble_eq_true rfl) dX0_takeFrom_102 (fun H locs hP _ hS => ?_)
  rw [saX_30] at hP
  obtain ⟨t_7, e_102, hf⟩ := fb_ls hf
  rw [← e_102] at hP
  refine lv_aload_n hx hb dX0_takeFrom_105 rfl (lv_at hl 1 rfl) ?_
  refine va_get (D := D) (ci := 0) (v := .ref (a 71)) (C := RX0) (T := TX0) (N := 12) hx hb hts inX0 hown hK hP 12 (heX_12 ca a t_7) rfl 9 (by decide) (hts _ kw_196) (fun _ h9 => h9) rfl dX0_takeFrom_106 ?_
  refine lv_iconst (v := 0) hx hb dX0_takeFrom_109 (by decide) ?_
  refine lv_aload_n hx hb dX0_takeFrom_110 rfl (lv_at hl 0 rfl) ?_
  refine va_get (D := D) (ci := 0) (v := .ref (a 31)) (C := RX0) (T := TX0) (N := 12) hx hb hts inX0 hown hK hP 4 (heX_4 ca a t_7) rfl 9 (by decide) (hts _ kw_196) (fun _ h9 => h9) rfl dX0_takeFrom_111 ?_
  refine lv_iconst (v := 0) hx hb dX0_takeFrom_114 (by decide) ?_
  refine lv_bipush (v := 32) hx hb dX0_takeFrom_115 (by decide) ?_
  obtain ⟨⟨h1_117, h2_117, h3_117, h4_117, h5_117⟩, hf⟩ := fb_if hf
  refine va_copyl hx hb (hml.trans hl.1.symm) hown (hts _ kw_422) (hts _ kw_424) (hts _ kw_423) (hts _ kw_103) hK hP (hD t_7) hS 71 31 1 1 (haX_71 ca a t_7) (haX_31 ca a t_7) rfl rfl rfl h1_117 h2_117 h3_117 h4_117 h5_117 (fun _ _ => rfl) (Nat.le_of_ble_eq_true rfl) (Nat.le_of_ble_eq_true rfl) dX0_takeFrom_117 (fun H locs hP _ hS => ?_)
  rw [saX_31] at hP
  obtain ⟨t_8, e_117, hf⟩ := fb_ls hf
  rw [← e_117] at hP
  refine lv_iconst (v := 0) hx hb dX0_takeFrom_120 (by decide) ?_
  refine lv_istore_n (lv' := [(2, .int ((0 : Int32))), (0, .ref (a 4)), (1, .ref (a 12))]) hx hb dX0_takeFrom_121 rfl hl (by decide) rfl (fun ls hl => ?_)
  exact w_X_X0_takeFrom__4_12_122 C hr 3000 t_8 ((0 : Int32)) _ _ _ hf hP hS (lv_sub hl [1, 2, 0] rfl)
set_option maxRecDepth 20000 in
theorem c_X_X0_takeFrom__4_12 {l : Launch} {D : va_G} {ca : Nat → ClassId} {a : Nat → Nat} {t : fw_S}  {u : fw_S} (hf : f_X_X0_takeFrom__4_12 t  = some u) : MC (WX ca a) D (tyv ca) l yX0_takeFrom (.code yX0_takeFrom prog_2_method_2_code 4 none :: lw_gd) rm_X_X0_takeFrom__4_12 [.ref (a 4), .ref (a 12)] none t u := by
  refine fw_met (okX ca a) (by decide +kernel) rfl rfl (Nat.le_of_ble_eq_true rfl) ?_
  intro p e s m args below meth c A Q ls C hr hk hP hS hl hQ
  exact w_X_X0_takeFrom__4_12_0 C (fun _ => fw_rv C hr hk hQ) hf hP hS (lv_sub hl [0, 1] rfl)
/-! ReactiveSheet.Watching.takeFrom(LReactiveSheet.Watching;)V ['x.watching', 'x.keptWatching'] -/
abbrev rm_X_X9_takeFrom__8_13 : Room := { frames := 1, cells := 0, slots := 0, locals := 100 }
def b_X_X9_takeFrom__8_13_0  (t : fw_S)  : Option fw_S := fb_g (¬ ((0 : Int32)) < 0 ∧ ¬ ((0 : Int32)) < 0 ∧ ¬ ((8 : Int32)) < 0 ∧ ((0 : Int32)).toNatClampNeg + ((8 : Int32)).toNatClampNeg ≤ 8 ∧ ((0 : Int32)).toNatClampNeg + ((8 : Int32)).toNatClampNeg ≤ 8) (fb_l (up_F t 24 (va_cpy (st_F t 40) (st_F t 24) ((0 : Int32)).toNatClampNeg ((0 : Int32)).toNatClampNeg ((8 : Int32)).toNatClampNeg)) fun t_1 => (fb_g (¬ ((0 : Int32)) < 0 ∧ ¬ ((0 : Int32)) < 0 ∧ ¬ ((8 : Int32)) < 0 ∧ ((0 : Int32)).toNatClampNeg + ((8 : Int32)).toNatClampNeg ≤ 8 ∧ ((0 : Int32)).toNatClampNeg + ((8 : Int32)).toNatClampNeg ≤ 8) (fb_l (up_F t_1 25 (va_cpy (st_F t_1 41) (st_F t_1 25) ((0 : Int32)).toNatClampNeg ((0 : Int32)).toNatClampNeg ((8 : Int32)).toNatClampNeg)) fun t_2 => (fb_g (¬ ((0 : Int32)) < 0 ∧ ¬ ((0 : Int32)) < 0 ∧ ¬ ((8 : Int32)) < 0 ∧ ((0 : Int32)).toNatClampNeg + ((8 : Int32)).toNatClampNeg ≤ 8 ∧ ((0 : Int32)).toNatClampNeg + ((8 : Int32)).toNatClampNeg ≤ 8) (fb_l (up_G t_2 7 (va_cpy (st_G t_2 13) (st_G t_2 7) ((0 : Int32)).toNatClampNeg ((0 : Int32)).toNatClampNeg ((8 : Int32)).toNatClampNeg)) fun t_3 => (fb_l (up_I t_3 9 (st_I t_3 13)) fun t_4 => (fb_l (up_J t_4 10 (st_J t_4 13)) fun t_5 => (fb_g (¬ ((0 : Int32)) < 0 ∧ ¬ ((0 : Int32)) < 0 ∧ ¬ ((60 : Int32)) < 0 ∧ ((0 : Int32)).toNatClampNeg + ((60 : Int32)).toNatClampNeg ≤ 60 ∧ ((0 : Int32)).toNatClampNeg + ((60 : Int32)).toNatClampNeg ≤ 60) (fb_l (up_F t_5 26 (va_cpy (st_F t_5 42) (st_F t_5 26) ((0 : Int32)).toNatClampNeg ((0 : Int32)).toNatClampNeg ((60 : Int32)).toNatClampNeg)) fun t_6 => (fb_g (¬ ((0 : Int32)) < 0 ∧ ¬ ((0 : Int32)) < 0 ∧ ¬ ((60 : Int32)) < 0 ∧ ((0 : Int32)).toNatClampNeg + ((60 : Int32)).toNatClampNeg ≤ 60 ∧ ((0 : Int32)).toNatClampNeg + ((60 : Int32)).toNatClampNeg ≤ 60) (fb_l (up_F t_6 27 (va_cpy (st_F t_6 43) (st_F t_6 27) ((0 : Int32)).toNatClampNeg ((0 : Int32)).toNatClampNeg ((60 : Int32)).toNatClampNeg)) fun t_7 => (fb_g (¬ ((0 : Int32)) < 0 ∧ ¬ ((0 : Int32)) < 0 ∧ ¬ ((60 : Int32)) < 0 ∧ ((0 : Int32)).toNatClampNeg + ((60 : Int32)).toNatClampNeg ≤ 60 ∧ ((0 : Int32)).toNatClampNeg + ((60 : Int32)).toNatClampNeg ≤ 60) (fb_l (up_F t_7 28 (va_cpy (st_F t_7 44) (st_F t_7 28) ((0 : Int32)).toNatClampNeg ((0 : Int32)).toNatClampNeg ((60 : Int32)).toNatClampNeg)) fun t_8 => (fb_g (¬ ((0 : Int32)) < 0 ∧ ¬ ((0 : Int32)) < 0 ∧ ¬ ((60 : Int32)) < 0 ∧ ((0 : Int32)).toNatClampNeg + ((60 : Int32)).toNatClampNeg ≤ 60 ∧ ((0 : Int32)).toNatClampNeg + ((60 : Int32)).toNatClampNeg ≤ 60) (fb_l (up_G t_8 8 (va_cpy (st_G t_8 14) (st_G t_8 8) ((0 : Int32)).toNatClampNeg ((0 : Int32)).toNatClampNeg ((60 : Int32)).toNatClampNeg)) fun t_9 => (fb_g (¬ ((0 : Int32)) < 0 ∧ ¬ ((0 : Int32)) < 0 ∧ ¬ ((60 : Int32)) < 0 ∧ ((0 : Int32)).toNatClampNeg + ((60 : Int32)).toNatClampNeg ≤ 60 ∧ ((0 : Int32)).toNatClampNeg + ((60 : Int32)).toNatClampNeg ≤ 60) (fb_l (up_G t_9 9 (va_cpy (st_G t_9 15) (st_G t_9 9) ((0 : Int32)).toNatClampNeg ((0 : Int32)).toNatClampNeg ((60 : Int32)).toNatClampNeg)) fun t_10 => (fb_l (up_I t_10 10 (st_I t_10 14)) fun t_11 => (fb_l (up_I t_11 11 (st_I t_11 15)) fun t_12 => (some t_12))))))))))))))))))))
def f_X_X9_takeFrom__8_13 (t : fw_S)  : Option fw_S := b_X_X9_takeFrom__8_13_0 t 
set_option maxRecDepth 20000 in
theorem w_X_X9_takeFrom__8_13_0 {p : Program} {l : Launch} {e : Env} {s : State} {m : MethodId} {args : Array Value} {below : List Frame} {meth : Method} {c : Code} {A : Nat → Prop} {Q : State → Prop} {D : va_G} {ca : Nat → ClassId} {a : Nat → Nat} {u : fw_S}  (C : CX (WX ca a) D (tyv ca) p s m args c A prog_11_method_2_code 2 RX9) (hr : True → RX (WX ca a) D p l e rm_X_X9_takeFrom__8_13 s m args below meth c A prog_11_method_2_code Q .return_ [] u) {t : fw_S}  {H : Heap} {locs : List Loc} {ls : Array Slot} (hf : b_X_X9_takeFrom__8_13_0  t  = some u) (hP : va_P D classes (WX ca a t) H) (hS : va_S A s.heap H locs) (hl : lv_has ls 2 [(0, .ref (a 8)), (1, .ref (a 13))]) : W p l e rm_X_X9_takeFrom__8_13 s m args below meth c H locs 0 0 Q (F0 m 0 ls []) := by
  obtain ⟨hx, hb, hml, hown, hts, hN, hK, hD, hA⟩ := id C
  have hf : (fb_g (¬ ((0 : Int32)) < 0 ∧ ¬ ((0 : Int32)) < 0 ∧ ¬ ((8 : Int32)) < 0 ∧ ((0 : Int32)).toNatClampNeg + ((8 : Int32)).toNatClampNeg ≤ 8 ∧ ((0 : Int32)).toNatClampNeg + ((8 : Int32)).toNatClampNeg ≤ 8) (fb_l (up_F t 24 (va_cpy (st_F t 40) (st_F t 24) ((0 : Int32)).toNatClampNeg ((0 : Int32)).toNatClampNeg ((8 : Int32)).toNatClampNeg)) fun t_1 => (fb_g (¬ ((0 : Int32)) < 0 ∧ ¬ ((0 : Int32)) < 0 ∧ ¬ ((8 : Int32)) < 0 ∧ ((0 : Int32)).toNatClampNeg + ((8 : Int32)).toNatClampNeg ≤ 8 ∧ ((0 : Int32)).toNatClampNeg + ((8 : Int32)).toNatClampNeg ≤ 8) (fb_l (up_F t_1 25 (va_cpy (st_F t_1 41) (st_F t_1 25) ((0 : Int32)).toNatClampNeg ((0 : Int32)).toNatClampNeg ((8 : Int32)).toNatClampNeg)) fun t_2 => (fb_g (¬ ((0 : Int32)) < 0 ∧ ¬ ((0 : Int32)) < 0 ∧ ¬ ((8 : Int32)) < 0 ∧ ((0 : Int32)).toNatClampNeg + ((8 : Int32)).toNatClampNeg ≤ 8 ∧ ((0 : Int32)).toNatClampNeg + ((8 : Int32)).toNatClampNeg ≤ 8) (fb_l (up_G t_2 7 (va_cpy (st_G t_2 13) (st_G t_2 7) ((0 : Int32)).toNatClampNeg ((0 : Int32)).toNatClampNeg ((8 : Int32)).toNatClampNeg)) fun t_3 => (fb_l (up_I t_3 9 (st_I t_3 13)) fun t_4 => (fb_l (up_J t_4 10 (st_J t_4 13)) fun t_5 => (fb_g (¬ ((0 : Int32)) < 0 ∧ ¬ ((0 : Int32)) < 0 ∧ ¬ ((60 : Int32)) < 0 ∧ ((0 : Int32)).toNatClampNeg + ((60 : Int32)).toNatClampNeg ≤ 60 ∧ ((0 : Int32)).toNatClampNeg + ((60 : Int32)).toNatClampNeg ≤ 60) (fb_l (up_F t_5 26 (va_cpy (st_F t_5 42) (st_F t_5 26) ((0 : Int32)).toNatClampNeg ((0 : Int32)).toNatClampNeg ((60 : Int32)).toNatClampNeg)) fun t_6 => (fb_g (¬ ((0 : Int32)) < 0 ∧ ¬ ((0 : Int32)) < 0 ∧ ¬ ((60 : Int32)) < 0 ∧ ((0 : Int32)).toNatClampNeg + ((60 : Int32)).toNatClampNeg ≤ 60 ∧ ((0 : Int32)).toNatClampNeg + ((60 : Int32)).toNatClampNeg ≤ 60) (fb_l (up_F t_6 27 (va_cpy (st_F t_6 43) (st_F t_6 27) ((0 : Int32)).toNatClampNeg ((0 : Int32)).toNatClampNeg ((60 : Int32)).toNatClampNeg)) fun t_7 => (fb_g (¬ ((0 : Int32)) < 0 ∧ ¬ ((0 : Int32)) < 0 ∧ ¬ ((60 : Int32)) < 0 ∧ ((0 : Int32)).toNatClampNeg + ((60 : Int32)).toNatClampNeg ≤ 60 ∧ ((0 : Int32)).toNatClampNeg + ((60 : Int32)).toNatClampNeg ≤ 60) (fb_l (up_F t_7 28 (va_cpy (st_F t_7 44) (st_F t_7 28) ((0 : Int32)).toNatClampNeg ((0 : Int32)).toNatClampNeg ((60 : Int32)).toNatClampNeg)) fun t_8 => (fb_g (¬ ((0 : Int32)) < 0 ∧ ¬ ((0 : Int32)) < 0 ∧ ¬ ((60 : Int32)) < 0 ∧ ((0 : Int32)).toNatClampNeg + ((60 : Int32)).toNatClampNeg ≤ 60 ∧ ((0 : Int32)).toNatClampNeg + ((60 : Int32)).toNatClampNeg ≤ 60) (fb_l (up_G t_8 8 (va_cpy (st_G t_8 14) (st_G t_8 8) ((0 : Int32)).toNatClampNeg ((0 : Int32)).toNatClampNeg ((60 : Int32)).toNatClampNeg)) fun t_9 => (fb_g (¬ ((0 : Int32)) < 0 ∧ ¬ ((0 : Int32)) < 0 ∧ ¬ ((60 : Int32)) < 0 ∧ ((0 : Int32)).toNatClampNeg + ((60 : Int32)).toNatClampNeg ≤ 60 ∧ ((0 : Int32)).toNatClampNeg + ((60 : Int32)).toNatClampNeg ≤ 60) (fb_l (up_G t_9 9 (va_cpy (st_G t_9 15) (st_G t_9 9) ((0 : Int32)).toNatClampNeg ((0 : Int32)).toNatClampNeg ((60 : Int32)).toNatClampNeg)) fun t_10 => (fb_l (up_I t_10 10 (st_I t_10 14)) fun t_11 => (fb_l (up_I t_11 11 (st_I t_11 15)) fun t_12 => (some t_12))))))))))))))))))))) = some u := hf
  refine lv_aload_n hx hb dX9_takeFrom_0 rfl (lv_at hl 1 rfl) ?_
  refine va_get (D := D) (ci := 9) (v := .ref (a 72)) (C := RX9) (T := TX9) (N := 12) hx hb hts inX9 hown hK hP 13 (heX_13 ca a t) rfl 0 (by decide) (hts _ kw_276) (fun _ h9 => h9) rfl dX9_takeFrom_1 ?_
  refine lv_iconst (v := 0) hx hb dX9_takeFrom_4 (by decide) ?_
  refine lv_aload_n hx hb dX9_takeFrom_5 rfl (lv_at hl 0 rfl) ?_
  refine va_get (D := D) (ci := 9) (v := .ref (a 49)) (C := RX9) (T := TX9) (N := 12) hx hb hts inX9 hown hK hP 8 (heX_8 ca a t) rfl 0 (by decide) (hts _ kw_276) (fun _ h9 => h9) rfl dX9_takeFrom_6 ?_
  refine lv_iconst (v := 0) hx hb dX9_takeFrom_9 (by decide) ?_
  refine lv_bipush (v := 8) hx hb dX9_takeFrom_10 (by decide) ?_
  obtain ⟨⟨h1_12, h2_12, h3_12, h4_12, h5_12⟩, hf⟩ := fb_if hf
  refine va_copyi hx hb (hml.trans hl.1.symm) hown (hts _ kw_1180) (hts _ kw_424) (hts _ kw_423) (hts _ kw_103) hK hP (hD t) hS 72 49 0 0 (haX_72 ca a t) (haX_49 ca a t) rfl rfl rfl h1_12 h2_12 h3_12 h4_12 h5_12 (fun _ _ => rfl) (Nat.le_of_ble_eq_true rfl) (Nat.le_of_ble_eq_true rfl) dX9_takeFrom_12 (fun H locs hP _ hS => ?_)
  rw [saX_49] at hP
  obtain ⟨t_1, e_12, hf⟩ := fb_ls hf
  rw [← e_12] at hP
  refine lv_aload_n hx hb dX9_takeFrom_15 rfl (lv_at hl 1 rfl) ?_
  refine va_get (D := D) (ci := 9) (v := .ref (a 73)) (C := RX9) (T := TX9) (N := 12) hx hb hts inX9 hown hK hP 13 (heX_13 ca a t_1) rfl 1 (by decide) (hts _ kw_277) (fun _ h9 => h9) rfl dX9_takeFrom_16 ?_
  refine lv_iconst (v := 0) hx hb dX9_takeFrom_19 (by decide) ?_
  refine lv_aload_n hx hb dX9_takeFrom_20 rfl (lv_at hl 0 rfl) ?_
  refine va_get (D := D) (ci := 9) (v := .ref (a 50)) (C := RX9) (T := TX9) (N := 12) hx hb hts inX9 hown hK hP 8 (heX_8 ca a t_1) rfl 1 (by decide) (hts _ kw_277) (fun _ h9 => h9) rfl dX9_takeFrom_21 ?_
  refine lv_iconst (v := 0) hx hb dX9_takeFrom_24 (by decide) ?_
  refine lv_bipush (v := 8) hx hb dX9_takeFrom_25 (by decide) ?_
  obtain ⟨⟨h1_27, h2_27, h3_27, h4_27, h5_27⟩, hf⟩ := fb_if hf
  refine va_copyi hx hb (hml.trans hl.1.symm) hown (hts _ kw_1180) (hts _ kw_424) (hts _ kw_423) (hts _ kw_103) hK hP (hD t_1) hS 73 50 0 0 (haX_73 ca a t_1) (haX_50 ca a t_1) rfl rfl rfl h1_27 h2_27 h3_27 h4_27 h5_27 (fun _ _ => rfl) (Nat.le_of_ble_eq_true rfl) (Nat.le_of_ble_eq_true rfl) dX9_takeFrom_27 (fun H locs hP _ hS => ?_)
  rw [saX_50] at hP
  obtain ⟨t_2, e_27, hf⟩ := fb_ls hf
  rw [← e_27] at hP
  refine lv_aload_n hx hb dX9_takeFrom_30 rfl (lv_at hl 1 rfl) ?_
  refine va_get (D := D) (ci := 9) (v := .ref (a 74)) (C := RX9) (T := TX9) (N := 12) hx hb hts inX9 hown hK hP 13 (heX_13 ca a t_2) rfl 2 (by decide) (hts _ kw_278) (fun _ h9 => h9) rfl dX9_takeFrom_31 ?_
  refine lv_iconst (v := 0) hx hb dX9_takeFrom_34 (by decide) ?_
  refine lv_aload_n hx hb dX9_takeFrom_35 rfl (lv_at hl 0 rfl) ?_
  refine va_get (D := D) (ci := 9) (v := .ref (a 51)) (C := RX9) (T := TX9) (N := 12) hx hb hts inX9 hown hK hP 8 (heX_8 ca a t_2) rfl 2 (by decide) (hts _ kw_278) (fun _ h9 => h9) rfl dX9_takeFrom_36 ?_
  refine lv_iconst (v := 0) hx hb dX9_takeFrom_39 (by decide) ?_
  refine lv_bipush (v := 8) hx hb dX9_takeFrom_40 (by decide) ?_
  obtain ⟨⟨h1_42, h2_42, h3_42, h4_42, h5_42⟩, hf⟩ := fb_if hf
  refine va_copyl hx hb (hml.trans hl.1.symm) hown (hts _ kw_1180) (hts _ kw_424) (hts _ kw_423) (hts _ kw_103) hK hP (hD t_2) hS 74 51 1 1 (haX_74 ca a t_2) (haX_51 ca a t_2) rfl rfl rfl h1_42 h2_42 h3_42 h4_42 h5_42 (fun _ _ => rfl) (Nat.le_of_ble_eq_true rfl) (Nat.le_of_ble_eq_true rfl) dX9_takeFrom_42 (fun H locs hP _ hS => ?_)
  rw [saX_51] at hP
  obtain ⟨t_3, e_42, hf⟩ := fb_ls hf
  rw [← e_42] at hP
  refine lv_aload_n hx hb dX9_takeFrom_45 rfl (lv_at hl 0 rfl) ?_
  refine lv_aload_n hx hb dX9_takeFrom_46 rfl (lv_at hl 1 rfl) ?_
  refine va_get (D := D) (ci := 9) (v := .int (st_I t_3 13)) (C := RX9) (T := TX9) (N := 12) hx hb hts inX9 hown hK hP 13 (heX_13 ca a t_3) rfl 3 (by decide) (hts _ kw_279) (fun _ h9 => h9) rfl dX9_takeFrom_47 ?_
  refine va_put (D := D) (ci := 9) (v := .int (st_I t_3 13)) (ty := .int) (C := RX9) (T := TX9) (N := 12) hx hb hts inX9 tyX9 tyX9_ok nmX9 hown hK hP (hD t_3) hS 8 (heX_8 ca a t_3) rfl 3 (by decide) (hts _ kw_279) (fun _ h9 => h9) rfl (by decide +kernel) rfl rfl (Nat.le_of_ble_eq_true rfl) dX9_takeFrom_50 (fun H locs hP _ hS => ?_)
  rw [suX_8_3] at hP
  obtain ⟨t_4, e_50, hf⟩ := fb_ls hf
  rw [← e_50] at hP
  refine lv_aload_n hx hb dX9_takeFrom_53 rfl (lv_at hl 0 rfl) ?_
  refine lv_aload_n hx hb dX9_takeFrom_54 rfl (lv_at hl 1 rfl) ?_
  refine va_get (D := D) (ci := 9) (v := .long (st_J t_4 13)) (C := RX9) (T := TX9) (N := 12) hx hb hts inX9 hown hK hP 13 (heX_13 ca a t_4) rfl 4 (by decide) (hts _ kw_280) (fun _ h9 => h9) rfl dX9_takeFrom_55 ?_
  refine va_put (D := D) (ci := 9) (v := .long (st_J t_4 13)) (ty := .long) (C := RX9) (T := TX9) (N := 12) hx hb hts inX9 tyX9 tyX9_ok nmX9 hown hK hP (hD t_4) hS 8 (heX_8 ca a t_4) rfl 4 (by decide) (hts _ kw_280) (fun _ h9 => h9) rfl (by decide +kernel) rfl rfl (Nat.le_of_ble_eq_true rfl) dX9_takeFrom_58 (fun H locs hP _ hS => ?_)
  rw [suX_8_4] at hP
  obtain ⟨t_5, e_58, hf⟩ := fb_ls hf
  rw [← e_58] at hP
  refine lv_aload_n hx hb dX9_takeFrom_61 rfl (lv_at hl 1 rfl) ?_
  refine va_get (D := D) (ci := 9) (v := .ref (a 75)) (C := RX9) (T := TX9) (N := 12) hx hb hts inX9 hown hK hP 13 (heX_13 ca a t_5) rfl 5 (by decide) (hts _ kw_281) (fun _ h9 => h9) rfl dX9_takeFrom_62 ?_
  refine lv_iconst (v := 0) hx hb dX9_takeFrom_65 (by decide) ?_
  refine lv_aload_n hx hb dX9_takeFrom_66 rfl (lv_at hl 0 rfl) ?_
  refine va_get (D := D) (ci := 9) (v := .ref (a 52)) (C := RX9) (T := TX9) (N := 12) hx hb hts inX9 hown hK hP 8 (heX_8 ca a t_5) rfl 5 (by decide) (hts _ kw_281) (fun _ h9 => h9) rfl dX9_takeFrom_67 ?_
  refine lv_iconst (v := 0) hx hb dX9_takeFrom_70 (by decide) ?_
  refine lv_bipush (v := 60) hx hb dX9_takeFrom_71 (by decide) ?_
  obtain ⟨⟨h1_73, h2_73, h3_73, h4_73, h5_73⟩, hf⟩ := fb_if hf
  refine va_copyi hx hb (hml.trans hl.1.symm) hown (hts _ kw_1180) (hts _ kw_424) (hts _ kw_423) (hts _ kw_103) hK hP (hD t_5) hS 75 52 0 0 (haX_75 ca a t_5) (haX_52 ca a t_5) rfl rfl rfl h1_73 h2_73 h3_73 h4_73 h5_73 (fun _ _ => rfl) (Nat.le_of_ble_eq_true rfl) (Nat.le_of_ble_eq_true rfl) dX9_takeFrom_73 (fun H locs hP _ hS => ?_)
  rw [saX_52] at hP
  obtain ⟨t_6, e_73, hf⟩ := fb_ls hf
  rw [← e_73] at hP
  refine lv_aload_n hx hb dX9_takeFrom_76 rfl (lv_at hl 1 rfl) ?_
  refine va_get (D := D) (ci := 9) (v := .ref (a 76)) (C := RX9) (T := TX9) (N := 12) hx hb hts inX9 hown hK hP 13 (heX_13 ca a t_6) rfl 6 (by decide) (hts _ kw_282) (fun _ h9 => h9) rfl dX9_takeFrom_77 ?_
  refine lv_iconst (v := 0) hx hb dX9_takeFrom_80 (by decide) ?_
  refine lv_aload_n hx hb dX9_takeFrom_81 rfl (lv_at hl 0 rfl) ?_
  refine va_get (D := D) (ci := 9) (v := .ref (a 53)) (C := RX9) (T := TX9) (N := 12) hx hb hts inX9 hown hK hP 8 (heX_8 ca a t_6) rfl 6 (by decide) (hts _ kw_282) (fun _ h9 => h9) rfl dX9_takeFrom_82 ?_
  refine lv_iconst (v := 0) hx hb dX9_takeFrom_85 (by decide) ?_
  refine lv_bipush (v := 60) hx hb dX9_takeFrom_86 (by decide) ?_
  obtain ⟨⟨h1_88, h2_88, h3_88, h4_88, h5_88⟩, hf⟩ := fb_if hf
  refine va_copyi hx hb (hml.trans hl.1.symm) hown (hts _ kw_1180) (hts _ kw_424) (hts _ kw_423) (hts _ kw_103) hK hP (hD t_6) hS 76 53 0 0 (haX_76 ca a t_6) (haX_53 ca a t_6) rfl rfl rfl h1_88 h2_88 h3_88 h4_88 h5_88 (fun _ _ => rfl) (Nat.le_of_ble_eq_true rfl) (Nat.le_of_ble_eq_true rfl) dX9_takeFrom_88 (fun H locs hP _ hS => ?_)
  rw [saX_53] at hP
  obtain ⟨t_7, e_88, hf⟩ := fb_ls hf
  rw [← e_88] at hP
  refine lv_aload_n hx hb dX9_takeFrom_91 rfl (lv_at hl 1 rfl) ?_
  refine va_get (D := D) (ci := 9) (v := .ref (a 77)) (C := RX9) (T := TX9) (N := 12) hx hb hts inX9 hown hK hP 13 (heX_13 ca a t_7) rfl 7 (by decide) (hts _ kw_283) (fun _ h9 => h9) rfl dX9_takeFrom_92 ?_
  refine lv_iconst (v := 0) hx hb dX9_takeFrom_95 (by decide) ?_
  refine lv_aload_n hx hb dX9_takeFrom_96 rfl (lv_at hl 0 rfl) ?_
  refine va_get (D := D) (ci := 9) (v := .ref (a 54)) (C := RX9) (T := TX9) (N := 12) hx hb hts inX9 hown hK hP 8 (heX_8 ca a t_7) rfl 7 (by decide) (hts _ kw_283) (fun _ h9 => h9) rfl dX9_takeFrom_97 ?_
  refine lv_iconst (v := 0) hx hb dX9_takeFrom_100 (by decide) ?_
  refine lv_bipush (v := 60) hx hb dX9_takeFrom_101 (by decide) ?_
  obtain ⟨⟨h1_103, h2_103, h3_103, h4_103, h5_103⟩, hf⟩ := fb_if hf
  refine va_copyi hx hb (hml.trans hl.1.symm) hown (hts _ kw_1180) (hts _ kw_424) (hts _ kw_423) (hts _ kw_103) hK hP (hD t_7) hS 77 54 0 0 (haX_77 ca a t_7) (haX_54 ca a t_7) rfl rfl rfl h1_103 h2_103 h3_103 h4_103 h5_103 (fun _ _ => rfl) (Nat.le_of_ble_eq_true rfl) (Nat.le_of_ble_eq_true rfl) dX9_takeFrom_103 (fun H locs hP _ hS => ?_)
  rw [saX_54] at hP
  obtain ⟨t_8, e_103, hf⟩ := fb_ls hf
  rw [← e_103] at hP
  refine lv_aload_n hx hb dX9_takeFrom_106 rfl (lv_at hl 1 rfl) ?_
  refine va_get (D := D) (ci := 9) (v := .ref (a 78)) (C := RX9) (T := TX9) (N := 12) hx hb hts inX9 hown hK hP 13 (heX_13 ca a t_8) rfl 8 (by decide) (hts _ kw_284) (fun _ h9 => h9) rfl dX9_takeFrom_107 ?_
  refine lv_iconst (v := 0) hx hb dX9_takeFrom_110 (by decide) ?_
  refine lv_aload_n hx hb dX9_takeFrom_111 rfl (lv_at hl 0 rfl) ?_
  refine va_get (D := D) (ci := 9) (v := .ref (a 55)) (C := RX9) (T := TX9) (N := 12) hx hb hts inX9 hown hK hP 8 (heX_8 ca a t_8) rfl 8 (by decide) (hts _ kw_284) (fun _ h9 => h9) rfl dX9_takeFrom_112 ?_
  refine lv_iconst (v := 0) hx hb dX9_takeFrom_115 (by decide) ?_
  refine lv_bipush (v := 60) hx hb dX9_takeFrom_116 (by decide) ?_
  obtain ⟨⟨h1_118, h2_118, h3_118, h4_118, h5_118⟩, hf⟩ := fb_if hf
  refine va_copyl hx hb (hml.trans hl.1.symm) hown (hts _ kw_1180) (hts _ kw_424) (hts _ kw_423) (hts _ kw_103) hK hP (hD t_8) hS 78 55 1 1 (haX_78 ca a t_8) (haX_55 ca a t_8) rfl rfl rfl h1_118 h2_118 h3_118 h4_118 h5_118 (fun _ _ => rfl) (Nat.le_of_ble_eq_true rfl) (Nat.le_of_ble_eq_true rfl) dX9_takeFrom_118 (fun H locs hP _ hS => ?_)
  rw [saX_55] at hP
  obtain ⟨t_9, e_118, hf⟩ := fb_ls hf
  rw [← e_118] at hP
  refine lv_aload_n hx hb dX9_takeFrom_121 rfl (lv_at hl 1 rfl) ?_
  refine va_get (D := D) (ci := 9) (v := .ref (a 79)) (C := RX9) (T := TX9) (N := 12) hx hb hts inX9 hown hK hP 13 (heX_13 ca a t_9) rfl 9 (by decide) (hts _ kw_285) (fun _ h9 => h9) rfl dX9_takeFrom_122 ?_
  refine lv_iconst (v := 0) hx hb dX9_takeFrom_125 (by decide) ?_
  refine lv_aload_n hx hb dX9_takeFrom_126 rfl (lv_at hl 0 rfl) ?_
  refine va_get (D := D) (ci := 9) (v := .ref (a 56)) (C := RX9) (T := TX9) (N := 12) hx hb hts inX9 hown hK hP 8 (heX_8 ca a t_9) rfl 9 (by decide) (hts _ kw_285) (fun _ h9 => h9) rfl dX9_takeFrom_127 ?_
  refine lv_iconst (v := 0) hx hb dX9_takeFrom_130 (by decide) ?_
  refine lv_bipush (v := 60) hx hb dX9_takeFrom_131 (by decide) ?_
  obtain ⟨⟨h1_133, h2_133, h3_133, h4_133, h5_133⟩, hf⟩ := fb_if hf
  refine va_copyl hx hb (hml.trans hl.1.symm) hown (hts _ kw_1180) (hts _ kw_424) (hts _ kw_423) (hts _ kw_103) hK hP (hD t_9) hS 79 56 1 1 (haX_79 ca a t_9) (haX_56 ca a t_9) rfl rfl rfl h1_133 h2_133 h3_133 h4_133 h5_133 (fun _ _ => rfl) (Nat.le_of_ble_eq_true rfl) (Nat.le_of_ble_eq_true rfl) dX9_takeFrom_133 (fun H locs hP _ hS => ?_)
  rw [saX_56] at hP
  obtain ⟨t_10, e_133, hf⟩ := fb_ls hf
  rw [← e_133] at hP
  refine lv_aload_n hx hb dX9_takeFrom_136 rfl (lv_at hl 0 rfl) ?_
  refine lv_aload_n hx hb dX9_takeFrom_137 rfl (lv_at hl 1 rfl) ?_
  refine va_get (D := D) (ci := 9) (v := .int (st_I t_10 14)) (C := RX9) (T := TX9) (N := 12) hx hb hts inX9 hown hK hP 13 (heX_13 ca a t_10) rfl 10 (by decide) (hts _ kw_286) (fun _ h9 => h9) rfl dX9_takeFrom_138 ?_
  refine va_put (D := D) (ci := 9) (v := .int (st_I t_10 14)) (ty := .int) (C := RX9) (T := TX9) (N := 12) hx hb hts inX9 tyX9 tyX9_ok nmX9 hown hK hP (hD t_10) hS 8 (heX_8 ca a t_10) rfl 10 (by decide) (hts _ kw_286) (fun _ h9 => h9) rfl (by decide +kernel) rfl rfl (Nat.le_of_ble_eq_true rfl) dX9_takeFrom_141 (fun H locs hP _ hS => ?_)
  rw [suX_8_10] at hP
  obtain ⟨t_11, e_141, hf⟩ := fb_ls hf
  rw [← e_141] at hP
  refine lv_aload_n hx hb dX9_takeFrom_144 rfl (lv_at hl 0 rfl) ?_
  refine lv_aload_n hx hb dX9_takeFrom_145 rfl (lv_at hl 1 rfl) ?_
  refine va_get (D := D) (ci := 9) (v := .int (st_I t_11 15)) (C := RX9) (T := TX9) (N := 12) hx hb hts inX9 hown hK hP 13 (heX_13 ca a t_11) rfl 11 (by decide) (hts _ kw_287) (fun _ h9 => h9) rfl dX9_takeFrom_146 ?_
  refine va_put (D := D) (ci := 9) (v := .int (st_I t_11 15)) (ty := .int) (C := RX9) (T := TX9) (N := 12) hx hb hts inX9 tyX9 tyX9_ok nmX9 hown hK hP (hD t_11) hS 8 (heX_8 ca a t_11) rfl 11 (by decide) (hts _ kw_287) (fun _ h9 => h9) rfl (by decide +kernel) rfl rfl (Nat.le_of_ble_eq_true rfl) dX9_takeFrom_149 (fun H locs hP _ hS => ?_)
  rw [suX_8_11] at hP
  obtain ⟨t_12, e_149, hf⟩ := fb_ls hf
  rw [← e_149] at hP
  have e_152 := fb_ev hf
  subst e_152
  exact hr trivial _ _ _ _ hP hS dX9_takeFrom_152
set_option maxRecDepth 20000 in
theorem c_X_X9_takeFrom__8_13 {l : Launch} {D : va_G} {ca : Nat → ClassId} {a : Nat → Nat} {t : fw_S}  {u : fw_S} (hf : f_X_X9_takeFrom__8_13 t  = some u) : MC (WX ca a) D (tyv ca) l yX9_takeFrom (.code yX9_takeFrom prog_11_method_2_code 2 none :: lw_gd) rm_X_X9_takeFrom__8_13 [.ref (a 8), .ref (a 13)] none t u := by
  refine fw_met (okX ca a) (by decide +kernel) rfl rfl (Nat.le_of_ble_eq_true rfl) ?_
  intro p e s m args below meth c A Q ls C hr hk hP hS hl hQ
  exact w_X_X9_takeFrom__8_13_0 C (fun _ => fw_rv C hr hk hQ) hf hP hS (lv_sub hl [0, 1] rfl)
/-! ReactiveSheet.undo()I ['x'] -/
abbrev rm_X_X10_undo__0 : Room := { frames := 3, cells := 0, slots := 0, locals := 123 }
def b_X_X10_undo__0_14  (t : fw_S)  : Option (Int32 × fw_S) := some ((-3 : Int32), t)
def b_X_X10_undo__0_17  (t : fw_S)  : Option (Int32 × fw_S) := fb_v (f_X_X1_now__3 t) fun t_1 => (fb_v (f_X_X0_takeFrom__4_12 t_1) fun t_2 => (fb_v (f_X_X9_takeFrom__8_13 t_2) fun t_3 => (fb_b (f_X_X0_present__12 t_3) fun v_5 t_4 => (some (v_5, t_4)))))
def b_X_X10_undo__0_7  (t : fw_S)  : Option (Int32 × fw_S) := if (st_I t 0) = 0 then b_X_X10_undo__0_17 t else b_X_X10_undo__0_14 t
def b_X_X10_undo__0_0  (t : fw_S)  : Option (Int32 × fw_S) := if (st_I t 1) = 0 then b_X_X10_undo__0_14 t else b_X_X10_undo__0_7 t
def f_X_X10_undo__0 (t : fw_S)  : Option (Int32 × fw_S) := b_X_X10_undo__0_0 t 
set_option maxRecDepth 20000 in
theorem w_X_X10_undo__0_14 {p : Program} {l : Launch} {e : Env} {s : State} {m : MethodId} {args : Array Value} {below : List Frame} {meth : Method} {c : Code} {A : Nat → Prop} {Q : State → Prop} {D : va_G} {ca : Nat → ClassId} {a : Nat → Nat} {u : fw_S} {r : Int32}  (C : CX (WX ca a) D (tyv ca) p s m args c A prog_1_method_37_code 1 RX10) (hr : True → RX (WX ca a) D p l e rm_X_X10_undo__0 s m args below meth c A prog_1_method_37_code Q .ireturn [.int r] u) {t : fw_S}  {H : Heap} {locs : List Loc} {ls : Array Slot} (hf : b_X_X10_undo__0_14  t  = some (r, u)) (hP : va_P D classes (WX ca a t) H) (hS : va_S A s.heap H locs) (hl : lv_has ls 1 []) : W p l e rm_X_X10_undo__0 s m args below meth c H locs 0 0 Q (F0 m 14 ls []) := by
  obtain ⟨hx, hb, hml, hown, hts, hN, hK, hD, hA⟩ := id C
  have hf : (some ((-3 : Int32), t)) = some (r, u) := hf
  refine lv_bipush (v := (-3)) hx hb dX10_undo_14 (by decide) ?_
  obtain ⟨e_16, e2_16⟩ := fb_e hf
  subst e_16; subst e2_16
  exact hr trivial _ _ _ _ hP hS dX10_undo_16
set_option maxRecDepth 20000 in
theorem w_X_X10_undo__0_17 {p : Program} {l : Launch} {e : Env} {s : State} {m : MethodId} {args : Array Value} {below : List Frame} {meth : Method} {c : Code} {A : Nat → Prop} {Q : State → Prop} {D : va_G} {ca : Nat → ClassId} {a : Nat → Nat} {u : fw_S} {r : Int32}  (C : CX (WX ca a) D (tyv ca) p s m args c A prog_1_method_37_code 1 RX10) (hr : True → RX (WX ca a) D p l e rm_X_X10_undo__0 s m args below meth c A prog_1_method_37_code Q .ireturn [.int r] u) {t : fw_S}  {H : Heap} {locs : List Loc} {ls : Array Slot} (hf : b_X_X10_undo__0_17  t  = some (r, u)) (hP : va_P D classes (WX ca a t) H) (hS : va_S A s.heap H locs) (hl : lv_has ls 1 [(0, .ref (a 0))]) : W p l e rm_X_X10_undo__0 s m args below meth c H locs 0 0 Q (F0 m 17 ls []) := by
  obtain ⟨hx, hb, hml, hown, hts, hN, hK, hD, hA⟩ := id C
  have hf : (fb_v (f_X_X1_now__3 t) fun t_1 => (fb_v (f_X_X0_takeFrom__4_12 t_1) fun t_2 => (fb_v (f_X_X9_takeFrom__8_13 t_2) fun t_3 => (fb_b (f_X_X0_present__12 t_3) fun v_5 t_4 => (some (v_5, t_4)))))) = some (r, u) := hf
  refine lv_aload_n hx hb dX10_undo_17 rfl (lv_at hl 0 rfl) ?_
  refine va_get (D := D) (ci := 10) (v := .ref (a 3)) (C := RX10) (T := TX10) (N := 13) hx hb hts inX10 hown hK hP 0 (heX_0 ca a t) rfl 2 (by decide) (hts _ kw_356) (fun _ h9 => h9) rfl dX10_undo_18 ?_
  obtain ⟨t_1, g_21, hf⟩ := fb_vs hf
  refine fw_V1 (As := []) (rest := []) (n := 0) (q0 := 3) C (c_X_X1_now__3 (l := l) (D := D) (ca := ca) (a := a) g_21) kw_626 kw_627 kw_95 kw_629 kw_628 hP hS hl (heX_3 ca a t) rfl rfl rfl (by decide) (by decide +kernel) ⟨Nat.le_of_ble_eq_true rfl, Nat.le_of_ble_eq_true rfl⟩ rfl rfl (Nat.le_of_ble_eq_true rfl) dX10_undo_21 (fun H locs hP hS => ?_)
  refine W.eq (g2 := F0 m 24 ls [.ref (a 4)]) rfl ?_
  refine lv_aload_n hx hb dX10_undo_24 rfl (lv_at hl 0 rfl) ?_
  refine va_get (D := D) (ci := 10) (v := .ref (a 12)) (C := RX10) (T := TX10) (N := 13) hx hb hts inX10 hown hK hP 0 (heX_0 ca a t_1) rfl 9 (by decide) (hts _ kw_363) (fun _ h9 => h9) rfl dX10_undo_25 ?_
  obtain ⟨t_2, g_28, hf⟩ := fb_vs hf
  refine fw_V1 (As := [.ref (a 12)]) (rest := []) (n := 1) (q0 := 4) C (c_X_X0_takeFrom__4_12 (l := l) (D := D) (ca := ca) (a := a) g_28) kw_1175 kw_419 kw_96 kw_421 kw_420 hP hS hl (heX_4 ca a t_1) rfl rfl rfl (by decide) (by decide +kernel) ⟨Nat.le_of_ble_eq_true rfl, Nat.le_of_ble_eq_true rfl⟩ rfl rfl (Nat.le_of_ble_eq_true rfl) dX10_undo_28 (fun H locs hP hS => ?_)
  refine W.eq (g2 := F0 m 31 ls []) rfl ?_
  refine lv_aload_n hx hb dX10_undo_31 rfl (lv_at hl 0 rfl) ?_
  refine va_get (D := D) (ci := 10) (v := .ref (a 8)) (C := RX10) (T := TX10) (N := 13) hx hb hts inX10 hown hK hP 0 (heX_0 ca a t_2) rfl 5 (by decide) (hts _ kw_359) (fun _ h9 => h9) rfl dX10_undo_32 ?_
  refine lv_aload_n hx hb dX10_undo_35 rfl (lv_at hl 0 rfl) ?_
  refine va_get (D := D) (ci := 10) (v := .ref (a 13)) (C := RX10) (T := TX10) (N := 13) hx hb hts inX10 hown hK hP 0 (heX_0 ca a t_2) rfl 10 (by decide) (hts _ kw_364) (fun _ h9 => h9) rfl dX10_undo_36 ?_
  obtain ⟨t_3, g_39, hf⟩ := fb_vs hf
  refine fw_V1 (As := [.ref (a 13)]) (rest := []) (n := 1) (q0 := 8) C (c_X_X9_takeFrom__8_13 (l := l) (D := D) (ca := ca) (a := a) g_39) kw_1176 kw_1177 kw_98 kw_1179 kw_1178 hP hS hl (heX_8 ca a t_2) rfl rfl rfl (by decide) (by decide +kernel) ⟨Nat.le_of_ble_eq_true rfl, Nat.le_of_ble_eq_true rfl⟩ rfl rfl (Nat.le_of_ble_eq_true rfl) dX10_undo_39 (fun H locs hP hS => ?_)
  refine W.eq (g2 := F0 m 42 ls []) rfl ?_
  refine lv_aload_n hx hb dX10_undo_42 rfl (lv_at hl 0 rfl) ?_
  refine va_get (D := D) (ci := 10) (v := .ref (a 12)) (C := RX10) (T := TX10) (N := 13) hx hb hts inX10 hown hK hP 0 (heX_0 ca a t_3) rfl 9 (by decide) (hts _ kw_363) (fun _ h9 => h9) rfl dX10_undo_43 ?_
  obtain ⟨v_5, t_4, g_46, hf⟩ := fb_bs hf
  refine fw_V1 (As := []) (rest := []) (n := 0) (q0 := 12) C (c_X_X0_present__12 (l := l) (D := D) (ca := ca) (a := a) g_46) kw_1181 kw_905 kw_96 kw_907 kw_906 hP hS hl (heX_12 ca a t_3) rfl rfl rfl (by decide) (by decide +kernel) ⟨Nat.le_of_ble_eq_true rfl, Nat.le_of_ble_eq_true rfl⟩ rfl rfl (Nat.le_of_ble_eq_true rfl) dX10_undo_46 (fun H locs hP hS => ?_)
  refine W.eq (g2 := F0 m 49 ls [.int v_5]) rfl ?_
  obtain ⟨e_49, e2_49⟩ := fb_e hf
  subst e_49; subst e2_49
  exact hr trivial _ _ _ _ hP hS dX10_undo_49
set_option maxRecDepth 20000 in
theorem w_X_X10_undo__0_7 {p : Program} {l : Launch} {e : Env} {s : State} {m : MethodId} {args : Array Value} {below : List Frame} {meth : Method} {c : Code} {A : Nat → Prop} {Q : State → Prop} {D : va_G} {ca : Nat → ClassId} {a : Nat → Nat} {u : fw_S} {r : Int32}  (C : CX (WX ca a) D (tyv ca) p s m args c A prog_1_method_37_code 1 RX10) (hr : True → RX (WX ca a) D p l e rm_X_X10_undo__0 s m args below meth c A prog_1_method_37_code Q .ireturn [.int r] u) {t : fw_S}  {H : Heap} {locs : List Loc} {ls : Array Slot} (hf : b_X_X10_undo__0_7  t  = some (r, u)) (hP : va_P D classes (WX ca a t) H) (hS : va_S A s.heap H locs) (hl : lv_has ls 1 [(0, .ref (a 0))]) : W p l e rm_X_X10_undo__0 s m args below meth c H locs 0 0 Q (F0 m 7 ls []) := by
  obtain ⟨hx, hb, hml, hown, hts, hN, hK, hD, hA⟩ := id C
  have hf : (if (st_I t 0) = 0 then b_X_X10_undo__0_17 t else b_X_X10_undo__0_14 t) = some (r, u) := hf
  refine lv_aload_n hx hb dX10_undo_7 rfl (lv_at hl 0 rfl) ?_
  refine va_get (D := D) (ci := 10) (v := .int (st_I t 0)) (C := RX10) (T := TX10) (N := 13) hx hb hts inX10 hown hK hP 0 (heX_0 ca a t) rfl 11 (by decide) (hts _ kw_365) (fun _ h9 => h9) rfl dX10_undo_8 ?_
  refine lv_if_eq (tgt := 17) hx hb dX10_undo_11 (by decide) (fun h_11 => ?_) (fun h_11 => ?_)
  · have hf := fb_t h_11 hf
    exact w_X_X10_undo__0_17 C hr hf hP hS (lv_sub hl [0] rfl)
  · have hf := fb_f h_11 hf
    exact w_X_X10_undo__0_14 C hr hf hP hS (lv_sub hl [] rfl)
set_option maxRecDepth 20000 in
theorem w_X_X10_undo__0_0 {p : Program} {l : Launch} {e : Env} {s : State} {m : MethodId} {args : Array Value} {below : List Frame} {meth : Method} {c : Code} {A : Nat → Prop} {Q : State → Prop} {D : va_G} {ca : Nat → ClassId} {a : Nat → Nat} {u : fw_S} {r : Int32}  (C : CX (WX ca a) D (tyv ca) p s m args c A prog_1_method_37_code 1 RX10) (hr : True → RX (WX ca a) D p l e rm_X_X10_undo__0 s m args below meth c A prog_1_method_37_code Q .ireturn [.int r] u) {t : fw_S}  {H : Heap} {locs : List Loc} {ls : Array Slot} (hf : b_X_X10_undo__0_0  t  = some (r, u)) (hP : va_P D classes (WX ca a t) H) (hS : va_S A s.heap H locs) (hl : lv_has ls 1 [(0, .ref (a 0))]) : W p l e rm_X_X10_undo__0 s m args below meth c H locs 0 0 Q (F0 m 0 ls []) := by
  obtain ⟨hx, hb, hml, hown, hts, hN, hK, hD, hA⟩ := id C
  have hf : (if (st_I t 1) = 0 then b_X_X10_undo__0_14 t else b_X_X10_undo__0_7 t) = some (r, u) := hf
  refine lv_aload_n hx hb dX10_undo_0 rfl (lv_at hl 0 rfl) ?_
  refine va_get (D := D) (ci := 10) (v := .int (st_I t 1)) (C := RX10) (T := TX10) (N := 13) hx hb hts inX10 hown hK hP 0 (heX_0 ca a t) rfl 12 (by decide) (hts _ kw_366) (fun _ h9 => h9) rfl dX10_undo_1 ?_
  refine lv_if_eq (tgt := 14) hx hb dX10_undo_4 (by decide) (fun h_4 => ?_) (fun h_4 => ?_)
  · have hf := fb_t h_4 hf
    exact w_X_X10_undo__0_14 C hr hf hP hS (lv_sub hl [] rfl)
  · have hf := fb_f h_4 hf
    exact w_X_X10_undo__0_7 C hr hf hP hS (lv_sub hl [0] rfl)
set_option maxRecDepth 20000 in
theorem c_X_X10_undo__0 {l : Launch} {D : va_G} {ca : Nat → ClassId} {a : Nat → Nat} {t : fw_S}  {u : fw_S} {r : Int32} (hf : f_X_X10_undo__0 t  = some (r, u)) : MC (WX ca a) D (tyv ca) l yX10_undo (.code yX10_undo prog_1_method_37_code 1 (some .int) :: lw_gd) rm_X_X10_undo__0 [.ref (a 0)] (some (.int r)) t u := by
  refine fw_met (okX ca a) (by decide +kernel) rfl rfl (Nat.le_of_ble_eq_true rfl) ?_
  intro p e s m args below meth c A Q ls C hr hk hP hS hl hQ
  exact w_X_X10_undo__0_0 C (fun _ => fw_ri C hr hk hQ) hf hP hS (lv_sub hl [0] rfl)
