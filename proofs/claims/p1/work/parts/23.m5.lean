theorem dX11_moves_0 : decode prog_13_method_88_code 0 = .ok (.iconst 0, 1) := by decide +kernel
theorem dX11_moves_1 : decode prog_13_method_88_code 1 = .ok (.istore_n 3, 1) := by decide +kernel
theorem dX11_moves_2 : decode prog_13_method_88_code 2 = .ok (.iload_n 3, 1) := by decide +kernel
theorem dX11_moves_3 : decode prog_13_method_88_code 3 = .ok (.aload_n 1, 1) := by decide +kernel
theorem dX11_moves_4 : decode prog_13_method_88_code 4 = .ok (.arraylength, 1) := by decide +kernel
theorem dX11_moves_5 : decode prog_13_method_88_code 5 = .ok (.if_icmp .ge 50, 3) := by decide +kernel
theorem dX11_moves_8 : decode prog_13_method_88_code 8 = .ok (.iload_n 2, 1) := by decide +kernel
theorem dX11_moves_9 : decode prog_13_method_88_code 9 = .ok (.ifCond .eq 18, 3) := by decide +kernel
theorem dX11_moves_12 : decode prog_13_method_88_code 12 = .ok (.aload_n 0, 1) := by decide +kernel
theorem dX11_moves_13 : decode prog_13_method_88_code 13 = .ok (.getfield 155, 3) := by decide +kernel
theorem dX11_moves_16 : decode prog_13_method_88_code 16 = .ok (.aload_n 0, 1) := by decide +kernel
theorem dX11_moves_17 : decode prog_13_method_88_code 17 = .ok (.getfield 426, 3) := by decide +kernel
theorem dX11_moves_20 : decode prog_13_method_88_code 20 = .ok (.aload_n 1, 1) := by decide +kernel
theorem dX11_moves_21 : decode prog_13_method_88_code 21 = .ok (.iload_n 3, 1) := by decide +kernel
theorem dX11_moves_22 : decode prog_13_method_88_code 22 = .ok (.iaload, 1) := by decide +kernel
theorem dX11_moves_23 : decode prog_13_method_88_code 23 = .ok (.iastore, 1) := by decide +kernel
theorem dX11_moves_24 : decode prog_13_method_88_code 24 = .ok (.goto 15, 3) := by decide +kernel
theorem dX11_moves_27 : decode prog_13_method_88_code 27 = .ok (.aload_n 1, 1) := by decide +kernel
theorem dX11_moves_28 : decode prog_13_method_88_code 28 = .ok (.iload_n 3, 1) := by decide +kernel
theorem dX11_moves_29 : decode prog_13_method_88_code 29 = .ok (.aload_n 0, 1) := by decide +kernel
theorem dX11_moves_30 : decode prog_13_method_88_code 30 = .ok (.getfield 155, 3) := by decide +kernel
theorem dX11_moves_33 : decode prog_13_method_88_code 33 = .ok (.aload_n 0, 1) := by decide +kernel
theorem dX11_moves_34 : decode prog_13_method_88_code 34 = .ok (.getfield 426, 3) := by decide +kernel
theorem dX11_moves_37 : decode prog_13_method_88_code 37 = .ok (.iaload, 1) := by decide +kernel
theorem dX11_moves_38 : decode prog_13_method_88_code 38 = .ok (.iastore, 1) := by decide +kernel
theorem dX11_moves_39 : decode prog_13_method_88_code 39 = .ok (.aload_n 0, 1) := by decide +kernel
theorem dX11_moves_40 : decode prog_13_method_88_code 40 = .ok (.dup, 1) := by decide +kernel
theorem dX11_moves_41 : decode prog_13_method_88_code 41 = .ok (.getfield 426, 3) := by decide +kernel
theorem dX11_moves_44 : decode prog_13_method_88_code 44 = .ok (.iconst 1, 1) := by decide +kernel
theorem dX11_moves_45 : decode prog_13_method_88_code 45 = .ok (.iadd, 1) := by decide +kernel
theorem dX11_moves_46 : decode prog_13_method_88_code 46 = .ok (.putfield 426, 3) := by decide +kernel
theorem dX11_moves_49 : decode prog_13_method_88_code 49 = .ok (.iinc 3 1, 3) := by decide +kernel
theorem dX11_moves_52 : decode prog_13_method_88_code 52 = .ok (.goto (-50), 3) := by decide +kernel
theorem dX11_moves_55 : decode prog_13_method_88_code 55 = .ok (.return_, 1) := by decide +kernel
theorem dX11_moves__0 : decode prog_13_method_89_code 0 = .ok (.iconst 0, 1) := by decide +kernel
theorem dX11_moves__1 : decode prog_13_method_89_code 1 = .ok (.istore_n 3, 1) := by decide +kernel
theorem dX11_moves__2 : decode prog_13_method_89_code 2 = .ok (.iload_n 3, 1) := by decide +kernel
theorem dX11_moves__3 : decode prog_13_method_89_code 3 = .ok (.aload_n 1, 1) := by decide +kernel
theorem dX11_moves__4 : decode prog_13_method_89_code 4 = .ok (.arraylength, 1) := by decide +kernel
theorem dX11_moves__5 : decode prog_13_method_89_code 5 = .ok (.if_icmp .ge 67, 3) := by decide +kernel
theorem dX11_moves__8 : decode prog_13_method_89_code 8 = .ok (.iload_n 2, 1) := by decide +kernel
theorem dX11_moves__9 : decode prog_13_method_89_code 9 = .ok (.ifCond .eq 26, 3) := by decide +kernel
theorem dX11_moves__12 : decode prog_13_method_89_code 12 = .ok (.aload_n 0, 1) := by decide +kernel
theorem dX11_moves__13 : decode prog_13_method_89_code 13 = .ok (.getfield 155, 3) := by decide +kernel
theorem dX11_moves__16 : decode prog_13_method_89_code 16 = .ok (.aload_n 0, 1) := by decide +kernel
theorem dX11_moves__17 : decode prog_13_method_89_code 17 = .ok (.getfield 426, 3) := by decide +kernel
theorem dX11_moves__20 : decode prog_13_method_89_code 20 = .ok (.aload_n 1, 1) := by decide +kernel
theorem dX11_moves__21 : decode prog_13_method_89_code 21 = .ok (.iload_n 3, 1) := by decide +kernel
theorem dX11_moves__22 : decode prog_13_method_89_code 22 = .ok (.baload, 1) := by decide +kernel
theorem dX11_moves__23 : decode prog_13_method_89_code 23 = .ok (.ifCond .eq 7, 3) := by decide +kernel
theorem dX11_moves__26 : decode prog_13_method_89_code 26 = .ok (.iconst 1, 1) := by decide +kernel
theorem dX11_moves__27 : decode prog_13_method_89_code 27 = .ok (.goto 4, 3) := by decide +kernel
theorem dX11_moves__30 : decode prog_13_method_89_code 30 = .ok (.iconst 0, 1) := by decide +kernel
theorem dX11_moves__31 : decode prog_13_method_89_code 31 = .ok (.iastore, 1) := by decide +kernel
theorem dX11_moves__32 : decode prog_13_method_89_code 32 = .ok (.goto 24, 3) := by decide +kernel
theorem dX11_moves__35 : decode prog_13_method_89_code 35 = .ok (.aload_n 1, 1) := by decide +kernel
theorem dX11_moves__36 : decode prog_13_method_89_code 36 = .ok (.iload_n 3, 1) := by decide +kernel
theorem dX11_moves__37 : decode prog_13_method_89_code 37 = .ok (.aload_n 0, 1) := by decide +kernel
theorem dX11_moves__38 : decode prog_13_method_89_code 38 = .ok (.getfield 155, 3) := by decide +kernel
theorem dX11_moves__41 : decode prog_13_method_89_code 41 = .ok (.aload_n 0, 1) := by decide +kernel
theorem dX11_moves__42 : decode prog_13_method_89_code 42 = .ok (.getfield 426, 3) := by decide +kernel
theorem dX11_moves__45 : decode prog_13_method_89_code 45 = .ok (.iaload, 1) := by decide +kernel
theorem dX11_moves__46 : decode prog_13_method_89_code 46 = .ok (.iconst 1, 1) := by decide +kernel
theorem dX11_moves__47 : decode prog_13_method_89_code 47 = .ok (.if_icmp .ne 7, 3) := by decide +kernel
theorem dX11_moves__50 : decode prog_13_method_89_code 50 = .ok (.iconst 1, 1) := by decide +kernel
theorem dX11_moves__51 : decode prog_13_method_89_code 51 = .ok (.goto 4, 3) := by decide +kernel
theorem dX11_moves__54 : decode prog_13_method_89_code 54 = .ok (.iconst 0, 1) := by decide +kernel
theorem dX11_moves__55 : decode prog_13_method_89_code 55 = .ok (.bastore, 1) := by decide +kernel
theorem dX11_moves__56 : decode prog_13_method_89_code 56 = .ok (.aload_n 0, 1) := by decide +kernel
theorem dX11_moves__57 : decode prog_13_method_89_code 57 = .ok (.dup, 1) := by decide +kernel
theorem dX11_moves__58 : decode prog_13_method_89_code 58 = .ok (.getfield 426, 3) := by decide +kernel
theorem dX11_moves__61 : decode prog_13_method_89_code 61 = .ok (.iconst 1, 1) := by decide +kernel
theorem dX11_moves__62 : decode prog_13_method_89_code 62 = .ok (.iadd, 1) := by decide +kernel
theorem dX11_moves__63 : decode prog_13_method_89_code 63 = .ok (.putfield 426, 3) := by decide +kernel
theorem dX11_moves__66 : decode prog_13_method_89_code 66 = .ok (.iinc 3 1, 3) := by decide +kernel
theorem dX11_moves__69 : decode prog_13_method_89_code 69 = .ok (.goto (-67), 3) := by decide +kernel
theorem dX11_moves__72 : decode prog_13_method_89_code 72 = .ok (.return_, 1) := by decide +kernel
/-! ReactiveSheetModel.moves([IZ)V ['m', 'm.counts'] -/
abbrev rm_M_X11_moves__0_53 : Room := { frames := 0, cells := 0, slots := 0, locals := 0 }
def b_M_X11_moves__0_53_55  (t : fw_S)  : Option fw_S := some t
def b_M_X11_moves__0_53_39 (k2 : fw_S → Int32 → Int32 → Option fw_S) (t : fw_S) (x2 : Int32) (x3 : Int32) : Option fw_S := fb_l (up_I t 19 ((st_I t 19) + ((1 : Int32)))) fun t_1 => (k2 t_1 x2 (x3 + 1))
def b_M_X11_moves__0_53_27 (k2 : fw_S → Int32 → Int32 → Option fw_S) (t : fw_S) (x2 : Int32) (x3 : Int32) : Option fw_S := fb_g (¬ ((st_I t 19) < 0 ∨ 2000 ≤ (st_I t 19).toNatClampNeg)) (fb_g (¬ (x3 < 0 ∨ 2 ≤ x3.toNatClampNeg)) (fb_l (up_F t 43 (upd (st_F t 43) x3.toNatClampNeg (st_F t 39 (st_I t 19).toNatClampNeg))) fun t_1 => (b_M_X11_moves__0_53_39 k2 t_1 x2 x3)))
def b_M_X11_moves__0_53_12 (k2 : fw_S → Int32 → Int32 → Option fw_S) (t : fw_S) (x2 : Int32) (x3 : Int32) : Option fw_S := fb_g (¬ (x3 < 0 ∨ 2 ≤ x3.toNatClampNeg)) (fb_g (¬ ((st_I t 19) < 0 ∨ 2000 ≤ (st_I t 19).toNatClampNeg)) (fb_l (up_F t 39 (upd (st_F t 39) (st_I t 19).toNatClampNeg (st_F t 43 x3.toNatClampNeg))) fun t_1 => (b_M_X11_moves__0_53_39 k2 t_1 x2 x3)))
def b_M_X11_moves__0_53_8 (k2 : fw_S → Int32 → Int32 → Option fw_S) (t : fw_S) (x2 : Int32) (x3 : Int32) : Option fw_S := if x2 = 0 then b_M_X11_moves__0_53_27 k2 t x2 x3 else b_M_X11_moves__0_53_12 k2 t x2 x3
def b_M_X11_moves__0_53_2  : Nat → (fw_S → Int32 → Int32 → Option fw_S)
  | 0 => fun _ _ _ => none
  | n + 1 => fun t x2 x3 => if ((2 : Int32)) ≤ x3 then b_M_X11_moves__0_53_55 t else b_M_X11_moves__0_53_8 (b_M_X11_moves__0_53_2 n) t x2 x3
def b_M_X11_moves__0_53_0  (t : fw_S) (x2 : Int32) : Option fw_S := b_M_X11_moves__0_53_2 3000 t x2 ((0 : Int32))
def f_M_X11_moves__0_53 (t : fw_S) (x2 : Int32) : Option fw_S := b_M_X11_moves__0_53_0 t x2
set_option maxRecDepth 20000 in
theorem w_M_X11_moves__0_53_55 {p : Program} {l : Launch} {e : Env} {s : State} {m : MethodId} {args : Array Value} {below : List Frame} {meth : Method} {c : Code} {A : Nat → Prop} {Q : State → Prop} {D : va_G} {ca : Nat → ClassId} {a : Nat → Nat} {u : fw_S}  (C : CX (WM ca a) D (tyv ca) p s m args c A prog_13_method_88_code 4 RX11) (hr : True → RX (WM ca a) D p l e rm_M_X11_moves__0_53 s m args below meth c A prog_13_method_88_code Q .return_ [] u) {t : fw_S}  {H : Heap} {locs : List Loc} {ls : Array Slot} (hf : b_M_X11_moves__0_53_55  t  = some u) (hP : va_P D classes (WM ca a t) H) (hS : va_S A s.heap H locs) (hl : lv_has ls 4 []) : W p l e rm_M_X11_moves__0_53 s m args below meth c H locs 0 0 Q (F0 m 55 ls []) := by
  obtain ⟨hx, hb, hml, hown, hts, hN, hK, hD, hA⟩ := id C
  have hf : (some t) = some u := hf
  have e_55 := fb_ev hf
  subst e_55
  exact hr trivial _ _ _ _ hP hS dX11_moves_55
set_option maxRecDepth 20000 in
theorem w_M_X11_moves__0_53_39 {p : Program} {l : Launch} {e : Env} {s : State} {m : MethodId} {args : Array Value} {below : List Frame} {meth : Method} {c : Code} {A : Nat → Prop} {Q : State → Prop} {D : va_G} {ca : Nat → ClassId} {a : Nat → Nat} {u : fw_S} {k2 : fw_S → Int32 → Int32 → Option fw_S} (C : CX (WM ca a) D (tyv ca) p s m args c A prog_13_method_88_code 4 RX11) (hr : True → RX (WM ca a) D p l e rm_M_X11_moves__0_53 s m args below meth c A prog_13_method_88_code Q .return_ [] u) (hk2 : ∀ (t : fw_S) (x2 : Int32) (x3 : Int32) (H : Heap) (locs : List Loc) (ls : Array Slot), k2 t x2 x3 = some u → va_P D classes (WM ca a t) H → va_S A s.heap H locs → lv_has ls 4 [(0, .ref (a 0)), (1, .ref (a 53)), (2, .int x2), (3, .int x3)] → W p l e rm_M_X11_moves__0_53 s m args below meth c H locs 0 0 Q (F0 m 2 ls [])) {t : fw_S} {x2 : Int32} {x3 : Int32} {H : Heap} {locs : List Loc} {ls : Array Slot} (hf : b_M_X11_moves__0_53_39 k2 t x2 x3 = some u) (hP : va_P D classes (WM ca a t) H) (hS : va_S A s.heap H locs) (hl : lv_has ls 4 [(0, .ref (a 0)), (1, .ref (a 53)), (2, .int x2), (3, .int x3)]) : W p l e rm_M_X11_moves__0_53 s m args below meth c H locs 0 0 Q (F0 m 39 ls []) := by
  obtain ⟨hx, hb, hml, hown, hts, hN, hK, hD, hA⟩ := id C
  have hf : (fb_l (up_I t 19 ((st_I t 19) + ((1 : Int32)))) fun t_1 => (k2 t_1 x2 (x3 + 1))) = some u := hf
  refine lv_aload_n hx hb dX11_moves_39 rfl (lv_at hl 0 rfl) ?_
  refine lv_dup hx hb dX11_moves_40 rfl ?_
  refine va_get (D := D) (ci := 11) (v := .int (st_I t 19)) (C := RX11) (T := TX11) (N := 76) hx hb hts inX11 hown hK hP 0 (heM_0 ca a t) rfl 68 (by decide) (hts _ kw_1260) (fun _ h9 => h9) rfl dX11_moves_41 ?_
  refine lv_iconst (v := 1) hx hb dX11_moves_44 (by decide) ?_
  refine lv_iadd hx hb dX11_moves_45 ?_
  refine va_put (D := D) (ci := 11) (v := .int ((st_I t 19) + ((1 : Int32)))) (ty := .int) (C := RX11) (T := TX11) (N := 76) hx hb hts inX11 tyX11 tyX11_ok nmX11 hown hK hP (hD t) hS 0 (heM_0 ca a t) rfl 68 (by decide) (hts _ kw_1260) (fun _ h9 => h9) rfl (by decide +kernel) rfl rfl (Nat.le_of_ble_eq_true rfl) dX11_moves_46 (fun H locs hP _ hS => ?_)
  rw [suM_0_68] at hP
  obtain ⟨t_1, e_46, hf⟩ := fb_ls hf
  rw [← e_46] at hP
  refine lv_iinc (v := x3 + 1) (lv' := [(3, .int (x3 + 1)), (0, .ref (a 0)), (1, .ref (a 53)), (2, .int x2)]) hx hb dX11_moves_49 hl (k := 3) rfl rfl (by decide) rfl (fun ls hl => ?_)
  refine lv_goto (tgt := 2) hx hb dX11_moves_52 (by decide) ?_
  exact hk2 t_1 x2 (x3 + 1) _ _ _ hf hP hS (lv_sub hl [1, 2, 3, 0] rfl)
set_option maxRecDepth 20000 in
theorem w_M_X11_moves__0_53_27 {p : Program} {l : Launch} {e : Env} {s : State} {m : MethodId} {args : Array Value} {below : List Frame} {meth : Method} {c : Code} {A : Nat → Prop} {Q : State → Prop} {D : va_G} {ca : Nat → ClassId} {a : Nat → Nat} {u : fw_S} {k2 : fw_S → Int32 → Int32 → Option fw_S} (C : CX (WM ca a) D (tyv ca) p s m args c A prog_13_method_88_code 4 RX11) (hr : True → RX (WM ca a) D p l e rm_M_X11_moves__0_53 s m args below meth c A prog_13_method_88_code Q .return_ [] u) (hk2 : ∀ (t : fw_S) (x2 : Int32) (x3 : Int32) (H : Heap) (locs : List Loc) (ls : Array Slot), k2 t x2 x3 = some u → va_P D classes (WM ca a t) H → va_S A s.heap H locs → lv_has ls 4 [(0, .ref (a 0)), (1, .ref (a 53)), (2, .int x2), (3, .int x3)] → W p l e rm_M_X11_moves__0_53 s m args below meth c H locs 0 0 Q (F0 m 2 ls [])) {t : fw_S} {x2 : Int32} {x3 : Int32} {H : Heap} {locs : List Loc} {ls : Array Slot} (hf : b_M_X11_moves__0_53_27 k2 t x2 x3 = some u) (hP : va_P D classes (WM ca a t) H) (hS : va_S A s.heap H locs) (hl : lv_has ls 4 [(0, .ref (a 0)), (1, .ref (a 53)), (2, .int x2), (3, .int x3)]) : W p l e rm_M_X11_moves__0_53 s m args below meth c H locs 0 0 Q (F0 m 27 ls []) := by
  obtain ⟨hx, hb, hml, hown, hts, hN, hK, hD, hA⟩ := id C
  have hf : (fb_g (¬ ((st_I t 19) < 0 ∨ 2000 ≤ (st_I t 19).toNatClampNeg)) (fb_g (¬ (x3 < 0 ∨ 2 ≤ x3.toNatClampNeg)) (fb_l (up_F t 43 (upd (st_F t 43) x3.toNatClampNeg (st_F t 39 (st_I t 19).toNatClampNeg))) fun t_1 => (b_M_X11_moves__0_53_39 k2 t_1 x2 x3)))) = some u := hf
  refine lv_aload_n hx hb dX11_moves_27 rfl (lv_at hl 1 rfl) ?_
  refine lv_iload_n hx hb dX11_moves_28 rfl (lv_at hl 3 rfl) ?_
  refine lv_aload_n hx hb dX11_moves_29 rfl (lv_at hl 0 rfl) ?_
  refine va_get (D := D) (ci := 11) (v := .ref (a 48)) (C := RX11) (T := TX11) (N := 76) hx hb hts inX11 hown hK hP 0 (heM_0 ca a t) rfl 66 (by decide) (hts _ kw_1258) (fun _ h9 => h9) rfl dX11_moves_30 ?_
  refine lv_aload_n hx hb dX11_moves_33 rfl (lv_at hl 0 rfl) ?_
  refine va_get (D := D) (ci := 11) (v := .int (st_I t 19)) (C := RX11) (T := TX11) (N := 76) hx hb hts inX11 hown hK hP 0 (heM_0 ca a t) rfl 68 (by decide) (hts _ kw_1260) (fun _ h9 => h9) rfl dX11_moves_34 ?_
  obtain ⟨h_37, hf⟩ := fb_if hf
  refine va_iald hx hb hK hP 48 0 (haM_48 ca a t) rfl h_37 dX11_moves_37 ?_
  obtain ⟨h_38, hf⟩ := fb_if hf
  refine va_iast hx hb hK hP (hD t) hS 53 0 (haM_53 ca a t) rfl h_38 dX11_moves_38 (fun H locs hP _ hS => ?_)
  rw [saM_53] at hP
  obtain ⟨t_1, e_38, hf⟩ := fb_ls hf
  rw [← e_38] at hP
  exact w_M_X11_moves__0_53_39 C hr hk2 hf hP hS (lv_sub hl [0, 1, 2, 3] rfl)
set_option maxRecDepth 20000 in
theorem w_M_X11_moves__0_53_12 {p : Program} {l : Launch} {e : Env} {s : State} {m : MethodId} {args : Array Value} {below : List Frame} {meth : Method} {c : Code} {A : Nat → Prop} {Q : State → Prop} {D : va_G} {ca : Nat → ClassId} {a : Nat → Nat} {u : fw_S} {k2 : fw_S → Int32 → Int32 → Option fw_S} (C : CX (WM ca a) D (tyv ca) p s m args c A prog_13_method_88_code 4 RX11) (hr : True → RX (WM ca a) D p l e rm_M_X11_moves__0_53 s m args below meth c A prog_13_method_88_code Q .return_ [] u) (hk2 : ∀ (t : fw_S) (x2 : Int32) (x3 : Int32) (H : Heap) (locs : List Loc) (ls : Array Slot), k2 t x2 x3 = some u → va_P D classes (WM ca a t) H → va_S A s.heap H locs → lv_has ls 4 [(0, .ref (a 0)), (1, .ref (a 53)), (2, .int x2), (3, .int x3)] → W p l e rm_M_X11_moves__0_53 s m args below meth c H locs 0 0 Q (F0 m 2 ls [])) {t : fw_S} {x2 : Int32} {x3 : Int32} {H : Heap} {locs : List Loc} {ls : Array Slot} (hf : b_M_X11_moves__0_53_12 k2 t x2 x3 = some u) (hP : va_P D classes (WM ca a t) H) (hS : va_S A s.heap H locs) (hl : lv_has ls 4 [(0, .ref (a 0)), (1, .ref (a 53)), (2, .int x2), (3, .int x3)]) : W p l e rm_M_X11_moves__0_53 s m args below meth c H locs 0 0 Q (F0 m 12 ls []) := by
  obtain ⟨hx, hb, hml, hown, hts, hN, hK, hD, hA⟩ := id C
  have hf : (fb_g (¬ (x3 < 0 ∨ 2 ≤ x3.toNatClampNeg)) (fb_g (¬ ((st_I t 19) < 0 ∨ 2000 ≤ (st_I t 19).toNatClampNeg)) (fb_l (up_F t 39 (upd (st_F t 39) (st_I t 19).toNatClampNeg (st_F t 43 x3.toNatClampNeg))) fun t_1 => (b_M_X11_moves__0_53_39 k2 t_1 x2 x3)))) = some u := hf
  refine lv_aload_n hx hb dX11_moves_12 rfl (lv_at hl 0 rfl) ?_
  refine va_get (D := D) (ci := 11) (v := .ref (a 48)) (C := RX11) (T := TX11) (N := 76) hx hb hts inX11 hown hK hP 0 (heM_0 ca a t) rfl 66 (by decide) (hts _ kw_1258) (fun _ h9 => h9) rfl dX11_moves_13 ?_
  refine lv_aload_n hx hb dX11_moves_16 rfl (lv_at hl 0 rfl) ?_
  refine va_get (D := D) (ci := 11) (v := .int (st_I t 19)) (C := RX11) (T := TX11) (N := 76) hx hb hts inX11 hown hK hP 0 (heM_0 ca a t) rfl 68 (by decide) (hts _ kw_1260) (fun _ h9 => h9) rfl dX11_moves_17 ?_
  refine lv_aload_n hx hb dX11_moves_20 rfl (lv_at hl 1 rfl) ?_
  refine lv_iload_n hx hb dX11_moves_21 rfl (lv_at hl 3 rfl) ?_
  obtain ⟨h_22, hf⟩ := fb_if hf
  refine va_iald hx hb hK hP 53 0 (haM_53 ca a t) rfl h_22 dX11_moves_22 ?_
  obtain ⟨h_23, hf⟩ := fb_if hf
  refine va_iast hx hb hK hP (hD t) hS 48 0 (haM_48 ca a t) rfl h_23 dX11_moves_23 (fun H locs hP _ hS => ?_)
  rw [saM_48] at hP
  obtain ⟨t_1, e_23, hf⟩ := fb_ls hf
  rw [← e_23] at hP
  refine lv_goto (tgt := 39) hx hb dX11_moves_24 (by decide) ?_
  exact w_M_X11_moves__0_53_39 C hr hk2 hf hP hS (lv_sub hl [0, 1, 2, 3] rfl)
set_option maxRecDepth 20000 in
theorem w_M_X11_moves__0_53_8 {p : Program} {l : Launch} {e : Env} {s : State} {m : MethodId} {args : Array Value} {below : List Frame} {meth : Method} {c : Code} {A : Nat → Prop} {Q : State → Prop} {D : va_G} {ca : Nat → ClassId} {a : Nat → Nat} {u : fw_S} {k2 : fw_S → Int32 → Int32 → Option fw_S} (C : CX (WM ca a) D (tyv ca) p s m args c A prog_13_method_88_code 4 RX11) (hr : True → RX (WM ca a) D p l e rm_M_X11_moves__0_53 s m args below meth c A prog_13_method_88_code Q .return_ [] u) (hk2 : ∀ (t : fw_S) (x2 : Int32) (x3 : Int32) (H : Heap) (locs : List Loc) (ls : Array Slot), k2 t x2 x3 = some u → va_P D classes (WM ca a t) H → va_S A s.heap H locs → lv_has ls 4 [(0, .ref (a 0)), (1, .ref (a 53)), (2, .int x2), (3, .int x3)] → W p l e rm_M_X11_moves__0_53 s m args below meth c H locs 0 0 Q (F0 m 2 ls [])) {t : fw_S} {x2 : Int32} {x3 : Int32} {H : Heap} {locs : List Loc} {ls : Array Slot} (hf : b_M_X11_moves__0_53_8 k2 t x2 x3 = some u) (hP : va_P D classes (WM ca a t) H) (hS : va_S A s.heap H locs) (hl : lv_has ls 4 [(0, .ref (a 0)), (1, .ref (a 53)), (2, .int x2), (3, .int x3)]) : W p l e rm_M_X11_moves__0_53 s m args below meth c H locs 0 0 Q (F0 m 8 ls []) := by
  obtain ⟨hx, hb, hml, hown, hts, hN, hK, hD, hA⟩ := id C
  have hf : (if x2 = 0 then b_M_X11_moves__0_53_27 k2 t x2 x3 else b_M_X11_moves__0_53_12 k2 t x2 x3) = some u := hf
  refine lv_iload_n hx hb dX11_moves_8 rfl (lv_at hl 2 rfl) ?_
  refine lv_if_eq (tgt := 27) hx hb dX11_moves_9 (by decide) (fun h_9 => ?_) (fun h_9 => ?_)
  · have hf := fb_t h_9 hf
    exact w_M_X11_moves__0_53_27 C hr hk2 hf hP hS (lv_sub hl [0, 1, 2, 3] rfl)
  · have hf := fb_f h_9 hf
    exact w_M_X11_moves__0_53_12 C hr hk2 hf hP hS (lv_sub hl [0, 1, 2, 3] rfl)
set_option maxRecDepth 20000 in
theorem w_M_X11_moves__0_53_2 {p : Program} {l : Launch} {e : Env} {s : State} {m : MethodId} {args : Array Value} {below : List Frame} {meth : Method} {c : Code} {A : Nat → Prop} {Q : State → Prop} {D : va_G} {ca : Nat → ClassId} {a : Nat → Nat} {u : fw_S}  (C : CX (WM ca a) D (tyv ca) p s m args c A prog_13_method_88_code 4 RX11) (hr : True → RX (WM ca a) D p l e rm_M_X11_moves__0_53 s m args below meth c A prog_13_method_88_code Q .return_ [] u) : ∀ (n : Nat) (t : fw_S) (x2 : Int32) (x3 : Int32) (H : Heap) (locs : List Loc) (ls : Array Slot), b_M_X11_moves__0_53_2  n t x2 x3 = some u → va_P D classes (WM ca a t) H → va_S A s.heap H locs → lv_has ls 4 [(0, .ref (a 0)), (1, .ref (a 53)), (2, .int x2), (3, .int x3)] → W p l e rm_M_X11_moves__0_53 s m args below meth c H locs 0 0 Q (F0 m 2 ls []) := by
  obtain ⟨hx, hb, hml, hown, hts, hN, hK, hD, hA⟩ := id C
  intro n
  induction n with
  | zero => intro t x2 x3 H locs ls hf; cases hf
  | succ n hk2 =>
    intro t x2 x3 H locs ls hf hP hS hl
    have hf : (if ((2 : Int32)) ≤ x3 then b_M_X11_moves__0_53_55 t else b_M_X11_moves__0_53_8 (b_M_X11_moves__0_53_2 n) t x2 x3) = some u := hf
    refine lv_iload_n hx hb dX11_moves_2 rfl (lv_at hl 3 rfl) ?_
    refine lv_aload_n hx hb dX11_moves_3 rfl (lv_at hl 1 rfl) ?_
    refine va_alen (v := 2) hx hb hK hP 53 0 (haM_53 ca a t) rfl rfl dX11_moves_4 ?_
    refine lv_icmp_ge (tgt := 55) hx hb dX11_moves_5 (by decide) (fun h_5 => ?_) (fun h_5 => ?_)
    · have hf := fb_t h_5 hf
      exact w_M_X11_moves__0_53_55 C hr hf hP hS (lv_sub hl [] rfl)
    · have hf := fb_f h_5 hf
      exact w_M_X11_moves__0_53_8 C hr hk2 hf hP hS (lv_sub hl [0, 1, 2, 3] rfl)
set_option maxRecDepth 20000 in
theorem w_M_X11_moves__0_53_0 {p : Program} {l : Launch} {e : Env} {s : State} {m : MethodId} {args : Array Value} {below : List Frame} {meth : Method} {c : Code} {A : Nat → Prop} {Q : State → Prop} {D : va_G} {ca : Nat → ClassId} {a : Nat → Nat} {u : fw_S}  (C : CX (WM ca a) D (tyv ca) p s m args c A prog_13_method_88_code 4 RX11) (hr : True → RX (WM ca a) D p l e rm_M_X11_moves__0_53 s m args below meth c A prog_13_method_88_code Q .return_ [] u) {t : fw_S} {x2 : Int32} {H : Heap} {locs : List Loc} {ls : Array Slot} (hf : b_M_X11_moves__0_53_0  t x2 = some u) (hP : va_P D classes (WM ca a t) H) (hS : va_S A s.heap H locs) (hl : lv_has ls 4 [(0, .ref (a 0)), (1, .ref (a 53)), (2, .int x2)]) : W p l e rm_M_X11_moves__0_53 s m args below meth c H locs 0 0 Q (F0 m 0 ls []) := by
  obtain ⟨hx, hb, hml, hown, hts, hN, hK, hD, hA⟩ := id C
  have hf : (b_M_X11_moves__0_53_2 3000 t x2 ((0 : Int32))) = some u := hf
  refine lv_iconst (v := 0) hx hb dX11_moves_0 (by decide) ?_
  refine lv_istore_n (lv' := [(3, .int ((0 : Int32))), (0, .ref (a 0)), (1, .ref (a 53)), (2, .int x2)]) hx hb dX11_moves_1 rfl hl (by decide) rfl (fun ls hl => ?_)
  exact w_M_X11_moves__0_53_2 C hr 3000 t x2 ((0 : Int32)) _ _ _ hf hP hS (lv_sub hl [1, 2, 3, 0] rfl)
set_option maxRecDepth 20000 in
theorem c_M_X11_moves__0_53 {l : Launch} {D : va_G} {ca : Nat → ClassId} {a : Nat → Nat} {t : fw_S} {x2 : Int32} {u : fw_S} (hf : f_M_X11_moves__0_53 t x2 = some u) : MC (WM ca a) D (tyv ca) l yX11_moves (.code yX11_moves prog_13_method_88_code 4 none :: lw_gd) rm_M_X11_moves__0_53 [.ref (a 0), .ref (a 53), .int x2] none t u := by
  refine fw_met (okM ca a) (by decide +kernel) rfl rfl (Nat.le_of_ble_eq_true rfl) ?_
  intro p e s m args below meth c A Q ls C hr hk hP hS hl hQ
  exact w_M_X11_moves__0_53_0 C (fun _ => fw_rv C hr hk hQ) hf hP hS (lv_sub hl [0, 1, 2] rfl)
/-! ReactiveSheetModel.moves([IZ)V ['m', 'm.kind'] -/
abbrev rm_M_X11_moves__0_1 : Room := { frames := 0, cells := 0, slots := 0, locals := 0 }
def b_M_X11_moves__0_1_55  (t : fw_S)  : Option fw_S := some t
def b_M_X11_moves__0_1_39 (k2 : fw_S → Int32 → Int32 → Option fw_S) (t : fw_S) (x2 : Int32) (x3 : Int32) : Option fw_S := fb_l (up_I t 19 ((st_I t 19) + ((1 : Int32)))) fun t_1 => (k2 t_1 x2 (x3 + 1))
def b_M_X11_moves__0_1_27 (k2 : fw_S → Int32 → Int32 → Option fw_S) (t : fw_S) (x2 : Int32) (x3 : Int32) : Option fw_S := fb_g (¬ ((st_I t 19) < 0 ∨ 2000 ≤ (st_I t 19).toNatClampNeg)) (fb_g (¬ (x3 < 0 ∨ 32 ≤ x3.toNatClampNeg)) (fb_l (up_F t 0 (upd (st_F t 0) x3.toNatClampNeg (st_F t 39 (st_I t 19).toNatClampNeg))) fun t_1 => (b_M_X11_moves__0_1_39 k2 t_1 x2 x3)))
def b_M_X11_moves__0_1_12 (k2 : fw_S → Int32 → Int32 → Option fw_S) (t : fw_S) (x2 : Int32) (x3 : Int32) : Option fw_S := fb_g (¬ (x3 < 0 ∨ 32 ≤ x3.toNatClampNeg)) (fb_g (¬ ((st_I t 19) < 0 ∨ 2000 ≤ (st_I t 19).toNatClampNeg)) (fb_l (up_F t 39 (upd (st_F t 39) (st_I t 19).toNatClampNeg (st_F t 0 x3.toNatClampNeg))) fun t_1 => (b_M_X11_moves__0_1_39 k2 t_1 x2 x3)))
def b_M_X11_moves__0_1_8 (k2 : fw_S → Int32 → Int32 → Option fw_S) (t : fw_S) (x2 : Int32) (x3 : Int32) : Option fw_S := if x2 = 0 then b_M_X11_moves__0_1_27 k2 t x2 x3 else b_M_X11_moves__0_1_12 k2 t x2 x3
def b_M_X11_moves__0_1_2  : Nat → (fw_S → Int32 → Int32 → Option fw_S)
  | 0 => fun _ _ _ => none
  | n + 1 => fun t x2 x3 => if ((32 : Int32)) ≤ x3 then b_M_X11_moves__0_1_55 t else b_M_X11_moves__0_1_8 (b_M_X11_moves__0_1_2 n) t x2 x3
def b_M_X11_moves__0_1_0  (t : fw_S) (x2 : Int32) : Option fw_S := b_M_X11_moves__0_1_2 3000 t x2 ((0 : Int32))
def f_M_X11_moves__0_1 (t : fw_S) (x2 : Int32) : Option fw_S := b_M_X11_moves__0_1_0 t x2
set_option maxRecDepth 20000 in
theorem w_M_X11_moves__0_1_55 {p : Program} {l : Launch} {e : Env} {s : State} {m : MethodId} {args : Array Value} {below : List Frame} {meth : Method} {c : Code} {A : Nat → Prop} {Q : State → Prop} {D : va_G} {ca : Nat → ClassId} {a : Nat → Nat} {u : fw_S}  (C : CX (WM ca a) D (tyv ca) p s m args c A prog_13_method_88_code 4 RX11) (hr : True → RX (WM ca a) D p l e rm_M_X11_moves__0_1 s m args below meth c A prog_13_method_88_code Q .return_ [] u) {t : fw_S}  {H : Heap} {locs : List Loc} {ls : Array Slot} (hf : b_M_X11_moves__0_1_55  t  = some u) (hP : va_P D classes (WM ca a t) H) (hS : va_S A s.heap H locs) (hl : lv_has ls 4 []) : W p l e rm_M_X11_moves__0_1 s m args below meth c H locs 0 0 Q (F0 m 55 ls []) := by
  obtain ⟨hx, hb, hml, hown, hts, hN, hK, hD, hA⟩ := id C
  have hf : (some t) = some u := hf
  have e_55 := fb_ev hf
  subst e_55
  exact hr trivial _ _ _ _ hP hS dX11_moves_55
set_option maxRecDepth 20000 in
theorem w_M_X11_moves__0_1_39 {p : Program} {l : Launch} {e : Env} {s : State} {m : MethodId} {args : Array Value} {below : List Frame} {meth : Method} {c : Code} {A : Nat → Prop} {Q : State → Prop} {D : va_G} {ca : Nat → ClassId} {a : Nat → Nat} {u : fw_S} {k2 : fw_S → Int32 → Int32 → Option fw_S} (C : CX (WM ca a) D (tyv ca) p s m args c A prog_13_method_88_code 4 RX11) (hr : True → RX (WM ca a) D p l e rm_M_X11_moves__0_1 s m args below meth c A prog_13_method_88_code Q .return_ [] u) (hk2 : ∀ (t : fw_S) (x2 : Int32) (x3 : Int32) (H : Heap) (locs : List Loc) (ls : Array Slot), k2 t x2 x3 = some u → va_P D classes (WM ca a t) H → va_S A s.heap H locs → lv_has ls 4 [(0, .ref (a 0)), (1, .ref (a 1)), (2, .int x2), (3, .int x3)] → W p l e rm_M_X11_moves__0_1 s m args below meth c H locs 0 0 Q (F0 m 2 ls [])) {t : fw_S} {x2 : Int32} {x3 : Int32} {H : Heap} {locs : List Loc} {ls : Array Slot} (hf : b_M_X11_moves__0_1_39 k2 t x2 x3 = some u) (hP : va_P D classes (WM ca a t) H) (hS : va_S A s.heap H locs) (hl : lv_has ls 4 [(0, .ref (a 0)), (1, .ref (a 1)), (2, .int x2), (3, .int x3)]) : W p l e rm_M_X11_moves__0_1 s m args below meth c H locs 0 0 Q (F0 m 39 ls []) := by
  obtain ⟨hx, hb, hml, hown, hts, hN, hK, hD, hA⟩ := id C
  have hf : (fb_l (up_I t 19 ((st_I t 19) + ((1 : Int32)))) fun t_1 => (k2 t_1 x2 (x3 + 1))) = some u := hf
  refine lv_aload_n hx hb dX11_moves_39 rfl (lv_at hl 0 rfl) ?_
  refine lv_dup hx hb dX11_moves_40 rfl ?_
  refine va_get (D := D) (ci := 11) (v := .int (st_I t 19)) (C := RX11) (T := TX11) (N := 76) hx hb hts inX11 hown hK hP 0 (heM_0 ca a t) rfl 68 (by decide) (hts _ kw_1260) (fun _ h9 => h9) rfl dX11_moves_41 ?_
  refine lv_iconst (v := 1) hx hb dX11_moves_44 (by decide) ?_
  refine lv_iadd hx hb dX11_moves_45 ?_
  refine va_put (D := D) (ci := 11) (v := .int ((st_I t 19) + ((1 : Int32)))) (ty := .int) (C := RX11) (T := TX11) (N := 76) hx hb hts inX11 tyX11 tyX11_ok nmX11 hown hK hP (hD t) hS 0 (heM_0 ca a t) rfl 68 (by decide) (hts _ kw_1260) (fun _ h9 => h9) rfl (by decide +kernel) rfl rfl (Nat.le_of_ble_eq_true rfl) dX11_moves_46 (fun H locs hP _ hS => ?_)
  rw [suM_0_68] at hP
  obtain ⟨t_1, e_46, hf⟩ := fb_ls hf
  rw [← e_46] at hP
  refine lv_iinc (v := x3 + 1) (lv' := [(3, .int (x3 + 1)), (0, .ref (a 0)), (1, .ref (a 1)), (2, .int x2)]) hx hb dX11_moves_49 hl (k := 3) rfl rfl (by decide) rfl (fun ls hl => ?_)
  refine lv_goto (tgt := 2) hx hb dX11_moves_52 (by decide) ?_
  exact hk2 t_1 x2 (x3 + 1) _ _ _ hf hP hS (lv_sub hl [1, 2, 3, 0] rfl)
set_option maxRecDepth 20000 in
theorem w_M_X11_moves__0_1_27 {p : Program} {l : Launch} {e : Env} {s : State} {m : MethodId} {args : Array Value} {below : List Frame} {meth : Method} {c : Code} {A : Nat → Prop} {Q : State → Prop} {D : va_G} {ca : Nat → ClassId} {a : Nat → Nat} {u : fw_S} {k2 : fw_S → Int32 → Int32 → Option fw_S} (C : CX (WM ca a) D (tyv ca) p s m args c A prog_13_method_88_code 4 RX11) (hr : True → RX (WM ca a) D p l e rm_M_X11_moves__0_1 s m args below meth c A prog_13_method_88_code Q .return_ [] u) (hk2 : ∀ (t : fw_S) (x2 : Int32) (x3 : Int32) (H : Heap) (locs : List Loc) (ls : Array Slot), k2 t x2 x3 = some u → va_P D classes (WM ca a t) H → va_S A s.heap H locs → lv_has ls 4 [(0, .ref (a 0)), (1, .ref (a 1)), (2, .int x2), (3, .int x3)] → W p l e rm_M_X11_moves__0_1 s m args below meth c H locs 0 0 Q (F0 m 2 ls [])) {t : fw_S} {x2 : Int32} {x3 : Int32} {H : Heap} {locs : List Loc} {ls : Array Slot} (hf : b_M_X11_moves__0_1_27 k2 t x2 x3 = some u) (hP : va_P D classes (WM ca a t) H) (hS : va_S A s.heap H locs) (hl : lv_has ls 4 [(0, .ref (a 0)), (1, .ref (a 1)), (2, .int x2), (3, .int x3)]) : W p l e rm_M_X11_moves__0_1 s m args below meth c H locs 0 0 Q (F0 m 27 ls []) := by
  obtain ⟨hx, hb, hml, hown, hts, hN, hK, hD, hA⟩ := id C
  have hf : (fb_g (¬ ((st_I t 19) < 0 ∨ 2000 ≤ (st_I t 19).toNatClampNeg)) (fb_g (¬ (x3 < 0 ∨ 32 ≤ x3.toNatClampNeg)) (fb_l (up_F t 0 (upd (st_F t 0) x3.toNatClampNeg (st_F t 39 (st_I t 19).toNatClampNeg))) fun t_1 => (b_M_X11_moves__0_1_39 k2 t_1 x2 x3)))) = some u := hf
  refine lv_aload_n hx hb dX11_moves_27 rfl (lv_at hl 1 rfl) ?_
  refine lv_iload_n hx hb dX11_moves_28 rfl (lv_at hl 3 rfl) ?_
  refine lv_aload_n hx hb dX11_moves_29 rfl (lv_at hl 0 rfl) ?_
  refine va_get (D := D) (ci := 11) (v := .ref (a 48)) (C := RX11) (T := TX11) (N := 76) hx hb hts inX11 hown hK hP 0 (heM_0 ca a t) rfl 66 (by decide) (hts _ kw_1258) (fun _ h9 => h9) rfl dX11_moves_30 ?_
  refine lv_aload_n hx hb dX11_moves_33 rfl (lv_at hl 0 rfl) ?_
  refine va_get (D := D) (ci := 11) (v := .int (st_I t 19)) (C := RX11) (T := TX11) (N := 76) hx hb hts inX11 hown hK hP 0 (heM_0 ca a t) rfl 68 (by decide) (hts _ kw_1260) (fun _ h9 => h9) rfl dX11_moves_34 ?_
  obtain ⟨h_37, hf⟩ := fb_if hf
  refine va_iald hx hb hK hP 48 0 (haM_48 ca a t) rfl h_37 dX11_moves_37 ?_
  obtain ⟨h_38, hf⟩ := fb_if hf
  refine va_iast hx hb hK hP (hD t) hS 1 0 (haM_1 ca a t) rfl h_38 dX11_moves_38 (fun H locs hP _ hS => ?_)
  rw [saM_1] at hP
  obtain ⟨t_1, e_38, hf⟩ := fb_ls hf
  rw [← e_38] at hP
  exact w_M_X11_moves__0_1_39 C hr hk2 hf hP hS (lv_sub hl [0, 1, 2, 3] rfl)
set_option maxRecDepth 20000 in
theorem w_M_X11_moves__0_1_12 {p : Program} {l : Launch} {e : Env} {s : State} {m : MethodId} {args : Array Value} {below : List Frame} {meth : Method} {c : Code} {A : Nat → Prop} {Q : State → Prop} {D : va_G} {ca : Nat → ClassId} {a : Nat → Nat} {u : fw_S} {k2 : fw_S → Int32 → Int32 → Option fw_S} (C : CX (WM ca a) D (tyv ca) p s m args c A prog_13_method_88_code 4 RX11) (hr : True → RX (WM ca a) D p l e rm_M_X11_moves__0_1 s m args below meth c A prog_13_method_88_code Q .return_ [] u) (hk2 : ∀ (t : fw_S) (x2 : Int32) (x3 : Int32) (H : Heap) (locs : List Loc) (ls : Array Slot), k2 t x2 x3 = some u → va_P D classes (WM ca a t) H → va_S A s.heap H locs → lv_has ls 4 [(0, .ref (a 0)), (1, .ref (a 1)), (2, .int x2), (3, .int x3)] → W p l e rm_M_X11_moves__0_1 s m args below meth c H locs 0 0 Q (F0 m 2 ls [])) {t : fw_S} {x2 : Int32} {x3 : Int32} {H : Heap} {locs : List Loc} {ls : Array Slot} (hf : b_M_X11_moves__0_1_12 k2 t x2 x3 = some u) (hP : va_P D classes (WM ca a t) H) (hS : va_S A s.heap H locs) (hl : lv_has ls 4 [(0, .ref (a 0)), (1, .ref (a 1)), (2, .int x2), (3, .int x3)]) : W p l e rm_M_X11_moves__0_1 s m args below meth c H locs 0 0 Q (F0 m 12 ls []) := by
  obtain ⟨hx, hb, hml, hown, hts, hN, hK, hD, hA⟩ := id C
  have hf : (fb_g (¬ (x3 < 0 ∨ 32 ≤ x3.toNatClampNeg)) (fb_g (¬ ((st_I t 19) < 0 ∨ 2000 ≤ (st_I t 19).toNatClampNeg)) (fb_l (up_F t 39 (upd (st_F t 39) (st_I t 19).toNatClampNeg (st_F t 0 x3.toNatClampNeg))) fun t_1 => (b_M_X11_moves__0_1_39 k2 t_1 x2 x3)))) = some u := hf
  refine lv_aload_n hx hb dX11_moves_12 rfl (lv_at hl 0 rfl) ?_
  refine va_get (D := D) (ci := 11) (v := .ref (a 48)) (C := RX11) (T := TX11) (N := 76) hx hb hts inX11 hown hK hP 0 (heM_0 ca a t) rfl 66 (by decide) (hts _ kw_1258) (fun _ h9 => h9) rfl dX11_moves_13 ?_
  refine lv_aload_n hx hb dX11_moves_16 rfl (lv_at hl 0 rfl) ?_
  refine va_get (D := D) (ci := 11) (v := .int (st_I t 19)) (C := RX11) (T := TX11) (N := 76) hx hb hts inX11 hown hK hP 0 (heM_0 ca a t) rfl 68 (by decide) (hts _ kw_1260) (fun _ h9 => h9) rfl dX11_moves_17 ?_
  refine lv_aload_n hx hb dX11_moves_20 rfl (lv_at hl 1 rfl) ?_
  refine lv_iload_n hx hb dX11_moves_21 rfl (lv_at hl 3 rfl) ?_
  obtain ⟨h_22, hf⟩ := fb_if hf
  refine va_iald hx hb hK hP 1 0 (haM_1 ca a t) rfl h_22 dX11_moves_22 ?_
  obtain ⟨h_23, hf⟩ := fb_if hf
  refine va_iast hx hb hK hP (hD t) hS 48 0 (haM_48 ca a t) rfl h_23 dX11_moves_23 (fun H locs hP _ hS => ?_)
  rw [saM_48] at hP
  obtain ⟨t_1, e_23, hf⟩ := fb_ls hf
  rw [← e_23] at hP
  refine lv_goto (tgt := 39) hx hb dX11_moves_24 (by decide) ?_
  exact w_M_X11_moves__0_1_39 C hr hk2 hf hP hS (lv_sub hl [0, 1, 2, 3] rfl)
set_option maxRecDepth 20000 in
theorem w_M_X11_moves__0_1_8 {p : Program} {l : Launch} {e : Env} {s : State} {m : MethodId} {args : Array Value} {below : List Frame} {meth : Method} {c : Code} {A : Nat → Prop} {Q : State → Prop} {D : va_G} {ca : Nat → ClassId} {a : Nat → Nat} {u : fw_S} {k2 : fw_S → Int32 → Int32 → Option fw_S} (C : CX (WM ca a) D (tyv ca) p s m args c A prog_13_method_88_code 4 RX11) (hr : True → RX (WM ca a) D p l e rm_M_X11_moves__0_1 s m args below meth c A prog_13_method_88_code Q .return_ [] u) (hk2 : ∀ (t : fw_S) (x2 : Int32) (x3 : Int32) (H : Heap) (locs : List Loc) (ls : Array Slot), k2 t x2 x3 = some u → va_P D classes (WM ca a t) H → va_S A s.heap H locs → lv_has ls 4 [(0, .ref (a 0)), (1, .ref (a 1)), (2, .int x2), (3, .int x3)] → W p l e rm_M_X11_moves__0_1 s m args below meth c H locs 0 0 Q (F0 m 2 ls [])) {t : fw_S} {x2 : Int32} {x3 : Int32} {H : Heap} {locs : List Loc} {ls : Array Slot} (hf : b_M_X11_moves__0_1_8 k2 t x2 x3 = some u) (hP : va_P D classes (WM ca a t) H) (hS : va_S A s.heap H locs) (hl : lv_has ls 4 [(0, .ref (a 0)), (1, .ref (a 1)), (2, .int x2), (3, .int x3)]) : W p l e rm_M_X11_moves__0_1 s m args below meth c H locs 0 0 Q (F0 m 8 ls []) := by
  obtain ⟨hx, hb, hml, hown, hts, hN, hK, hD, hA⟩ := id C
  have hf : (if x2 = 0 then b_M_X11_moves__0_1_27 k2 t x2 x3 else b_M_X11_moves__0_1_12 k2 t x2 x3) = some u := hf
  refine lv_iload_n hx hb dX11_moves_8 rfl (lv_at hl 2 rfl) ?_
  refine lv_if_eq (tgt := 27) hx hb dX11_moves_9 (by decide) (fun h_9 => ?_) (fun h_9 => ?_)
  · have hf := fb_t h_9 hf
    exact w_M_X11_moves__0_1_27 C hr hk2 hf hP hS (lv_sub hl [0, 1, 2, 3] rfl)
  · have hf := fb_f h_9 hf
    exact w_M_X11_moves__0_1_12 C hr hk2 hf hP hS (lv_sub hl [0, 1, 2, 3] rfl)
set_option maxRecDepth 20000 in
theorem w_M_X11_moves__0_1_2 {p : Program} {l : Launch} {e : Env} {s : State} {m : MethodId} {args : Array Value} {below : List Frame} {meth : Method} {c : Code} {A : Nat → Prop} {Q : State → Prop} {D : va_G} {ca : Nat → ClassId} {a : Nat → Nat} {u : fw_S}  (C : CX (WM ca a) D (tyv ca) p s m args c A prog_13_method_88_code 4 RX11) (hr : True → RX (WM ca a) D p l e rm_M_X11_moves__0_1 s m args below meth c A prog_13_method_88_code Q .return_ [] u) : ∀ (n : Nat) (t : fw_S) (x2 : Int32) (x3 : Int32) (H : Heap) (locs : List Loc) (ls : Array Slot), b_M_X11_moves__0_1_2  n t x2 x3 = some u → va_P D classes (WM ca a t) H → va_S A s.heap H locs → lv_has ls 4 [(0, .ref (a 0)), (1, .ref (a 1)), (2, .int x2), (3, .int x3)] → W p l e rm_M_X11_moves__0_1 s m args below meth c H locs 0 0 Q (F0 m 2 ls []) := by
  obtain ⟨hx, hb, hml, hown, hts, hN, hK, hD, hA⟩ := id C
  intro n
  induction n with
  | zero => intro t x2 x3 H locs ls hf; cases hf
  | succ n hk2 =>
    intro t x2 x3 H locs ls hf hP hS hl
    have hf : (if ((32 : Int32)) ≤ x3 then b_M_X11_moves__0_1_55 t else b_M_X11_moves__0_1_8 (b_M_X11_moves__0_1_2 n) t x2 x3) = some u := hf
    refine lv_iload_n hx hb dX11_moves_2 rfl (lv_at hl 3 rfl) ?_
    refine lv_aload_n hx hb dX11_moves_3 rfl (lv_at hl 1 rfl) ?_
    refine va_alen (v := 32) hx hb hK hP 1 0 (haM_1 ca a t) rfl rfl dX11_moves_4 ?_
    refine lv_icmp_ge (tgt := 55) hx hb dX11_moves_5 (by decide) (fun h_5 => ?_) (fun h_5 => ?_)
    · have hf := fb_t h_5 hf
      exact w_M_X11_moves__0_1_55 C hr hf hP hS (lv_sub hl [] rfl)
    · have hf := fb_f h_5 hf
      exact w_M_X11_moves__0_1_8 C hr hk2 hf hP hS (lv_sub hl [0, 1, 2, 3] rfl)
set_option maxRecDepth 20000 in
theorem w_M_X11_moves__0_1_0 {p : Program} {l : Launch} {e : Env} {s : State} {m : MethodId} {args : Array Value} {below : List Frame} {meth : Method} {c : Code} {A : Nat → Prop} {Q : State → Prop} {D : va_G} {ca : Nat → ClassId} {a : Nat → Nat} {u : fw_S}  (C : CX (WM ca a) D (tyv ca) p s m args c A prog_13_method_88_code 4 RX11) (hr : True → RX (WM ca a) D p l e rm_M_X11_moves__0_1 s m args below meth c A prog_13_method_88_code Q .return_ [] u) {t : fw_S} {x2 : Int32} {H : Heap} {locs : List Loc} {ls : Array Slot} (hf : b_M_X11_moves__0_1_0  t x2 = some u) (hP : va_P D classes (WM ca a t) H) (hS : va_S A s.heap H locs) (hl : lv_has ls 4 [(0, .ref (a 0)), (1, .ref (a 1)), (2, .int x2)]) : W p l e rm_M_X11_moves__0_1 s m args below meth c H locs 0 0 Q (F0 m 0 ls []) := by
  obtain ⟨hx, hb, hml, hown, hts, hN, hK, hD, hA⟩ := id C
  have hf : (b_M_X11_moves__0_1_2 3000 t x2 ((0 : Int32))) = some u := hf
  refine lv_iconst (v := 0) hx hb dX11_moves_0 (by decide) ?_
  refine lv_istore_n (lv' := [(3, .int ((0 : Int32))), (0, .ref (a 0)), (1, .ref (a 1)), (2, .int x2)]) hx hb dX11_moves_1 rfl hl (by decide) rfl (fun ls hl => ?_)
  exact w_M_X11_moves__0_1_2 C hr 3000 t x2 ((0 : Int32)) _ _ _ hf hP hS (lv_sub hl [1, 2, 3, 0] rfl)
set_option maxRecDepth 20000 in
theorem c_M_X11_moves__0_1 {l : Launch} {D : va_G} {ca : Nat → ClassId} {a : Nat → Nat} {t : fw_S} {x2 : Int32} {u : fw_S} (hf : f_M_X11_moves__0_1 t x2 = some u) : MC (WM ca a) D (tyv ca) l yX11_moves (.code yX11_moves prog_13_method_88_code 4 none :: lw_gd) rm_M_X11_moves__0_1 [.ref (a 0), .ref (a 1), .int x2] none t u := by
  refine fw_met (okM ca a) (by decide +kernel) rfl rfl (Nat.le_of_ble_eq_true rfl) ?_
  intro p e s m args below meth c A Q ls C hr hk hP hS hl hQ
  exact w_M_X11_moves__0_1_0 C (fun _ => fw_rv C hr hk hQ) hf hP hS (lv_sub hl [0, 1, 2] rfl)
/-! ReactiveSheetModel.moves([IZ)V ['m', 'm.error'] -/
abbrev rm_M_X11_moves__0_2 : Room := { frames := 0, cells := 0, slots := 0, locals := 0 }
def b_M_X11_moves__0_2_55  (t : fw_S)  : Option fw_S := some t
def b_M_X11_moves__0_2_39 (k2 : fw_S → Int32 → Int32 → Option fw_S) (t : fw_S) (x2 : Int32) (x3 : Int32) : Option fw_S := fb_l (up_I t 19 ((st_I t 19) + ((1 : Int32)))) fun t_1 => (k2 t_1 x2 (x3 + 1))
def b_M_X11_moves__0_2_27 (k2 : fw_S → Int32 → Int32 → Option fw_S) (t : fw_S) (x2 : Int32) (x3 : Int32) : Option fw_S := fb_g (¬ ((st_I t 19) < 0 ∨ 2000 ≤ (st_I t 19).toNatClampNeg)) (fb_g (¬ (x3 < 0 ∨ 32 ≤ x3.toNatClampNeg)) (fb_l (up_F t 1 (upd (st_F t 1) x3.toNatClampNeg (st_F t 39 (st_I t 19).toNatClampNeg))) fun t_1 => (b_M_X11_moves__0_2_39 k2 t_1 x2 x3)))
def b_M_X11_moves__0_2_12 (k2 : fw_S → Int32 → Int32 → Option fw_S) (t : fw_S) (x2 : Int32) (x3 : Int32) : Option fw_S := fb_g (¬ (x3 < 0 ∨ 32 ≤ x3.toNatClampNeg)) (fb_g (¬ ((st_I t 19) < 0 ∨ 2000 ≤ (st_I t 19).toNatClampNeg)) (fb_l (up_F t 39 (upd (st_F t 39) (st_I t 19).toNatClampNeg (st_F t 1 x3.toNatClampNeg))) fun t_1 => (b_M_X11_moves__0_2_39 k2 t_1 x2 x3)))
def b_M_X11_moves__0_2_8 (k2 : fw_S → Int32 → Int32 → Option fw_S) (t : fw_S) (x2 : Int32) (x3 : Int32) : Option fw_S := if x2 = 0 then b_M_X11_moves__0_2_27 k2 t x2 x3 else b_M_X11_moves__0_2_12 k2 t x2 x3
def b_M_X11_moves__0_2_2  : Nat → (fw_S → Int32 → Int32 → Option fw_S)
  | 0 => fun _ _ _ => none
  | n + 1 => fun t x2 x3 => if ((32 : Int32)) ≤ x3 then b_M_X11_moves__0_2_55 t else b_M_X11_moves__0_2_8 (b_M_X11_moves__0_2_2 n) t x2 x3
def b_M_X11_moves__0_2_0  (t : fw_S) (x2 : Int32) : Option fw_S := b_M_X11_moves__0_2_2 3000 t x2 ((0 : Int32))
def f_M_X11_moves__0_2 (t : fw_S) (x2 : Int32) : Option fw_S := b_M_X11_moves__0_2_0 t x2
set_option maxRecDepth 20000 in
theorem w_M_X11_moves__0_2_55 {p : Program} {l : Launch} {e : Env} {s : State} {m : MethodId} {args : Array Value} {below : List Frame} {meth : Method} {c : Code} {A : Nat → Prop} {Q : State → Prop} {D : va_G} {ca : Nat → ClassId} {a : Nat → Nat} {u : fw_S}  (C : CX (WM ca a) D (tyv ca) p s m args c A prog_13_method_88_code 4 RX11) (hr : True → RX (WM ca a) D p l e rm_M_X11_moves__0_2 s m args below meth c A prog_13_method_88_code Q .return_ [] u) {t : fw_S}  {H : Heap} {locs : List Loc} {ls : Array Slot} (hf : b_M_X11_moves__0_2_55  t  = some u) (hP : va_P D classes (WM ca a t) H) (hS : va_S A s.heap H locs) (hl : lv_has ls 4 []) : W p l e rm_M_X11_moves__0_2 s m args below meth c H locs 0 0 Q (F0 m 55 ls []) := by
  obtain ⟨hx, hb, hml, hown, hts, hN, hK, hD, hA⟩ := id C
  have hf : (some t) = some u := hf
  have e_55 := fb_ev hf
  subst e_55
  exact hr trivial _ _ _ _ hP hS dX11_moves_55
set_option maxRecDepth 20000 in
theorem w_M_X11_moves__0_2_39 {p : Program} {l : Launch} {e : Env} {s : State} {m : MethodId} {args : Array Value} {below : List Frame} {meth : Method} {c : Code} {A : Nat → Prop} {Q : State → Prop} {D : va_G} {ca : Nat → ClassId} {a : Nat → Nat} {u : fw_S} {k2 : fw_S → Int32 → Int32 → Option fw_S} (C : CX (WM ca a) D (tyv ca) p s m args c A prog_13_method_88_code 4 RX11) (hr : True → RX (WM ca a) D p l e rm_M_X11_moves__0_2 s m args below meth c A prog_13_method_88_code Q .return_ [] u) (hk2 : ∀ (t : fw_S) (x2 : Int32) (x3 : Int32) (H : Heap) (locs : List Loc) (ls : Array Slot), k2 t x2 x3 = some u → va_P D classes (WM ca a t) H → va_S A s.heap H locs → lv_has ls 4 [(0, .ref (a 0)), (1, .ref (a 2)), (2, .int x2), (3, .int x3)] → W p l e rm_M_X11_moves__0_2 s m args below meth c H locs 0 0 Q (F0 m 2 ls [])) {t : fw_S} {x2 : Int32} {x3 : Int32} {H : Heap} {locs : List Loc} {ls : Array Slot} (hf : b_M_X11_moves__0_2_39 k2 t x2 x3 = some u) (hP : va_P D classes (WM ca a t) H) (hS : va_S A s.heap H locs) (hl : lv_has ls 4 [(0, .ref (a 0)), (1, .ref (a 2)), (2, .int x2), (3, .int x3)]) : W p l e rm_M_X11_moves__0_2 s m args below meth c H locs 0 0 Q (F0 m 39 ls []) := by
  obtain ⟨hx, hb, hml, hown, hts, hN, hK, hD, hA⟩ := id C
  have hf : (fb_l (up_I t 19 ((st_I t 19) + ((1 : Int32)))) fun t_1 => (k2 t_1 x2 (x3 + 1))) = some u := hf
  refine lv_aload_n hx hb dX11_moves_39 rfl (lv_at hl 0 rfl) ?_
  refine lv_dup hx hb dX11_moves_40 rfl ?_
  refine va_get (D := D) (ci := 11) (v := .int (st_I t 19)) (C := RX11) (T := TX11) (N := 76) hx hb hts inX11 hown hK hP 0 (heM_0 ca a t) rfl 68 (by decide) (hts _ kw_1260) (fun _ h9 => h9) rfl dX11_moves_41 ?_
  refine lv_iconst (v := 1) hx hb dX11_moves_44 (by decide) ?_
  refine lv_iadd hx hb dX11_moves_45 ?_
  refine va_put (D := D) (ci := 11) (v := .int ((st_I t 19) + ((1 : Int32)))) (ty := .int) (C := RX11) (T := TX11) (N := 76) hx hb hts inX11 tyX11 tyX11_ok nmX11 hown hK hP (hD t) hS 0 (heM_0 ca a t) rfl 68 (by decide) (hts _ kw_1260) (fun _ h9 => h9) rfl (by decide +kernel) rfl rfl (Nat.le_of_ble_eq_true rfl) dX11_moves_46 (fun H locs hP _ hS => ?_)
  rw [suM_0_68] at hP
  obtain ⟨t_1, e_46, hf⟩ := fb_ls hf
  rw [← e_46] at hP
  refine lv_iinc (v := x3 + 1) (lv' := [(3, .int (x3 + 1)), (0, .ref (a 0)), (1, .ref (a 2)), (2, .int x2)]) hx hb dX11_moves_49 hl (k := 3) rfl rfl (by decide) rfl (fun ls hl => ?_)
  refine lv_goto (tgt := 2) hx hb dX11_moves_52 (by decide) ?_
  exact hk2 t_1 x2 (x3 + 1) _ _ _ hf hP hS (lv_sub hl [1, 2, 3, 0] rfl)
set_option maxRecDepth 20000 in
theorem w_M_X11_moves__0_2_27 {p : Program} {l : Launch} {e : Env} {s : State} {m : MethodId} {args : Array Value} {below : List Frame} {meth : Method} {c : Code} {A : Nat → Prop} {Q : State → Prop} {D : va_G} {ca : Nat → ClassId} {a : Nat → Nat} {u : fw_S} {k2 : fw_S → Int32 → Int32 → Option fw_S} (C : CX (WM ca a) D (tyv ca) p s m args c A prog_13_method_88_code 4 RX11) (hr : True → RX (WM ca a) D p l e rm_M_X11_moves__0_2 s m args below meth c A prog_13_method_88_code Q .return_ [] u) (hk2 : ∀ (t : fw_S) (x2 : Int32) (x3 : Int32) (H : Heap) (locs : List Loc) (ls : Array Slot), k2 t x2 x3 = some u → va_P D classes (WM ca a t) H → va_S A s.heap H locs → lv_has ls 4 [(0, .ref (a 0)), (1, .ref (a 2)), (2, .int x2), (3, .int x3)] → W p l e rm_M_X11_moves__0_2 s m args below meth c H locs 0 0 Q (F0 m 2 ls [])) {t : fw_S} {x2 : Int32} {x3 : Int32} {H : Heap} {locs : List Loc} {ls : Array Slot} (hf : b_M_X11_moves__0_2_27 k2 t x2 x3 = some u) (hP : va_P D classes (WM ca a t) H) (hS : va_S A s.heap H locs) (hl : lv_has ls 4 [(0, .ref (a 0)), (1, .ref (a 2)), (2, .int x2), (3, .int x3)]) : W p l e rm_M_X11_moves__0_2 s m args below meth c H locs 0 0 Q (F0 m 27 ls []) := by
  obtain ⟨hx, hb, hml, hown, hts, hN, hK, hD, hA⟩ := id C
  have hf : (fb_g (¬ ((st_I t 19) < 0 ∨ 2000 ≤ (st_I t 19).toNatClampNeg)) (fb_g (¬ (x3 < 0 ∨ 32 ≤ x3.toNatClampNeg)) (fb_l (up_F t 1 (upd (st_F t 1) x3.toNatClampNeg (st_F t 39 (st_I t 19).toNatClampNeg))) fun t_1 => (b_M_X11_moves__0_2_39 k2 t_1 x2 x3)))) = some u := hf
  refine lv_aload_n hx hb dX11_moves_27 rfl (lv_at hl 1 rfl) ?_
  refine lv_iload_n hx hb dX11_moves_28 rfl (lv_at hl 3 rfl) ?_
  refine lv_aload_n hx hb dX11_moves_29 rfl (lv_at hl 0 rfl) ?_
  refine va_get (D := D) (ci := 11) (v := .ref (a 48)) (C := RX11) (T := TX11) (N := 76) hx hb hts inX11 hown hK hP 0 (heM_0 ca a t) rfl 66 (by decide) (hts _ kw_1258) (fun _ h9 => h9) rfl dX11_moves_30 ?_
  refine lv_aload_n hx hb dX11_moves_33 rfl (lv_at hl 0 rfl) ?_
  refine va_get (D := D) (ci := 11) (v := .int (st_I t 19)) (C := RX11) (T := TX11) (N := 76) hx hb hts inX11 hown hK hP 0 (heM_0 ca a t) rfl 68 (by decide) (hts _ kw_1260) (fun _ h9 => h9) rfl dX11_moves_34 ?_
  obtain ⟨h_37, hf⟩ := fb_if hf
  refine va_iald hx hb hK hP 48 0 (haM_48 ca a t) rfl h_37 dX11_moves_37 ?_
  obtain ⟨h_38, hf⟩ := fb_if hf
  refine va_iast hx hb hK hP (hD t) hS 2 0 (haM_2 ca a t) rfl h_38 dX11_moves_38 (fun H locs hP _ hS => ?_)
  rw [saM_2] at hP
  obtain ⟨t_1, e_38, hf⟩ := fb_ls hf
  rw [← e_38] at hP
  exact w_M_X11_moves__0_2_39 C hr hk2 hf hP hS (lv_sub hl [0, 1, 2, 3] rfl)
set_option maxRecDepth 20000 in
theorem w_M_X11_moves__0_2_12 {p : Program} {l : Launch} {e : Env} {s : State} {m : MethodId} {args : Array Value} {below : List Frame} {meth : Method} {c : Code} {A : Nat → Prop} {Q : State → Prop} {D : va_G} {ca : Nat → ClassId} {a : Nat → Nat} {u : fw_S} {k2 : fw_S → Int32 → Int32 → Option fw_S} (C : CX (WM ca a) D (tyv ca) p s m args c A prog_13_method_88_code 4 RX11) (hr : True → RX (WM ca a) D p l e rm_M_X11_moves__0_2 s m args below meth c A prog_13_method_88_code Q .return_ [] u) (hk2 : ∀ (t : fw_S) (x2 : Int32) (x3 : Int32) (H : Heap) (locs : List Loc) (ls : Array Slot), k2 t x2 x3 = some u → va_P D classes (WM ca a t) H → va_S A s.heap H locs → lv_has ls 4 [(0, .ref (a 0)), (1, .ref (a 2)), (2, .int x2), (3, .int x3)] → W p l e rm_M_X11_moves__0_2 s m args below meth c H locs 0 0 Q (F0 m 2 ls [])) {t : fw_S} {x2 : Int32} {x3 : Int32} {H : Heap} {locs : List Loc} {ls : Array Slot} (hf : b_M_X11_moves__0_2_12 k2 t x2 x3 = some u) (hP : va_P D classes (WM ca a t) H) (hS : va_S A s.heap H locs) (hl : lv_has ls 4 [(0, .ref (a 0)), (1, .ref (a 2)), (2, .int x2), (3, .int x3)]) : W p l e rm_M_X11_moves__0_2 s m args below meth c H locs 0 0 Q (F0 m 12 ls []) := by
  obtain ⟨hx, hb, hml, hown, hts, hN, hK, hD, hA⟩ := id C
  have hf : (fb_g (¬ (x3 < 0 ∨ 32 ≤ x3.toNatClampNeg)) (fb_g (¬ ((st_I t 19) < 0 ∨ 2000 ≤ (st_I t 19).toNatClampNeg)) (fb_l (up_F t 39 (upd (st_F t 39) (st_I t 19).toNatClampNeg (st_F t 1 x3.toNatClampNeg))) fun t_1 => (b_M_X11_moves__0_2_39 k2 t_1 x2 x3)))) = some u := hf
  refine lv_aload_n hx hb dX11_moves_12 rfl (lv_at hl 0 rfl) ?_
  refine va_get (D := D) (ci := 11) (v := .ref (a 48)) (C := RX11) (T := TX11) (N := 76) hx hb hts inX11 hown hK hP 0 (heM_0 ca a t) rfl 66 (by decide) (hts _ kw_1258) (fun _ h9 => h9) rfl dX11_moves_13 ?_
  refine lv_aload_n hx hb dX11_moves_16 rfl (lv_at hl 0 rfl) ?_
  refine va_get (D := D) (ci := 11) (v := .int (st_I t 19)) (C := RX11) (T := TX11) (N := 76) hx hb hts inX11 hown hK hP 0 (heM_0 ca a t) rfl 68 (by decide) (hts _ kw_1260) (fun _ h9 => h9) rfl dX11_moves_17 ?_
  refine lv_aload_n hx hb dX11_moves_20 rfl (lv_at hl 1 rfl) ?_
  refine lv_iload_n hx hb dX11_moves_21 rfl (lv_at hl 3 rfl) ?_
  obtain ⟨h_22, hf⟩ := fb_if hf
  refine va_iald hx hb hK hP 2 0 (haM_2 ca a t) rfl h_22 dX11_moves_22 ?_
  obtain ⟨h_23, hf⟩ := fb_if hf
  refine va_iast hx hb hK hP (hD t) hS 48 0 (haM_48 ca a t) rfl h_23 dX11_moves_23 (fun H locs hP _ hS => ?_)
  rw [saM_48] at hP
  obtain ⟨t_1, e_23, hf⟩ := fb_ls hf
  rw [← e_23] at hP
  refine lv_goto (tgt := 39) hx hb dX11_moves_24 (by decide) ?_
  exact w_M_X11_moves__0_2_39 C hr hk2 hf hP hS (lv_sub hl [0, 1, 2, 3] rfl)
set_option maxRecDepth 20000 in
theorem w_M_X11_moves__0_2_8 {p : Program} {l : Launch} {e : Env} {s : State} {m : MethodId} {args : Array Value} {below : List Frame} {meth : Method} {c : Code} {A : Nat → Prop} {Q : State → Prop} {D : va_G} {ca : Nat → ClassId} {a : Nat → Nat} {u : fw_S} {k2 : fw_S → Int32 → Int32 → Option fw_S} (C : CX (WM ca a) D (tyv ca) p s m args c A prog_13_method_88_code 4 RX11) (hr : True → RX (WM ca a) D p l e rm_M_X11_moves__0_2 s m args below meth c A prog_13_method_88_code Q .return_ [] u) (hk2 : ∀ (t : fw_S) (x2 : Int32) (x3 : Int32) (H : Heap) (locs : List Loc) (ls : Array Slot), k2 t x2 x3 = some u → va_P D classes (WM ca a t) H → va_S A s.heap H locs → lv_has ls 4 [(0, .ref (a 0)), (1, .ref (a 2)), (2, .int x2), (3, .int x3)] → W p l e rm_M_X11_moves__0_2 s m args below meth c H locs 0 0 Q (F0 m 2 ls [])) {t : fw_S} {x2 : Int32} {x3 : Int32} {H : Heap} {locs : List Loc} {ls : Array Slot} (hf : b_M_X11_moves__0_2_8 k2 t x2 x3 = some u) (hP : va_P D classes (WM ca a t) H) (hS : va_S A s.heap H locs) (hl : lv_has ls 4 [(0, .ref (a 0)), (1, .ref (a 2)), (2, .int x2), (3, .int x3)]) : W p l e rm_M_X11_moves__0_2 s m args below meth c H locs 0 0 Q (F0 m 8 ls []) := by
  obtain ⟨hx, hb, hml, hown, hts, hN, hK, hD, hA⟩ := id C
  have hf : (if x2 = 0 then b_M_X11_moves__0_2_27 k2 t x2 x3 else b_M_X11_moves__0_2_12 k2 t x2 x3) = some u := hf
  refine lv_iload_n hx hb dX11_moves_8 rfl (lv_at hl 2 rfl) ?_
  refine lv_if_eq (tgt := 27) hx hb dX11_moves_9 (by decide) (fun h_9 => ?_) (fun h_9 => ?_)
  · have hf := fb_t h_9 hf
    exact w_M_X11_moves__0_2_27 C hr hk2 hf hP hS (lv_sub hl [0, 1, 2, 3] rfl)
  · have hf := fb_f h_9 hf
    exact w_M_X11_moves__0_2_12 C hr hk2 hf hP hS (lv_sub hl [0, 1, 2, 3] rfl)
set_option maxRecDepth 20000 in
theorem w_M_X11_moves__0_2_2 {p : Program} {l : Launch} {e : Env} {s : State} {m : MethodId} {args : Array Value} {below : List Frame} {meth : Method} {c : Code} {A : Nat → Prop} {Q : State → Prop} {D : va_G} {ca : Nat → ClassId} {a : Nat → Nat} {u : fw_S}  (C : CX (WM ca a) D (tyv ca) p s m args c A prog_13_method_88_code 4 RX11) (hr : True → RX (WM ca a) D p l e rm_M_X11_moves__0_2 s m args below meth c A prog_13_method_88_code Q .return_ [] u) : ∀ (n : Nat) (t : fw_S) (x2 : Int32) (x3 : Int32) (H : Heap) (locs : List Loc) (ls : Array Slot), b_M_X11_moves__0_2_2  n t x2 x3 = some u → va_P D classes (WM ca a t) H → va_S A s.heap H locs → lv_has ls 4 [(0, .ref (a 0)), (1, .ref (a 2)), (2, .int x2), (3, .int x3)] → W p l e rm_M_X11_moves__0_2 s m args below meth c H locs 0 0 Q (F0 m 2 ls []) := by
  obtain ⟨hx, hb, hml, hown, hts, hN, hK, hD, hA⟩ := id C
  intro n
  induction n with
  | zero => intro t x2 x3 H locs ls hf; cases hf
  | succ n hk2 =>
    intro t x2 x3 H locs ls hf hP hS hl
    have hf : (if ((32 : Int32)) ≤ x3 then b_M_X11_moves__0_2_55 t else b_M_X11_moves__0_2_8 (b_M_X11_moves__0_2_2 n) t x2 x3) = some u := hf
    refine lv_iload_n hx hb dX11_moves_2 rfl (lv_at hl 3 rfl) ?_
    refine lv_aload_n hx hb dX11_moves_3 rfl (lv_at hl 1 rfl) ?_
    refine va_alen (v := 32) hx hb hK hP 2 0 (haM_2 ca a t) rfl rfl dX11_moves_4 ?_
    refine lv_icmp_ge (tgt := 55) hx hb dX11_moves_5 (by decide) (fun h_5 => ?_) (fun h_5 => ?_)
    · have hf := fb_t h_5 hf
      exact w_M_X11_moves__0_2_55 C hr hf hP hS (lv_sub hl [] rfl)
    · have hf := fb_f h_5 hf
      exact w_M_X11_moves__0_2_8 C hr hk2 hf hP hS (lv_sub hl [0, 1, 2, 3] rfl)
set_option maxRecDepth 20000 in
theorem w_M_X11_moves__0_2_0 {p : Program} {l : Launch} {e : Env} {s : State} {m : MethodId} {args : Array Value} {below : List Frame} {meth : Method} {c : Code} {A : Nat → Prop} {Q : State → Prop} {D : va_G} {ca : Nat → ClassId} {a : Nat → Nat} {u : fw_S}  (C : CX (WM ca a) D (tyv ca) p s m args c A prog_13_method_88_code 4 RX11) (hr : True → RX (WM ca a) D p l e rm_M_X11_moves__0_2 s m args below meth c A prog_13_method_88_code Q .return_ [] u) {t : fw_S} {x2 : Int32} {H : Heap} {locs : List Loc} {ls : Array Slot} (hf : b_M_X11_moves__0_2_0  t x2 = some u) (hP : va_P D classes (WM ca a t) H) (hS : va_S A s.heap H locs) (hl : lv_has ls 4 [(0, .ref (a 0)), (1, .ref (a 2)), (2, .int x2)]) : W p l e rm_M_X11_moves__0_2 s m args below meth c H locs 0 0 Q (F0 m 0 ls []) := by
  obtain ⟨hx, hb, hml, hown, hts, hN, hK, hD, hA⟩ := id C
  have hf : (b_M_X11_moves__0_2_2 3000 t x2 ((0 : Int32))) = some u := hf
  refine lv_iconst (v := 0) hx hb dX11_moves_0 (by decide) ?_
  refine lv_istore_n (lv' := [(3, .int ((0 : Int32))), (0, .ref (a 0)), (1, .ref (a 2)), (2, .int x2)]) hx hb dX11_moves_1 rfl hl (by decide) rfl (fun ls hl => ?_)
  exact w_M_X11_moves__0_2_2 C hr 3000 t x2 ((0 : Int32)) _ _ _ hf hP hS (lv_sub hl [1, 2, 3, 0] rfl)
set_option maxRecDepth 20000 in
theorem c_M_X11_moves__0_2 {l : Launch} {D : va_G} {ca : Nat → ClassId} {a : Nat → Nat} {t : fw_S} {x2 : Int32} {u : fw_S} (hf : f_M_X11_moves__0_2 t x2 = some u) : MC (WM ca a) D (tyv ca) l yX11_moves (.code yX11_moves prog_13_method_88_code 4 none :: lw_gd) rm_M_X11_moves__0_2 [.ref (a 0), .ref (a 2), .int x2] none t u := by
  refine fw_met (okM ca a) (by decide +kernel) rfl rfl (Nat.le_of_ble_eq_true rfl) ?_
  intro p e s m args below meth c A Q ls C hr hk hP hS hl hQ
  exact w_M_X11_moves__0_2_0 C (fun _ => fw_rv C hr hk hQ) hf hP hS (lv_sub hl [0, 1, 2] rfl)
/-! ReactiveSheetModel.moves([IZ)V ['m', 'm.runs'] -/
abbrev rm_M_X11_moves__0_3 : Room := { frames := 0, cells := 0, slots := 0, locals := 0 }
def b_M_X11_moves__0_3_55  (t : fw_S)  : Option fw_S := some t
def b_M_X11_moves__0_3_39 (k2 : fw_S → Int32 → Int32 → Option fw_S) (t : fw_S) (x2 : Int32) (x3 : Int32) : Option fw_S := fb_l (up_I t 19 ((st_I t 19) + ((1 : Int32)))) fun t_1 => (k2 t_1 x2 (x3 + 1))
def b_M_X11_moves__0_3_27 (k2 : fw_S → Int32 → Int32 → Option fw_S) (t : fw_S) (x2 : Int32) (x3 : Int32) : Option fw_S := fb_g (¬ ((st_I t 19) < 0 ∨ 2000 ≤ (st_I t 19).toNatClampNeg)) (fb_g (¬ (x3 < 0 ∨ 32 ≤ x3.toNatClampNeg)) (fb_l (up_F t 2 (upd (st_F t 2) x3.toNatClampNeg (st_F t 39 (st_I t 19).toNatClampNeg))) fun t_1 => (b_M_X11_moves__0_3_39 k2 t_1 x2 x3)))
def b_M_X11_moves__0_3_12 (k2 : fw_S → Int32 → Int32 → Option fw_S) (t : fw_S) (x2 : Int32) (x3 : Int32) : Option fw_S := fb_g (¬ (x3 < 0 ∨ 32 ≤ x3.toNatClampNeg)) (fb_g (¬ ((st_I t 19) < 0 ∨ 2000 ≤ (st_I t 19).toNatClampNeg)) (fb_l (up_F t 39 (upd (st_F t 39) (st_I t 19).toNatClampNeg (st_F t 2 x3.toNatClampNeg))) fun t_1 => (b_M_X11_moves__0_3_39 k2 t_1 x2 x3)))
def b_M_X11_moves__0_3_8 (k2 : fw_S → Int32 → Int32 → Option fw_S) (t : fw_S) (x2 : Int32) (x3 : Int32) : Option fw_S := if x2 = 0 then b_M_X11_moves__0_3_27 k2 t x2 x3 else b_M_X11_moves__0_3_12 k2 t x2 x3
def b_M_X11_moves__0_3_2  : Nat → (fw_S → Int32 → Int32 → Option fw_S)
  | 0 => fun _ _ _ => none
  | n + 1 => fun t x2 x3 => if ((32 : Int32)) ≤ x3 then b_M_X11_moves__0_3_55 t else b_M_X11_moves__0_3_8 (b_M_X11_moves__0_3_2 n) t x2 x3
def b_M_X11_moves__0_3_0  (t : fw_S) (x2 : Int32) : Option fw_S := b_M_X11_moves__0_3_2 3000 t x2 ((0 : Int32))
def f_M_X11_moves__0_3 (t : fw_S) (x2 : Int32) : Option fw_S := b_M_X11_moves__0_3_0 t x2
set_option maxRecDepth 20000 in
theorem w_M_X11_moves__0_3_55 {p : Program} {l : Launch} {e : Env} {s : State} {m : MethodId} {args : Array Value} {below : List Frame} {meth : Method} {c : Code} {A : Nat → Prop} {Q : State → Prop} {D : va_G} {ca : Nat → ClassId} {a : Nat → Nat} {u : fw_S}  (C : CX (WM ca a) D (tyv ca) p s m args c A prog_13_method_88_code 4 RX11) (hr : True → RX (WM ca a) D p l e rm_M_X11_moves__0_3 s m args below meth c A prog_13_method_88_code Q .return_ [] u) {t : fw_S}  {H : Heap} {locs : List Loc} {ls : Array Slot} (hf : b_M_X11_moves__0_3_55  t  = some u) (hP : va_P D classes (WM ca a t) H) (hS : va_S A s.heap H locs) (hl : lv_has ls 4 []) : W p l e rm_M_X11_moves__0_3 s m args below meth c H locs 0 0 Q (F0 m 55 ls []) := by
  obtain ⟨hx, hb, hml, hown, hts, hN, hK, hD, hA⟩ := id C
  have hf : (some t) = some u := hf
  have e_55 := fb_ev hf
  subst e_55
  exact hr trivial _ _ _ _ hP hS dX11_moves_55
set_option maxRecDepth 20000 in
theorem w_M_X11_moves__0_3_39 {p : Program} {l : Launch} {e : Env} {s : State} {m : MethodId} {args : Array Value} {below : List Frame} {meth : Method} {c : Code} {A : Nat → Prop} {Q : State → Prop} {D : va_G} {ca : Nat → ClassId} {a : Nat → Nat} {u : fw_S} {k2 : fw_S → Int32 → Int32 → Option fw_S} (C : CX (WM ca a) D (tyv ca) p s m args c A prog_13_method_88_code 4 RX11) (hr : True → RX (WM ca a) D p l e rm_M_X11_moves__0_3 s m args below meth c A prog_13_method_88_code Q .return_ [] u) (hk2 : ∀ (t : fw_S) (x2 : Int32) (x3 : Int32) (H : Heap) (locs : List Loc) (ls : Array Slot), k2 t x2 x3 = some u → va_P D classes (WM ca a t) H → va_S A s.heap H locs → lv_has ls 4 [(0, .ref (a 0)), (1, .ref (a 3)), (2, .int x2), (3, .int x3)] → W p l e rm_M_X11_moves__0_3 s m args below meth c H locs 0 0 Q (F0 m 2 ls [])) {t : fw_S} {x2 : Int32} {x3 : Int32} {H : Heap} {locs : List Loc} {ls : Array Slot} (hf : b_M_X11_moves__0_3_39 k2 t x2 x3 = some u) (hP : va_P D classes (WM ca a t) H) (hS : va_S A s.heap H locs) (hl : lv_has ls 4 [(0, .ref (a 0)), (1, .ref (a 3)), (2, .int x2), (3, .int x3)]) : W p l e rm_M_X11_moves__0_3 s m args below meth c H locs 0 0 Q (F0 m 39 ls []) := by
  obtain ⟨hx, hb, hml, hown, hts, hN, hK, hD, hA⟩ := id C
  have hf : (fb_l (up_I t 19 ((st_I t 19) + ((1 : Int32)))) fun t_1 => (k2 t_1 x2 (x3 + 1))) = some u := hf
  refine lv_aload_n hx hb dX11_moves_39 rfl (lv_at hl 0 rfl) ?_
  refine lv_dup hx hb dX11_moves_40 rfl ?_
  refine va_get (D := D) (ci := 11) (v := .int (st_I t 19)) (C := RX11) (T := TX11) (N := 76) hx hb hts inX11 hown hK hP 0 (heM_0 ca a t) rfl 68 (by decide) (hts _ kw_1260) (fun _ h9 => h9) rfl dX11_moves_41 ?_
  refine lv_iconst (v := 1) hx hb dX11_moves_44 (by decide) ?_
  refine lv_iadd hx hb dX11_moves_45 ?_
  refine va_put (D := D) (ci := 11) (v := .int ((st_I t 19) + ((1 : Int32)))) (ty := .int) (C := RX11) (T := TX11) (N := 76) hx hb hts inX11 tyX11 tyX11_ok nmX11 hown hK hP (hD t) hS 0 (heM_0 ca a t) rfl 68 (by decide) (hts _ kw_1260) (fun _ h9 => h9) rfl (by decide +kernel) rfl rfl (Nat.le_of_ble_eq_true rfl) dX11_moves_46 (fun H locs hP _ hS => ?_)
  rw [suM_0_68] at hP
  obtain ⟨t_1, e_46, hf⟩ := fb_ls hf
  rw [← e_46] at hP
  refine lv_iinc (v := x3 + 1) (lv' := [(3, .int (x3 + 1)), (0, .ref (a 0)), (1, .ref (a 3)), (2, .int x2)]) hx hb dX11_moves_49 hl (k := 3) rfl rfl (by decide) rfl (fun ls hl => ?_)
  refine lv_goto (tgt := 2) hx hb dX11_moves_52 (by decide) ?_
  exact hk2 t_1 x2 (x3 + 1) _ _ _ hf hP hS (lv_sub hl [1, 2, 3, 0] rfl)
set_option maxRecDepth 20000 in
theorem w_M_X11_moves__0_3_27 {p : Program} {l : Launch} {e : Env} {s : State} {m : MethodId} {args : Array Value} {below : List Frame} {meth : Method} {c : Code} {A : Nat → Prop} {Q : State → Prop} {D : va_G} {ca : Nat → ClassId} {a : Nat → Nat} {u : fw_S} {k2 : fw_S → Int32 → Int32 → Option fw_S} (C : CX (WM ca a) D (tyv ca) p s m args c A prog_13_method_88_code 4 RX11) (hr : True → RX (WM ca a) D p l e rm_M_X11_moves__0_3 s m args below meth c A prog_13_method_88_code Q .return_ [] u) (hk2 : ∀ (t : fw_S) (x2 : Int32) (x3 : Int32) (H : Heap) (locs : List Loc) (ls : Array Slot), k2 t x2 x3 = some u → va_P D classes (WM ca a t) H → va_S A s.heap H locs → lv_has ls 4 [(0, .ref (a 0)), (1, .ref (a 3)), (2, .int x2), (3, .int x3)] → W p l e rm_M_X11_moves__0_3 s m args below meth c H locs 0 0 Q (F0 m 2 ls [])) {t : fw_S} {x2 : Int32} {x3 : Int32} {H : Heap} {locs : List Loc} {ls : Array Slot} (hf : b_M_X11_moves__0_3_27 k2 t x2 x3 = some u) (hP : va_P D classes (WM ca a t) H) (hS : va_S A s.heap H locs) (hl : lv_has ls 4 [(0, .ref (a 0)), (1, .ref (a 3)), (2, .int x2), (3, .int x3)]) : W p l e rm_M_X11_moves__0_3 s m args below meth c H locs 0 0 Q (F0 m 27 ls []) := by
  obtain ⟨hx, hb, hml, hown, hts, hN, hK, hD, hA⟩ := id C
  have hf : (fb_g (¬ ((st_I t 19) < 0 ∨ 2000 ≤ (st_I t 19).toNatClampNeg)) (fb_g (¬ (x3 < 0 ∨ 32 ≤ x3.toNatClampNeg)) (fb_l (up_F t 2 (upd (st_F t 2) x3.toNatClampNeg (st_F t 39 (st_I t 19).toNatClampNeg))) fun t_1 => (b_M_X11_moves__0_3_39 k2 t_1 x2 x3)))) = some u := hf
  refine lv_aload_n hx hb dX11_moves_27 rfl (lv_at hl 1 rfl) ?_
  refine lv_iload_n hx hb dX11_moves_28 rfl (lv_at hl 3 rfl) ?_
  refine lv_aload_n hx hb dX11_moves_29 rfl (lv_at hl 0 rfl) ?_
  refine va_get (D := D) (ci := 11) (v := .ref (a 48)) (C := RX11) (T := TX11) (N := 76) hx hb hts inX11 hown hK hP 0 (heM_0 ca a t) rfl 66 (by decide) (hts _ kw_1258) (fun _ h9 => h9) rfl dX11_moves_30 ?_
  refine lv_aload_n hx hb dX11_moves_33 rfl (lv_at hl 0 rfl) ?_
  refine va_get (D := D) (ci := 11) (v := .int (st_I t 19)) (C := RX11) (T := TX11) (N := 76) hx hb hts inX11 hown hK hP 0 (heM_0 ca a t) rfl 68 (by decide) (hts _ kw_1260) (fun _ h9 => h9) rfl dX11_moves_34 ?_
  obtain ⟨h_37, hf⟩ := fb_if hf
  refine va_iald hx hb hK hP 48 0 (haM_48 ca a t) rfl h_37 dX11_moves_37 ?_
  obtain ⟨h_38, hf⟩ := fb_if hf
  refine va_iast hx hb hK hP (hD t) hS 3 0 (haM_3 ca a t) rfl h_38 dX11_moves_38 (fun H locs hP _ hS => ?_)
  rw [saM_3] at hP
  obtain ⟨t_1, e_38, hf⟩ := fb_ls hf
  rw [← e_38] at hP
  exact w_M_X11_moves__0_3_39 C hr hk2 hf hP hS (lv_sub hl [0, 1, 2, 3] rfl)
set_option maxRecDepth 20000 in
theorem w_M_X11_moves__0_3_12 {p : Program} {l : Launch} {e : Env} {s : State} {m : MethodId} {args : Array Value} {below : List Frame} {meth : Method} {c : Code} {A : Nat → Prop} {Q : State → Prop} {D : va_G} {ca : Nat → ClassId} {a : Nat → Nat} {u : fw_S} {k2 : fw_S → Int32 → Int32 → Option fw_S} (C : CX (WM ca a) D (tyv ca) p s m args c A prog_13_method_88_code 4 RX11) (hr : True → RX (WM ca a) D p l e rm_M_X11_moves__0_3 s m args below meth c A prog_13_method_88_code Q .return_ [] u) (hk2 : ∀ (t : fw_S) (x2 : Int32) (x3 : Int32) (H : Heap) (locs : List Loc) (ls : Array Slot), k2 t x2 x3 = some u → va_P D classes (WM ca a t) H → va_S A s.heap H locs → lv_has ls 4 [(0, .ref (a 0)), (1, .ref (a 3)), (2, .int x2), (3, .int x3)] → W p l e rm_M_X11_moves__0_3 s m args below meth c H locs 0 0 Q (F0 m 2 ls [])) {t : fw_S} {x2 : Int32} {x3 : Int32} {H : Heap} {locs : List Loc} {ls : Array Slot} (hf : b_M_X11_moves__0_3_12 k2 t x2 x3 = some u) (hP : va_P D classes (WM ca a t) H) (hS : va_S A s.heap H locs) (hl : lv_has ls 4 [(0, .ref (a 0)), (1, .ref (a 3)), (2, .int x2), (3, .int x3)]) : W p l e rm_M_X11_moves__0_3 s m args below meth c H locs 0 0 Q (F0 m 12 ls []) := by
  obtain ⟨hx, hb, hml, hown, hts, hN, hK, hD, hA⟩ := id C
  have hf : (fb_g (¬ (x3 < 0 ∨ 32 ≤ x3.toNatClampNeg)) (fb_g (¬ ((st_I t 19) < 0 ∨ 2000 ≤ (st_I t 19).toNatClampNeg)) (fb_l (up_F t 39 (upd (st_F t 39) (st_I t 19).toNatClampNeg (st_F t 2 x3.toNatClampNeg))) fun t_1 => (b_M_X11_moves__0_3_39 k2 t_1 x2 x3)))) = some u := hf
  refine lv_aload_n hx hb dX11_moves_12 rfl (lv_at hl 0 rfl) ?_
  refine va_get (D := D) (ci := 11) (v := .ref (a 48)) (C := RX11) (T := TX11) (N := 76) hx hb hts inX11 hown hK hP 0 (heM_0 ca a t) rfl 66 (by decide) (hts _ kw_1258) (fun _ h9 => h9) rfl dX11_moves_13 ?_
  refine lv_aload_n hx hb dX11_moves_16 rfl (lv_at hl 0 rfl) ?_
  refine va_get (D := D) (ci := 11) (v := .int (st_I t 19)) (C := RX11) (T := TX11) (N := 76) hx hb hts inX11 hown hK hP 0 (heM_0 ca a t) rfl 68 (by decide) (hts _ kw_1260) (fun _ h9 => h9) rfl dX11_moves_17 ?_
  refine lv_aload_n hx hb dX11_moves_20 rfl (lv_at hl 1 rfl) ?_
  refine lv_iload_n hx hb dX11_moves_21 rfl (lv_at hl 3 rfl) ?_
  obtain ⟨h_22, hf⟩ := fb_if hf
  refine va_iald hx hb hK hP 3 0 (haM_3 ca a t) rfl h_22 dX11_moves_22 ?_
  obtain ⟨h_23, hf⟩ := fb_if hf
  refine va_iast hx hb hK hP (hD t) hS 48 0 (haM_48 ca a t) rfl h_23 dX11_moves_23 (fun H locs hP _ hS => ?_)
  rw [saM_48] at hP
  obtain ⟨t_1, e_23, hf⟩ := fb_ls hf
  rw [← e_23] at hP
  refine lv_goto (tgt := 39) hx hb dX11_moves_24 (by decide) ?_
  exact w_M_X11_moves__0_3_39 C hr hk2 hf hP hS (lv_sub hl [0, 1, 2, 3] rfl)
set_option maxRecDepth 20000 in
theorem w_M_X11_moves__0_3_8 {p : Program} {l : Launch} {e : Env} {s : State} {m : MethodId} {args : Array Value} {below : List Frame} {meth : Method} {c : Code} {A : Nat → Prop} {Q : State → Prop} {D : va_G} {ca : Nat → ClassId} {a : Nat → Nat} {u : fw_S} {k2 : fw_S → Int32 → Int32 → Option fw_S} (C : CX (WM ca a) D (tyv ca) p s m args c A prog_13_method_88_code 4 RX11) (hr : True → RX (WM ca a) D p l e rm_M_X11_moves__0_3 s m args below meth c A prog_13_method_88_code Q .return_ [] u) (hk2 : ∀ (t : fw_S) (x2 : Int32) (x3 : Int32) (H : Heap) (locs : List Loc) (ls : Array Slot), k2 t x2 x3 = some u → va_P D classes (WM ca a t) H → va_S A s.heap H locs → lv_has ls 4 [(0, .ref (a 0)), (1, .ref (a 3)), (2, .int x2), (3, .int x3)] → W p l e rm_M_X11_moves__0_3 s m args below meth c H locs 0 0 Q (F0 m 2 ls [])) {t : fw_S} {x2 : Int32} {x3 : Int32} {H : Heap} {locs : List Loc} {ls : Array Slot} (hf : b_M_X11_moves__0_3_8 k2 t x2 x3 = some u) (hP : va_P D classes (WM ca a t) H) (hS : va_S A s.heap H locs) (hl : lv_has ls 4 [(0, .ref (a 0)), (1, .ref (a 3)), (2, .int x2), (3, .int x3)]) : W p l e rm_M_X11_moves__0_3 s m args below meth c H locs 0 0 Q (F0 m 8 ls []) := by
  obtain ⟨hx, hb, hml, hown, hts, hN, hK, hD, hA⟩ := id C
  have hf : (if x2 = 0 then b_M_X11_moves__0_3_27 k2 t x2 x3 else b_M_X11_moves__0_3_12 k2 t x2 x3) = some u := hf
  refine lv_iload_n hx hb dX11_moves_8 rfl (lv_at hl 2 rfl) ?_
  refine lv_if_eq (tgt := 27) hx hb dX11_moves_9 (by decide) (fun h_9 => ?_) (fun h_9 => ?_)
  · have hf := fb_t h_9 hf
    exact w_M_X11_moves__0_3_27 C hr hk2 hf hP hS (lv_sub hl [0, 1, 2, 3] rfl)
  · have hf := fb_f h_9 hf
    exact w_M_X11_moves__0_3_12 C hr hk2 hf hP hS (lv_sub hl [0, 1, 2, 3] rfl)
set_option maxRecDepth 20000 in
theorem w_M_X11_moves__0_3_2 {p : Program} {l : Launch} {e : Env} {s : State} {m : MethodId} {args : Array Value} {below : List Frame} {meth : Method} {c : Code} {A : Nat → Prop} {Q : State → Prop} {D : va_G} {ca : Nat → ClassId} {a : Nat → Nat} {u : fw_S}  (C : CX (WM ca a) D (tyv ca) p s m args c A prog_13_method_88_code 4 RX11) (hr : True → RX (WM ca a) D p l e rm_M_X11_moves__0_3 s m args below meth c A prog_13_method_88_code Q .return_ [] u) : ∀ (n : Nat) (t : fw_S) (x2 : Int32) (x3 : Int32) (H : Heap) (locs : List Loc) (ls : Array Slot), b_M_X11_moves__0_3_2  n t x2 x3 = some u → va_P D classes (WM ca a t) H → va_S A s.heap H locs → lv_has ls 4 [(0, .ref (a 0)), (1, .ref (a 3)), (2, .int x2), (3, .int x3)] → W p l e rm_M_X11_moves__0_3 s m args below meth c H locs 0 0 Q (F0 m 2 ls []) := by
  obtain ⟨hx, hb, hml, hown, hts, hN, hK, hD, hA⟩ := id C
  intro n
  induction n with
  | zero => intro t x2 x3 H locs ls hf; cases hf
  | succ n hk2 =>
    intro t x2 x3 H locs ls hf hP hS hl
    have hf : (if ((32 : Int32)) ≤ x3 then b_M_X11_moves__0_3_55 t else b_M_X11_moves__0_3_8 (b_M_X11_moves__0_3_2 n) t x2 x3) = some u := hf
    refine lv_iload_n hx hb dX11_moves_2 rfl (lv_at hl 3 rfl) ?_
    refine lv_aload_n hx hb dX11_moves_3 rfl (lv_at hl 1 rfl) ?_
    refine va_alen (v := 32) hx hb hK hP 3 0 (haM_3 ca a t) rfl rfl dX11_moves_4 ?_
    refine lv_icmp_ge (tgt := 55) hx hb dX11_moves_5 (by decide) (fun h_5 => ?_) (fun h_5 => ?_)
    · have hf := fb_t h_5 hf
      exact w_M_X11_moves__0_3_55 C hr hf hP hS (lv_sub hl [] rfl)
    · have hf := fb_f h_5 hf
      exact w_M_X11_moves__0_3_8 C hr hk2 hf hP hS (lv_sub hl [0, 1, 2, 3] rfl)
set_option maxRecDepth 20000 in
theorem w_M_X11_moves__0_3_0 {p : Program} {l : Launch} {e : Env} {s : State} {m : MethodId} {args : Array Value} {below : List Frame} {meth : Method} {c : Code} {A : Nat → Prop} {Q : State → Prop} {D : va_G} {ca : Nat → ClassId} {a : Nat → Nat} {u : fw_S}  (C : CX (WM ca a) D (tyv ca) p s m args c A prog_13_method_88_code 4 RX11) (hr : True → RX (WM ca a) D p l e rm_M_X11_moves__0_3 s m args below meth c A prog_13_method_88_code Q .return_ [] u) {t : fw_S} {x2 : Int32} {H : Heap} {locs : List Loc} {ls : Array Slot} (hf : b_M_X11_moves__0_3_0  t x2 = some u) (hP : va_P D classes (WM ca a t) H) (hS : va_S A s.heap H locs) (hl : lv_has ls 4 [(0, .ref (a 0)), (1, .ref (a 3)), (2, .int x2)]) : W p l e rm_M_X11_moves__0_3 s m args below meth c H locs 0 0 Q (F0 m 0 ls []) := by
  obtain ⟨hx, hb, hml, hown, hts, hN, hK, hD, hA⟩ := id C
  have hf : (b_M_X11_moves__0_3_2 3000 t x2 ((0 : Int32))) = some u := hf
  refine lv_iconst (v := 0) hx hb dX11_moves_0 (by decide) ?_
  refine lv_istore_n (lv' := [(3, .int ((0 : Int32))), (0, .ref (a 0)), (1, .ref (a 3)), (2, .int x2)]) hx hb dX11_moves_1 rfl hl (by decide) rfl (fun ls hl => ?_)
  exact w_M_X11_moves__0_3_2 C hr 3000 t x2 ((0 : Int32)) _ _ _ hf hP hS (lv_sub hl [1, 2, 3, 0] rfl)
set_option maxRecDepth 20000 in
theorem c_M_X11_moves__0_3 {l : Launch} {D : va_G} {ca : Nat → ClassId} {a : Nat → Nat} {t : fw_S} {x2 : Int32} {u : fw_S} (hf : f_M_X11_moves__0_3 t x2 = some u) : MC (WM ca a) D (tyv ca) l yX11_moves (.code yX11_moves prog_13_method_88_code 4 none :: lw_gd) rm_M_X11_moves__0_3 [.ref (a 0), .ref (a 3), .int x2] none t u := by
  refine fw_met (okM ca a) (by decide +kernel) rfl rfl (Nat.le_of_ble_eq_true rfl) ?_
  intro p e s m args below meth c A Q ls C hr hk hP hS hl hQ
  exact w_M_X11_moves__0_3_0 C (fun _ => fw_rv C hr hk hQ) hf hP hS (lv_sub hl [0, 1, 2] rfl)
/-! ReactiveSheetModel.moves([IZ)V ['m', 'm.many'] -/
abbrev rm_M_X11_moves__0_4 : Room := { frames := 0, cells := 0, slots := 0, locals := 0 }
def b_M_X11_moves__0_4_55  (t : fw_S)  : Option fw_S := some t
def b_M_X11_moves__0_4_39 (k2 : fw_S → Int32 → Int32 → Option fw_S) (t : fw_S) (x2 : Int32) (x3 : Int32) : Option fw_S := fb_l (up_I t 19 ((st_I t 19) + ((1 : Int32)))) fun t_1 => (k2 t_1 x2 (x3 + 1))
def b_M_X11_moves__0_4_27 (k2 : fw_S → Int32 → Int32 → Option fw_S) (t : fw_S) (x2 : Int32) (x3 : Int32) : Option fw_S := fb_g (¬ ((st_I t 19) < 0 ∨ 2000 ≤ (st_I t 19).toNatClampNeg)) (fb_g (¬ (x3 < 0 ∨ 32 ≤ x3.toNatClampNeg)) (fb_l (up_F t 3 (upd (st_F t 3) x3.toNatClampNeg (st_F t 39 (st_I t 19).toNatClampNeg))) fun t_1 => (b_M_X11_moves__0_4_39 k2 t_1 x2 x3)))
def b_M_X11_moves__0_4_12 (k2 : fw_S → Int32 → Int32 → Option fw_S) (t : fw_S) (x2 : Int32) (x3 : Int32) : Option fw_S := fb_g (¬ (x3 < 0 ∨ 32 ≤ x3.toNatClampNeg)) (fb_g (¬ ((st_I t 19) < 0 ∨ 2000 ≤ (st_I t 19).toNatClampNeg)) (fb_l (up_F t 39 (upd (st_F t 39) (st_I t 19).toNatClampNeg (st_F t 3 x3.toNatClampNeg))) fun t_1 => (b_M_X11_moves__0_4_39 k2 t_1 x2 x3)))
def b_M_X11_moves__0_4_8 (k2 : fw_S → Int32 → Int32 → Option fw_S) (t : fw_S) (x2 : Int32) (x3 : Int32) : Option fw_S := if x2 = 0 then b_M_X11_moves__0_4_27 k2 t x2 x3 else b_M_X11_moves__0_4_12 k2 t x2 x3
def b_M_X11_moves__0_4_2  : Nat → (fw_S → Int32 → Int32 → Option fw_S)
  | 0 => fun _ _ _ => none
  | n + 1 => fun t x2 x3 => if ((32 : Int32)) ≤ x3 then b_M_X11_moves__0_4_55 t else b_M_X11_moves__0_4_8 (b_M_X11_moves__0_4_2 n) t x2 x3
def b_M_X11_moves__0_4_0  (t : fw_S) (x2 : Int32) : Option fw_S := b_M_X11_moves__0_4_2 3000 t x2 ((0 : Int32))
def f_M_X11_moves__0_4 (t : fw_S) (x2 : Int32) : Option fw_S := b_M_X11_moves__0_4_0 t x2
set_option maxRecDepth 20000 in
theorem w_M_X11_moves__0_4_55 {p : Program} {l : Launch} {e : Env} {s : State} {m : MethodId} {args : Array Value} {below : List Frame} {meth : Method} {c : Code} {A : Nat → Prop} {Q : State → Prop} {D : va_G} {ca : Nat → ClassId} {a : Nat → Nat} {u : fw_S}  (C : CX (WM ca a) D (tyv ca) p s m args c A prog_13_method_88_code 4 RX11) (hr : True → RX (WM ca a) D p l e rm_M_X11_moves__0_4 s m args below meth c A prog_13_method_88_code Q .return_ [] u) {t : fw_S}  {H : Heap} {locs : List Loc} {ls : Array Slot} (hf : b_M_X11_moves__0_4_55  t  = some u) (hP : va_P D classes (WM ca a t) H) (hS : va_S A s.heap H locs) (hl : lv_has ls 4 []) : W p l e rm_M_X11_moves__0_4 s m args below meth c H locs 0 0 Q (F0 m 55 ls []) := by
  obtain ⟨hx, hb, hml, hown, hts, hN, hK, hD, hA⟩ := id C
  have hf : (some t) = some u := hf
  have e_55 := fb_ev hf
  subst e_55
  exact hr trivial _ _ _ _ hP hS dX11_moves_55
set_option maxRecDepth 20000 in
theorem w_M_X11_moves__0_4_39 {p : Program} {l : Launch} {e : Env} {s : State} {m : MethodId} {args : Array Value} {below : List Frame} {meth : Method} {c : Code} {A : Nat → Prop} {Q : State → Prop} {D : va_G} {ca : Nat → ClassId} {a : Nat → Nat} {u : fw_S} {k2 : fw_S → Int32 → Int32 → Option fw_S} (C : CX (WM ca a) D (tyv ca) p s m args c A prog_13_method_88_code 4 RX11) (hr : True → RX (WM ca a) D p l e rm_M_X11_moves__0_4 s m args below meth c A prog_13_method_88_code Q .return_ [] u) (hk2 : ∀ (t : fw_S) (x2 : Int32) (x3 : Int32) (H : Heap) (locs : List Loc) (ls : Array Slot), k2 t x2 x3 = some u → va_P D classes (WM ca a t) H → va_S A s.heap H locs → lv_has ls 4 [(0, .ref (a 0)), (1, .ref (a 4)), (2, .int x2), (3, .int x3)] → W p l e rm_M_X11_moves__0_4 s m args below meth c H locs 0 0 Q (F0 m 2 ls [])) {t : fw_S} {x2 : Int32} {x3 : Int32} {H : Heap} {locs : List Loc} {ls : Array Slot} (hf : b_M_X11_moves__0_4_39 k2 t x2 x3 = some u) (hP : va_P D classes (WM ca a t) H) (hS : va_S A s.heap H locs) (hl : lv_has ls 4 [(0, .ref (a 0)), (1, .ref (a 4)), (2, .int x2), (3, .int x3)]) : W p l e rm_M_X11_moves__0_4 s m args below meth c H locs 0 0 Q (F0 m 39 ls []) := by
  obtain ⟨hx, hb, hml, hown, hts, hN, hK, hD, hA⟩ := id C
  have hf : (fb_l (up_I t 19 ((st_I t 19) + ((1 : Int32)))) fun t_1 => (k2 t_1 x2 (x3 + 1))) = some u := hf
  refine lv_aload_n hx hb dX11_moves_39 rfl (lv_at hl 0 rfl) ?_
  refine lv_dup hx hb dX11_moves_40 rfl ?_
  refine va_get (D := D) (ci := 11) (v := .int (st_I t 19)) (C := RX11) (T := TX11) (N := 76) hx hb hts inX11 hown hK hP 0 (heM_0 ca a t) rfl 68 (by decide) (hts _ kw_1260) (fun _ h9 => h9) rfl dX11_moves_41 ?_
  refine lv_iconst (v := 1) hx hb dX11_moves_44 (by decide) ?_
  refine lv_iadd hx hb dX11_moves_45 ?_
  refine va_put (D := D) (ci := 11) (v := .int ((st_I t 19) + ((1 : Int32)))) (ty := .int) (C := RX11) (T := TX11) (N := 76) hx hb hts inX11 tyX11 tyX11_ok nmX11 hown hK hP (hD t) hS 0 (heM_0 ca a t) rfl 68 (by decide) (hts _ kw_1260) (fun _ h9 => h9) rfl (by decide +kernel) rfl rfl (Nat.le_of_ble_eq_true rfl) dX11_moves_46 (fun H locs hP _ hS => ?_)
  rw [suM_0_68] at hP
  obtain ⟨t_1, e_46, hf⟩ := fb_ls hf
  rw [← e_46] at hP
  refine lv_iinc (v := x3 + 1) (lv' := [(3, .int (x3 + 1)), (0, .ref (a 0)), (1, .ref (a 4)), (2, .int x2)]) hx hb dX11_moves_49 hl (k := 3) rfl rfl (by decide) rfl (fun ls hl => ?_)
  refine lv_goto (tgt := 2) hx hb dX11_moves_52 (by decide) ?_
  exact hk2 t_1 x2 (x3 + 1) _ _ _ hf hP hS (lv_sub hl [1, 2, 3, 0] rfl)
set_option maxRecDepth 20000 in
theorem w_M_X11_moves__0_4_27 {p : Program} {l : Launch} {e : Env} {s : State} {m : MethodId} {args : Array Value} {below : List Frame} {meth : Method} {c : Code} {A : Nat → Prop} {Q : State → Prop} {D : va_G} {ca : Nat → ClassId} {a : Nat → Nat} {u : fw_S} {k2 : fw_S → Int32 → Int32 → Option fw_S} (C : CX (WM ca a) D (tyv ca) p s m args c A prog_13_method_88_code 4 RX11) (hr : True → RX (WM ca a) D p l e rm_M_X11_moves__0_4 s m args below meth c A prog_13_method_88_code Q .return_ [] u) (hk2 : ∀ (t : fw_S) (x2 : Int32) (x3 : Int32) (H : Heap) (locs : List Loc) (ls : Array Slot), k2 t x2 x3 = some u → va_P D classes (WM ca a t) H → va_S A s.heap H locs → lv_has ls 4 [(0, .ref (a 0)), (1, .ref (a 4)), (2, .int x2), (3, .int x3)] → W p l e rm_M_X11_moves__0_4 s m args below meth c H locs 0 0 Q (F0 m 2 ls [])) {t : fw_S} {x2 : Int32} {x3 : Int32} {H : Heap} {locs : List Loc} {ls : Array Slot} (hf : b_M_X11_moves__0_4_27 k2 t x2 x3 = some u) (hP : va_P D classes (WM ca a t) H) (hS : va_S A s.heap H locs) (hl : lv_has ls 4 [(0, .ref (a 0)), (1, .ref (a 4)), (2, .int x2), (3, .int x3)]) : W p l e rm_M_X11_moves__0_4 s m args below meth c H locs 0 0 Q (F0 m 27 ls []) := by
  obtain ⟨hx, hb, hml, hown, hts, hN, hK, hD, hA⟩ := id C
  have hf : (fb_g (¬ ((st_I t 19) < 0 ∨ 2000 ≤ (st_I t 19).toNatClampNeg)) (fb_g (¬ (x3 < 0 ∨ 32 ≤ x3.toNatClampNeg)) (fb_l (up_F t 3 (upd (st_F t 3) x3.toNatClampNeg (st_F t 39 (st_I t 19).toNatClampNeg))) fun t_1 => (b_M_X11_moves__0_4_39 k2 t_1 x2 x3)))) = some u := hf
  refine lv_aload_n hx hb dX11_moves_27 rfl (lv_at hl 1 rfl) ?_
  refine lv_iload_n hx hb dX11_moves_28 rfl (lv_at hl 3 rfl) ?_
  refine lv_aload_n hx hb dX11_moves_29 rfl (lv_at hl 0 rfl) ?_
  refine va_get (D := D) (ci := 11) (v := .ref (a 48)) (C := RX11) (T := TX11) (N := 76) hx hb hts inX11 hown hK hP 0 (heM_0 ca a t) rfl 66 (by decide) (hts _ kw_1258) (fun _ h9 => h9) rfl dX11_moves_30 ?_
  refine lv_aload_n hx hb dX11_moves_33 rfl (lv_at hl 0 rfl) ?_
  refine va_get (D := D) (ci := 11) (v := .int (st_I t 19)) (C := RX11) (T := TX11) (N := 76) hx hb hts inX11 hown hK hP 0 (heM_0 ca a t) rfl 68 (by decide) (hts _ kw_1260) (fun _ h9 => h9) rfl dX11_moves_34 ?_
  obtain ⟨h_37, hf⟩ := fb_if hf
  refine va_iald hx hb hK hP 48 0 (haM_48 ca a t) rfl h_37 dX11_moves_37 ?_
  obtain ⟨h_38, hf⟩ := fb_if hf
  refine va_iast hx hb hK hP (hD t) hS 4 0 (haM_4 ca a t) rfl h_38 dX11_moves_38 (fun H locs hP _ hS => ?_)
  rw [saM_4] at hP
  obtain ⟨t_1, e_38, hf⟩ := fb_ls hf
  rw [← e_38] at hP
  exact w_M_X11_moves__0_4_39 C hr hk2 hf hP hS (lv_sub hl [0, 1, 2, 3] rfl)
set_option maxRecDepth 20000 in
theorem w_M_X11_moves__0_4_12 {p : Program} {l : Launch} {e : Env} {s : State} {m : MethodId} {args : Array Value} {below : List Frame} {meth : Method} {c : Code} {A : Nat → Prop} {Q : State → Prop} {D : va_G} {ca : Nat → ClassId} {a : Nat → Nat} {u : fw_S} {k2 : fw_S → Int32 → Int32 → Option fw_S} (C : CX (WM ca a) D (tyv ca) p s m args c A prog_13_method_88_code 4 RX11) (hr : True → RX (WM ca a) D p l e rm_M_X11_moves__0_4 s m args below meth c A prog_13_method_88_code Q .return_ [] u) (hk2 : ∀ (t : fw_S) (x2 : Int32) (x3 : Int32) (H : Heap) (locs : List Loc) (ls : Array Slot), k2 t x2 x3 = some u → va_P D classes (WM ca a t) H → va_S A s.heap H locs → lv_has ls 4 [(0, .ref (a 0)), (1, .ref (a 4)), (2, .int x2), (3, .int x3)] → W p l e rm_M_X11_moves__0_4 s m args below meth c H locs 0 0 Q (F0 m 2 ls [])) {t : fw_S} {x2 : Int32} {x3 : Int32} {H : Heap} {locs : List Loc} {ls : Array Slot} (hf : b_M_X11_moves__0_4_12 k2 t x2 x3 = some u) (hP : va_P D classes (WM ca a t) H) (hS : va_S A s.heap H locs) (hl : lv_has ls 4 [(0, .ref (a 0)), (1, .ref (a 4)), (2, .int x2), (3, .int x3)]) : W p l e rm_M_X11_moves__0_4 s m args below meth c H locs 0 0 Q (F0 m 12 ls []) := by
  obtain ⟨hx, hb, hml, hown, hts, hN, hK, hD, hA⟩ := id C
  have hf : (fb_g (¬ (x3 < 0 ∨ 32 ≤ x3.toNatClampNeg)) (fb_g (¬ ((st_I t 19) < 0 ∨ 2000 ≤ (st_I t 19).toNatClampNeg)) (fb_l (up_F t 39 (upd (st_F t 39) (st_I t 19).toNatClampNeg (st_F t 3 x3.toNatClampNeg))) fun t_1 => (b_M_X11_moves__0_4_39 k2 t_1 x2 x3)))) = some u := hf
  refine lv_aload_n hx hb dX11_moves_12 rfl (lv_at hl 0 rfl) ?_
  refine va_get (D := D) (ci := 11) (v := .ref (a 48)) (C := RX11) (T := TX11) (N := 76) hx hb hts inX11 hown hK hP 0 (heM_0 ca a t) rfl 66 (by decide) (hts _ kw_1258) (fun _ h9 => h9) rfl dX11_moves_13 ?_
  refine lv_aload_n hx hb dX11_moves_16 rfl (lv_at hl 0 rfl) ?_
  refine va_get (D := D) (ci := 11) (v := .int (st_I t 19)) (C := RX11) (T := TX11) (N := 76) hx hb hts inX11 hown hK hP 0 (heM_0 ca a t) rfl 68 (by decide) (hts _ kw_1260) (fun _ h9 => h9) rfl dX11_moves_17 ?_
  refine lv_aload_n hx hb dX11_moves_20 rfl (lv_at hl 1 rfl) ?_
  refine lv_iload_n hx hb dX11_moves_21 rfl (lv_at hl 3 rfl) ?_
  obtain ⟨h_22, hf⟩ := fb_if hf
  refine va_iald hx hb hK hP 4 0 (haM_4 ca a t) rfl h_22 dX11_moves_22 ?_
  obtain ⟨h_23, hf⟩ := fb_if hf
  refine va_iast hx hb hK hP (hD t) hS 48 0 (haM_48 ca a t) rfl h_23 dX11_moves_23 (fun H locs hP _ hS => ?_)
  rw [saM_48] at hP
  obtain ⟨t_1, e_23, hf⟩ := fb_ls hf
  rw [← e_23] at hP
  refine lv_goto (tgt := 39) hx hb dX11_moves_24 (by decide) ?_
  exact w_M_X11_moves__0_4_39 C hr hk2 hf hP hS (lv_sub hl [0, 1, 2, 3] rfl)
set_option maxRecDepth 20000 in
theorem w_M_X11_moves__0_4_8 {p : Program} {l : Launch} {e : Env} {s : State} {m : MethodId} {args : Array Value} {below : List Frame} {meth : Method} {c : Code} {A : Nat → Prop} {Q : State → Prop} {D : va_G} {ca : Nat → ClassId} {a : Nat → Nat} {u : fw_S} {k2 : fw_S → Int32 → Int32 → Option fw_S} (C : CX (WM ca a) D (tyv ca) p s m args c A prog_13_method_88_code 4 RX11) (hr : True → RX (WM ca a) D p l e rm_M_X11_moves__0_4 s m args below meth c A prog_13_method_88_code Q .return_ [] u) (hk2 : ∀ (t : fw_S) (x2 : Int32) (x3 : Int32) (H : Heap) (locs : List Loc) (ls : Array Slot), k2 t x2 x3 = some u → va_P D classes (WM ca a t) H → va_S A s.heap H locs → lv_has ls 4 [(0, .ref (a 0)), (1, .ref (a 4)), (2, .int x2), (3, .int x3)] → W p l e rm_M_X11_moves__0_4 s m args below meth c H locs 0 0 Q (F0 m 2 ls [])) {t : fw_S} {x2 : Int32} {x3 : Int32} {H : Heap} {locs : List Loc} {ls : Array Slot} (hf : b_M_X11_moves__0_4_8 k2 t x2 x3 = some u) (hP : va_P D classes (WM ca a t) H) (hS : va_S A s.heap H locs) (hl : lv_has ls 4 [(0, .ref (a 0)), (1, .ref (a 4)), (2, .int x2), (3, .int x3)]) : W p l e rm_M_X11_moves__0_4 s m args below meth c H locs 0 0 Q (F0 m 8 ls []) := by
  obtain ⟨hx, hb, hml, hown, hts, hN, hK, hD, hA⟩ := id C
  have hf : (if x2 = 0 then b_M_X11_moves__0_4_27 k2 t x2 x3 else b_M_X11_moves__0_4_12 k2 t x2 x3) = some u := hf
  refine lv_iload_n hx hb dX11_moves_8 rfl (lv_at hl 2 rfl) ?_
  refine lv_if_eq (tgt := 27) hx hb dX11_moves_9 (by decide) (fun h_9 => ?_) (fun h_9 => ?_)
  · have hf := fb_t h_9 hf
    exact w_M_X11_moves__0_4_27 C hr hk2 hf hP hS (lv_sub hl [0, 1, 2, 3] rfl)
  · have hf := fb_f h_9 hf
    exact w_M_X11_moves__0_4_12 C hr hk2 hf hP hS (lv_sub hl [0, 1, 2, 3] rfl)
set_option maxRecDepth 20000 in
theorem w_M_X11_moves__0_4_2 {p : Program} {l : Launch} {e : Env} {s : State} {m : MethodId} {args : Array Value} {below : List Frame} {meth : Method} {c : Code} {A : Nat → Prop} {Q : State → Prop} {D : va_G} {ca : Nat → ClassId} {a : Nat → Nat} {u : fw_S}  (C : CX (WM ca a) D (tyv ca) p s m args c A prog_13_method_88_code 4 RX11) (hr : True → RX (WM ca a) D p l e rm_M_X11_moves__0_4 s m args below meth c A prog_13_method_88_code Q .return_ [] u) : ∀ (n : Nat) (t : fw_S) (x2 : Int32) (x3 : Int32) (H : Heap) (locs : List Loc) (ls : Array Slot), b_M_X11_moves__0_4_2  n t x2 x3 = some u → va_P D classes (WM ca a t) H → va_S A s.heap H locs → lv_has ls 4 [(0, .ref (a 0)), (1, .ref (a 4)), (2, .int x2), (3, .int x3)] → W p l e rm_M_X11_moves__0_4 s m args below meth c H locs 0 0 Q (F0 m 2 ls []) := by
  obtain ⟨hx, hb, hml, hown, hts, hN, hK, hD, hA⟩ := id C
  intro n
  induction n with
  | zero => intro t x2 x3 H locs ls hf; cases hf
  | succ n hk2 =>
    intro t x2 x3 H locs ls hf hP hS hl
    have hf : (if ((32 : Int32)) ≤ x3 then b_M_X11_moves__0_4_55 t else b_M_X11_moves__0_4_8 (b_M_X11_moves__0_4_2 n) t x2 x3) = some u := hf
    refine lv_iload_n hx hb dX11_moves_2 rfl (lv_at hl 3 rfl) ?_
    refine lv_aload_n hx hb dX11_moves_3 rfl (lv_at hl 1 rfl) ?_
    refine va_alen (v := 32) hx hb hK hP 4 0 (haM_4 ca a t) rfl rfl dX11_moves_4 ?_
    refine lv_icmp_ge (tgt := 55) hx hb dX11_moves_5 (by decide) (fun h_5 => ?_) (fun h_5 => ?_)
    · have hf := fb_t h_5 hf
      exact w_M_X11_moves__0_4_55 C hr hf hP hS (lv_sub hl [] rfl)
    · have hf := fb_f h_5 hf
      exact w_M_X11_moves__0_4_8 C hr hk2 hf hP hS (lv_sub hl [0, 1, 2, 3] rfl)
set_option maxRecDepth 20000 in
theorem w_M_X11_moves__0_4_0 {p : Program} {l : Launch} {e : Env} {s : State} {m : MethodId} {args : Array Value} {below : List Frame} {meth : Method} {c : Code} {A : Nat → Prop} {Q : State → Prop} {D : va_G} {ca : Nat → ClassId} {a : Nat → Nat} {u : fw_S}  (C : CX (WM ca a) D (tyv ca) p s m args c A prog_13_method_88_code 4 RX11) (hr : True → RX (WM ca a) D p l e rm_M_X11_moves__0_4 s m args below meth c A prog_13_method_88_code Q .return_ [] u) {t : fw_S} {x2 : Int32} {H : Heap} {locs : List Loc} {ls : Array Slot} (hf : b_M_X11_moves__0_4_0  t x2 = some u) (hP : va_P D classes (WM ca a t) H) (hS : va_S A s.heap H locs) (hl : lv_has ls 4 [(0, .ref (a 0)), (1, .ref (a 4)), (2, .int x2)]) : W p l e rm_M_X11_moves__0_4 s m args below meth c H locs 0 0 Q (F0 m 0 ls []) := by
  obtain ⟨hx, hb, hml, hown, hts, hN, hK, hD, hA⟩ := id C
  have hf : (b_M_X11_moves__0_4_2 3000 t x2 ((0 : Int32))) = some u := hf
  refine lv_iconst (v := 0) hx hb dX11_moves_0 (by decide) ?_
  refine lv_istore_n (lv' := [(3, .int ((0 : Int32))), (0, .ref (a 0)), (1, .ref (a 4)), (2, .int x2)]) hx hb dX11_moves_1 rfl hl (by decide) rfl (fun ls hl => ?_)
  exact w_M_X11_moves__0_4_2 C hr 3000 t x2 ((0 : Int32)) _ _ _ hf hP hS (lv_sub hl [1, 2, 3, 0] rfl)
set_option maxRecDepth 20000 in
theorem c_M_X11_moves__0_4 {l : Launch} {D : va_G} {ca : Nat → ClassId} {a : Nat → Nat} {t : fw_S} {x2 : Int32} {u : fw_S} (hf : f_M_X11_moves__0_4 t x2 = some u) : MC (WM ca a) D (tyv ca) l yX11_moves (.code yX11_moves prog_13_method_88_code 4 none :: lw_gd) rm_M_X11_moves__0_4 [.ref (a 0), .ref (a 4), .int x2] none t u := by
  refine fw_met (okM ca a) (by decide +kernel) rfl rfl (Nat.le_of_ble_eq_true rfl) ?_
  intro p e s m args below meth c A Q ls C hr hk hP hS hl hQ
  exact w_M_X11_moves__0_4_0 C (fun _ => fw_rv C hr hk hQ) hf hP hS (lv_sub hl [0, 1, 2] rfl)
/-! ReactiveSheetModel.moves([IZ)V ['m', 'm.cause'] -/
abbrev rm_M_X11_moves__0_5 : Room := { frames := 0, cells := 0, slots := 0, locals := 0 }
def b_M_X11_moves__0_5_55  (t : fw_S)  : Option fw_S := some t
def b_M_X11_moves__0_5_39 (k2 : fw_S → Int32 → Int32 → Option fw_S) (t : fw_S) (x2 : Int32) (x3 : Int32) : Option fw_S := fb_l (up_I t 19 ((st_I t 19) + ((1 : Int32)))) fun t_1 => (k2 t_1 x2 (x3 + 1))
def b_M_X11_moves__0_5_27 (k2 : fw_S → Int32 → Int32 → Option fw_S) (t : fw_S) (x2 : Int32) (x3 : Int32) : Option fw_S := fb_g (¬ ((st_I t 19) < 0 ∨ 2000 ≤ (st_I t 19).toNatClampNeg)) (fb_g (¬ (x3 < 0 ∨ 32 ≤ x3.toNatClampNeg)) (fb_l (up_F t 4 (upd (st_F t 4) x3.toNatClampNeg (st_F t 39 (st_I t 19).toNatClampNeg))) fun t_1 => (b_M_X11_moves__0_5_39 k2 t_1 x2 x3)))
def b_M_X11_moves__0_5_12 (k2 : fw_S → Int32 → Int32 → Option fw_S) (t : fw_S) (x2 : Int32) (x3 : Int32) : Option fw_S := fb_g (¬ (x3 < 0 ∨ 32 ≤ x3.toNatClampNeg)) (fb_g (¬ ((st_I t 19) < 0 ∨ 2000 ≤ (st_I t 19).toNatClampNeg)) (fb_l (up_F t 39 (upd (st_F t 39) (st_I t 19).toNatClampNeg (st_F t 4 x3.toNatClampNeg))) fun t_1 => (b_M_X11_moves__0_5_39 k2 t_1 x2 x3)))
def b_M_X11_moves__0_5_8 (k2 : fw_S → Int32 → Int32 → Option fw_S) (t : fw_S) (x2 : Int32) (x3 : Int32) : Option fw_S := if x2 = 0 then b_M_X11_moves__0_5_27 k2 t x2 x3 else b_M_X11_moves__0_5_12 k2 t x2 x3
def b_M_X11_moves__0_5_2  : Nat → (fw_S → Int32 → Int32 → Option fw_S)
  | 0 => fun _ _ _ => none
  | n + 1 => fun t x2 x3 => if ((32 : Int32)) ≤ x3 then b_M_X11_moves__0_5_55 t else b_M_X11_moves__0_5_8 (b_M_X11_moves__0_5_2 n) t x2 x3
def b_M_X11_moves__0_5_0  (t : fw_S) (x2 : Int32) : Option fw_S := b_M_X11_moves__0_5_2 3000 t x2 ((0 : Int32))
def f_M_X11_moves__0_5 (t : fw_S) (x2 : Int32) : Option fw_S := b_M_X11_moves__0_5_0 t x2
set_option maxRecDepth 20000 in
theorem w_M_X11_moves__0_5_55 {p : Program} {l : Launch} {e : Env} {s : State} {m : MethodId} {args : Array Value} {below : List Frame} {meth : Method} {c : Code} {A : Nat → Prop} {Q : State → Prop} {D : va_G} {ca : Nat → ClassId} {a : Nat → Nat} {u : fw_S}  (C : CX (WM ca a) D (tyv ca) p s m args c A prog_13_method_88_code 4 RX11) (hr : True → RX (WM ca a) D p l e rm_M_X11_moves__0_5 s m args below meth c A prog_13_method_88_code Q .return_ [] u) {t : fw_S}  {H : Heap} {locs : List Loc} {ls : Array Slot} (hf : b_M_X11_moves__0_5_55  t  = some u) (hP : va_P D classes (WM ca a t) H) (hS : va_S A s.heap H locs) (hl : lv_has ls 4 []) : W p l e rm_M_X11_moves__0_5 s m args below meth c H locs 0 0 Q (F0 m 55 ls []) := by
  obtain ⟨hx, hb, hml, hown, hts, hN, hK, hD, hA⟩ := id C
  have hf : (some t) = some u := hf
  have e_55 := fb_ev hf
  subst e_55
  exact hr trivial _ _ _ _ hP hS dX11_moves_55
set_option maxRecDepth 20000 in
theorem w_M_X11_moves__0_5_39 {p : Program} {l : Launch} {e : Env} {s : State} {m : MethodId} {args : Array Value} {below : List Frame} {meth : Method} {c : Code} {A : Nat → Prop} {Q : State → Prop} {D : va_G} {ca : Nat → ClassId} {a : Nat → Nat} {u : fw_S} {k2 : fw_S → Int32 → Int32 → Option fw_S} (C : CX (WM ca a) D (tyv ca) p s m args c A prog_13_method_88_code 4 RX11) (hr : True → RX (WM ca a) D p l e rm_M_X11_moves__0_5 s m args below meth c A prog_13_method_88_code Q .return_ [] u) (hk2 : ∀ (t : fw_S) (x2 : Int32) (x3 : Int32) (H : Heap) (locs : List Loc) (ls : Array Slot), k2 t x2 x3 = some u → va_P D classes (WM ca a t) H → va_S A s.heap H locs → lv_has ls 4 [(0, .ref (a 0)), (1, .ref (a 5)), (2, .int x2), (3, .int x3)] → W p l e rm_M_X11_moves__0_5 s m args below meth c H locs 0 0 Q (F0 m 2 ls [])) {t : fw_S} {x2 : Int32} {x3 : Int32} {H : Heap} {locs : List Loc} {ls : Array Slot} (hf : b_M_X11_moves__0_5_39 k2 t x2 x3 = some u) (hP : va_P D classes (WM ca a t) H) (hS : va_S A s.heap H locs) (hl : lv_has ls 4 [(0, .ref (a 0)), (1, .ref (a 5)), (2, .int x2), (3, .int x3)]) : W p l e rm_M_X11_moves__0_5 s m args below meth c H locs 0 0 Q (F0 m 39 ls []) := by
  obtain ⟨hx, hb, hml, hown, hts, hN, hK, hD, hA⟩ := id C
  have hf : (fb_l (up_I t 19 ((st_I t 19) + ((1 : Int32)))) fun t_1 => (k2 t_1 x2 (x3 + 1))) = some u := hf
  refine lv_aload_n hx hb dX11_moves_39 rfl (lv_at hl 0 rfl) ?_
  refine lv_dup hx hb dX11_moves_40 rfl ?_
  refine va_get (D := D) (ci := 11) (v := .int (st_I t 19)) (C := RX11) (T := TX11) (N := 76) hx hb hts inX11 hown hK hP 0 (heM_0 ca a t) rfl 68 (by decide) (hts _ kw_1260) (fun _ h9 => h9) rfl dX11_moves_41 ?_
  refine lv_iconst (v := 1) hx hb dX11_moves_44 (by decide) ?_
  refine lv_iadd hx hb dX11_moves_45 ?_
  refine va_put (D := D) (ci := 11) (v := .int ((st_I t 19) + ((1 : Int32)))) (ty := .int) (C := RX11) (T := TX11) (N := 76) hx hb hts inX11 tyX11 tyX11_ok nmX11 hown hK hP (hD t) hS 0 (heM_0 ca a t) rfl 68 (by decide) (hts _ kw_1260) (fun _ h9 => h9) rfl (by decide +kernel) rfl rfl (Nat.le_of_ble_eq_true rfl) dX11_moves_46 (fun H locs hP _ hS => ?_)
  rw [suM_0_68] at hP
  obtain ⟨t_1, e_46, hf⟩ := fb_ls hf
  rw [← e_46] at hP
  refine lv_iinc (v := x3 + 1) (lv' := [(3, .int (x3 + 1)), (0, .ref (a 0)), (1, .ref (a 5)), (2, .int x2)]) hx hb dX11_moves_49 hl (k := 3) rfl rfl (by decide) rfl (fun ls hl => ?_)
  refine lv_goto (tgt := 2) hx hb dX11_moves_52 (by decide) ?_
  exact hk2 t_1 x2 (x3 + 1) _ _ _ hf hP hS (lv_sub hl [1, 2, 3, 0] rfl)
set_option maxRecDepth 20000 in
theorem w_M_X11_moves__0_5_27 {p : Program} {l : Launch} {e : Env} {s : State} {m : MethodId} {args : Array Value} {below : List Frame} {meth : Method} {c : Code} {A : Nat → Prop} {Q : State → Prop} {D : va_G} {ca : Nat → ClassId} {a : Nat → Nat} {u : fw_S} {k2 : fw_S → Int32 → Int32 → Option fw_S} (C : CX (WM ca a) D (tyv ca) p s m args c A prog_13_method_88_code 4 RX11) (hr : True → RX (WM ca a) D p l e rm_M_X11_moves__0_5 s m args below meth c A prog_13_method_88_code Q .return_ [] u) (hk2 : ∀ (t : fw_S) (x2 : Int32) (x3 : Int32) (H : Heap) (locs : List Loc) (ls : Array Slot), k2 t x2 x3 = some u → va_P D classes (WM ca a t) H → va_S A s.heap H locs → lv_has ls 4 [(0, .ref (a 0)), (1, .ref (a 5)), (2, .int x2), (3, .int x3)] → W p l e rm_M_X11_moves__0_5 s m args below meth c H locs 0 0 Q (F0 m 2 ls [])) {t : fw_S} {x2 : Int32} {x3 : Int32} {H : Heap} {locs : List Loc} {ls : Array Slot} (hf : b_M_X11_moves__0_5_27 k2 t x2 x3 = some u) (hP : va_P D classes (WM ca a t) H) (hS : va_S A s.heap H locs) (hl : lv_has ls 4 [(0, .ref (a 0)), (1, .ref (a 5)), (2, .int x2), (3, .int x3)]) : W p l e rm_M_X11_moves__0_5 s m args below meth c H locs 0 0 Q (F0 m 27 ls []) := by
  obtain ⟨hx, hb, hml, hown, hts, hN, hK, hD, hA⟩ := id C
  have hf : (fb_g (¬ ((st_I t 19) < 0 ∨ 2000 ≤ (st_I t 19).toNatClampNeg)) (fb_g (¬ (x3 < 0 ∨ 32 ≤ x3.toNatClampNeg)) (fb_l (up_F t 4 (upd (st_F t 4) x3.toNatClampNeg (st_F t 39 (st_I t 19).toNatClampNeg))) fun t_1 => (b_M_X11_moves__0_5_39 k2 t_1 x2 x3)))) = some u := hf
  refine lv_aload_n hx hb dX11_moves_27 rfl (lv_at hl 1 rfl) ?_
  refine lv_iload_n hx hb dX11_moves_28 rfl (lv_at hl 3 rfl) ?_
  refine lv_aload_n hx hb dX11_moves_29 rfl (lv_at hl 0 rfl) ?_
  refine va_get (D := D) (ci := 11) (v := .ref (a 48)) (C := RX11) (T := TX11) (N := 76) hx hb hts inX11 hown hK hP 0 (heM_0 ca a t) rfl 66 (by decide) (hts _ kw_1258) (fun _ h9 => h9) rfl dX11_moves_30 ?_
  refine lv_aload_n hx hb dX11_moves_33 rfl (lv_at hl 0 rfl) ?_
  refine va_get (D := D) (ci := 11) (v := .int (st_I t 19)) (C := RX11) (T := TX11) (N := 76) hx hb hts inX11 hown hK hP 0 (heM_0 ca a t) rfl 68 (by decide) (hts _ kw_1260) (fun _ h9 => h9) rfl dX11_moves_34 ?_
  obtain ⟨h_37, hf⟩ := fb_if hf
  refine va_iald hx hb hK hP 48 0 (haM_48 ca a t) rfl h_37 dX11_moves_37 ?_
  obtain ⟨h_38, hf⟩ := fb_if hf
  refine va_iast hx hb hK hP (hD t) hS 5 0 (haM_5 ca a t) rfl h_38 dX11_moves_38 (fun H locs hP _ hS => ?_)
  rw [saM_5] at hP
  obtain ⟨t_1, e_38, hf⟩ := fb_ls hf
  rw [← e_38] at hP
  exact w_M_X11_moves__0_5_39 C hr hk2 hf hP hS (lv_sub hl [0, 1, 2, 3] rfl)
set_option maxRecDepth 20000 in
theorem w_M_X11_moves__0_5_12 {p : Program} {l : Launch} {e : Env} {s : State} {m : MethodId} {args : Array Value} {below : List Frame} {meth : Method} {c : Code} {A : Nat → Prop} {Q : State → Prop} {D : va_G} {ca : Nat → ClassId} {a : Nat → Nat} {u : fw_S} {k2 : fw_S → Int32 → Int32 → Option fw_S} (C : CX (WM ca a) D (tyv ca) p s m args c A prog_13_method_88_code 4 RX11) (hr : True → RX (WM ca a) D p l e rm_M_X11_moves__0_5 s m args below meth c A prog_13_method_88_code Q .return_ [] u) (hk2 : ∀ (t : fw_S) (x2 : Int32) (x3 : Int32) (H : Heap) (locs : List Loc) (ls : Array Slot), k2 t x2 x3 = some u → va_P D classes (WM ca a t) H → va_S A s.heap H locs → lv_has ls 4 [(0, .ref (a 0)), (1, .ref (a 5)), (2, .int x2), (3, .int x3)] → W p l e rm_M_X11_moves__0_5 s m args below meth c H locs 0 0 Q (F0 m 2 ls [])) {t : fw_S} {x2 : Int32} {x3 : Int32} {H : Heap} {locs : List Loc} {ls : Array Slot} (hf : b_M_X11_moves__0_5_12 k2 t x2 x3 = some u) (hP : va_P D classes (WM ca a t) H) (hS : va_S A s.heap H locs) (hl : lv_has ls 4 [(0, .ref (a 0)), (1, .ref (a 5)), (2, .int x2), (3, .int x3)]) : W p l e rm_M_X11_moves__0_5 s m args below meth c H locs 0 0 Q (F0 m 12 ls []) := by
  obtain ⟨hx, hb, hml, hown, hts, hN, hK, hD, hA⟩ := id C
  have hf : (fb_g (¬ (x3 < 0 ∨ 32 ≤ x3.toNatClampNeg)) (fb_g (¬ ((st_I t 19) < 0 ∨ 2000 ≤ (st_I t 19).toNatClampNeg)) (fb_l (up_F t 39 (upd (st_F t 39) (st_I t 19).toNatClampNeg (st_F t 4 x3.toNatClampNeg))) fun t_1 => (b_M_X11_moves__0_5_39 k2 t_1 x2 x3)))) = some u := hf
  refine lv_aload_n hx hb dX11_moves_12 rfl (lv_at hl 0 rfl) ?_
  refine va_get (D := D) (ci := 11) (v := .ref (a 48)) (C := RX11) (T := TX11) (N := 76) hx hb hts inX11 hown hK hP 0 (heM_0 ca a t) rfl 66 (by decide) (hts _ kw_1258) (fun _ h9 => h9) rfl dX11_moves_13 ?_
  refine lv_aload_n hx hb dX11_moves_16 rfl (lv_at hl 0 rfl) ?_
  refine va_get (D := D) (ci := 11) (v := .int (st_I t 19)) (C := RX11) (T := TX11) (N := 76) hx hb hts inX11 hown hK hP 0 (heM_0 ca a t) rfl 68 (by decide) (hts _ kw_1260) (fun _ h9 => h9) rfl dX11_moves_17 ?_
  refine lv_aload_n hx hb dX11_moves_20 rfl (lv_at hl 1 rfl) ?_
  refine lv_iload_n hx hb dX11_moves_21 rfl (lv_at hl 3 rfl) ?_
  obtain ⟨h_22, hf⟩ := fb_if hf
  refine va_iald hx hb hK hP 5 0 (haM_5 ca a t) rfl h_22 dX11_moves_22 ?_
  obtain ⟨h_23, hf⟩ := fb_if hf
  refine va_iast hx hb hK hP (hD t) hS 48 0 (haM_48 ca a t) rfl h_23 dX11_moves_23 (fun H locs hP _ hS => ?_)
  rw [saM_48] at hP
  obtain ⟨t_1, e_23, hf⟩ := fb_ls hf
  rw [← e_23] at hP
  refine lv_goto (tgt := 39) hx hb dX11_moves_24 (by decide) ?_
  exact w_M_X11_moves__0_5_39 C hr hk2 hf hP hS (lv_sub hl [0, 1, 2, 3] rfl)
set_option maxRecDepth 20000 in
theorem w_M_X11_moves__0_5_8 {p : Program} {l : Launch} {e : Env} {s : State} {m : MethodId} {args : Array Value} {below : List Frame} {meth : Method} {c : Code} {A : Nat → Prop} {Q : State → Prop} {D : va_G} {ca : Nat → ClassId} {a : Nat → Nat} {u : fw_S} {k2 : fw_S → Int32 → Int32 → Option fw_S} (C : CX (WM ca a) D (tyv ca) p s m args c A prog_13_method_88_code 4 RX11) (hr : True → RX (WM ca a) D p l e rm_M_X11_moves__0_5 s m args below meth c A prog_13_method_88_code Q .return_ [] u) (hk2 : ∀ (t : fw_S) (x2 : Int32) (x3 : Int32) (H : Heap) (locs : List Loc) (ls : Array Slot), k2 t x2 x3 = some u → va_P D classes (WM ca a t) H → va_S A s.heap H locs → lv_has ls 4 [(0, .ref (a 0)), (1, .ref (a 5)), (2, .int x2), (3, .int x3)] → W p l e rm_M_X11_moves__0_5 s m args below meth c H locs 0 0 Q (F0 m 2 ls [])) {t : fw_S} {x2 : Int32} {x3 : Int32} {H : Heap} {locs : List Loc} {ls : Array Slot} (hf : b_M_X11_moves__0_5_8 k2 t x2 x3 = some u) (hP : va_P D classes (WM ca a t) H) (hS : va_S A s.heap H locs) (hl : lv_has ls 4 [(0, .ref (a 0)), (1, .ref (a 5)), (2, .int x2), (3, .int x3)]) : W p l e rm_M_X11_moves__0_5 s m args below meth c H locs 0 0 Q (F0 m 8 ls []) := by
  obtain ⟨hx, hb, hml, hown, hts, hN, hK, hD, hA⟩ := id C
  have hf : (if x2 = 0 then b_M_X11_moves__0_5_27 k2 t x2 x3 else b_M_X11_moves__0_5_12 k2 t x2 x3) = some u := hf
  refine lv_iload_n hx hb dX11_moves_8 rfl (lv_at hl 2 rfl) ?_
  refine lv_if_eq (tgt := 27) hx hb dX11_moves_9 (by decide) (fun h_9 => ?_) (fun h_9 => ?_)
  · have hf := fb_t h_9 hf
    exact w_M_X11_moves__0_5_27 C hr hk2 hf hP hS (lv_sub hl [0, 1, 2, 3] rfl)
  · have hf := fb_f h_9 hf
    exact w_M_X11_moves__0_5_12 C hr hk2 hf hP hS (lv_sub hl [0, 1, 2, 3] rfl)
set_option maxRecDepth 20000 in
theorem w_M_X11_moves__0_5_2 {p : Program} {l : Launch} {e : Env} {s : State} {m : MethodId} {args : Array Value} {below : List Frame} {meth : Method} {c : Code} {A : Nat → Prop} {Q : State → Prop} {D : va_G} {ca : Nat → ClassId} {a : Nat → Nat} {u : fw_S}  (C : CX (WM ca a) D (tyv ca) p s m args c A prog_13_method_88_code 4 RX11) (hr : True → RX (WM ca a) D p l e rm_M_X11_moves__0_5 s m args below meth c A prog_13_method_88_code Q .return_ [] u) : ∀ (n : Nat) (t : fw_S) (x2 : Int32) (x3 : Int32) (H : Heap) (locs : List Loc) (ls : Array Slot), b_M_X11_moves__0_5_2  n t x2 x3 = some u → va_P D classes (WM ca a t) H → va_S A s.heap H locs → lv_has ls 4 [(0, .ref (a 0)), (1, .ref (a 5)), (2, .int x2), (3, .int x3)] → W p l e rm_M_X11_moves__0_5 s m args below meth c H locs 0 0 Q (F0 m 2 ls []) := by
  obtain ⟨hx, hb, hml, hown, hts, hN, hK, hD, hA⟩ := id C
  intro n
  induction n with
  | zero => intro t x2 x3 H locs ls hf; cases hf
  | succ n hk2 =>
    intro t x2 x3 H locs ls hf hP hS hl
    have hf : (if ((32 : Int32)) ≤ x3 then b_M_X11_moves__0_5_55 t else b_M_X11_moves__0_5_8 (b_M_X11_moves__0_5_2 n) t x2 x3) = some u := hf
    refine lv_iload_n hx hb dX11_moves_2 rfl (lv_at hl 3 rfl) ?_
    refine lv_aload_n hx hb dX11_moves_3 rfl (lv_at hl 1 rfl) ?_
    refine va_alen (v := 32) hx hb hK hP 5 0 (haM_5 ca a t) rfl rfl dX11_moves_4 ?_
    refine lv_icmp_ge (tgt := 55) hx hb dX11_moves_5 (by decide) (fun h_5 => ?_) (fun h_5 => ?_)
    · have hf := fb_t h_5 hf
      exact w_M_X11_moves__0_5_55 C hr hf hP hS (lv_sub hl [] rfl)
    · have hf := fb_f h_5 hf
      exact w_M_X11_moves__0_5_8 C hr hk2 hf hP hS (lv_sub hl [0, 1, 2, 3] rfl)
set_option maxRecDepth 20000 in
theorem w_M_X11_moves__0_5_0 {p : Program} {l : Launch} {e : Env} {s : State} {m : MethodId} {args : Array Value} {below : List Frame} {meth : Method} {c : Code} {A : Nat → Prop} {Q : State → Prop} {D : va_G} {ca : Nat → ClassId} {a : Nat → Nat} {u : fw_S}  (C : CX (WM ca a) D (tyv ca) p s m args c A prog_13_method_88_code 4 RX11) (hr : True → RX (WM ca a) D p l e rm_M_X11_moves__0_5 s m args below meth c A prog_13_method_88_code Q .return_ [] u) {t : fw_S} {x2 : Int32} {H : Heap} {locs : List Loc} {ls : Array Slot} (hf : b_M_X11_moves__0_5_0  t x2 = some u) (hP : va_P D classes (WM ca a t) H) (hS : va_S A s.heap H locs) (hl : lv_has ls 4 [(0, .ref (a 0)), (1, .ref (a 5)), (2, .int x2)]) : W p l e rm_M_X11_moves__0_5 s m args below meth c H locs 0 0 Q (F0 m 0 ls []) := by
  obtain ⟨hx, hb, hml, hown, hts, hN, hK, hD, hA⟩ := id C
  have hf : (b_M_X11_moves__0_5_2 3000 t x2 ((0 : Int32))) = some u := hf
  refine lv_iconst (v := 0) hx hb dX11_moves_0 (by decide) ?_
  refine lv_istore_n (lv' := [(3, .int ((0 : Int32))), (0, .ref (a 0)), (1, .ref (a 5)), (2, .int x2)]) hx hb dX11_moves_1 rfl hl (by decide) rfl (fun ls hl => ?_)
  exact w_M_X11_moves__0_5_2 C hr 3000 t x2 ((0 : Int32)) _ _ _ hf hP hS (lv_sub hl [1, 2, 3, 0] rfl)
set_option maxRecDepth 20000 in
theorem c_M_X11_moves__0_5 {l : Launch} {D : va_G} {ca : Nat → ClassId} {a : Nat → Nat} {t : fw_S} {x2 : Int32} {u : fw_S} (hf : f_M_X11_moves__0_5 t x2 = some u) : MC (WM ca a) D (tyv ca) l yX11_moves (.code yX11_moves prog_13_method_88_code 4 none :: lw_gd) rm_M_X11_moves__0_5 [.ref (a 0), .ref (a 5), .int x2] none t u := by
  refine fw_met (okM ca a) (by decide +kernel) rfl rfl (Nat.le_of_ble_eq_true rfl) ?_
  intro p e s m args below meth c A Q ls C hr hk hP hS hl hQ
  exact w_M_X11_moves__0_5_0 C (fun _ => fw_rv C hr hk hQ) hf hP hS (lv_sub hl [0, 1, 2] rfl)
/-! ReactiveSheetModel.moves([IZ)V ['m', 'm.root'] -/
abbrev rm_M_X11_moves__0_6 : Room := { frames := 0, cells := 0, slots := 0, locals := 0 }
def b_M_X11_moves__0_6_55  (t : fw_S)  : Option fw_S := some t
def b_M_X11_moves__0_6_39 (k2 : fw_S → Int32 → Int32 → Option fw_S) (t : fw_S) (x2 : Int32) (x3 : Int32) : Option fw_S := fb_l (up_I t 19 ((st_I t 19) + ((1 : Int32)))) fun t_1 => (k2 t_1 x2 (x3 + 1))
def b_M_X11_moves__0_6_27 (k2 : fw_S → Int32 → Int32 → Option fw_S) (t : fw_S) (x2 : Int32) (x3 : Int32) : Option fw_S := fb_g (¬ ((st_I t 19) < 0 ∨ 2000 ≤ (st_I t 19).toNatClampNeg)) (fb_g (¬ (x3 < 0 ∨ 32 ≤ x3.toNatClampNeg)) (fb_l (up_F t 5 (upd (st_F t 5) x3.toNatClampNeg (st_F t 39 (st_I t 19).toNatClampNeg))) fun t_1 => (b_M_X11_moves__0_6_39 k2 t_1 x2 x3)))
def b_M_X11_moves__0_6_12 (k2 : fw_S → Int32 → Int32 → Option fw_S) (t : fw_S) (x2 : Int32) (x3 : Int32) : Option fw_S := fb_g (¬ (x3 < 0 ∨ 32 ≤ x3.toNatClampNeg)) (fb_g (¬ ((st_I t 19) < 0 ∨ 2000 ≤ (st_I t 19).toNatClampNeg)) (fb_l (up_F t 39 (upd (st_F t 39) (st_I t 19).toNatClampNeg (st_F t 5 x3.toNatClampNeg))) fun t_1 => (b_M_X11_moves__0_6_39 k2 t_1 x2 x3)))
def b_M_X11_moves__0_6_8 (k2 : fw_S → Int32 → Int32 → Option fw_S) (t : fw_S) (x2 : Int32) (x3 : Int32) : Option fw_S := if x2 = 0 then b_M_X11_moves__0_6_27 k2 t x2 x3 else b_M_X11_moves__0_6_12 k2 t x2 x3
def b_M_X11_moves__0_6_2  : Nat → (fw_S → Int32 → Int32 → Option fw_S)
  | 0 => fun _ _ _ => none
  | n + 1 => fun t x2 x3 => if ((32 : Int32)) ≤ x3 then b_M_X11_moves__0_6_55 t else b_M_X11_moves__0_6_8 (b_M_X11_moves__0_6_2 n) t x2 x3
def b_M_X11_moves__0_6_0  (t : fw_S) (x2 : Int32) : Option fw_S := b_M_X11_moves__0_6_2 3000 t x2 ((0 : Int32))
def f_M_X11_moves__0_6 (t : fw_S) (x2 : Int32) : Option fw_S := b_M_X11_moves__0_6_0 t x2
set_option maxRecDepth 20000 in
theorem w_M_X11_moves__0_6_55 {p : Program} {l : Launch} {e : Env} {s : State} {m : MethodId} {args : Array Value} {below : List Frame} {meth : Method} {c : Code} {A : Nat → Prop} {Q : State → Prop} {D : va_G} {ca : Nat → ClassId} {a : Nat → Nat} {u : fw_S}  (C : CX (WM ca a) D (tyv ca) p s m args c A prog_13_method_88_code 4 RX11) (hr : True → RX (WM ca a) D p l e rm_M_X11_moves__0_6 s m args below meth c A prog_13_method_88_code Q .return_ [] u) {t : fw_S}  {H : Heap} {locs : List Loc} {ls : Array Slot} (hf : b_M_X11_moves__0_6_55  t  = some u) (hP : va_P D classes (WM ca a t) H) (hS : va_S A s.heap H locs) (hl : lv_has ls 4 []) : W p l e rm_M_X11_moves__0_6 s m args below meth c H locs 0 0 Q (F0 m 55 ls []) := by
  obtain ⟨hx, hb, hml, hown, hts, hN, hK, hD, hA⟩ := id C
  have hf : (some t) = some u := hf
  have e_55 := fb_ev hf
  subst e_55
  exact hr trivial _ _ _ _ hP hS dX11_moves_55
set_option maxRecDepth 20000 in
theorem w_M_X11_moves__0_6_39 {p : Program} {l : Launch} {e : Env} {s : State} {m : MethodId} {args : Array Value} {below : List Frame} {meth : Method} {c : Code} {A : Nat → Prop} {Q : State → Prop} {D : va_G} {ca : Nat → ClassId} {a : Nat → Nat} {u : fw_S} {k2 : fw_S → Int32 → Int32 → Option fw_S} (C : CX (WM ca a) D (tyv ca) p s m args c A prog_13_method_88_code 4 RX11) (hr : True → RX (WM ca a) D p l e rm_M_X11_moves__0_6 s m args below meth c A prog_13_method_88_code Q .return_ [] u) (hk2 : ∀ (t : fw_S) (x2 : Int32) (x3 : Int32) (H : Heap) (locs : List Loc) (ls : Array Slot), k2 t x2 x3 = some u → va_P D classes (WM ca a t) H → va_S A s.heap H locs → lv_has ls 4 [(0, .ref (a 0)), (1, .ref (a 6)), (2, .int x2), (3, .int x3)] → W p l e rm_M_X11_moves__0_6 s m args below meth c H locs 0 0 Q (F0 m 2 ls [])) {t : fw_S} {x2 : Int32} {x3 : Int32} {H : Heap} {locs : List Loc} {ls : Array Slot} (hf : b_M_X11_moves__0_6_39 k2 t x2 x3 = some u) (hP : va_P D classes (WM ca a t) H) (hS : va_S A s.heap H locs) (hl : lv_has ls 4 [(0, .ref (a 0)), (1, .ref (a 6)), (2, .int x2), (3, .int x3)]) : W p l e rm_M_X11_moves__0_6 s m args below meth c H locs 0 0 Q (F0 m 39 ls []) := by
  obtain ⟨hx, hb, hml, hown, hts, hN, hK, hD, hA⟩ := id C
  have hf : (fb_l (up_I t 19 ((st_I t 19) + ((1 : Int32)))) fun t_1 => (k2 t_1 x2 (x3 + 1))) = some u := hf
  refine lv_aload_n hx hb dX11_moves_39 rfl (lv_at hl 0 rfl) ?_
  refine lv_dup hx hb dX11_moves_40 rfl ?_
  refine va_get (D := D) (ci := 11) (v := .int (st_I t 19)) (C := RX11) (T := TX11) (N := 76) hx hb hts inX11 hown hK hP 0 (heM_0 ca a t) rfl 68 (by decide) (hts _ kw_1260) (fun _ h9 => h9) rfl dX11_moves_41 ?_
  refine lv_iconst (v := 1) hx hb dX11_moves_44 (by decide) ?_
  refine lv_iadd hx hb dX11_moves_45 ?_
  refine va_put (D := D) (ci := 11) (v := .int ((st_I t 19) + ((1 : Int32)))) (ty := .int) (C := RX11) (T := TX11) (N := 76) hx hb hts inX11 tyX11 tyX11_ok nmX11 hown hK hP (hD t) hS 0 (heM_0 ca a t) rfl 68 (by decide) (hts _ kw_1260) (fun _ h9 => h9) rfl (by decide +kernel) rfl rfl (Nat.le_of_ble_eq_true rfl) dX11_moves_46 (fun H locs hP _ hS => ?_)
  rw [suM_0_68] at hP
  obtain ⟨t_1, e_46, hf⟩ := fb_ls hf
  rw [← e_46] at hP
  refine lv_iinc (v := x3 + 1) (lv' := [(3, .int (x3 + 1)), (0, .ref (a 0)), (1, .ref (a 6)), (2, .int x2)]) hx hb dX11_moves_49 hl (k := 3) rfl rfl (by decide) rfl (fun ls hl => ?_)
  refine lv_goto (tgt := 2) hx hb dX11_moves_52 (by decide) ?_
  exact hk2 t_1 x2 (x3 + 1) _ _ _ hf hP hS (lv_sub hl [1, 2, 3, 0] rfl)
set_option maxRecDepth 20000 in
theorem w_M_X11_moves__0_6_27 {p : Program} {l : Launch} {e : Env} {s : State} {m : MethodId} {args : Array Value} {below : List Frame} {meth : Method} {c : Code} {A : Nat → Prop} {Q : State → Prop} {D : va_G} {ca : Nat → ClassId} {a : Nat → Nat} {u : fw_S} {k2 : fw_S → Int32 → Int32 → Option fw_S} (C : CX (WM ca a) D (tyv ca) p s m args c A prog_13_method_88_code 4 RX11) (hr : True → RX (WM ca a) D p l e rm_M_X11_moves__0_6 s m args below meth c A prog_13_method_88_code Q .return_ [] u) (hk2 : ∀ (t : fw_S) (x2 : Int32) (x3 : Int32) (H : Heap) (locs : List Loc) (ls : Array Slot), k2 t x2 x3 = some u → va_P D classes (WM ca a t) H → va_S A s.heap H locs → lv_has ls 4 [(0, .ref (a 0)), (1, .ref (a 6)), (2, .int x2), (3, .int x3)] → W p l e rm_M_X11_moves__0_6 s m args below meth c H locs 0 0 Q (F0 m 2 ls [])) {t : fw_S} {x2 : Int32} {x3 : Int32} {H : Heap} {locs : List Loc} {ls : Array Slot} (hf : b_M_X11_moves__0_6_27 k2 t x2 x3 = some u) (hP : va_P D classes (WM ca a t) H) (hS : va_S A s.heap H locs) (hl : lv_has ls 4 [(0, .ref (a 0)), (1, .ref (a 6)), (2, .int x2), (3, .int x3)]) : W p l e rm_M_X11_moves__0_6 s m args below meth c H locs 0 0 Q (F0 m 27 ls []) := by
  obtain ⟨hx, hb, hml, hown, hts, hN, hK, hD, hA⟩ := id C
  have hf : (fb_g (¬ ((st_I t 19) < 0 ∨ 2000 ≤ (st_I t 19).toNatClampNeg)) (fb_g (¬ (x3 < 0 ∨ 32 ≤ x3.toNatClampNeg)) (fb_l (up_F t 5 (upd (st_F t 5) x3.toNatClampNeg (st_F t 39 (st_I t 19).toNatClampNeg))) fun t_1 => (b_M_X11_moves__0_6_39 k2 t_1 x2 x3)))) = some u := hf
  refine lv_aload_n hx hb dX11_moves_27 rfl (lv_at hl 1 rfl) ?_
  refine lv_iload_n hx hb dX11_moves_28 rfl (lv_at hl 3 rfl) ?_
  refine lv_aload_n hx hb dX11_moves_29 rfl (lv_at hl 0 rfl) ?_
  refine va_get (D := D) (ci := 11) (v := .ref (a 48)) (C := RX11) (T := TX11) (N := 76) hx hb hts inX11 hown hK hP 0 (heM_0 ca a t) rfl 66 (by decide) (hts _ kw_1258) (fun _ h9 => h9) rfl dX11_moves_30 ?_
  refine lv_aload_n hx hb dX11_moves_33 rfl (lv_at hl 0 rfl) ?_
  refine va_get (D := D) (ci := 11) (v := .int (st_I t 19)) (C := RX11) (T := TX11) (N := 76) hx hb hts inX11 hown hK hP 0 (heM_0 ca a t) rfl 68 (by decide) (hts _ kw_1260) (fun _ h9 => h9) rfl dX11_moves_34 ?_
  obtain ⟨h_37, hf⟩ := fb_if hf
  refine va_iald hx hb hK hP 48 0 (haM_48 ca a t) rfl h_37 dX11_moves_37 ?_
  obtain ⟨h_38, hf⟩ := fb_if hf
  refine va_iast hx hb hK hP (hD t) hS 6 0 (haM_6 ca a t) rfl h_38 dX11_moves_38 (fun H locs hP _ hS => ?_)
  rw [saM_6] at hP
  obtain ⟨t_1, e_38, hf⟩ := fb_ls hf
  rw [← e_38] at hP
  exact w_M_X11_moves__0_6_39 C hr hk2 hf hP hS (lv_sub hl [0, 1, 2, 3] rfl)
set_option maxRecDepth 20000 in
theorem w_M_X11_moves__0_6_12 {p : Program} {l : Launch} {e : Env} {s : State} {m : MethodId} {args : Array Value} {below : List Frame} {meth : Method} {c : Code} {A : Nat → Prop} {Q : State → Prop} {D : va_G} {ca : Nat → ClassId} {a : Nat → Nat} {u : fw_S} {k2 : fw_S → Int32 → Int32 → Option fw_S} (C : CX (WM ca a) D (tyv ca) p s m args c A prog_13_method_88_code 4 RX11) (hr : True → RX (WM ca a) D p l e rm_M_X11_moves__0_6 s m args below meth c A prog_13_method_88_code Q .return_ [] u) (hk2 : ∀ (t : fw_S) (x2 : Int32) (x3 : Int32) (H : Heap) (locs : List Loc) (ls : Array Slot), k2 t x2 x3 = some u → va_P D classes (WM ca a t) H → va_S A s.heap H locs → lv_has ls 4 [(0, .ref (a 0)), (1, .ref (a 6)), (2, .int x2), (3, .int x3)] → W p l e rm_M_X11_moves__0_6 s m args below meth c H locs 0 0 Q (F0 m 2 ls [])) {t : fw_S} {x2 : Int32} {x3 : Int32} {H : Heap} {locs : List Loc} {ls : Array Slot} (hf : b_M_X11_moves__0_6_12 k2 t x2 x3 = some u) (hP : va_P D classes (WM ca a t) H) (hS : va_S A s.heap H locs) (hl : lv_has ls 4 [(0, .ref (a 0)), (1, .ref (a 6)), (2, .int x2), (3, .int x3)]) : W p l e rm_M_X11_moves__0_6 s m args below meth c H locs 0 0 Q (F0 m 12 ls []) := by
  obtain ⟨hx, hb, hml, hown, hts, hN, hK, hD, hA⟩ := id C
  have hf : (fb_g (¬ (x3 < 0 ∨ 32 ≤ x3.toNatClampNeg)) (fb_g (¬ ((st_I t 19) < 0 ∨ 2000 ≤ (st_I t 19).toNatClampNeg)) (fb_l (up_F t 39 (upd (st_F t 39) (st_I t 19).toNatClampNeg (st_F t 5 x3.toNatClampNeg))) fun t_1 => (b_M_X11_moves__0_6_39 k2 t_1 x2 x3)))) = some u := hf
  refine lv_aload_n hx hb dX11_moves_12 rfl (lv_at hl 0 rfl) ?_
  refine va_get (D := D) (ci := 11) (v := .ref (a 48)) (C := RX11) (T := TX11) (N := 76) hx hb hts inX11 hown hK hP 0 (heM_0 ca a t) rfl 66 (by decide) (hts _ kw_1258) (fun _ h9 => h9) rfl dX11_moves_13 ?_
  refine lv_aload_n hx hb dX11_moves_16 rfl (lv_at hl 0 rfl) ?_
  refine va_get (D := D) (ci := 11) (v := .int (st_I t 19)) (C := RX11) (T := TX11) (N := 76) hx hb hts inX11 hown hK hP 0 (heM_0 ca a t) rfl 68 (by decide) (hts _ kw_1260) (fun _ h9 => h9) rfl dX11_moves_17 ?_
  refine lv_aload_n hx hb dX11_moves_20 rfl (lv_at hl 1 rfl) ?_
  refine lv_iload_n hx hb dX11_moves_21 rfl (lv_at hl 3 rfl) ?_
  obtain ⟨h_22, hf⟩ := fb_if hf
  refine va_iald hx hb hK hP 6 0 (haM_6 ca a t) rfl h_22 dX11_moves_22 ?_
  obtain ⟨h_23, hf⟩ := fb_if hf
  refine va_iast hx hb hK hP (hD t) hS 48 0 (haM_48 ca a t) rfl h_23 dX11_moves_23 (fun H locs hP _ hS => ?_)
  rw [saM_48] at hP
  obtain ⟨t_1, e_23, hf⟩ := fb_ls hf
  rw [← e_23] at hP
  refine lv_goto (tgt := 39) hx hb dX11_moves_24 (by decide) ?_
  exact w_M_X11_moves__0_6_39 C hr hk2 hf hP hS (lv_sub hl [0, 1, 2, 3] rfl)
set_option maxRecDepth 20000 in
theorem w_M_X11_moves__0_6_8 {p : Program} {l : Launch} {e : Env} {s : State} {m : MethodId} {args : Array Value} {below : List Frame} {meth : Method} {c : Code} {A : Nat → Prop} {Q : State → Prop} {D : va_G} {ca : Nat → ClassId} {a : Nat → Nat} {u : fw_S} {k2 : fw_S → Int32 → Int32 → Option fw_S} (C : CX (WM ca a) D (tyv ca) p s m args c A prog_13_method_88_code 4 RX11) (hr : True → RX (WM ca a) D p l e rm_M_X11_moves__0_6 s m args below meth c A prog_13_method_88_code Q .return_ [] u) (hk2 : ∀ (t : fw_S) (x2 : Int32) (x3 : Int32) (H : Heap) (locs : List Loc) (ls : Array Slot), k2 t x2 x3 = some u → va_P D classes (WM ca a t) H → va_S A s.heap H locs → lv_has ls 4 [(0, .ref (a 0)), (1, .ref (a 6)), (2, .int x2), (3, .int x3)] → W p l e rm_M_X11_moves__0_6 s m args below meth c H locs 0 0 Q (F0 m 2 ls [])) {t : fw_S} {x2 : Int32} {x3 : Int32} {H : Heap} {locs : List Loc} {ls : Array Slot} (hf : b_M_X11_moves__0_6_8 k2 t x2 x3 = some u) (hP : va_P D classes (WM ca a t) H) (hS : va_S A s.heap H locs) (hl : lv_has ls 4 [(0, .ref (a 0)), (1, .ref (a 6)), (2, .int x2), (3, .int x3)]) : W p l e rm_M_X11_moves__0_6 s m args below meth c H locs 0 0 Q (F0 m 8 ls []) := by
  obtain ⟨hx, hb, hml, hown, hts, hN, hK, hD, hA⟩ := id C
  have hf : (if x2 = 0 then b_M_X11_moves__0_6_27 k2 t x2 x3 else b_M_X11_moves__0_6_12 k2 t x2 x3) = some u := hf
  refine lv_iload_n hx hb dX11_moves_8 rfl (lv_at hl 2 rfl) ?_
  refine lv_if_eq (tgt := 27) hx hb dX11_moves_9 (by decide) (fun h_9 => ?_) (fun h_9 => ?_)
  · have hf := fb_t h_9 hf
    exact w_M_X11_moves__0_6_27 C hr hk2 hf hP hS (lv_sub hl [0, 1, 2, 3] rfl)
  · have hf := fb_f h_9 hf
    exact w_M_X11_moves__0_6_12 C hr hk2 hf hP hS (lv_sub hl [0, 1, 2, 3] rfl)
set_option maxRecDepth 20000 in
theorem w_M_X11_moves__0_6_2 {p : Program} {l : Launch} {e : Env} {s : State} {m : MethodId} {args : Array Value} {below : List Frame} {meth : Method} {c : Code} {A : Nat → Prop} {Q : State → Prop} {D : va_G} {ca : Nat → ClassId} {a : Nat → Nat} {u : fw_S}  (C : CX (WM ca a) D (tyv ca) p s m args c A prog_13_method_88_code 4 RX11) (hr : True → RX (WM ca a) D p l e rm_M_X11_moves__0_6 s m args below meth c A prog_13_method_88_code Q .return_ [] u) : ∀ (n : Nat) (t : fw_S) (x2 : Int32) (x3 : Int32) (H : Heap) (locs : List Loc) (ls : Array Slot), b_M_X11_moves__0_6_2  n t x2 x3 = some u → va_P D classes (WM ca a t) H → va_S A s.heap H locs → lv_has ls 4 [(0, .ref (a 0)), (1, .ref (a 6)), (2, .int x2), (3, .int x3)] → W p l e rm_M_X11_moves__0_6 s m args below meth c H locs 0 0 Q (F0 m 2 ls []) := by
  obtain ⟨hx, hb, hml, hown, hts, hN, hK, hD, hA⟩ := id C
  intro n
  induction n with
  | zero => intro t x2 x3 H locs ls hf; cases hf
  | succ n hk2 =>
    intro t x2 x3 H locs ls hf hP hS hl
    have hf : (if ((32 : Int32)) ≤ x3 then b_M_X11_moves__0_6_55 t else b_M_X11_moves__0_6_8 (b_M_X11_moves__0_6_2 n) t x2 x3) = some u := hf
    refine lv_iload_n hx hb dX11_moves_2 rfl (lv_at hl 3 rfl) ?_
    refine lv_aload_n hx hb dX11_moves_3 rfl (lv_at hl 1 rfl) ?_
    refine va_alen (v := 32) hx hb hK hP 6 0 (haM_6 ca a t) rfl rfl dX11_moves_4 ?_
    refine lv_icmp_ge (tgt := 55) hx hb dX11_moves_5 (by decide) (fun h_5 => ?_) (fun h_5 => ?_)
    · have hf := fb_t h_5 hf
      exact w_M_X11_moves__0_6_55 C hr hf hP hS (lv_sub hl [] rfl)
    · have hf := fb_f h_5 hf
      exact w_M_X11_moves__0_6_8 C hr hk2 hf hP hS (lv_sub hl [0, 1, 2, 3] rfl)
set_option maxRecDepth 20000 in
theorem w_M_X11_moves__0_6_0 {p : Program} {l : Launch} {e : Env} {s : State} {m : MethodId} {args : Array Value} {below : List Frame} {meth : Method} {c : Code} {A : Nat → Prop} {Q : State → Prop} {D : va_G} {ca : Nat → ClassId} {a : Nat → Nat} {u : fw_S}  (C : CX (WM ca a) D (tyv ca) p s m args c A prog_13_method_88_code 4 RX11) (hr : True → RX (WM ca a) D p l e rm_M_X11_moves__0_6 s m args below meth c A prog_13_method_88_code Q .return_ [] u) {t : fw_S} {x2 : Int32} {H : Heap} {locs : List Loc} {ls : Array Slot} (hf : b_M_X11_moves__0_6_0  t x2 = some u) (hP : va_P D classes (WM ca a t) H) (hS : va_S A s.heap H locs) (hl : lv_has ls 4 [(0, .ref (a 0)), (1, .ref (a 6)), (2, .int x2)]) : W p l e rm_M_X11_moves__0_6 s m args below meth c H locs 0 0 Q (F0 m 0 ls []) := by
  obtain ⟨hx, hb, hml, hown, hts, hN, hK, hD, hA⟩ := id C
  have hf : (b_M_X11_moves__0_6_2 3000 t x2 ((0 : Int32))) = some u := hf
  refine lv_iconst (v := 0) hx hb dX11_moves_0 (by decide) ?_
  refine lv_istore_n (lv' := [(3, .int ((0 : Int32))), (0, .ref (a 0)), (1, .ref (a 6)), (2, .int x2)]) hx hb dX11_moves_1 rfl hl (by decide) rfl (fun ls hl => ?_)
  exact w_M_X11_moves__0_6_2 C hr 3000 t x2 ((0 : Int32)) _ _ _ hf hP hS (lv_sub hl [1, 2, 3, 0] rfl)
set_option maxRecDepth 20000 in
theorem c_M_X11_moves__0_6 {l : Launch} {D : va_G} {ca : Nat → ClassId} {a : Nat → Nat} {t : fw_S} {x2 : Int32} {u : fw_S} (hf : f_M_X11_moves__0_6 t x2 = some u) : MC (WM ca a) D (tyv ca) l yX11_moves (.code yX11_moves prog_13_method_88_code 4 none :: lw_gd) rm_M_X11_moves__0_6 [.ref (a 0), .ref (a 6), .int x2] none t u := by
  refine fw_met (okM ca a) (by decide +kernel) rfl rfl (Nat.le_of_ble_eq_true rfl) ?_
  intro p e s m args below meth c A Q ls C hr hk hP hS hl hQ
  exact w_M_X11_moves__0_6_0 C (fun _ => fw_rv C hr hk hQ) hf hP hS (lv_sub hl [0, 1, 2] rfl)
/-! ReactiveSheetModel.moves([IZ)V ['m', 'm.reads'] -/
abbrev rm_M_X11_moves__0_8 : Room := { frames := 0, cells := 0, slots := 0, locals := 0 }
def b_M_X11_moves__0_8_55  (t : fw_S)  : Option fw_S := some t
def b_M_X11_moves__0_8_39 (k2 : fw_S → Int32 → Int32 → Option fw_S) (t : fw_S) (x2 : Int32) (x3 : Int32) : Option fw_S := fb_l (up_I t 19 ((st_I t 19) + ((1 : Int32)))) fun t_1 => (k2 t_1 x2 (x3 + 1))
def b_M_X11_moves__0_8_27 (k2 : fw_S → Int32 → Int32 → Option fw_S) (t : fw_S) (x2 : Int32) (x3 : Int32) : Option fw_S := fb_g (¬ ((st_I t 19) < 0 ∨ 2000 ≤ (st_I t 19).toNatClampNeg)) (fb_g (¬ (x3 < 0 ∨ 1024 ≤ x3.toNatClampNeg)) (fb_l (up_F t 6 (upd (st_F t 6) x3.toNatClampNeg (st_F t 39 (st_I t 19).toNatClampNeg))) fun t_1 => (b_M_X11_moves__0_8_39 k2 t_1 x2 x3)))
def b_M_X11_moves__0_8_12 (k2 : fw_S → Int32 → Int32 → Option fw_S) (t : fw_S) (x2 : Int32) (x3 : Int32) : Option fw_S := fb_g (¬ (x3 < 0 ∨ 1024 ≤ x3.toNatClampNeg)) (fb_g (¬ ((st_I t 19) < 0 ∨ 2000 ≤ (st_I t 19).toNatClampNeg)) (fb_l (up_F t 39 (upd (st_F t 39) (st_I t 19).toNatClampNeg (st_F t 6 x3.toNatClampNeg))) fun t_1 => (b_M_X11_moves__0_8_39 k2 t_1 x2 x3)))
def b_M_X11_moves__0_8_8 (k2 : fw_S → Int32 → Int32 → Option fw_S) (t : fw_S) (x2 : Int32) (x3 : Int32) : Option fw_S := if x2 = 0 then b_M_X11_moves__0_8_27 k2 t x2 x3 else b_M_X11_moves__0_8_12 k2 t x2 x3
def b_M_X11_moves__0_8_2  : Nat → (fw_S → Int32 → Int32 → Option fw_S)
  | 0 => fun _ _ _ => none
  | n + 1 => fun t x2 x3 => if ((1024 : Int32)) ≤ x3 then b_M_X11_moves__0_8_55 t else b_M_X11_moves__0_8_8 (b_M_X11_moves__0_8_2 n) t x2 x3
def b_M_X11_moves__0_8_0  (t : fw_S) (x2 : Int32) : Option fw_S := b_M_X11_moves__0_8_2 3000 t x2 ((0 : Int32))
def f_M_X11_moves__0_8 (t : fw_S) (x2 : Int32) : Option fw_S := b_M_X11_moves__0_8_0 t x2
set_option maxRecDepth 20000 in
theorem w_M_X11_moves__0_8_55 {p : Program} {l : Launch} {e : Env} {s : State} {m : MethodId} {args : Array Value} {below : List Frame} {meth : Method} {c : Code} {A : Nat → Prop} {Q : State → Prop} {D : va_G} {ca : Nat → ClassId} {a : Nat → Nat} {u : fw_S}  (C : CX (WM ca a) D (tyv ca) p s m args c A prog_13_method_88_code 4 RX11) (hr : True → RX (WM ca a) D p l e rm_M_X11_moves__0_8 s m args below meth c A prog_13_method_88_code Q .return_ [] u) {t : fw_S}  {H : Heap} {locs : List Loc} {ls : Array Slot} (hf : b_M_X11_moves__0_8_55  t  = some u) (hP : va_P D classes (WM ca a t) H) (hS : va_S A s.heap H locs) (hl : lv_has ls 4 []) : W p l e rm_M_X11_moves__0_8 s m args below meth c H locs 0 0 Q (F0 m 55 ls []) := by
  obtain ⟨hx, hb, hml, hown, hts, hN, hK, hD, hA⟩ := id C
  have hf : (some t) = some u := hf
  have e_55 := fb_ev hf
  subst e_55
  exact hr trivial _ _ _ _ hP hS dX11_moves_55
set_option maxRecDepth 20000 in
theorem w_M_X11_moves__0_8_39 {p : Program} {l : Launch} {e : Env} {s : State} {m : MethodId} {args : Array Value} {below : List Frame} {meth : Method} {c : Code} {A : Nat → Prop} {Q : State → Prop} {D : va_G} {ca : Nat → ClassId} {a : Nat → Nat} {u : fw_S} {k2 : fw_S → Int32 → Int32 → Option fw_S} (C : CX (WM ca a) D (tyv ca) p s m args c A prog_13_method_88_code 4 RX11) (hr : True → RX (WM ca a) D p l e rm_M_X11_moves__0_8 s m args below meth c A prog_13_method_88_code Q .return_ [] u) (hk2 : ∀ (t : fw_S) (x2 : Int32) (x3 : Int32) (H : Heap) (locs : List Loc) (ls : Array Slot), k2 t x2 x3 = some u → va_P D classes (WM ca a t) H → va_S A s.heap H locs → lv_has ls 4 [(0, .ref (a 0)), (1, .ref (a 8)), (2, .int x2), (3, .int x3)] → W p l e rm_M_X11_moves__0_8 s m args below meth c H locs 0 0 Q (F0 m 2 ls [])) {t : fw_S} {x2 : Int32} {x3 : Int32} {H : Heap} {locs : List Loc} {ls : Array Slot} (hf : b_M_X11_moves__0_8_39 k2 t x2 x3 = some u) (hP : va_P D classes (WM ca a t) H) (hS : va_S A s.heap H locs) (hl : lv_has ls 4 [(0, .ref (a 0)), (1, .ref (a 8)), (2, .int x2), (3, .int x3)]) : W p l e rm_M_X11_moves__0_8 s m args below meth c H locs 0 0 Q (F0 m 39 ls []) := by
  obtain ⟨hx, hb, hml, hown, hts, hN, hK, hD, hA⟩ := id C
  have hf : (fb_l (up_I t 19 ((st_I t 19) + ((1 : Int32)))) fun t_1 => (k2 t_1 x2 (x3 + 1))) = some u := hf
  refine lv_aload_n hx hb dX11_moves_39 rfl (lv_at hl 0 rfl) ?_
  refine lv_dup hx hb dX11_moves_40 rfl ?_
  refine va_get (D := D) (ci := 11) (v := .int (st_I t 19)) (C := RX11) (T := TX11) (N := 76) hx hb hts inX11 hown hK hP 0 (heM_0 ca a t) rfl 68 (by decide) (hts _ kw_1260) (fun _ h9 => h9) rfl dX11_moves_41 ?_
  refine lv_iconst (v := 1) hx hb dX11_moves_44 (by decide) ?_
  refine lv_iadd hx hb dX11_moves_45 ?_
  refine va_put (D := D) (ci := 11) (v := .int ((st_I t 19) + ((1 : Int32)))) (ty := .int) (C := RX11) (T := TX11) (N := 76) hx hb hts inX11 tyX11 tyX11_ok nmX11 hown hK hP (hD t) hS 0 (heM_0 ca a t) rfl 68 (by decide) (hts _ kw_1260) (fun _ h9 => h9) rfl (by decide +kernel) rfl rfl (Nat.le_of_ble_eq_true rfl) dX11_moves_46 (fun H locs hP _ hS => ?_)
  rw [suM_0_68] at hP
  obtain ⟨t_1, e_46, hf⟩ := fb_ls hf
  rw [← e_46] at hP
  refine lv_iinc (v := x3 + 1) (lv' := [(3, .int (x3 + 1)), (0, .ref (a 0)), (1, .ref (a 8)), (2, .int x2)]) hx hb dX11_moves_49 hl (k := 3) rfl rfl (by decide) rfl (fun ls hl => ?_)
  refine lv_goto (tgt := 2) hx hb dX11_moves_52 (by decide) ?_
  exact hk2 t_1 x2 (x3 + 1) _ _ _ hf hP hS (lv_sub hl [1, 2, 3, 0] rfl)
set_option maxRecDepth 20000 in
theorem w_M_X11_moves__0_8_27 {p : Program} {l : Launch} {e : Env} {s : State} {m : MethodId} {args : Array Value} {below : List Frame} {meth : Method} {c : Code} {A : Nat → Prop} {Q : State → Prop} {D : va_G} {ca : Nat → ClassId} {a : Nat → Nat} {u : fw_S} {k2 : fw_S → Int32 → Int32 → Option fw_S} (C : CX (WM ca a) D (tyv ca) p s m args c A prog_13_method_88_code 4 RX11) (hr : True → RX (WM ca a) D p l e rm_M_X11_moves__0_8 s m args below meth c A prog_13_method_88_code Q .return_ [] u) (hk2 : ∀ (t : fw_S) (x2 : Int32) (x3 : Int32) (H : Heap) (locs : List Loc) (ls : Array Slot), k2 t x2 x3 = some u → va_P D classes (WM ca a t) H → va_S A s.heap H locs → lv_has ls 4 [(0, .ref (a 0)), (1, .ref (a 8)), (2, .int x2), (3, .int x3)] → W p l e rm_M_X11_moves__0_8 s m args below meth c H locs 0 0 Q (F0 m 2 ls [])) {t : fw_S} {x2 : Int32} {x3 : Int32} {H : Heap} {locs : List Loc} {ls : Array Slot} (hf : b_M_X11_moves__0_8_27 k2 t x2 x3 = some u) (hP : va_P D classes (WM ca a t) H) (hS : va_S A s.heap H locs) (hl : lv_has ls 4 [(0, .ref (a 0)), (1, .ref (a 8)), (2, .int x2), (3, .int x3)]) : W p l e rm_M_X11_moves__0_8 s m args below meth c H locs 0 0 Q (F0 m 27 ls []) := by
  obtain ⟨hx, hb, hml, hown, hts, hN, hK, hD, hA⟩ := id C
  have hf : (fb_g (¬ ((st_I t 19) < 0 ∨ 2000 ≤ (st_I t 19).toNatClampNeg)) (fb_g (¬ (x3 < 0 ∨ 1024 ≤ x3.toNatClampNeg)) (fb_l (up_F t 6 (upd (st_F t 6) x3.toNatClampNeg (st_F t 39 (st_I t 19).toNatClampNeg))) fun t_1 => (b_M_X11_moves__0_8_39 k2 t_1 x2 x3)))) = some u := hf
  refine lv_aload_n hx hb dX11_moves_27 rfl (lv_at hl 1 rfl) ?_
  refine lv_iload_n hx hb dX11_moves_28 rfl (lv_at hl 3 rfl) ?_
  refine lv_aload_n hx hb dX11_moves_29 rfl (lv_at hl 0 rfl) ?_
  refine va_get (D := D) (ci := 11) (v := .ref (a 48)) (C := RX11) (T := TX11) (N := 76) hx hb hts inX11 hown hK hP 0 (heM_0 ca a t) rfl 66 (by decide) (hts _ kw_1258) (fun _ h9 => h9) rfl dX11_moves_30 ?_
  refine lv_aload_n hx hb dX11_moves_33 rfl (lv_at hl 0 rfl) ?_
  refine va_get (D := D) (ci := 11) (v := .int (st_I t 19)) (C := RX11) (T := TX11) (N := 76) hx hb hts inX11 hown hK hP 0 (heM_0 ca a t) rfl 68 (by decide) (hts _ kw_1260) (fun _ h9 => h9) rfl dX11_moves_34 ?_
  obtain ⟨h_37, hf⟩ := fb_if hf
  refine va_iald hx hb hK hP 48 0 (haM_48 ca a t) rfl h_37 dX11_moves_37 ?_
  obtain ⟨h_38, hf⟩ := fb_if hf
  refine va_iast hx hb hK hP (hD t) hS 8 0 (haM_8 ca a t) rfl h_38 dX11_moves_38 (fun H locs hP _ hS => ?_)
  rw [saM_8] at hP
  obtain ⟨t_1, e_38, hf⟩ := fb_ls hf
  rw [← e_38] at hP
  exact w_M_X11_moves__0_8_39 C hr hk2 hf hP hS (lv_sub hl [0, 1, 2, 3] rfl)
set_option maxRecDepth 20000 in
theorem w_M_X11_moves__0_8_12 {p : Program} {l : Launch} {e : Env} {s : State} {m : MethodId} {args : Array Value} {below : List Frame} {meth : Method} {c : Code} {A : Nat → Prop} {Q : State → Prop} {D : va_G} {ca : Nat → ClassId} {a : Nat → Nat} {u : fw_S} {k2 : fw_S → Int32 → Int32 → Option fw_S} (C : CX (WM ca a) D (tyv ca) p s m args c A prog_13_method_88_code 4 RX11) (hr : True → RX (WM ca a) D p l e rm_M_X11_moves__0_8 s m args below meth c A prog_13_method_88_code Q .return_ [] u) (hk2 : ∀ (t : fw_S) (x2 : Int32) (x3 : Int32) (H : Heap) (locs : List Loc) (ls : Array Slot), k2 t x2 x3 = some u → va_P D classes (WM ca a t) H → va_S A s.heap H locs → lv_has ls 4 [(0, .ref (a 0)), (1, .ref (a 8)), (2, .int x2), (3, .int x3)] → W p l e rm_M_X11_moves__0_8 s m args below meth c H locs 0 0 Q (F0 m 2 ls [])) {t : fw_S} {x2 : Int32} {x3 : Int32} {H : Heap} {locs : List Loc} {ls : Array Slot} (hf : b_M_X11_moves__0_8_12 k2 t x2 x3 = some u) (hP : va_P D classes (WM ca a t) H) (hS : va_S A s.heap H locs) (hl : lv_has ls 4 [(0, .ref (a 0)), (1, .ref (a 8)), (2, .int x2), (3, .int x3)]) : W p l e rm_M_X11_moves__0_8 s m args below meth c H locs 0 0 Q (F0 m 12 ls []) := by
  obtain ⟨hx, hb, hml, hown, hts, hN, hK, hD, hA⟩ := id C
  have hf : (fb_g (¬ (x3 < 0 ∨ 1024 ≤ x3.toNatClampNeg)) (fb_g (¬ ((st_I t 19) < 0 ∨ 2000 ≤ (st_I t 19).toNatClampNeg)) (fb_l (up_F t 39 (upd (st_F t 39) (st_I t 19).toNatClampNeg (st_F t 6 x3.toNatClampNeg))) fun t_1 => (b_M_X11_moves__0_8_39 k2 t_1 x2 x3)))) = some u := hf
  refine lv_aload_n hx hb dX11_moves_12 rfl (lv_at hl 0 rfl) ?_
  refine va_get (D := D) (ci := 11) (v := .ref (a 48)) (C := RX11) (T := TX11) (N := 76) hx hb hts inX11 hown hK hP 0 (heM_0 ca a t) rfl 66 (by decide) (hts _ kw_1258) (fun _ h9 => h9) rfl dX11_moves_13 ?_
  refine lv_aload_n hx hb dX11_moves_16 rfl (lv_at hl 0 rfl) ?_
  refine va_get (D := D) (ci := 11) (v := .int (st_I t 19)) (C := RX11) (T := TX11) (N := 76) hx hb hts inX11 hown hK hP 0 (heM_0 ca a t) rfl 68 (by decide) (hts _ kw_1260) (fun _ h9 => h9) rfl dX11_moves_17 ?_
  refine lv_aload_n hx hb dX11_moves_20 rfl (lv_at hl 1 rfl) ?_
  refine lv_iload_n hx hb dX11_moves_21 rfl (lv_at hl 3 rfl) ?_
  obtain ⟨h_22, hf⟩ := fb_if hf
  refine va_iald hx hb hK hP 8 0 (haM_8 ca a t) rfl h_22 dX11_moves_22 ?_
  obtain ⟨h_23, hf⟩ := fb_if hf
  refine va_iast hx hb hK hP (hD t) hS 48 0 (haM_48 ca a t) rfl h_23 dX11_moves_23 (fun H locs hP _ hS => ?_)
  rw [saM_48] at hP
  obtain ⟨t_1, e_23, hf⟩ := fb_ls hf
  rw [← e_23] at hP
  refine lv_goto (tgt := 39) hx hb dX11_moves_24 (by decide) ?_
  exact w_M_X11_moves__0_8_39 C hr hk2 hf hP hS (lv_sub hl [0, 1, 2, 3] rfl)
set_option maxRecDepth 20000 in
theorem w_M_X11_moves__0_8_8 {p : Program} {l : Launch} {e : Env} {s : State} {m : MethodId} {args : Array Value} {below : List Frame} {meth : Method} {c : Code} {A : Nat → Prop} {Q : State → Prop} {D : va_G} {ca : Nat → ClassId} {a : Nat → Nat} {u : fw_S} {k2 : fw_S → Int32 → Int32 → Option fw_S} (C : CX (WM ca a) D (tyv ca) p s m args c A prog_13_method_88_code 4 RX11) (hr : True → RX (WM ca a) D p l e rm_M_X11_moves__0_8 s m args below meth c A prog_13_method_88_code Q .return_ [] u) (hk2 : ∀ (t : fw_S) (x2 : Int32) (x3 : Int32) (H : Heap) (locs : List Loc) (ls : Array Slot), k2 t x2 x3 = some u → va_P D classes (WM ca a t) H → va_S A s.heap H locs → lv_has ls 4 [(0, .ref (a 0)), (1, .ref (a 8)), (2, .int x2), (3, .int x3)] → W p l e rm_M_X11_moves__0_8 s m args below meth c H locs 0 0 Q (F0 m 2 ls [])) {t : fw_S} {x2 : Int32} {x3 : Int32} {H : Heap} {locs : List Loc} {ls : Array Slot} (hf : b_M_X11_moves__0_8_8 k2 t x2 x3 = some u) (hP : va_P D classes (WM ca a t) H) (hS : va_S A s.heap H locs) (hl : lv_has ls 4 [(0, .ref (a 0)), (1, .ref (a 8)), (2, .int x2), (3, .int x3)]) : W p l e rm_M_X11_moves__0_8 s m args below meth c H locs 0 0 Q (F0 m 8 ls []) := by
  obtain ⟨hx, hb, hml, hown, hts, hN, hK, hD, hA⟩ := id C
  have hf : (if x2 = 0 then b_M_X11_moves__0_8_27 k2 t x2 x3 else b_M_X11_moves__0_8_12 k2 t x2 x3) = some u := hf
  refine lv_iload_n hx hb dX11_moves_8 rfl (lv_at hl 2 rfl) ?_
  refine lv_if_eq (tgt := 27) hx hb dX11_moves_9 (by decide) (fun h_9 => ?_) (fun h_9 => ?_)
  · have hf := fb_t h_9 hf
    exact w_M_X11_moves__0_8_27 C hr hk2 hf hP hS (lv_sub hl [0, 1, 2, 3] rfl)
  · have hf := fb_f h_9 hf
    exact w_M_X11_moves__0_8_12 C hr hk2 hf hP hS (lv_sub hl [0, 1, 2, 3] rfl)
set_option maxRecDepth 20000 in
theorem w_M_X11_moves__0_8_2 {p : Program} {l : Launch} {e : Env} {s : State} {m : MethodId} {args : Array Value} {below : List Frame} {meth : Method} {c : Code} {A : Nat → Prop} {Q : State → Prop} {D : va_G} {ca : Nat → ClassId} {a : Nat → Nat} {u : fw_S}  (C : CX (WM ca a) D (tyv ca) p s m args c A prog_13_method_88_code 4 RX11) (hr : True → RX (WM ca a) D p l e rm_M_X11_moves__0_8 s m args below meth c A prog_13_method_88_code Q .return_ [] u) : ∀ (n : Nat) (t : fw_S) (x2 : Int32) (x3 : Int32) (H : Heap) (locs : List Loc) (ls : Array Slot), b_M_X11_moves__0_8_2  n t x2 x3 = some u → va_P D classes (WM ca a t) H → va_S A s.heap H locs → lv_has ls 4 [(0, .ref (a 0)), (1, .ref (a 8)), (2, .int x2), (3, .int x3)] → W p l e rm_M_X11_moves__0_8 s m args below meth c H locs 0 0 Q (F0 m 2 ls []) := by
  obtain ⟨hx, hb, hml, hown, hts, hN, hK, hD, hA⟩ := id C
  intro n
  induction n with
  | zero => intro t x2 x3 H locs ls hf; cases hf
  | succ n hk2 =>
    intro t x2 x3 H locs ls hf hP hS hl
    have hf : (if ((1024 : Int32)) ≤ x3 then b_M_X11_moves__0_8_55 t else b_M_X11_moves__0_8_8 (b_M_X11_moves__0_8_2 n) t x2 x3) = some u := hf
    refine lv_iload_n hx hb dX11_moves_2 rfl (lv_at hl 3 rfl) ?_
    refine lv_aload_n hx hb dX11_moves_3 rfl (lv_at hl 1 rfl) ?_
    refine va_alen (v := 1024) hx hb hK hP 8 0 (haM_8 ca a t) rfl rfl dX11_moves_4 ?_
    refine lv_icmp_ge (tgt := 55) hx hb dX11_moves_5 (by decide) (fun h_5 => ?_) (fun h_5 => ?_)
    · have hf := fb_t h_5 hf
      exact w_M_X11_moves__0_8_55 C hr hf hP hS (lv_sub hl [] rfl)
    · have hf := fb_f h_5 hf
      exact w_M_X11_moves__0_8_8 C hr hk2 hf hP hS (lv_sub hl [0, 1, 2, 3] rfl)
set_option maxRecDepth 20000 in
theorem w_M_X11_moves__0_8_0 {p : Program} {l : Launch} {e : Env} {s : State} {m : MethodId} {args : Array Value} {below : List Frame} {meth : Method} {c : Code} {A : Nat → Prop} {Q : State → Prop} {D : va_G} {ca : Nat → ClassId} {a : Nat → Nat} {u : fw_S}  (C : CX (WM ca a) D (tyv ca) p s m args c A prog_13_method_88_code 4 RX11) (hr : True → RX (WM ca a) D p l e rm_M_X11_moves__0_8 s m args below meth c A prog_13_method_88_code Q .return_ [] u) {t : fw_S} {x2 : Int32} {H : Heap} {locs : List Loc} {ls : Array Slot} (hf : b_M_X11_moves__0_8_0  t x2 = some u) (hP : va_P D classes (WM ca a t) H) (hS : va_S A s.heap H locs) (hl : lv_has ls 4 [(0, .ref (a 0)), (1, .ref (a 8)), (2, .int x2)]) : W p l e rm_M_X11_moves__0_8 s m args below meth c H locs 0 0 Q (F0 m 0 ls []) := by
  obtain ⟨hx, hb, hml, hown, hts, hN, hK, hD, hA⟩ := id C
  have hf : (b_M_X11_moves__0_8_2 3000 t x2 ((0 : Int32))) = some u := hf
  refine lv_iconst (v := 0) hx hb dX11_moves_0 (by decide) ?_
  refine lv_istore_n (lv' := [(3, .int ((0 : Int32))), (0, .ref (a 0)), (1, .ref (a 8)), (2, .int x2)]) hx hb dX11_moves_1 rfl hl (by decide) rfl (fun ls hl => ?_)
  exact w_M_X11_moves__0_8_2 C hr 3000 t x2 ((0 : Int32)) _ _ _ hf hP hS (lv_sub hl [1, 2, 3, 0] rfl)
set_option maxRecDepth 20000 in
theorem c_M_X11_moves__0_8 {l : Launch} {D : va_G} {ca : Nat → ClassId} {a : Nat → Nat} {t : fw_S} {x2 : Int32} {u : fw_S} (hf : f_M_X11_moves__0_8 t x2 = some u) : MC (WM ca a) D (tyv ca) l yX11_moves (.code yX11_moves prog_13_method_88_code 4 none :: lw_gd) rm_M_X11_moves__0_8 [.ref (a 0), .ref (a 8), .int x2] none t u := by
  refine fw_met (okM ca a) (by decide +kernel) rfl rfl (Nat.le_of_ble_eq_true rfl) ?_
  intro p e s m args below meth c A Q ls C hr hk hP hS hl hQ
  exact w_M_X11_moves__0_8_0 C (fun _ => fw_rv C hr hk hQ) hf hP hS (lv_sub hl [0, 1, 2] rfl)
/-! ReactiveSheetModel.moves([ZZ)V ['m', 'm.changed'] -/
abbrev rm_M_X11_moves___0_9 : Room := { frames := 0, cells := 0, slots := 0, locals := 0 }
def b_M_X11_moves___0_9_72  (t : fw_S)  : Option fw_S := some t
def b_M_X11_moves___0_9_56 (k2 : fw_S → Int32 → Int32 → Option fw_S) (t : fw_S) (x2 : Int32) (x3 : Int32) : Option fw_S := fb_l (up_I t 19 ((st_I t 19) + ((1 : Int32)))) fun t_1 => (k2 t_1 x2 (x3 + 1))
def b_M_X11_moves___0_9_55 (k2 : fw_S → Int32 → Int32 → Option fw_S) (t : fw_S) (x2 : Int32) (x3 : Int32) (z1 : Int32) (z2 : Int32) : Option fw_S := fb_g (¬ (z1 < 0 ∨ 32 ≤ z1.toNatClampNeg)) (fb_l (up_F t 7 (upd (st_F t 7) z1.toNatClampNeg (vp_nar .boolean z2))) fun t_1 => (b_M_X11_moves___0_9_56 k2 t_1 x2 x3))
def b_M_X11_moves___0_9_54 (k2 : fw_S → Int32 → Int32 → Option fw_S) (t : fw_S) (x2 : Int32) (x3 : Int32) (z1 : Int32) : Option fw_S := b_M_X11_moves___0_9_55 k2 t x2 x3 z1 ((0 : Int32))
def b_M_X11_moves___0_9_50 (k2 : fw_S → Int32 → Int32 → Option fw_S) (t : fw_S) (x2 : Int32) (x3 : Int32) (z1 : Int32) : Option fw_S := b_M_X11_moves___0_9_55 k2 t x2 x3 z1 ((1 : Int32))
def b_M_X11_moves___0_9_35 (k2 : fw_S → Int32 → Int32 → Option fw_S) (t : fw_S) (x2 : Int32) (x3 : Int32) : Option fw_S := fb_g (¬ ((st_I t 19) < 0 ∨ 2000 ≤ (st_I t 19).toNatClampNeg)) (if (st_F t 39 (st_I t 19).toNatClampNeg) = ((1 : Int32)) then b_M_X11_moves___0_9_50 k2 t x2 x3 x3 else b_M_X11_moves___0_9_54 k2 t x2 x3 x3)
def b_M_X11_moves___0_9_31 (k2 : fw_S → Int32 → Int32 → Option fw_S) (t : fw_S) (x2 : Int32) (x3 : Int32) (z1 : Int32) (z2 : Int32) : Option fw_S := fb_g (¬ (z1 < 0 ∨ 2000 ≤ z1.toNatClampNeg)) (fb_l (up_F t 39 (upd (st_F t 39) z1.toNatClampNeg z2)) fun t_1 => (b_M_X11_moves___0_9_56 k2 t_1 x2 x3))
def b_M_X11_moves___0_9_30 (k2 : fw_S → Int32 → Int32 → Option fw_S) (t : fw_S) (x2 : Int32) (x3 : Int32) (z1 : Int32) : Option fw_S := b_M_X11_moves___0_9_31 k2 t x2 x3 z1 ((0 : Int32))
def b_M_X11_moves___0_9_26 (k2 : fw_S → Int32 → Int32 → Option fw_S) (t : fw_S) (x2 : Int32) (x3 : Int32) (z1 : Int32) : Option fw_S := b_M_X11_moves___0_9_31 k2 t x2 x3 z1 ((1 : Int32))
def b_M_X11_moves___0_9_12 (k2 : fw_S → Int32 → Int32 → Option fw_S) (t : fw_S) (x2 : Int32) (x3 : Int32) : Option fw_S := fb_g (¬ (x3 < 0 ∨ 32 ≤ x3.toNatClampNeg)) (if (st_F t 7 x3.toNatClampNeg) = 0 then b_M_X11_moves___0_9_30 k2 t x2 x3 (st_I t 19) else b_M_X11_moves___0_9_26 k2 t x2 x3 (st_I t 19))
def b_M_X11_moves___0_9_8 (k2 : fw_S → Int32 → Int32 → Option fw_S) (t : fw_S) (x2 : Int32) (x3 : Int32) : Option fw_S := if x2 = 0 then b_M_X11_moves___0_9_35 k2 t x2 x3 else b_M_X11_moves___0_9_12 k2 t x2 x3
def b_M_X11_moves___0_9_2  : Nat → (fw_S → Int32 → Int32 → Option fw_S)
  | 0 => fun _ _ _ => none
  | n + 1 => fun t x2 x3 => if ((32 : Int32)) ≤ x3 then b_M_X11_moves___0_9_72 t else b_M_X11_moves___0_9_8 (b_M_X11_moves___0_9_2 n) t x2 x3
def b_M_X11_moves___0_9_0  (t : fw_S) (x2 : Int32) : Option fw_S := b_M_X11_moves___0_9_2 3000 t x2 ((0 : Int32))
def f_M_X11_moves___0_9 (t : fw_S) (x2 : Int32) : Option fw_S := b_M_X11_moves___0_9_0 t x2
set_option maxRecDepth 20000 in
theorem w_M_X11_moves___0_9_72 {p : Program} {l : Launch} {e : Env} {s : State} {m : MethodId} {args : Array Value} {below : List Frame} {meth : Method} {c : Code} {A : Nat → Prop} {Q : State → Prop} {D : va_G} {ca : Nat → ClassId} {a : Nat → Nat} {u : fw_S}  (C : CX (WM ca a) D (tyv ca) p s m args c A prog_13_method_89_code 4 RX11) (hr : True → RX (WM ca a) D p l e rm_M_X11_moves___0_9 s m args below meth c A prog_13_method_89_code Q .return_ [] u) {t : fw_S}  {H : Heap} {locs : List Loc} {ls : Array Slot} (hf : b_M_X11_moves___0_9_72  t  = some u) (hP : va_P D classes (WM ca a t) H) (hS : va_S A s.heap H locs) (hl : lv_has ls 4 []) : W p l e rm_M_X11_moves___0_9 s m args below meth c H locs 0 0 Q (F0 m 72 ls []) := by
  obtain ⟨hx, hb, hml, hown, hts, hN, hK, hD, hA⟩ := id C
  have hf : (some t) = some u := hf
  have e_72 := fb_ev hf
  subst e_72
  exact hr trivial _ _ _ _ hP hS dX11_moves__72
set_option maxRecDepth 20000 in
theorem w_M_X11_moves___0_9_56 {p : Program} {l : Launch} {e : Env} {s : State} {m : MethodId} {args : Array Value} {below : List Frame} {meth : Method} {c : Code} {A : Nat → Prop} {Q : State → Prop} {D : va_G} {ca : Nat → ClassId} {a : Nat → Nat} {u : fw_S} {k2 : fw_S → Int32 → Int32 → Option fw_S} (C : CX (WM ca a) D (tyv ca) p s m args c A prog_13_method_89_code 4 RX11) (hr : True → RX (WM ca a) D p l e rm_M_X11_moves___0_9 s m args below meth c A prog_13_method_89_code Q .return_ [] u) (hk2 : ∀ (t : fw_S) (x2 : Int32) (x3 : Int32) (H : Heap) (locs : List Loc) (ls : Array Slot), k2 t x2 x3 = some u → va_P D classes (WM ca a t) H → va_S A s.heap H locs → lv_has ls 4 [(0, .ref (a 0)), (1, .ref (a 9)), (2, .int x2), (3, .int x3)] → W p l e rm_M_X11_moves___0_9 s m args below meth c H locs 0 0 Q (F0 m 2 ls [])) {t : fw_S} {x2 : Int32} {x3 : Int32} {H : Heap} {locs : List Loc} {ls : Array Slot} (hf : b_M_X11_moves___0_9_56 k2 t x2 x3 = some u) (hP : va_P D classes (WM ca a t) H) (hS : va_S A s.heap H locs) (hl : lv_has ls 4 [(0, .ref (a 0)), (1, .ref (a 9)), (2, .int x2), (3, .int x3)]) : W p l e rm_M_X11_moves___0_9 s m args below meth c H locs 0 0 Q (F0 m 56 ls []) := by
  obtain ⟨hx, hb, hml, hown, hts, hN, hK, hD, hA⟩ := id C
  have hf : (fb_l (up_I t 19 ((st_I t 19) + ((1 : Int32)))) fun t_1 => (k2 t_1 x2 (x3 + 1))) = some u := hf
  refine lv_aload_n hx hb dX11_moves__56 rfl (lv_at hl 0 rfl) ?_
  refine lv_dup hx hb dX11_moves__57 rfl ?_
  refine va_get (D := D) (ci := 11) (v := .int (st_I t 19)) (C := RX11) (T := TX11) (N := 76) hx hb hts inX11 hown hK hP 0 (heM_0 ca a t) rfl 68 (by decide) (hts _ kw_1260) (fun _ h9 => h9) rfl dX11_moves__58 ?_
  refine lv_iconst (v := 1) hx hb dX11_moves__61 (by decide) ?_
  refine lv_iadd hx hb dX11_moves__62 ?_
  refine va_put (D := D) (ci := 11) (v := .int ((st_I t 19) + ((1 : Int32)))) (ty := .int) (C := RX11) (T := TX11) (N := 76) hx hb hts inX11 tyX11 tyX11_ok nmX11 hown hK hP (hD t) hS 0 (heM_0 ca a t) rfl 68 (by decide) (hts _ kw_1260) (fun _ h9 => h9) rfl (by decide +kernel) rfl rfl (Nat.le_of_ble_eq_true rfl) dX11_moves__63 (fun H locs hP _ hS => ?_)
  rw [suM_0_68] at hP
  obtain ⟨t_1, e_63, hf⟩ := fb_ls hf
  rw [← e_63] at hP
  refine lv_iinc (v := x3 + 1) (lv' := [(3, .int (x3 + 1)), (0, .ref (a 0)), (1, .ref (a 9)), (2, .int x2)]) hx hb dX11_moves__66 hl (k := 3) rfl rfl (by decide) rfl (fun ls hl => ?_)
  refine lv_goto (tgt := 2) hx hb dX11_moves__69 (by decide) ?_
  exact hk2 t_1 x2 (x3 + 1) _ _ _ hf hP hS (lv_sub hl [1, 2, 3, 0] rfl)
set_option maxRecDepth 20000 in
theorem w_M_X11_moves___0_9_55 {p : Program} {l : Launch} {e : Env} {s : State} {m : MethodId} {args : Array Value} {below : List Frame} {meth : Method} {c : Code} {A : Nat → Prop} {Q : State → Prop} {D : va_G} {ca : Nat → ClassId} {a : Nat → Nat} {u : fw_S} {k2 : fw_S → Int32 → Int32 → Option fw_S} (C : CX (WM ca a) D (tyv ca) p s m args c A prog_13_method_89_code 4 RX11) (hr : True → RX (WM ca a) D p l e rm_M_X11_moves___0_9 s m args below meth c A prog_13_method_89_code Q .return_ [] u) (hk2 : ∀ (t : fw_S) (x2 : Int32) (x3 : Int32) (H : Heap) (locs : List Loc) (ls : Array Slot), k2 t x2 x3 = some u → va_P D classes (WM ca a t) H → va_S A s.heap H locs → lv_has ls 4 [(0, .ref (a 0)), (1, .ref (a 9)), (2, .int x2), (3, .int x3)] → W p l e rm_M_X11_moves___0_9 s m args below meth c H locs 0 0 Q (F0 m 2 ls [])) {t : fw_S} {x2 : Int32} {x3 : Int32} {z1 : Int32} {z2 : Int32} {H : Heap} {locs : List Loc} {ls : Array Slot} (hf : b_M_X11_moves___0_9_55 k2 t x2 x3 z1 z2 = some u) (hP : va_P D classes (WM ca a t) H) (hS : va_S A s.heap H locs) (hl : lv_has ls 4 [(0, .ref (a 0)), (1, .ref (a 9)), (2, .int x2), (3, .int x3)]) : W p l e rm_M_X11_moves___0_9 s m args below meth c H locs 0 0 Q (F0 m 55 ls [.int z2, .int z1, .ref (a 9)]) := by
  obtain ⟨hx, hb, hml, hown, hts, hN, hK, hD, hA⟩ := id C
  have hf : (fb_g (¬ (z1 < 0 ∨ 32 ≤ z1.toNatClampNeg)) (fb_l (up_F t 7 (upd (st_F t 7) z1.toNatClampNeg (vp_nar .boolean z2))) fun t_1 => (b_M_X11_moves___0_9_56 k2 t_1 x2 x3))) = some u := hf
  obtain ⟨h_55, hf⟩ := fb_if hf
  refine va_zast hx hb hK hP (hD t) hS 9 2 (haM_9 ca a t) rfl h_55 dX11_moves__55 (fun H locs hP _ hS => ?_)
  rw [saM_9] at hP
  obtain ⟨t_1, e_55, hf⟩ := fb_ls hf
  rw [← e_55] at hP
  exact w_M_X11_moves___0_9_56 C hr hk2 hf hP hS (lv_sub hl [0, 1, 2, 3] rfl)
set_option maxRecDepth 20000 in
theorem w_M_X11_moves___0_9_54 {p : Program} {l : Launch} {e : Env} {s : State} {m : MethodId} {args : Array Value} {below : List Frame} {meth : Method} {c : Code} {A : Nat → Prop} {Q : State → Prop} {D : va_G} {ca : Nat → ClassId} {a : Nat → Nat} {u : fw_S} {k2 : fw_S → Int32 → Int32 → Option fw_S} (C : CX (WM ca a) D (tyv ca) p s m args c A prog_13_method_89_code 4 RX11) (hr : True → RX (WM ca a) D p l e rm_M_X11_moves___0_9 s m args below meth c A prog_13_method_89_code Q .return_ [] u) (hk2 : ∀ (t : fw_S) (x2 : Int32) (x3 : Int32) (H : Heap) (locs : List Loc) (ls : Array Slot), k2 t x2 x3 = some u → va_P D classes (WM ca a t) H → va_S A s.heap H locs → lv_has ls 4 [(0, .ref (a 0)), (1, .ref (a 9)), (2, .int x2), (3, .int x3)] → W p l e rm_M_X11_moves___0_9 s m args below meth c H locs 0 0 Q (F0 m 2 ls [])) {t : fw_S} {x2 : Int32} {x3 : Int32} {z1 : Int32} {H : Heap} {locs : List Loc} {ls : Array Slot} (hf : b_M_X11_moves___0_9_54 k2 t x2 x3 z1 = some u) (hP : va_P D classes (WM ca a t) H) (hS : va_S A s.heap H locs) (hl : lv_has ls 4 [(0, .ref (a 0)), (1, .ref (a 9)), (2, .int x2), (3, .int x3)]) : W p l e rm_M_X11_moves___0_9 s m args below meth c H locs 0 0 Q (F0 m 54 ls [.int z1, .ref (a 9)]) := by
  obtain ⟨hx, hb, hml, hown, hts, hN, hK, hD, hA⟩ := id C
  have hf : (b_M_X11_moves___0_9_55 k2 t x2 x3 z1 ((0 : Int32))) = some u := hf
  refine lv_iconst (v := 0) hx hb dX11_moves__54 (by decide) ?_
  exact w_M_X11_moves___0_9_55 C hr hk2 hf hP hS (lv_sub hl [0, 1, 2, 3] rfl)
set_option maxRecDepth 20000 in
theorem w_M_X11_moves___0_9_50 {p : Program} {l : Launch} {e : Env} {s : State} {m : MethodId} {args : Array Value} {below : List Frame} {meth : Method} {c : Code} {A : Nat → Prop} {Q : State → Prop} {D : va_G} {ca : Nat → ClassId} {a : Nat → Nat} {u : fw_S} {k2 : fw_S → Int32 → Int32 → Option fw_S} (C : CX (WM ca a) D (tyv ca) p s m args c A prog_13_method_89_code 4 RX11) (hr : True → RX (WM ca a) D p l e rm_M_X11_moves___0_9 s m args below meth c A prog_13_method_89_code Q .return_ [] u) (hk2 : ∀ (t : fw_S) (x2 : Int32) (x3 : Int32) (H : Heap) (locs : List Loc) (ls : Array Slot), k2 t x2 x3 = some u → va_P D classes (WM ca a t) H → va_S A s.heap H locs → lv_has ls 4 [(0, .ref (a 0)), (1, .ref (a 9)), (2, .int x2), (3, .int x3)] → W p l e rm_M_X11_moves___0_9 s m args below meth c H locs 0 0 Q (F0 m 2 ls [])) {t : fw_S} {x2 : Int32} {x3 : Int32} {z1 : Int32} {H : Heap} {locs : List Loc} {ls : Array Slot} (hf : b_M_X11_moves___0_9_50 k2 t x2 x3 z1 = some u) (hP : va_P D classes (WM ca a t) H) (hS : va_S A s.heap H locs) (hl : lv_has ls 4 [(0, .ref (a 0)), (1, .ref (a 9)), (2, .int x2), (3, .int x3)]) : W p l e rm_M_X11_moves___0_9 s m args below meth c H locs 0 0 Q (F0 m 50 ls [.int z1, .ref (a 9)]) := by
  obtain ⟨hx, hb, hml, hown, hts, hN, hK, hD, hA⟩ := id C
  have hf : (b_M_X11_moves___0_9_55 k2 t x2 x3 z1 ((1 : Int32))) = some u := hf
  refine lv_iconst (v := 1) hx hb dX11_moves__50 (by decide) ?_
  refine lv_goto (tgt := 55) hx hb dX11_moves__51 (by decide) ?_
  exact w_M_X11_moves___0_9_55 C hr hk2 hf hP hS (lv_sub hl [0, 1, 2, 3] rfl)
set_option maxRecDepth 20000 in
theorem w_M_X11_moves___0_9_35 {p : Program} {l : Launch} {e : Env} {s : State} {m : MethodId} {args : Array Value} {below : List Frame} {meth : Method} {c : Code} {A : Nat → Prop} {Q : State → Prop} {D : va_G} {ca : Nat → ClassId} {a : Nat → Nat} {u : fw_S} {k2 : fw_S → Int32 → Int32 → Option fw_S} (C : CX (WM ca a) D (tyv ca) p s m args c A prog_13_method_89_code 4 RX11) (hr : True → RX (WM ca a) D p l e rm_M_X11_moves___0_9 s m args below meth c A prog_13_method_89_code Q .return_ [] u) (hk2 : ∀ (t : fw_S) (x2 : Int32) (x3 : Int32) (H : Heap) (locs : List Loc) (ls : Array Slot), k2 t x2 x3 = some u → va_P D classes (WM ca a t) H → va_S A s.heap H locs → lv_has ls 4 [(0, .ref (a 0)), (1, .ref (a 9)), (2, .int x2), (3, .int x3)] → W p l e rm_M_X11_moves___0_9 s m args below meth c H locs 0 0 Q (F0 m 2 ls [])) {t : fw_S} {x2 : Int32} {x3 : Int32} {H : Heap} {locs : List Loc} {ls : Array Slot} (hf : b_M_X11_moves___0_9_35 k2 t x2 x3 = some u) (hP : va_P D classes (WM ca a t) H) (hS : va_S A s.heap H locs) (hl : lv_has ls 4 [(0, .ref (a 0)), (1, .ref (a 9)), (2, .int x2), (3, .int x3)]) : W p l e rm_M_X11_moves___0_9 s m args below meth c H locs 0 0 Q (F0 m 35 ls []) := by
  obtain ⟨hx, hb, hml, hown, hts, hN, hK, hD, hA⟩ := id C
  have hf : (fb_g (¬ ((st_I t 19) < 0 ∨ 2000 ≤ (st_I t 19).toNatClampNeg)) (if (st_F t 39 (st_I t 19).toNatClampNeg) = ((1 : Int32)) then b_M_X11_moves___0_9_50 k2 t x2 x3 x3 else b_M_X11_moves___0_9_54 k2 t x2 x3 x3)) = some u := hf
  refine lv_aload_n hx hb dX11_moves__35 rfl (lv_at hl 1 rfl) ?_
  refine lv_iload_n hx hb dX11_moves__36 rfl (lv_at hl 3 rfl) ?_
  refine lv_aload_n hx hb dX11_moves__37 rfl (lv_at hl 0 rfl) ?_
  refine va_get (D := D) (ci := 11) (v := .ref (a 48)) (C := RX11) (T := TX11) (N := 76) hx hb hts inX11 hown hK hP 0 (heM_0 ca a t) rfl 66 (by decide) (hts _ kw_1258) (fun _ h9 => h9) rfl dX11_moves__38 ?_
  refine lv_aload_n hx hb dX11_moves__41 rfl (lv_at hl 0 rfl) ?_
  refine va_get (D := D) (ci := 11) (v := .int (st_I t 19)) (C := RX11) (T := TX11) (N := 76) hx hb hts inX11 hown hK hP 0 (heM_0 ca a t) rfl 68 (by decide) (hts _ kw_1260) (fun _ h9 => h9) rfl dX11_moves__42 ?_
  obtain ⟨h_45, hf⟩ := fb_if hf
  refine va_iald hx hb hK hP 48 0 (haM_48 ca a t) rfl h_45 dX11_moves__45 ?_
  refine lv_iconst (v := 1) hx hb dX11_moves__46 (by decide) ?_
  refine lv_icmp_ne (tgt := 54) hx hb dX11_moves__47 (by decide) (fun h_47 => ?_) (fun h_47 => ?_)
  · have hf := fb_f h_47 hf
    exact w_M_X11_moves___0_9_54 C hr hk2 hf hP hS (lv_sub hl [0, 1, 2, 3] rfl)
  · have hf := fb_t h_47 hf
    exact w_M_X11_moves___0_9_50 C hr hk2 hf hP hS (lv_sub hl [0, 1, 2, 3] rfl)
set_option maxRecDepth 20000 in
theorem w_M_X11_moves___0_9_31 {p : Program} {l : Launch} {e : Env} {s : State} {m : MethodId} {args : Array Value} {below : List Frame} {meth : Method} {c : Code} {A : Nat → Prop} {Q : State → Prop} {D : va_G} {ca : Nat → ClassId} {a : Nat → Nat} {u : fw_S} {k2 : fw_S → Int32 → Int32 → Option fw_S} (C : CX (WM ca a) D (tyv ca) p s m args c A prog_13_method_89_code 4 RX11) (hr : True → RX (WM ca a) D p l e rm_M_X11_moves___0_9 s m args below meth c A prog_13_method_89_code Q .return_ [] u) (hk2 : ∀ (t : fw_S) (x2 : Int32) (x3 : Int32) (H : Heap) (locs : List Loc) (ls : Array Slot), k2 t x2 x3 = some u → va_P D classes (WM ca a t) H → va_S A s.heap H locs → lv_has ls 4 [(0, .ref (a 0)), (1, .ref (a 9)), (2, .int x2), (3, .int x3)] → W p l e rm_M_X11_moves___0_9 s m args below meth c H locs 0 0 Q (F0 m 2 ls [])) {t : fw_S} {x2 : Int32} {x3 : Int32} {z1 : Int32} {z2 : Int32} {H : Heap} {locs : List Loc} {ls : Array Slot} (hf : b_M_X11_moves___0_9_31 k2 t x2 x3 z1 z2 = some u) (hP : va_P D classes (WM ca a t) H) (hS : va_S A s.heap H locs) (hl : lv_has ls 4 [(0, .ref (a 0)), (1, .ref (a 9)), (2, .int x2), (3, .int x3)]) : W p l e rm_M_X11_moves___0_9 s m args below meth c H locs 0 0 Q (F0 m 31 ls [.int z2, .int z1, .ref (a 48)]) := by
  obtain ⟨hx, hb, hml, hown, hts, hN, hK, hD, hA⟩ := id C
  have hf : (fb_g (¬ (z1 < 0 ∨ 2000 ≤ z1.toNatClampNeg)) (fb_l (up_F t 39 (upd (st_F t 39) z1.toNatClampNeg z2)) fun t_1 => (b_M_X11_moves___0_9_56 k2 t_1 x2 x3))) = some u := hf
  obtain ⟨h_31, hf⟩ := fb_if hf
  refine va_iast hx hb hK hP (hD t) hS 48 0 (haM_48 ca a t) rfl h_31 dX11_moves__31 (fun H locs hP _ hS => ?_)
  rw [saM_48] at hP
  obtain ⟨t_1, e_31, hf⟩ := fb_ls hf
  rw [← e_31] at hP
  refine lv_goto (tgt := 56) hx hb dX11_moves__32 (by decide) ?_
  exact w_M_X11_moves___0_9_56 C hr hk2 hf hP hS (lv_sub hl [0, 1, 2, 3] rfl)
set_option maxRecDepth 20000 in
theorem w_M_X11_moves___0_9_30 {p : Program} {l : Launch} {e : Env} {s : State} {m : MethodId} {args : Array Value} {below : List Frame} {meth : Method} {c : Code} {A : Nat → Prop} {Q : State → Prop} {D : va_G} {ca : Nat → ClassId} {a : Nat → Nat} {u : fw_S} {k2 : fw_S → Int32 → Int32 → Option fw_S} (C : CX (WM ca a) D (tyv ca) p s m args c A prog_13_method_89_code 4 RX11) (hr : True → RX (WM ca a) D p l e rm_M_X11_moves___0_9 s m args below meth c A prog_13_method_89_code Q .return_ [] u) (hk2 : ∀ (t : fw_S) (x2 : Int32) (x3 : Int32) (H : Heap) (locs : List Loc) (ls : Array Slot), k2 t x2 x3 = some u → va_P D classes (WM ca a t) H → va_S A s.heap H locs → lv_has ls 4 [(0, .ref (a 0)), (1, .ref (a 9)), (2, .int x2), (3, .int x3)] → W p l e rm_M_X11_moves___0_9 s m args below meth c H locs 0 0 Q (F0 m 2 ls [])) {t : fw_S} {x2 : Int32} {x3 : Int32} {z1 : Int32} {H : Heap} {locs : List Loc} {ls : Array Slot} (hf : b_M_X11_moves___0_9_30 k2 t x2 x3 z1 = some u) (hP : va_P D classes (WM ca a t) H) (hS : va_S A s.heap H locs) (hl : lv_has ls 4 [(0, .ref (a 0)), (1, .ref (a 9)), (2, .int x2), (3, .int x3)]) : W p l e rm_M_X11_moves___0_9 s m args below meth c H locs 0 0 Q (F0 m 30 ls [.int z1, .ref (a 48)]) := by
  obtain ⟨hx, hb, hml, hown, hts, hN, hK, hD, hA⟩ := id C
  have hf : (b_M_X11_moves___0_9_31 k2 t x2 x3 z1 ((0 : Int32))) = some u := hf
  refine lv_iconst (v := 0) hx hb dX11_moves__30 (by decide) ?_
  exact w_M_X11_moves___0_9_31 C hr hk2 hf hP hS (lv_sub hl [0, 1, 2, 3] rfl)
set_option maxRecDepth 20000 in
theorem w_M_X11_moves___0_9_26 {p : Program} {l : Launch} {e : Env} {s : State} {m : MethodId} {args : Array Value} {below : List Frame} {meth : Method} {c : Code} {A : Nat → Prop} {Q : State → Prop} {D : va_G} {ca : Nat → ClassId} {a : Nat → Nat} {u : fw_S} {k2 : fw_S → Int32 → Int32 → Option fw_S} (C : CX (WM ca a) D (tyv ca) p s m args c A prog_13_method_89_code 4 RX11) (hr : True → RX (WM ca a) D p l e rm_M_X11_moves___0_9 s m args below meth c A prog_13_method_89_code Q .return_ [] u) (hk2 : ∀ (t : fw_S) (x2 : Int32) (x3 : Int32) (H : Heap) (locs : List Loc) (ls : Array Slot), k2 t x2 x3 = some u → va_P D classes (WM ca a t) H → va_S A s.heap H locs → lv_has ls 4 [(0, .ref (a 0)), (1, .ref (a 9)), (2, .int x2), (3, .int x3)] → W p l e rm_M_X11_moves___0_9 s m args below meth c H locs 0 0 Q (F0 m 2 ls [])) {t : fw_S} {x2 : Int32} {x3 : Int32} {z1 : Int32} {H : Heap} {locs : List Loc} {ls : Array Slot} (hf : b_M_X11_moves___0_9_26 k2 t x2 x3 z1 = some u) (hP : va_P D classes (WM ca a t) H) (hS : va_S A s.heap H locs) (hl : lv_has ls 4 [(0, .ref (a 0)), (1, .ref (a 9)), (2, .int x2), (3, .int x3)]) : W p l e rm_M_X11_moves___0_9 s m args below meth c H locs 0 0 Q (F0 m 26 ls [.int z1, .ref (a 48)]) := by
  obtain ⟨hx, hb, hml, hown, hts, hN, hK, hD, hA⟩ := id C
  have hf : (b_M_X11_moves___0_9_31 k2 t x2 x3 z1 ((1 : Int32))) = some u := hf
  refine lv_iconst (v := 1) hx hb dX11_moves__26 (by decide) ?_
  refine lv_goto (tgt := 31) hx hb dX11_moves__27 (by decide) ?_
  exact w_M_X11_moves___0_9_31 C hr hk2 hf hP hS (lv_sub hl [0, 1, 2, 3] rfl)
set_option maxRecDepth 20000 in
theorem w_M_X11_moves___0_9_12 {p : Program} {l : Launch} {e : Env} {s : State} {m : MethodId} {args : Array Value} {below : List Frame} {meth : Method} {c : Code} {A : Nat → Prop} {Q : State → Prop} {D : va_G} {ca : Nat → ClassId} {a : Nat → Nat} {u : fw_S} {k2 : fw_S → Int32 → Int32 → Option fw_S} (C : CX (WM ca a) D (tyv ca) p s m args c A prog_13_method_89_code 4 RX11) (hr : True → RX (WM ca a) D p l e rm_M_X11_moves___0_9 s m args below meth c A prog_13_method_89_code Q .return_ [] u) (hk2 : ∀ (t : fw_S) (x2 : Int32) (x3 : Int32) (H : Heap) (locs : List Loc) (ls : Array Slot), k2 t x2 x3 = some u → va_P D classes (WM ca a t) H → va_S A s.heap H locs → lv_has ls 4 [(0, .ref (a 0)), (1, .ref (a 9)), (2, .int x2), (3, .int x3)] → W p l e rm_M_X11_moves___0_9 s m args below meth c H locs 0 0 Q (F0 m 2 ls [])) {t : fw_S} {x2 : Int32} {x3 : Int32} {H : Heap} {locs : List Loc} {ls : Array Slot} (hf : b_M_X11_moves___0_9_12 k2 t x2 x3 = some u) (hP : va_P D classes (WM ca a t) H) (hS : va_S A s.heap H locs) (hl : lv_has ls 4 [(0, .ref (a 0)), (1, .ref (a 9)), (2, .int x2), (3, .int x3)]) : W p l e rm_M_X11_moves___0_9 s m args below meth c H locs 0 0 Q (F0 m 12 ls []) := by
  obtain ⟨hx, hb, hml, hown, hts, hN, hK, hD, hA⟩ := id C
  have hf : (fb_g (¬ (x3 < 0 ∨ 32 ≤ x3.toNatClampNeg)) (if (st_F t 7 x3.toNatClampNeg) = 0 then b_M_X11_moves___0_9_30 k2 t x2 x3 (st_I t 19) else b_M_X11_moves___0_9_26 k2 t x2 x3 (st_I t 19))) = some u := hf
  refine lv_aload_n hx hb dX11_moves__12 rfl (lv_at hl 0 rfl) ?_
  refine va_get (D := D) (ci := 11) (v := .ref (a 48)) (C := RX11) (T := TX11) (N := 76) hx hb hts inX11 hown hK hP 0 (heM_0 ca a t) rfl 66 (by decide) (hts _ kw_1258) (fun _ h9 => h9) rfl dX11_moves__13 ?_
  refine lv_aload_n hx hb dX11_moves__16 rfl (lv_at hl 0 rfl) ?_
  refine va_get (D := D) (ci := 11) (v := .int (st_I t 19)) (C := RX11) (T := TX11) (N := 76) hx hb hts inX11 hown hK hP 0 (heM_0 ca a t) rfl 68 (by decide) (hts _ kw_1260) (fun _ h9 => h9) rfl dX11_moves__17 ?_
  refine lv_aload_n hx hb dX11_moves__20 rfl (lv_at hl 1 rfl) ?_
  refine lv_iload_n hx hb dX11_moves__21 rfl (lv_at hl 3 rfl) ?_
  obtain ⟨h_22, hf⟩ := fb_if hf
  refine va_zald hx hb hK hP 9 2 (haM_9 ca a t) rfl h_22 dX11_moves__22 ?_
  refine lv_if_eq (tgt := 30) hx hb dX11_moves__23 (by decide) (fun h_23 => ?_) (fun h_23 => ?_)
  · have hf := fb_t h_23 hf
    exact w_M_X11_moves___0_9_30 C hr hk2 hf hP hS (lv_sub hl [0, 1, 2, 3] rfl)
  · have hf := fb_f h_23 hf
    exact w_M_X11_moves___0_9_26 C hr hk2 hf hP hS (lv_sub hl [0, 1, 2, 3] rfl)
set_option maxRecDepth 20000 in
theorem w_M_X11_moves___0_9_8 {p : Program} {l : Launch} {e : Env} {s : State} {m : MethodId} {args : Array Value} {below : List Frame} {meth : Method} {c : Code} {A : Nat → Prop} {Q : State → Prop} {D : va_G} {ca : Nat → ClassId} {a : Nat → Nat} {u : fw_S} {k2 : fw_S → Int32 → Int32 → Option fw_S} (C : CX (WM ca a) D (tyv ca) p s m args c A prog_13_method_89_code 4 RX11) (hr : True → RX (WM ca a) D p l e rm_M_X11_moves___0_9 s m args below meth c A prog_13_method_89_code Q .return_ [] u) (hk2 : ∀ (t : fw_S) (x2 : Int32) (x3 : Int32) (H : Heap) (locs : List Loc) (ls : Array Slot), k2 t x2 x3 = some u → va_P D classes (WM ca a t) H → va_S A s.heap H locs → lv_has ls 4 [(0, .ref (a 0)), (1, .ref (a 9)), (2, .int x2), (3, .int x3)] → W p l e rm_M_X11_moves___0_9 s m args below meth c H locs 0 0 Q (F0 m 2 ls [])) {t : fw_S} {x2 : Int32} {x3 : Int32} {H : Heap} {locs : List Loc} {ls : Array Slot} (hf : b_M_X11_moves___0_9_8 k2 t x2 x3 = some u) (hP : va_P D classes (WM ca a t) H) (hS : va_S A s.heap H locs) (hl : lv_has ls 4 [(0, .ref (a 0)), (1, .ref (a 9)), (2, .int x2), (3, .int x3)]) : W p l e rm_M_X11_moves___0_9 s m args below meth c H locs 0 0 Q (F0 m 8 ls []) := by
  obtain ⟨hx, hb, hml, hown, hts, hN, hK, hD, hA⟩ := id C
  have hf : (if x2 = 0 then b_M_X11_moves___0_9_35 k2 t x2 x3 else b_M_X11_moves___0_9_12 k2 t x2 x3) = some u := hf
  refine lv_iload_n hx hb dX11_moves__8 rfl (lv_at hl 2 rfl) ?_
  refine lv_if_eq (tgt := 35) hx hb dX11_moves__9 (by decide) (fun h_9 => ?_) (fun h_9 => ?_)
  · have hf := fb_t h_9 hf
    exact w_M_X11_moves___0_9_35 C hr hk2 hf hP hS (lv_sub hl [0, 1, 2, 3] rfl)
  · have hf := fb_f h_9 hf
    exact w_M_X11_moves___0_9_12 C hr hk2 hf hP hS (lv_sub hl [0, 1, 2, 3] rfl)
set_option maxRecDepth 20000 in
theorem w_M_X11_moves___0_9_2 {p : Program} {l : Launch} {e : Env} {s : State} {m : MethodId} {args : Array Value} {below : List Frame} {meth : Method} {c : Code} {A : Nat → Prop} {Q : State → Prop} {D : va_G} {ca : Nat → ClassId} {a : Nat → Nat} {u : fw_S}  (C : CX (WM ca a) D (tyv ca) p s m args c A prog_13_method_89_code 4 RX11) (hr : True → RX (WM ca a) D p l e rm_M_X11_moves___0_9 s m args below meth c A prog_13_method_89_code Q .return_ [] u) : ∀ (n : Nat) (t : fw_S) (x2 : Int32) (x3 : Int32) (H : Heap) (locs : List Loc) (ls : Array Slot), b_M_X11_moves___0_9_2  n t x2 x3 = some u → va_P D classes (WM ca a t) H → va_S A s.heap H locs → lv_has ls 4 [(0, .ref (a 0)), (1, .ref (a 9)), (2, .int x2), (3, .int x3)] → W p l e rm_M_X11_moves___0_9 s m args below meth c H locs 0 0 Q (F0 m 2 ls []) := by
  obtain ⟨hx, hb, hml, hown, hts, hN, hK, hD, hA⟩ := id C
  intro n
  induction n with
  | zero => intro t x2 x3 H locs ls hf; cases hf
  | succ n hk2 =>
    intro t x2 x3 H locs ls hf hP hS hl
    have hf : (if ((32 : Int32)) ≤ x3 then b_M_X11_moves___0_9_72 t else b_M_X11_moves___0_9_8 (b_M_X11_moves___0_9_2 n) t x2 x3) = some u := hf
    refine lv_iload_n hx hb dX11_moves__2 rfl (lv_at hl 3 rfl) ?_
    refine lv_aload_n hx hb dX11_moves__3 rfl (lv_at hl 1 rfl) ?_
    refine va_alen (v := 32) hx hb hK hP 9 2 (haM_9 ca a t) rfl rfl dX11_moves__4 ?_
    refine lv_icmp_ge (tgt := 72) hx hb dX11_moves__5 (by decide) (fun h_5 => ?_) (fun h_5 => ?_)
    · have hf := fb_t h_5 hf
      exact w_M_X11_moves___0_9_72 C hr hf hP hS (lv_sub hl [] rfl)
    · have hf := fb_f h_5 hf
      exact w_M_X11_moves___0_9_8 C hr hk2 hf hP hS (lv_sub hl [0, 1, 2, 3] rfl)
set_option maxRecDepth 20000 in
theorem w_M_X11_moves___0_9_0 {p : Program} {l : Launch} {e : Env} {s : State} {m : MethodId} {args : Array Value} {below : List Frame} {meth : Method} {c : Code} {A : Nat → Prop} {Q : State → Prop} {D : va_G} {ca : Nat → ClassId} {a : Nat → Nat} {u : fw_S}  (C : CX (WM ca a) D (tyv ca) p s m args c A prog_13_method_89_code 4 RX11) (hr : True → RX (WM ca a) D p l e rm_M_X11_moves___0_9 s m args below meth c A prog_13_method_89_code Q .return_ [] u) {t : fw_S} {x2 : Int32} {H : Heap} {locs : List Loc} {ls : Array Slot} (hf : b_M_X11_moves___0_9_0  t x2 = some u) (hP : va_P D classes (WM ca a t) H) (hS : va_S A s.heap H locs) (hl : lv_has ls 4 [(0, .ref (a 0)), (1, .ref (a 9)), (2, .int x2)]) : W p l e rm_M_X11_moves___0_9 s m args below meth c H locs 0 0 Q (F0 m 0 ls []) := by
  obtain ⟨hx, hb, hml, hown, hts, hN, hK, hD, hA⟩ := id C
  have hf : (b_M_X11_moves___0_9_2 3000 t x2 ((0 : Int32))) = some u := hf
  refine lv_iconst (v := 0) hx hb dX11_moves__0 (by decide) ?_
  refine lv_istore_n (lv' := [(3, .int ((0 : Int32))), (0, .ref (a 0)), (1, .ref (a 9)), (2, .int x2)]) hx hb dX11_moves__1 rfl hl (by decide) rfl (fun ls hl => ?_)
  exact w_M_X11_moves___0_9_2 C hr 3000 t x2 ((0 : Int32)) _ _ _ hf hP hS (lv_sub hl [1, 2, 3, 0] rfl)
set_option maxRecDepth 20000 in
theorem c_M_X11_moves___0_9 {l : Launch} {D : va_G} {ca : Nat → ClassId} {a : Nat → Nat} {t : fw_S} {x2 : Int32} {u : fw_S} (hf : f_M_X11_moves___0_9 t x2 = some u) : MC (WM ca a) D (tyv ca) l yX11_moves_ (.code yX11_moves_ prog_13_method_89_code 4 none :: lw_gd) rm_M_X11_moves___0_9 [.ref (a 0), .ref (a 9), .int x2] none t u := by
  refine fw_met (okM ca a) (by decide +kernel) rfl rfl (Nat.le_of_ble_eq_true rfl) ?_
  intro p e s m args below meth c A Q ls C hr hk hP hS hl hQ
  exact w_M_X11_moves___0_9_0 C (fun _ => fw_rv C hr hk hQ) hf hP hS (lv_sub hl [0, 1, 2] rfl)
/-! ReactiveSheetModel.moves([ZZ)V ['m', 'm.ran'] -/
abbrev rm_M_X11_moves___0_10 : Room := { frames := 0, cells := 0, slots := 0, locals := 0 }
def b_M_X11_moves___0_10_72  (t : fw_S)  : Option fw_S := some t
def b_M_X11_moves___0_10_56 (k2 : fw_S → Int32 → Int32 → Option fw_S) (t : fw_S) (x2 : Int32) (x3 : Int32) : Option fw_S := fb_l (up_I t 19 ((st_I t 19) + ((1 : Int32)))) fun t_1 => (k2 t_1 x2 (x3 + 1))
def b_M_X11_moves___0_10_55 (k2 : fw_S → Int32 → Int32 → Option fw_S) (t : fw_S) (x2 : Int32) (x3 : Int32) (z1 : Int32) (z2 : Int32) : Option fw_S := fb_g (¬ (z1 < 0 ∨ 32 ≤ z1.toNatClampNeg)) (fb_l (up_F t 8 (upd (st_F t 8) z1.toNatClampNeg (vp_nar .boolean z2))) fun t_1 => (b_M_X11_moves___0_10_56 k2 t_1 x2 x3))
def b_M_X11_moves___0_10_54 (k2 : fw_S → Int32 → Int32 → Option fw_S) (t : fw_S) (x2 : Int32) (x3 : Int32) (z1 : Int32) : Option fw_S := b_M_X11_moves___0_10_55 k2 t x2 x3 z1 ((0 : Int32))
def b_M_X11_moves___0_10_50 (k2 : fw_S → Int32 → Int32 → Option fw_S) (t : fw_S) (x2 : Int32) (x3 : Int32) (z1 : Int32) : Option fw_S := b_M_X11_moves___0_10_55 k2 t x2 x3 z1 ((1 : Int32))
def b_M_X11_moves___0_10_35 (k2 : fw_S → Int32 → Int32 → Option fw_S) (t : fw_S) (x2 : Int32) (x3 : Int32) : Option fw_S := fb_g (¬ ((st_I t 19) < 0 ∨ 2000 ≤ (st_I t 19).toNatClampNeg)) (if (st_F t 39 (st_I t 19).toNatClampNeg) = ((1 : Int32)) then b_M_X11_moves___0_10_50 k2 t x2 x3 x3 else b_M_X11_moves___0_10_54 k2 t x2 x3 x3)
def b_M_X11_moves___0_10_31 (k2 : fw_S → Int32 → Int32 → Option fw_S) (t : fw_S) (x2 : Int32) (x3 : Int32) (z1 : Int32) (z2 : Int32) : Option fw_S := fb_g (¬ (z1 < 0 ∨ 2000 ≤ z1.toNatClampNeg)) (fb_l (up_F t 39 (upd (st_F t 39) z1.toNatClampNeg z2)) fun t_1 => (b_M_X11_moves___0_10_56 k2 t_1 x2 x3))
def b_M_X11_moves___0_10_30 (k2 : fw_S → Int32 → Int32 → Option fw_S) (t : fw_S) (x2 : Int32) (x3 : Int32) (z1 : Int32) : Option fw_S := b_M_X11_moves___0_10_31 k2 t x2 x3 z1 ((0 : Int32))
def b_M_X11_moves___0_10_26 (k2 : fw_S → Int32 → Int32 → Option fw_S) (t : fw_S) (x2 : Int32) (x3 : Int32) (z1 : Int32) : Option fw_S := b_M_X11_moves___0_10_31 k2 t x2 x3 z1 ((1 : Int32))
def b_M_X11_moves___0_10_12 (k2 : fw_S → Int32 → Int32 → Option fw_S) (t : fw_S) (x2 : Int32) (x3 : Int32) : Option fw_S := fb_g (¬ (x3 < 0 ∨ 32 ≤ x3.toNatClampNeg)) (if (st_F t 8 x3.toNatClampNeg) = 0 then b_M_X11_moves___0_10_30 k2 t x2 x3 (st_I t 19) else b_M_X11_moves___0_10_26 k2 t x2 x3 (st_I t 19))
def b_M_X11_moves___0_10_8 (k2 : fw_S → Int32 → Int32 → Option fw_S) (t : fw_S) (x2 : Int32) (x3 : Int32) : Option fw_S := if x2 = 0 then b_M_X11_moves___0_10_35 k2 t x2 x3 else b_M_X11_moves___0_10_12 k2 t x2 x3
def b_M_X11_moves___0_10_2  : Nat → (fw_S → Int32 → Int32 → Option fw_S)
  | 0 => fun _ _ _ => none
  | n + 1 => fun t x2 x3 => if ((32 : Int32)) ≤ x3 then b_M_X11_moves___0_10_72 t else b_M_X11_moves___0_10_8 (b_M_X11_moves___0_10_2 n) t x2 x3
def b_M_X11_moves___0_10_0  (t : fw_S) (x2 : Int32) : Option fw_S := b_M_X11_moves___0_10_2 3000 t x2 ((0 : Int32))
def f_M_X11_moves___0_10 (t : fw_S) (x2 : Int32) : Option fw_S := b_M_X11_moves___0_10_0 t x2
set_option maxRecDepth 20000 in
theorem w_M_X11_moves___0_10_72 {p : Program} {l : Launch} {e : Env} {s : State} {m : MethodId} {args : Array Value} {below : List Frame} {meth : Method} {c : Code} {A : Nat → Prop} {Q : State → Prop} {D : va_G} {ca : Nat → ClassId} {a : Nat → Nat} {u : fw_S}  (C : CX (WM ca a) D (tyv ca) p s m args c A prog_13_method_89_code 4 RX11) (hr : True → RX (WM ca a) D p l e rm_M_X11_moves___0_10 s m args below meth c A prog_13_method_89_code Q .return_ [] u) {t : fw_S}  {H : Heap} {locs : List Loc} {ls : Array Slot} (hf : b_M_X11_moves___0_10_72  t  = some u) (hP : va_P D classes (WM ca a t) H) (hS : va_S A s.heap H locs) (hl : lv_has ls 4 []) : W p l e rm_M_X11_moves___0_10 s m args below meth c H locs 0 0 Q (F0 m 72 ls []) := by
  obtain ⟨hx, hb, hml, hown, hts, hN, hK, hD, hA⟩ := id C
  have hf : (some t) = some u := hf
  have e_72 := fb_ev hf
  subst e_72
  exact hr trivial _ _ _ _ hP hS dX11_moves__72
set_option maxRecDepth 20000 in
theorem w_M_X11_moves___0_10_56 {p : Program} {l : Launch} {e : Env} {s : State} {m : MethodId} {args : Array Value} {below : List Frame} {meth : Method} {c : Code} {A : Nat → Prop} {Q : State → Prop} {D : va_G} {ca : Nat → ClassId} {a : Nat → Nat} {u : fw_S} {k2 : fw_S → Int32 → Int32 → Option fw_S} (C : CX (WM ca a) D (tyv ca) p s m args c A prog_13_method_89_code 4 RX11) (hr : True → RX (WM ca a) D p l e rm_M_X11_moves___0_10 s m args below meth c A prog_13_method_89_code Q .return_ [] u) (hk2 : ∀ (t : fw_S) (x2 : Int32) (x3 : Int32) (H : Heap) (locs : List Loc) (ls : Array Slot), k2 t x2 x3 = some u → va_P D classes (WM ca a t) H → va_S A s.heap H locs → lv_has ls 4 [(0, .ref (a 0)), (1, .ref (a 10)), (2, .int x2), (3, .int x3)] → W p l e rm_M_X11_moves___0_10 s m args below meth c H locs 0 0 Q (F0 m 2 ls [])) {t : fw_S} {x2 : Int32} {x3 : Int32} {H : Heap} {locs : List Loc} {ls : Array Slot} (hf : b_M_X11_moves___0_10_56 k2 t x2 x3 = some u) (hP : va_P D classes (WM ca a t) H) (hS : va_S A s.heap H locs) (hl : lv_has ls 4 [(0, .ref (a 0)), (1, .ref (a 10)), (2, .int x2), (3, .int x3)]) : W p l e rm_M_X11_moves___0_10 s m args below meth c H locs 0 0 Q (F0 m 56 ls []) := by
  obtain ⟨hx, hb, hml, hown, hts, hN, hK, hD, hA⟩ := id C
  have hf : (fb_l (up_I t 19 ((st_I t 19) + ((1 : Int32)))) fun t_1 => (k2 t_1 x2 (x3 + 1))) = some u := hf
  refine lv_aload_n hx hb dX11_moves__56 rfl (lv_at hl 0 rfl) ?_
  refine lv_dup hx hb dX11_moves__57 rfl ?_
  refine va_get (D := D) (ci := 11) (v := .int (st_I t 19)) (C := RX11) (T := TX11) (N := 76) hx hb hts inX11 hown hK hP 0 (heM_0 ca a t) rfl 68 (by decide) (hts _ kw_1260) (fun _ h9 => h9) rfl dX11_moves__58 ?_
  refine lv_iconst (v := 1) hx hb dX11_moves__61 (by decide) ?_
  refine lv_iadd hx hb dX11_moves__62 ?_
  refine va_put (D := D) (ci := 11) (v := .int ((st_I t 19) + ((1 : Int32)))) (ty := .int) (C := RX11) (T := TX11) (N := 76) hx hb hts inX11 tyX11 tyX11_ok nmX11 hown hK hP (hD t) hS 0 (heM_0 ca a t) rfl 68 (by decide) (hts _ kw_1260) (fun _ h9 => h9) rfl (by decide +kernel) rfl rfl (Nat.le_of_ble_eq_true rfl) dX11_moves__63 (fun H locs hP _ hS => ?_)
  rw [suM_0_68] at hP
  obtain ⟨t_1, e_63, hf⟩ := fb_ls hf
  rw [← e_63] at hP
  refine lv_iinc (v := x3 + 1) (lv' := [(3, .int (x3 + 1)), (0, .ref (a 0)), (1, .ref (a 10)), (2, .int x2)]) hx hb dX11_moves__66 hl (k := 3) rfl rfl (by decide) rfl (fun ls hl => ?_)
  refine lv_goto (tgt := 2) hx hb dX11_moves__69 (by decide) ?_
  exact hk2 t_1 x2 (x3 + 1) _ _ _ hf hP hS (lv_sub hl [1, 2, 3, 0] rfl)
set_option maxRecDepth 20000 in
theorem w_M_X11_moves___0_10_55 {p : Program} {l : Launch} {e : Env} {s : State} {m : MethodId} {args : Array Value} {below : List Frame} {meth : Method} {c : Code} {A : Nat → Prop} {Q : State → Prop} {D : va_G} {ca : Nat → ClassId} {a : Nat → Nat} {u : fw_S} {k2 : fw_S → Int32 → Int32 → Option fw_S} (C : CX (WM ca a) D (tyv ca) p s m args c A prog_13_method_89_code 4 RX11) (hr : True → RX (WM ca a) D p l e rm_M_X11_moves___0_10 s m args below meth c A prog_13_method_89_code Q .return_ [] u) (hk2 : ∀ (t : fw_S) (x2 : Int32) (x3 : Int32) (H : Heap) (locs : List Loc) (ls : Array Slot), k2 t x2 x3 = some u → va_P D classes (WM ca a t) H → va_S A s.heap H locs → lv_has ls 4 [(0, .ref (a 0)), (1, .ref (a 10)), (2, .int x2), (3, .int x3)] → W p l e rm_M_X11_moves___0_10 s m args below meth c H locs 0 0 Q (F0 m 2 ls [])) {t : fw_S} {x2 : Int32} {x3 : Int32} {z1 : Int32} {z2 : Int32} {H : Heap} {locs : List Loc} {ls : Array Slot} (hf : b_M_X11_moves___0_10_55 k2 t x2 x3 z1 z2 = some u) (hP : va_P D classes (WM ca a t) H) (hS : va_S A s.heap H locs) (hl : lv_has ls 4 [(0, .ref (a 0)), (1, .ref (a 10)), (2, .int x2), (3, .int x3)]) : W p l e rm_M_X11_moves___0_10 s m args below meth c H locs 0 0 Q (F0 m 55 ls [.int z2, .int z1, .ref (a 10)]) := by
  obtain ⟨hx, hb, hml, hown, hts, hN, hK, hD, hA⟩ := id C
  have hf : (fb_g (¬ (z1 < 0 ∨ 32 ≤ z1.toNatClampNeg)) (fb_l (up_F t 8 (upd (st_F t 8) z1.toNatClampNeg (vp_nar .boolean z2))) fun t_1 => (b_M_X11_moves___0_10_56 k2 t_1 x2 x3))) = some u := hf
  obtain ⟨h_55, hf⟩ := fb_if hf
  refine va_zast hx hb hK hP (hD t) hS 10 2 (haM_10 ca a t) rfl h_55 dX11_moves__55 (fun H locs hP _ hS => ?_)
  rw [saM_10] at hP
  obtain ⟨t_1, e_55, hf⟩ := fb_ls hf
  rw [← e_55] at hP
  exact w_M_X11_moves___0_10_56 C hr hk2 hf hP hS (lv_sub hl [0, 1, 2, 3] rfl)
set_option maxRecDepth 20000 in
theorem w_M_X11_moves___0_10_54 {p : Program} {l : Launch} {e : Env} {s : State} {m : MethodId} {args : Array Value} {below : List Frame} {meth : Method} {c : Code} {A : Nat → Prop} {Q : State → Prop} {D : va_G} {ca : Nat → ClassId} {a : Nat → Nat} {u : fw_S} {k2 : fw_S → Int32 → Int32 → Option fw_S} (C : CX (WM ca a) D (tyv ca) p s m args c A prog_13_method_89_code 4 RX11) (hr : True → RX (WM ca a) D p l e rm_M_X11_moves___0_10 s m args below meth c A prog_13_method_89_code Q .return_ [] u) (hk2 : ∀ (t : fw_S) (x2 : Int32) (x3 : Int32) (H : Heap) (locs : List Loc) (ls : Array Slot), k2 t x2 x3 = some u → va_P D classes (WM ca a t) H → va_S A s.heap H locs → lv_has ls 4 [(0, .ref (a 0)), (1, .ref (a 10)), (2, .int x2), (3, .int x3)] → W p l e rm_M_X11_moves___0_10 s m args below meth c H locs 0 0 Q (F0 m 2 ls [])) {t : fw_S} {x2 : Int32} {x3 : Int32} {z1 : Int32} {H : Heap} {locs : List Loc} {ls : Array Slot} (hf : b_M_X11_moves___0_10_54 k2 t x2 x3 z1 = some u) (hP : va_P D classes (WM ca a t) H) (hS : va_S A s.heap H locs) (hl : lv_has ls 4 [(0, .ref (a 0)), (1, .ref (a 10)), (2, .int x2), (3, .int x3)]) : W p l e rm_M_X11_moves___0_10 s m args below meth c H locs 0 0 Q (F0 m 54 ls [.int z1, .ref (a 10)]) := by
  obtain ⟨hx, hb, hml, hown, hts, hN, hK, hD, hA⟩ := id C
  have hf : (b_M_X11_moves___0_10_55 k2 t x2 x3 z1 ((0 : Int32))) = some u := hf
  refine lv_iconst (v := 0) hx hb dX11_moves__54 (by decide) ?_
  exact w_M_X11_moves___0_10_55 C hr hk2 hf hP hS (lv_sub hl [0, 1, 2, 3] rfl)
set_option maxRecDepth 20000 in
theorem w_M_X11_moves___0_10_50 {p : Program} {l : Launch} {e : Env} {s : State} {m : MethodId} {args : Array Value} {below : List Frame} {meth : Method} {c : Code} {A : Nat → Prop} {Q : State → Prop} {D : va_G} {ca : Nat → ClassId} {a : Nat → Nat} {u : fw_S} {k2 : fw_S → Int32 → Int32 → Option fw_S} (C : CX (WM ca a) D (tyv ca) p s m args c A prog_13_method_89_code 4 RX11) (hr : True → RX (WM ca a) D p l e rm_M_X11_moves___0_10 s m args below meth c A prog_13_method_89_code Q .return_ [] u) (hk2 : ∀ (t : fw_S) (x2 : Int32) (x3 : Int32) (H : Heap) (locs : List Loc) (ls : Array Slot), k2 t x2 x3 = some u → va_P D classes (WM ca a t) H → va_S A s.heap H locs → lv_has ls 4 [(0, .ref (a 0)), (1, .ref (a 10)), (2, .int x2), (3, .int x3)] → W p l e rm_M_X11_moves___0_10 s m args below meth c H locs 0 0 Q (F0 m 2 ls [])) {t : fw_S} {x2 : Int32} {x3 : Int32} {z1 : Int32} {H : Heap} {locs : List Loc} {ls : Array Slot} (hf : b_M_X11_moves___0_10_50 k2 t x2 x3 z1 = some u) (hP : va_P D classes (WM ca a t) H) (hS : va_S A s.heap H locs) (hl : lv_has ls 4 [(0, .ref (a 0)), (1, .ref (a 10)), (2, .int x2), (3, .int x3)]) : W p l e rm_M_X11_moves___0_10 s m args below meth c H locs 0 0 Q (F0 m 50 ls [.int z1, .ref (a 10)]) := by
  obtain ⟨hx, hb, hml, hown, hts, hN, hK, hD, hA⟩ := id C
  have hf : (b_M_X11_moves___0_10_55 k2 t x2 x3 z1 ((1 : Int32))) = some u := hf
  refine lv_iconst (v := 1) hx hb dX11_moves__50 (by decide) ?_
  refine lv_goto (tgt := 55) hx hb dX11_moves__51 (by decide) ?_
  exact w_M_X11_moves___0_10_55 C hr hk2 hf hP hS (lv_sub hl [0, 1, 2, 3] rfl)
set_option maxRecDepth 20000 in
theorem w_M_X11_moves___0_10_35 {p : Program} {l : Launch} {e : Env} {s : State} {m : MethodId} {args : Array Value} {below : List Frame} {meth : Method} {c : Code} {A : Nat → Prop} {Q : State → Prop} {D : va_G} {ca : Nat → ClassId} {a : Nat → Nat} {u : fw_S} {k2 : fw_S → Int32 → Int32 → Option fw_S} (C : CX (WM ca a) D (tyv ca) p s m args c A prog_13_method_89_code 4 RX11) (hr : True → RX (WM ca a) D p l e rm_M_X11_moves___0_10 s m args below meth c A prog_13_method_89_code Q .return_ [] u) (hk2 : ∀ (t : fw_S) (x2 : Int32) (x3 : Int32) (H : Heap) (locs : List Loc) (ls : Array Slot), k2 t x2 x3 = some u → va_P D classes (WM ca a t) H → va_S A s.heap H locs → lv_has ls 4 [(0, .ref (a 0)), (1, .ref (a 10)), (2, .int x2), (3, .int x3)] → W p l e rm_M_X11_moves___0_10 s m args below meth c H locs 0 0 Q (F0 m 2 ls [])) {t : fw_S} {x2 : Int32} {x3 : Int32} {H : Heap} {locs : List Loc} {ls : Array Slot} (hf : b_M_X11_moves___0_10_35 k2 t x2 x3 = some u) (hP : va_P D classes (WM ca a t) H) (hS : va_S A s.heap H locs) (hl : lv_has ls 4 [(0, .ref (a 0)), (1, .ref (a 10)), (2, .int x2), (3, .int x3)]) : W p l e rm_M_X11_moves___0_10 s m args below meth c H locs 0 0 Q (F0 m 35 ls []) := by
  obtain ⟨hx, hb, hml, hown, hts, hN, hK, hD, hA⟩ := id C
  have hf : (fb_g (¬ ((st_I t 19) < 0 ∨ 2000 ≤ (st_I t 19).toNatClampNeg)) (if (st_F t 39 (st_I t 19).toNatClampNeg) = ((1 : Int32)) then b_M_X11_moves___0_10_50 k2 t x2 x3 x3 else b_M_X11_moves___0_10_54 k2 t x2 x3 x3)) = some u := hf
  refine lv_aload_n hx hb dX11_moves__35 rfl (lv_at hl 1 rfl) ?_
  refine lv_iload_n hx hb dX11_moves__36 rfl (lv_at hl 3 rfl) ?_
  refine lv_aload_n hx hb dX11_moves__37 rfl (lv_at hl 0 rfl) ?_
  refine va_get (D := D) (ci := 11) (v := .ref (a 48)) (C := RX11) (T := TX11) (N := 76) hx hb hts inX11 hown hK hP 0 (heM_0 ca a t) rfl 66 (by decide) (hts _ kw_1258) (fun _ h9 => h9) rfl dX11_moves__38 ?_
  refine lv_aload_n hx hb dX11_moves__41 rfl (lv_at hl 0 rfl) ?_
  refine va_get (D := D) (ci := 11) (v := .int (st_I t 19)) (C := RX11) (T := TX11) (N := 76) hx hb hts inX11 hown hK hP 0 (heM_0 ca a t) rfl 68 (by decide) (hts _ kw_1260) (fun _ h9 => h9) rfl dX11_moves__42 ?_
  obtain ⟨h_45, hf⟩ := fb_if hf
  refine va_iald hx hb hK hP 48 0 (haM_48 ca a t) rfl h_45 dX11_moves__45 ?_
  refine lv_iconst (v := 1) hx hb dX11_moves__46 (by decide) ?_
  refine lv_icmp_ne (tgt := 54) hx hb dX11_moves__47 (by decide) (fun h_47 => ?_) (fun h_47 => ?_)
  · have hf := fb_f h_47 hf
    exact w_M_X11_moves___0_10_54 C hr hk2 hf hP hS (lv_sub hl [0, 1, 2, 3] rfl)
  · have hf := fb_t h_47 hf
    exact w_M_X11_moves___0_10_50 C hr hk2 hf hP hS (lv_sub hl [0, 1, 2, 3] rfl)
set_option maxRecDepth 20000 in
theorem w_M_X11_moves___0_10_31 {p : Program} {l : Launch} {e : Env} {s : State} {m : MethodId} {args : Array Value} {below : List Frame} {meth : Method} {c : Code} {A : Nat → Prop} {Q : State → Prop} {D : va_G} {ca : Nat → ClassId} {a : Nat → Nat} {u : fw_S} {k2 : fw_S → Int32 → Int32 → Option fw_S} (C : CX (WM ca a) D (tyv ca) p s m args c A prog_13_method_89_code 4 RX11) (hr : True → RX (WM ca a) D p l e rm_M_X11_moves___0_10 s m args below meth c A prog_13_method_89_code Q .return_ [] u) (hk2 : ∀ (t : fw_S) (x2 : Int32) (x3 : Int32) (H : Heap) (locs : List Loc) (ls : Array Slot), k2 t x2 x3 = some u → va_P D classes (WM ca a t) H → va_S A s.heap H locs → lv_has ls 4 [(0, .ref (a 0)), (1, .ref (a 10)), (2, .int x2), (3, .int x3)] → W p l e rm_M_X11_moves___0_10 s m args below meth c H locs 0 0 Q (F0 m 2 ls [])) {t : fw_S} {x2 : Int32} {x3 : Int32} {z1 : Int32} {z2 : Int32} {H : Heap} {locs : List Loc} {ls : Array Slot} (hf : b_M_X11_moves___0_10_31 k2 t x2 x3 z1 z2 = some u) (hP : va_P D classes (WM ca a t) H) (hS : va_S A s.heap H locs) (hl : lv_has ls 4 [(0, .ref (a 0)), (1, .ref (a 10)), (2, .int x2), (3, .int x3)]) : W p l e rm_M_X11_moves___0_10 s m args below meth c H locs 0 0 Q (F0 m 31 ls [.int z2, .int z1, .ref (a 48)]) := by
  obtain ⟨hx, hb, hml, hown, hts, hN, hK, hD, hA⟩ := id C
  have hf : (fb_g (¬ (z1 < 0 ∨ 2000 ≤ z1.toNatClampNeg)) (fb_l (up_F t 39 (upd (st_F t 39) z1.toNatClampNeg z2)) fun t_1 => (b_M_X11_moves___0_10_56 k2 t_1 x2 x3))) = some u := hf
  obtain ⟨h_31, hf⟩ := fb_if hf
  refine va_iast hx hb hK hP (hD t) hS 48 0 (haM_48 ca a t) rfl h_31 dX11_moves__31 (fun H locs hP _ hS => ?_)
  rw [saM_48] at hP
  obtain ⟨t_1, e_31, hf⟩ := fb_ls hf
  rw [← e_31] at hP
  refine lv_goto (tgt := 56) hx hb dX11_moves__32 (by decide) ?_
  exact w_M_X11_moves___0_10_56 C hr hk2 hf hP hS (lv_sub hl [0, 1, 2, 3] rfl)
set_option maxRecDepth 20000 in
theorem w_M_X11_moves___0_10_30 {p : Program} {l : Launch} {e : Env} {s : State} {m : MethodId} {args : Array Value} {below : List Frame} {meth : Method} {c : Code} {A : Nat → Prop} {Q : State → Prop} {D : va_G} {ca : Nat → ClassId} {a : Nat → Nat} {u : fw_S} {k2 : fw_S → Int32 → Int32 → Option fw_S} (C : CX (WM ca a) D (tyv ca) p s m args c A prog_13_method_89_code 4 RX11) (hr : True → RX (WM ca a) D p l e rm_M_X11_moves___0_10 s m args below meth c A prog_13_method_89_code Q .return_ [] u) (hk2 : ∀ (t : fw_S) (x2 : Int32) (x3 : Int32) (H : Heap) (locs : List Loc) (ls : Array Slot), k2 t x2 x3 = some u → va_P D classes (WM ca a t) H → va_S A s.heap H locs → lv_has ls 4 [(0, .ref (a 0)), (1, .ref (a 10)), (2, .int x2), (3, .int x3)] → W p l e rm_M_X11_moves___0_10 s m args below meth c H locs 0 0 Q (F0 m 2 ls [])) {t : fw_S} {x2 : Int32} {x3 : Int32} {z1 : Int32} {H : Heap} {locs : List Loc} {ls : Array Slot} (hf : b_M_X11_moves___0_10_30 k2 t x2 x3 z1 = some u) (hP : va_P D classes (WM ca a t) H) (hS : va_S A s.heap H locs) (hl : lv_has ls 4 [(0, .ref (a 0)), (1, .ref (a 10)), (2, .int x2), (3, .int x3)]) : W p l e rm_M_X11_moves___0_10 s m args below meth c H locs 0 0 Q (F0 m 30 ls [.int z1, .ref (a 48)]) := by
  obtain ⟨hx, hb, hml, hown, hts, hN, hK, hD, hA⟩ := id C
  have hf : (b_M_X11_moves___0_10_31 k2 t x2 x3 z1 ((0 : Int32))) = some u := hf
  refine lv_iconst (v := 0) hx hb dX11_moves__30 (by decide) ?_
  exact w_M_X11_moves___0_10_31 C hr hk2 hf hP hS (lv_sub hl [0, 1, 2, 3] rfl)
set_option maxRecDepth 20000 in
theorem w_M_X11_moves___0_10_26 {p : Program} {l : Launch} {e : Env} {s : State} {m : MethodId} {args : Array Value} {below : List Frame} {meth : Method} {c : Code} {A : Nat → Prop} {Q : State → Prop} {D : va_G} {ca : Nat → ClassId} {a : Nat → Nat} {u : fw_S} {k2 : fw_S → Int32 → Int32 → Option fw_S} (C : CX (WM ca a) D (tyv ca) p s m args c A prog_13_method_89_code 4 RX11) (hr : True → RX (WM ca a) D p l e rm_M_X11_moves___0_10 s m args below meth c A prog_13_method_89_code Q .return_ [] u) (hk2 : ∀ (t : fw_S) (x2 : Int32) (x3 : Int32) (H : Heap) (locs : List Loc) (ls : Array Slot), k2 t x2 x3 = some u → va_P D classes (WM ca a t) H → va_S A s.heap H locs → lv_has ls 4 [(0, .ref (a 0)), (1, .ref (a 10)), (2, .int x2), (3, .int x3)] → W p l e rm_M_X11_moves___0_10 s m args below meth c H locs 0 0 Q (F0 m 2 ls [])) {t : fw_S} {x2 : Int32} {x3 : Int32} {z1 : Int32} {H : Heap} {locs : List Loc} {ls : Array Slot} (hf : b_M_X11_moves___0_10_26 k2 t x2 x3 z1 = some u) (hP : va_P D classes (WM ca a t) H) (hS : va_S A s.heap H locs) (hl : lv_has ls 4 [(0, .ref (a 0)), (1, .ref (a 10)), (2, .int x2), (3, .int x3)]) : W p l e rm_M_X11_moves___0_10 s m args below meth c H locs 0 0 Q (F0 m 26 ls [.int z1, .ref (a 48)]) := by
  obtain ⟨hx, hb, hml, hown, hts, hN, hK, hD, hA⟩ := id C
  have hf : (b_M_X11_moves___0_10_31 k2 t x2 x3 z1 ((1 : Int32))) = some u := hf
  refine lv_iconst (v := 1) hx hb dX11_moves__26 (by decide) ?_
  refine lv_goto (tgt := 31) hx hb dX11_moves__27 (by decide) ?_
  exact w_M_X11_moves___0_10_31 C hr hk2 hf hP hS (lv_sub hl [0, 1, 2, 3] rfl)
set_option maxRecDepth 20000 in
theorem w_M_X11_moves___0_10_12 {p : Program} {l : Launch} {e : Env} {s : State} {m : MethodId} {args : Array Value} {below : List Frame} {meth : Method} {c : Code} {A : Nat → Prop} {Q : State → Prop} {D : va_G} {ca : Nat → ClassId} {a : Nat → Nat} {u : fw_S} {k2 : fw_S → Int32 → Int32 → Option fw_S} (C : CX (WM ca a) D (tyv ca) p s m args c A prog_13_method_89_code 4 RX11) (hr : True → RX (WM ca a) D p l e rm_M_X11_moves___0_10 s m args below meth c A prog_13_method_89_code Q .return_ [] u) (hk2 : ∀ (t : fw_S) (x2 : Int32) (x3 : Int32) (H : Heap) (locs : List Loc) (ls : Array Slot), k2 t x2 x3 = some u → va_P D classes (WM ca a t) H → va_S A s.heap H locs → lv_has ls 4 [(0, .ref (a 0)), (1, .ref (a 10)), (2, .int x2), (3, .int x3)] → W p l e rm_M_X11_moves___0_10 s m args below meth c H locs 0 0 Q (F0 m 2 ls [])) {t : fw_S} {x2 : Int32} {x3 : Int32} {H : Heap} {locs : List Loc} {ls : Array Slot} (hf : b_M_X11_moves___0_10_12 k2 t x2 x3 = some u) (hP : va_P D classes (WM ca a t) H) (hS : va_S A s.heap H locs) (hl : lv_has ls 4 [(0, .ref (a 0)), (1, .ref (a 10)), (2, .int x2), (3, .int x3)]) : W p l e rm_M_X11_moves___0_10 s m args below meth c H locs 0 0 Q (F0 m 12 ls []) := by
  obtain ⟨hx, hb, hml, hown, hts, hN, hK, hD, hA⟩ := id C
  have hf : (fb_g (¬ (x3 < 0 ∨ 32 ≤ x3.toNatClampNeg)) (if (st_F t 8 x3.toNatClampNeg) = 0 then b_M_X11_moves___0_10_30 k2 t x2 x3 (st_I t 19) else b_M_X11_moves___0_10_26 k2 t x2 x3 (st_I t 19))) = some u := hf
  refine lv_aload_n hx hb dX11_moves__12 rfl (lv_at hl 0 rfl) ?_
  refine va_get (D := D) (ci := 11) (v := .ref (a 48)) (C := RX11) (T := TX11) (N := 76) hx hb hts inX11 hown hK hP 0 (heM_0 ca a t) rfl 66 (by decide) (hts _ kw_1258) (fun _ h9 => h9) rfl dX11_moves__13 ?_
  refine lv_aload_n hx hb dX11_moves__16 rfl (lv_at hl 0 rfl) ?_
  refine va_get (D := D) (ci := 11) (v := .int (st_I t 19)) (C := RX11) (T := TX11) (N := 76) hx hb hts inX11 hown hK hP 0 (heM_0 ca a t) rfl 68 (by decide) (hts _ kw_1260) (fun _ h9 => h9) rfl dX11_moves__17 ?_
  refine lv_aload_n hx hb dX11_moves__20 rfl (lv_at hl 1 rfl) ?_
  refine lv_iload_n hx hb dX11_moves__21 rfl (lv_at hl 3 rfl) ?_
  obtain ⟨h_22, hf⟩ := fb_if hf
  refine va_zald hx hb hK hP 10 2 (haM_10 ca a t) rfl h_22 dX11_moves__22 ?_
  refine lv_if_eq (tgt := 30) hx hb dX11_moves__23 (by decide) (fun h_23 => ?_) (fun h_23 => ?_)
  · have hf := fb_t h_23 hf
    exact w_M_X11_moves___0_10_30 C hr hk2 hf hP hS (lv_sub hl [0, 1, 2, 3] rfl)
  · have hf := fb_f h_23 hf
    exact w_M_X11_moves___0_10_26 C hr hk2 hf hP hS (lv_sub hl [0, 1, 2, 3] rfl)
set_option maxRecDepth 20000 in
theorem w_M_X11_moves___0_10_8 {p : Program} {l : Launch} {e : Env} {s : State} {m : MethodId} {args : Array Value} {below : List Frame} {meth : Method} {c : Code} {A : Nat → Prop} {Q : State → Prop} {D : va_G} {ca : Nat → ClassId} {a : Nat → Nat} {u : fw_S} {k2 : fw_S → Int32 → Int32 → Option fw_S} (C : CX (WM ca a) D (tyv ca) p s m args c A prog_13_method_89_code 4 RX11) (hr : True → RX (WM ca a) D p l e rm_M_X11_moves___0_10 s m args below meth c A prog_13_method_89_code Q .return_ [] u) (hk2 : ∀ (t : fw_S) (x2 : Int32) (x3 : Int32) (H : Heap) (locs : List Loc) (ls : Array Slot), k2 t x2 x3 = some u → va_P D classes (WM ca a t) H → va_S A s.heap H locs → lv_has ls 4 [(0, .ref (a 0)), (1, .ref (a 10)), (2, .int x2), (3, .int x3)] → W p l e rm_M_X11_moves___0_10 s m args below meth c H locs 0 0 Q (F0 m 2 ls [])) {t : fw_S} {x2 : Int32} {x3 : Int32} {H : Heap} {locs : List Loc} {ls : Array Slot} (hf : b_M_X11_moves___0_10_8 k2 t x2 x3 = some u) (hP : va_P D classes (WM ca a t) H) (hS : va_S A s.heap H locs) (hl : lv_has ls 4 [(0, .ref (a 0)), (1, .ref (a 10)), (2, .int x2), (3, .int x3)]) : W p l e rm_M_X11_moves___0_10 s m args below meth c H locs 0 0 Q (F0 m 8 ls []) := by
  obtain ⟨hx, hb, hml, hown, hts, hN, hK, hD, hA⟩ := id C
  have hf : (if x2 = 0 then b_M_X11_moves___0_10_35 k2 t x2 x3 else b_M_X11_moves___0_10_12 k2 t x2 x3) = some u := hf
  refine lv_iload_n hx hb dX11_moves__8 rfl (lv_at hl 2 rfl) ?_
  refine lv_if_eq (tgt := 35) hx hb dX11_moves__9 (by decide) (fun h_9 => ?_) (fun h_9 => ?_)
  · have hf := fb_t h_9 hf
    exact w_M_X11_moves___0_10_35 C hr hk2 hf hP hS (lv_sub hl [0, 1, 2, 3] rfl)
  · have hf := fb_f h_9 hf
    exact w_M_X11_moves___0_10_12 C hr hk2 hf hP hS (lv_sub hl [0, 1, 2, 3] rfl)
set_option maxRecDepth 20000 in
theorem w_M_X11_moves___0_10_2 {p : Program} {l : Launch} {e : Env} {s : State} {m : MethodId} {args : Array Value} {below : List Frame} {meth : Method} {c : Code} {A : Nat → Prop} {Q : State → Prop} {D : va_G} {ca : Nat → ClassId} {a : Nat → Nat} {u : fw_S}  (C : CX (WM ca a) D (tyv ca) p s m args c A prog_13_method_89_code 4 RX11) (hr : True → RX (WM ca a) D p l e rm_M_X11_moves___0_10 s m args below meth c A prog_13_method_89_code Q .return_ [] u) : ∀ (n : Nat) (t : fw_S) (x2 : Int32) (x3 : Int32) (H : Heap) (locs : List Loc) (ls : Array Slot), b_M_X11_moves___0_10_2  n t x2 x3 = some u → va_P D classes (WM ca a t) H → va_S A s.heap H locs → lv_has ls 4 [(0, .ref (a 0)), (1, .ref (a 10)), (2, .int x2), (3, .int x3)] → W p l e rm_M_X11_moves___0_10 s m args below meth c H locs 0 0 Q (F0 m 2 ls []) := by
  obtain ⟨hx, hb, hml, hown, hts, hN, hK, hD, hA⟩ := id C
  intro n
  induction n with
  | zero => intro t x2 x3 H locs ls hf; cases hf
  | succ n hk2 =>
    intro t x2 x3 H locs ls hf hP hS hl
    have hf : (if ((32 : Int32)) ≤ x3 then b_M_X11_moves___0_10_72 t else b_M_X11_moves___0_10_8 (b_M_X11_moves___0_10_2 n) t x2 x3) = some u := hf
    refine lv_iload_n hx hb dX11_moves__2 rfl (lv_at hl 3 rfl) ?_
    refine lv_aload_n hx hb dX11_moves__3 rfl (lv_at hl 1 rfl) ?_
    refine va_alen (v := 32) hx hb hK hP 10 2 (haM_10 ca a t) rfl rfl dX11_moves__4 ?_
    refine lv_icmp_ge (tgt := 72) hx hb dX11_moves__5 (by decide) (fun h_5 => ?_) (fun h_5 => ?_)
    · have hf := fb_t h_5 hf
      exact w_M_X11_moves___0_10_72 C hr hf hP hS (lv_sub hl [] rfl)
    · have hf := fb_f h_5 hf
      exact w_M_X11_moves___0_10_8 C hr hk2 hf hP hS (lv_sub hl [0, 1, 2, 3] rfl)
set_option maxRecDepth 20000 in
theorem w_M_X11_moves___0_10_0 {p : Program} {l : Launch} {e : Env} {s : State} {m : MethodId} {args : Array Value} {below : List Frame} {meth : Method} {c : Code} {A : Nat → Prop} {Q : State → Prop} {D : va_G} {ca : Nat → ClassId} {a : Nat → Nat} {u : fw_S}  (C : CX (WM ca a) D (tyv ca) p s m args c A prog_13_method_89_code 4 RX11) (hr : True → RX (WM ca a) D p l e rm_M_X11_moves___0_10 s m args below meth c A prog_13_method_89_code Q .return_ [] u) {t : fw_S} {x2 : Int32} {H : Heap} {locs : List Loc} {ls : Array Slot} (hf : b_M_X11_moves___0_10_0  t x2 = some u) (hP : va_P D classes (WM ca a t) H) (hS : va_S A s.heap H locs) (hl : lv_has ls 4 [(0, .ref (a 0)), (1, .ref (a 10)), (2, .int x2)]) : W p l e rm_M_X11_moves___0_10 s m args below meth c H locs 0 0 Q (F0 m 0 ls []) := by
  obtain ⟨hx, hb, hml, hown, hts, hN, hK, hD, hA⟩ := id C
  have hf : (b_M_X11_moves___0_10_2 3000 t x2 ((0 : Int32))) = some u := hf
  refine lv_iconst (v := 0) hx hb dX11_moves__0 (by decide) ?_
  refine lv_istore_n (lv' := [(3, .int ((0 : Int32))), (0, .ref (a 0)), (1, .ref (a 10)), (2, .int x2)]) hx hb dX11_moves__1 rfl hl (by decide) rfl (fun ls hl => ?_)
  exact w_M_X11_moves___0_10_2 C hr 3000 t x2 ((0 : Int32)) _ _ _ hf hP hS (lv_sub hl [1, 2, 3, 0] rfl)
set_option maxRecDepth 20000 in
theorem c_M_X11_moves___0_10 {l : Launch} {D : va_G} {ca : Nat → ClassId} {a : Nat → Nat} {t : fw_S} {x2 : Int32} {u : fw_S} (hf : f_M_X11_moves___0_10 t x2 = some u) : MC (WM ca a) D (tyv ca) l yX11_moves_ (.code yX11_moves_ prog_13_method_89_code 4 none :: lw_gd) rm_M_X11_moves___0_10 [.ref (a 0), .ref (a 10), .int x2] none t u := by
  refine fw_met (okM ca a) (by decide +kernel) rfl rfl (Nat.le_of_ble_eq_true rfl) ?_
  intro p e s m args below meth c A Q ls C hr hk hP hS hl hQ
  exact w_M_X11_moves___0_10_0 C (fun _ => fw_rv C hr hk hQ) hf hP hS (lv_sub hl [0, 1, 2] rfl)
/-! ReactiveSheetModel.moves([IZ)V ['m', 'm.watched'] -/
abbrev rm_M_X11_moves__0_36 : Room := { frames := 0, cells := 0, slots := 0, locals := 0 }
def b_M_X11_moves__0_36_55  (t : fw_S)  : Option fw_S := some t
def b_M_X11_moves__0_36_39 (k2 : fw_S → Int32 → Int32 → Option fw_S) (t : fw_S) (x2 : Int32) (x3 : Int32) : Option fw_S := fb_l (up_I t 19 ((st_I t 19) + ((1 : Int32)))) fun t_1 => (k2 t_1 x2 (x3 + 1))
def b_M_X11_moves__0_36_27 (k2 : fw_S → Int32 → Int32 → Option fw_S) (t : fw_S) (x2 : Int32) (x3 : Int32) : Option fw_S := fb_g (¬ ((st_I t 19) < 0 ∨ 2000 ≤ (st_I t 19).toNatClampNeg)) (fb_g (¬ (x3 < 0 ∨ 8 ≤ x3.toNatClampNeg)) (fb_l (up_F t 31 (upd (st_F t 31) x3.toNatClampNeg (st_F t 39 (st_I t 19).toNatClampNeg))) fun t_1 => (b_M_X11_moves__0_36_39 k2 t_1 x2 x3)))
def b_M_X11_moves__0_36_12 (k2 : fw_S → Int32 → Int32 → Option fw_S) (t : fw_S) (x2 : Int32) (x3 : Int32) : Option fw_S := fb_g (¬ (x3 < 0 ∨ 8 ≤ x3.toNatClampNeg)) (fb_g (¬ ((st_I t 19) < 0 ∨ 2000 ≤ (st_I t 19).toNatClampNeg)) (fb_l (up_F t 39 (upd (st_F t 39) (st_I t 19).toNatClampNeg (st_F t 31 x3.toNatClampNeg))) fun t_1 => (b_M_X11_moves__0_36_39 k2 t_1 x2 x3)))
def b_M_X11_moves__0_36_8 (k2 : fw_S → Int32 → Int32 → Option fw_S) (t : fw_S) (x2 : Int32) (x3 : Int32) : Option fw_S := if x2 = 0 then b_M_X11_moves__0_36_27 k2 t x2 x3 else b_M_X11_moves__0_36_12 k2 t x2 x3
def b_M_X11_moves__0_36_2  : Nat → (fw_S → Int32 → Int32 → Option fw_S)
  | 0 => fun _ _ _ => none
  | n + 1 => fun t x2 x3 => if ((8 : Int32)) ≤ x3 then b_M_X11_moves__0_36_55 t else b_M_X11_moves__0_36_8 (b_M_X11_moves__0_36_2 n) t x2 x3
def b_M_X11_moves__0_36_0  (t : fw_S) (x2 : Int32) : Option fw_S := b_M_X11_moves__0_36_2 3000 t x2 ((0 : Int32))
def f_M_X11_moves__0_36 (t : fw_S) (x2 : Int32) : Option fw_S := b_M_X11_moves__0_36_0 t x2
set_option maxRecDepth 20000 in
theorem w_M_X11_moves__0_36_55 {p : Program} {l : Launch} {e : Env} {s : State} {m : MethodId} {args : Array Value} {below : List Frame} {meth : Method} {c : Code} {A : Nat → Prop} {Q : State → Prop} {D : va_G} {ca : Nat → ClassId} {a : Nat → Nat} {u : fw_S}  (C : CX (WM ca a) D (tyv ca) p s m args c A prog_13_method_88_code 4 RX11) (hr : True → RX (WM ca a) D p l e rm_M_X11_moves__0_36 s m args below meth c A prog_13_method_88_code Q .return_ [] u) {t : fw_S}  {H : Heap} {locs : List Loc} {ls : Array Slot} (hf : b_M_X11_moves__0_36_55  t  = some u) (hP : va_P D classes (WM ca a t) H) (hS : va_S A s.heap H locs) (hl : lv_has ls 4 []) : W p l e rm_M_X11_moves__0_36 s m args below meth c H locs 0 0 Q (F0 m 55 ls []) := by
  obtain ⟨hx, hb, hml, hown, hts, hN, hK, hD, hA⟩ := id C
  have hf : (some t) = some u := hf
  have e_55 := fb_ev hf
  subst e_55
  exact hr trivial _ _ _ _ hP hS dX11_moves_55
set_option maxRecDepth 20000 in
theorem w_M_X11_moves__0_36_39 {p : Program} {l : Launch} {e : Env} {s : State} {m : MethodId} {args : Array Value} {below : List Frame} {meth : Method} {c : Code} {A : Nat → Prop} {Q : State → Prop} {D : va_G} {ca : Nat → ClassId} {a : Nat → Nat} {u : fw_S} {k2 : fw_S → Int32 → Int32 → Option fw_S} (C : CX (WM ca a) D (tyv ca) p s m args c A prog_13_method_88_code 4 RX11) (hr : True → RX (WM ca a) D p l e rm_M_X11_moves__0_36 s m args below meth c A prog_13_method_88_code Q .return_ [] u) (hk2 : ∀ (t : fw_S) (x2 : Int32) (x3 : Int32) (H : Heap) (locs : List Loc) (ls : Array Slot), k2 t x2 x3 = some u → va_P D classes (WM ca a t) H → va_S A s.heap H locs → lv_has ls 4 [(0, .ref (a 0)), (1, .ref (a 36)), (2, .int x2), (3, .int x3)] → W p l e rm_M_X11_moves__0_36 s m args below meth c H locs 0 0 Q (F0 m 2 ls [])) {t : fw_S} {x2 : Int32} {x3 : Int32} {H : Heap} {locs : List Loc} {ls : Array Slot} (hf : b_M_X11_moves__0_36_39 k2 t x2 x3 = some u) (hP : va_P D classes (WM ca a t) H) (hS : va_S A s.heap H locs) (hl : lv_has ls 4 [(0, .ref (a 0)), (1, .ref (a 36)), (2, .int x2), (3, .int x3)]) : W p l e rm_M_X11_moves__0_36 s m args below meth c H locs 0 0 Q (F0 m 39 ls []) := by
  obtain ⟨hx, hb, hml, hown, hts, hN, hK, hD, hA⟩ := id C
  have hf : (fb_l (up_I t 19 ((st_I t 19) + ((1 : Int32)))) fun t_1 => (k2 t_1 x2 (x3 + 1))) = some u := hf
  refine lv_aload_n hx hb dX11_moves_39 rfl (lv_at hl 0 rfl) ?_
  refine lv_dup hx hb dX11_moves_40 rfl ?_
  refine va_get (D := D) (ci := 11) (v := .int (st_I t 19)) (C := RX11) (T := TX11) (N := 76) hx hb hts inX11 hown hK hP 0 (heM_0 ca a t) rfl 68 (by decide) (hts _ kw_1260) (fun _ h9 => h9) rfl dX11_moves_41 ?_
  refine lv_iconst (v := 1) hx hb dX11_moves_44 (by decide) ?_
  refine lv_iadd hx hb dX11_moves_45 ?_
  refine va_put (D := D) (ci := 11) (v := .int ((st_I t 19) + ((1 : Int32)))) (ty := .int) (C := RX11) (T := TX11) (N := 76) hx hb hts inX11 tyX11 tyX11_ok nmX11 hown hK hP (hD t) hS 0 (heM_0 ca a t) rfl 68 (by decide) (hts _ kw_1260) (fun _ h9 => h9) rfl (by decide +kernel) rfl rfl (Nat.le_of_ble_eq_true rfl) dX11_moves_46 (fun H locs hP _ hS => ?_)
  rw [suM_0_68] at hP
  obtain ⟨t_1, e_46, hf⟩ := fb_ls hf
  rw [← e_46] at hP
  refine lv_iinc (v := x3 + 1) (lv' := [(3, .int (x3 + 1)), (0, .ref (a 0)), (1, .ref (a 36)), (2, .int x2)]) hx hb dX11_moves_49 hl (k := 3) rfl rfl (by decide) rfl (fun ls hl => ?_)
  refine lv_goto (tgt := 2) hx hb dX11_moves_52 (by decide) ?_
  exact hk2 t_1 x2 (x3 + 1) _ _ _ hf hP hS (lv_sub hl [1, 2, 3, 0] rfl)
set_option maxRecDepth 20000 in
theorem w_M_X11_moves__0_36_27 {p : Program} {l : Launch} {e : Env} {s : State} {m : MethodId} {args : Array Value} {below : List Frame} {meth : Method} {c : Code} {A : Nat → Prop} {Q : State → Prop} {D : va_G} {ca : Nat → ClassId} {a : Nat → Nat} {u : fw_S} {k2 : fw_S → Int32 → Int32 → Option fw_S} (C : CX (WM ca a) D (tyv ca) p s m args c A prog_13_method_88_code 4 RX11) (hr : True → RX (WM ca a) D p l e rm_M_X11_moves__0_36 s m args below meth c A prog_13_method_88_code Q .return_ [] u) (hk2 : ∀ (t : fw_S) (x2 : Int32) (x3 : Int32) (H : Heap) (locs : List Loc) (ls : Array Slot), k2 t x2 x3 = some u → va_P D classes (WM ca a t) H → va_S A s.heap H locs → lv_has ls 4 [(0, .ref (a 0)), (1, .ref (a 36)), (2, .int x2), (3, .int x3)] → W p l e rm_M_X11_moves__0_36 s m args below meth c H locs 0 0 Q (F0 m 2 ls [])) {t : fw_S} {x2 : Int32} {x3 : Int32} {H : Heap} {locs : List Loc} {ls : Array Slot} (hf : b_M_X11_moves__0_36_27 k2 t x2 x3 = some u) (hP : va_P D classes (WM ca a t) H) (hS : va_S A s.heap H locs) (hl : lv_has ls 4 [(0, .ref (a 0)), (1, .ref (a 36)), (2, .int x2), (3, .int x3)]) : W p l e rm_M_X11_moves__0_36 s m args below meth c H locs 0 0 Q (F0 m 27 ls []) := by
  obtain ⟨hx, hb, hml, hown, hts, hN, hK, hD, hA⟩ := id C
  have hf : (fb_g (¬ ((st_I t 19) < 0 ∨ 2000 ≤ (st_I t 19).toNatClampNeg)) (fb_g (¬ (x3 < 0 ∨ 8 ≤ x3.toNatClampNeg)) (fb_l (up_F t 31 (upd (st_F t 31) x3.toNatClampNeg (st_F t 39 (st_I t 19).toNatClampNeg))) fun t_1 => (b_M_X11_moves__0_36_39 k2 t_1 x2 x3)))) = some u := hf
  refine lv_aload_n hx hb dX11_moves_27 rfl (lv_at hl 1 rfl) ?_
  refine lv_iload_n hx hb dX11_moves_28 rfl (lv_at hl 3 rfl) ?_
  refine lv_aload_n hx hb dX11_moves_29 rfl (lv_at hl 0 rfl) ?_
  refine va_get (D := D) (ci := 11) (v := .ref (a 48)) (C := RX11) (T := TX11) (N := 76) hx hb hts inX11 hown hK hP 0 (heM_0 ca a t) rfl 66 (by decide) (hts _ kw_1258) (fun _ h9 => h9) rfl dX11_moves_30 ?_
  refine lv_aload_n hx hb dX11_moves_33 rfl (lv_at hl 0 rfl) ?_
  refine va_get (D := D) (ci := 11) (v := .int (st_I t 19)) (C := RX11) (T := TX11) (N := 76) hx hb hts inX11 hown hK hP 0 (heM_0 ca a t) rfl 68 (by decide) (hts _ kw_1260) (fun _ h9 => h9) rfl dX11_moves_34 ?_
  obtain ⟨h_37, hf⟩ := fb_if hf
  refine va_iald hx hb hK hP 48 0 (haM_48 ca a t) rfl h_37 dX11_moves_37 ?_
  obtain ⟨h_38, hf⟩ := fb_if hf
  refine va_iast hx hb hK hP (hD t) hS 36 0 (haM_36 ca a t) rfl h_38 dX11_moves_38 (fun H locs hP _ hS => ?_)
  rw [saM_36] at hP
  obtain ⟨t_1, e_38, hf⟩ := fb_ls hf
  rw [← e_38] at hP
  exact w_M_X11_moves__0_36_39 C hr hk2 hf hP hS (lv_sub hl [0, 1, 2, 3] rfl)
set_option maxRecDepth 20000 in
theorem w_M_X11_moves__0_36_12 {p : Program} {l : Launch} {e : Env} {s : State} {m : MethodId} {args : Array Value} {below : List Frame} {meth : Method} {c : Code} {A : Nat → Prop} {Q : State → Prop} {D : va_G} {ca : Nat → ClassId} {a : Nat → Nat} {u : fw_S} {k2 : fw_S → Int32 → Int32 → Option fw_S} (C : CX (WM ca a) D (tyv ca) p s m args c A prog_13_method_88_code 4 RX11) (hr : True → RX (WM ca a) D p l e rm_M_X11_moves__0_36 s m args below meth c A prog_13_method_88_code Q .return_ [] u) (hk2 : ∀ (t : fw_S) (x2 : Int32) (x3 : Int32) (H : Heap) (locs : List Loc) (ls : Array Slot), k2 t x2 x3 = some u → va_P D classes (WM ca a t) H → va_S A s.heap H locs → lv_has ls 4 [(0, .ref (a 0)), (1, .ref (a 36)), (2, .int x2), (3, .int x3)] → W p l e rm_M_X11_moves__0_36 s m args below meth c H locs 0 0 Q (F0 m 2 ls [])) {t : fw_S} {x2 : Int32} {x3 : Int32} {H : Heap} {locs : List Loc} {ls : Array Slot} (hf : b_M_X11_moves__0_36_12 k2 t x2 x3 = some u) (hP : va_P D classes (WM ca a t) H) (hS : va_S A s.heap H locs) (hl : lv_has ls 4 [(0, .ref (a 0)), (1, .ref (a 36)), (2, .int x2), (3, .int x3)]) : W p l e rm_M_X11_moves__0_36 s m args below meth c H locs 0 0 Q (F0 m 12 ls []) := by
  obtain ⟨hx, hb, hml, hown, hts, hN, hK, hD, hA⟩ := id C
  have hf : (fb_g (¬ (x3 < 0 ∨ 8 ≤ x3.toNatClampNeg)) (fb_g (¬ ((st_I t 19) < 0 ∨ 2000 ≤ (st_I t 19).toNatClampNeg)) (fb_l (up_F t 39 (upd (st_F t 39) (st_I t 19).toNatClampNeg (st_F t 31 x3.toNatClampNeg))) fun t_1 => (b_M_X11_moves__0_36_39 k2 t_1 x2 x3)))) = some u := hf
  refine lv_aload_n hx hb dX11_moves_12 rfl (lv_at hl 0 rfl) ?_
  refine va_get (D := D) (ci := 11) (v := .ref (a 48)) (C := RX11) (T := TX11) (N := 76) hx hb hts inX11 hown hK hP 0 (heM_0 ca a t) rfl 66 (by decide) (hts _ kw_1258) (fun _ h9 => h9) rfl dX11_moves_13 ?_
  refine lv_aload_n hx hb dX11_moves_16 rfl (lv_at hl 0 rfl) ?_
  refine va_get (D := D) (ci := 11) (v := .int (st_I t 19)) (C := RX11) (T := TX11) (N := 76) hx hb hts inX11 hown hK hP 0 (heM_0 ca a t) rfl 68 (by decide) (hts _ kw_1260) (fun _ h9 => h9) rfl dX11_moves_17 ?_
  refine lv_aload_n hx hb dX11_moves_20 rfl (lv_at hl 1 rfl) ?_
  refine lv_iload_n hx hb dX11_moves_21 rfl (lv_at hl 3 rfl) ?_
  obtain ⟨h_22, hf⟩ := fb_if hf
  refine va_iald hx hb hK hP 36 0 (haM_36 ca a t) rfl h_22 dX11_moves_22 ?_
  obtain ⟨h_23, hf⟩ := fb_if hf
  refine va_iast hx hb hK hP (hD t) hS 48 0 (haM_48 ca a t) rfl h_23 dX11_moves_23 (fun H locs hP _ hS => ?_)
  rw [saM_48] at hP
  obtain ⟨t_1, e_23, hf⟩ := fb_ls hf
  rw [← e_23] at hP
  refine lv_goto (tgt := 39) hx hb dX11_moves_24 (by decide) ?_
  exact w_M_X11_moves__0_36_39 C hr hk2 hf hP hS (lv_sub hl [0, 1, 2, 3] rfl)
set_option maxRecDepth 20000 in
theorem w_M_X11_moves__0_36_8 {p : Program} {l : Launch} {e : Env} {s : State} {m : MethodId} {args : Array Value} {below : List Frame} {meth : Method} {c : Code} {A : Nat → Prop} {Q : State → Prop} {D : va_G} {ca : Nat → ClassId} {a : Nat → Nat} {u : fw_S} {k2 : fw_S → Int32 → Int32 → Option fw_S} (C : CX (WM ca a) D (tyv ca) p s m args c A prog_13_method_88_code 4 RX11) (hr : True → RX (WM ca a) D p l e rm_M_X11_moves__0_36 s m args below meth c A prog_13_method_88_code Q .return_ [] u) (hk2 : ∀ (t : fw_S) (x2 : Int32) (x3 : Int32) (H : Heap) (locs : List Loc) (ls : Array Slot), k2 t x2 x3 = some u → va_P D classes (WM ca a t) H → va_S A s.heap H locs → lv_has ls 4 [(0, .ref (a 0)), (1, .ref (a 36)), (2, .int x2), (3, .int x3)] → W p l e rm_M_X11_moves__0_36 s m args below meth c H locs 0 0 Q (F0 m 2 ls [])) {t : fw_S} {x2 : Int32} {x3 : Int32} {H : Heap} {locs : List Loc} {ls : Array Slot} (hf : b_M_X11_moves__0_36_8 k2 t x2 x3 = some u) (hP : va_P D classes (WM ca a t) H) (hS : va_S A s.heap H locs) (hl : lv_has ls 4 [(0, .ref (a 0)), (1, .ref (a 36)), (2, .int x2), (3, .int x3)]) : W p l e rm_M_X11_moves__0_36 s m args below meth c H locs 0 0 Q (F0 m 8 ls []) := by
  obtain ⟨hx, hb, hml, hown, hts, hN, hK, hD, hA⟩ := id C
  have hf : (if x2 = 0 then b_M_X11_moves__0_36_27 k2 t x2 x3 else b_M_X11_moves__0_36_12 k2 t x2 x3) = some u := hf
  refine lv_iload_n hx hb dX11_moves_8 rfl (lv_at hl 2 rfl) ?_
  refine lv_if_eq (tgt := 27) hx hb dX11_moves_9 (by decide) (fun h_9 => ?_) (fun h_9 => ?_)
  · have hf := fb_t h_9 hf
    exact w_M_X11_moves__0_36_27 C hr hk2 hf hP hS (lv_sub hl [0, 1, 2, 3] rfl)
  · have hf := fb_f h_9 hf
    exact w_M_X11_moves__0_36_12 C hr hk2 hf hP hS (lv_sub hl [0, 1, 2, 3] rfl)
set_option maxRecDepth 20000 in
theorem w_M_X11_moves__0_36_2 {p : Program} {l : Launch} {e : Env} {s : State} {m : MethodId} {args : Array Value} {below : List Frame} {meth : Method} {c : Code} {A : Nat → Prop} {Q : State → Prop} {D : va_G} {ca : Nat → ClassId} {a : Nat → Nat} {u : fw_S}  (C : CX (WM ca a) D (tyv ca) p s m args c A prog_13_method_88_code 4 RX11) (hr : True → RX (WM ca a) D p l e rm_M_X11_moves__0_36 s m args below meth c A prog_13_method_88_code Q .return_ [] u) : ∀ (n : Nat) (t : fw_S) (x2 : Int32) (x3 : Int32) (H : Heap) (locs : List Loc) (ls : Array Slot), b_M_X11_moves__0_36_2  n t x2 x3 = some u → va_P D classes (WM ca a t) H → va_S A s.heap H locs → lv_has ls 4 [(0, .ref (a 0)), (1, .ref (a 36)), (2, .int x2), (3, .int x3)] → W p l e rm_M_X11_moves__0_36 s m args below meth c H locs 0 0 Q (F0 m 2 ls []) := by
  obtain ⟨hx, hb, hml, hown, hts, hN, hK, hD, hA⟩ := id C
  intro n
  induction n with
  | zero => intro t x2 x3 H locs ls hf; cases hf
  | succ n hk2 =>
    intro t x2 x3 H locs ls hf hP hS hl
    have hf : (if ((8 : Int32)) ≤ x3 then b_M_X11_moves__0_36_55 t else b_M_X11_moves__0_36_8 (b_M_X11_moves__0_36_2 n) t x2 x3) = some u := hf
    refine lv_iload_n hx hb dX11_moves_2 rfl (lv_at hl 3 rfl) ?_
    refine lv_aload_n hx hb dX11_moves_3 rfl (lv_at hl 1 rfl) ?_
    refine va_alen (v := 8) hx hb hK hP 36 0 (haM_36 ca a t) rfl rfl dX11_moves_4 ?_
    refine lv_icmp_ge (tgt := 55) hx hb dX11_moves_5 (by decide) (fun h_5 => ?_) (fun h_5 => ?_)
    · have hf := fb_t h_5 hf
      exact w_M_X11_moves__0_36_55 C hr hf hP hS (lv_sub hl [] rfl)
    · have hf := fb_f h_5 hf
      exact w_M_X11_moves__0_36_8 C hr hk2 hf hP hS (lv_sub hl [0, 1, 2, 3] rfl)
set_option maxRecDepth 20000 in
theorem w_M_X11_moves__0_36_0 {p : Program} {l : Launch} {e : Env} {s : State} {m : MethodId} {args : Array Value} {below : List Frame} {meth : Method} {c : Code} {A : Nat → Prop} {Q : State → Prop} {D : va_G} {ca : Nat → ClassId} {a : Nat → Nat} {u : fw_S}  (C : CX (WM ca a) D (tyv ca) p s m args c A prog_13_method_88_code 4 RX11) (hr : True → RX (WM ca a) D p l e rm_M_X11_moves__0_36 s m args below meth c A prog_13_method_88_code Q .return_ [] u) {t : fw_S} {x2 : Int32} {H : Heap} {locs : List Loc} {ls : Array Slot} (hf : b_M_X11_moves__0_36_0  t x2 = some u) (hP : va_P D classes (WM ca a t) H) (hS : va_S A s.heap H locs) (hl : lv_has ls 4 [(0, .ref (a 0)), (1, .ref (a 36)), (2, .int x2)]) : W p l e rm_M_X11_moves__0_36 s m args below meth c H locs 0 0 Q (F0 m 0 ls []) := by
  obtain ⟨hx, hb, hml, hown, hts, hN, hK, hD, hA⟩ := id C
  have hf : (b_M_X11_moves__0_36_2 3000 t x2 ((0 : Int32))) = some u := hf
  refine lv_iconst (v := 0) hx hb dX11_moves_0 (by decide) ?_
  refine lv_istore_n (lv' := [(3, .int ((0 : Int32))), (0, .ref (a 0)), (1, .ref (a 36)), (2, .int x2)]) hx hb dX11_moves_1 rfl hl (by decide) rfl (fun ls hl => ?_)
  exact w_M_X11_moves__0_36_2 C hr 3000 t x2 ((0 : Int32)) _ _ _ hf hP hS (lv_sub hl [1, 2, 3, 0] rfl)
set_option maxRecDepth 20000 in
theorem c_M_X11_moves__0_36 {l : Launch} {D : va_G} {ca : Nat → ClassId} {a : Nat → Nat} {t : fw_S} {x2 : Int32} {u : fw_S} (hf : f_M_X11_moves__0_36 t x2 = some u) : MC (WM ca a) D (tyv ca) l yX11_moves (.code yX11_moves prog_13_method_88_code 4 none :: lw_gd) rm_M_X11_moves__0_36 [.ref (a 0), .ref (a 36), .int x2] none t u := by
  refine fw_met (okM ca a) (by decide +kernel) rfl rfl (Nat.le_of_ble_eq_true rfl) ?_
  intro p e s m args below meth c A Q ls C hr hk hP hS hl hQ
  exact w_M_X11_moves__0_36_0 C (fun _ => fw_rv C hr hk hQ) hf hP hS (lv_sub hl [0, 1, 2] rfl)
/-! ReactiveSheetModel.moves([IZ)V ['m', 'm.watchKind'] -/
abbrev rm_M_X11_moves__0_37 : Room := { frames := 0, cells := 0, slots := 0, locals := 0 }
def b_M_X11_moves__0_37_55  (t : fw_S)  : Option fw_S := some t
def b_M_X11_moves__0_37_39 (k2 : fw_S → Int32 → Int32 → Option fw_S) (t : fw_S) (x2 : Int32) (x3 : Int32) : Option fw_S := fb_l (up_I t 19 ((st_I t 19) + ((1 : Int32)))) fun t_1 => (k2 t_1 x2 (x3 + 1))
def b_M_X11_moves__0_37_27 (k2 : fw_S → Int32 → Int32 → Option fw_S) (t : fw_S) (x2 : Int32) (x3 : Int32) : Option fw_S := fb_g (¬ ((st_I t 19) < 0 ∨ 2000 ≤ (st_I t 19).toNatClampNeg)) (fb_g (¬ (x3 < 0 ∨ 8 ≤ x3.toNatClampNeg)) (fb_l (up_F t 32 (upd (st_F t 32) x3.toNatClampNeg (st_F t 39 (st_I t 19).toNatClampNeg))) fun t_1 => (b_M_X11_moves__0_37_39 k2 t_1 x2 x3)))
def b_M_X11_moves__0_37_12 (k2 : fw_S → Int32 → Int32 → Option fw_S) (t : fw_S) (x2 : Int32) (x3 : Int32) : Option fw_S := fb_g (¬ (x3 < 0 ∨ 8 ≤ x3.toNatClampNeg)) (fb_g (¬ ((st_I t 19) < 0 ∨ 2000 ≤ (st_I t 19).toNatClampNeg)) (fb_l (up_F t 39 (upd (st_F t 39) (st_I t 19).toNatClampNeg (st_F t 32 x3.toNatClampNeg))) fun t_1 => (b_M_X11_moves__0_37_39 k2 t_1 x2 x3)))
def b_M_X11_moves__0_37_8 (k2 : fw_S → Int32 → Int32 → Option fw_S) (t : fw_S) (x2 : Int32) (x3 : Int32) : Option fw_S := if x2 = 0 then b_M_X11_moves__0_37_27 k2 t x2 x3 else b_M_X11_moves__0_37_12 k2 t x2 x3
def b_M_X11_moves__0_37_2  : Nat → (fw_S → Int32 → Int32 → Option fw_S)
  | 0 => fun _ _ _ => none
  | n + 1 => fun t x2 x3 => if ((8 : Int32)) ≤ x3 then b_M_X11_moves__0_37_55 t else b_M_X11_moves__0_37_8 (b_M_X11_moves__0_37_2 n) t x2 x3
def b_M_X11_moves__0_37_0  (t : fw_S) (x2 : Int32) : Option fw_S := b_M_X11_moves__0_37_2 3000 t x2 ((0 : Int32))
def f_M_X11_moves__0_37 (t : fw_S) (x2 : Int32) : Option fw_S := b_M_X11_moves__0_37_0 t x2
set_option maxRecDepth 20000 in
theorem w_M_X11_moves__0_37_55 {p : Program} {l : Launch} {e : Env} {s : State} {m : MethodId} {args : Array Value} {below : List Frame} {meth : Method} {c : Code} {A : Nat → Prop} {Q : State → Prop} {D : va_G} {ca : Nat → ClassId} {a : Nat → Nat} {u : fw_S}  (C : CX (WM ca a) D (tyv ca) p s m args c A prog_13_method_88_code 4 RX11) (hr : True → RX (WM ca a) D p l e rm_M_X11_moves__0_37 s m args below meth c A prog_13_method_88_code Q .return_ [] u) {t : fw_S}  {H : Heap} {locs : List Loc} {ls : Array Slot} (hf : b_M_X11_moves__0_37_55  t  = some u) (hP : va_P D classes (WM ca a t) H) (hS : va_S A s.heap H locs) (hl : lv_has ls 4 []) : W p l e rm_M_X11_moves__0_37 s m args below meth c H locs 0 0 Q (F0 m 55 ls []) := by
  obtain ⟨hx, hb, hml, hown, hts, hN, hK, hD, hA⟩ := id C
  have hf : (some t) = some u := hf
  have e_55 := fb_ev hf
  subst e_55
  exact hr trivial _ _ _ _ hP hS dX11_moves_55
set_option maxRecDepth 20000 in
theorem w_M_X11_moves__0_37_39 {p : Program} {l : Launch} {e : Env} {s : State} {m : MethodId} {args : Array Value} {below : List Frame} {meth : Method} {c : Code} {A : Nat → Prop} {Q : State → Prop} {D : va_G} {ca : Nat → ClassId} {a : Nat → Nat} {u : fw_S} {k2 : fw_S → Int32 → Int32 → Option fw_S} (C : CX (WM ca a) D (tyv ca) p s m args c A prog_13_method_88_code 4 RX11) (hr : True → RX (WM ca a) D p l e rm_M_X11_moves__0_37 s m args below meth c A prog_13_method_88_code Q .return_ [] u) (hk2 : ∀ (t : fw_S) (x2 : Int32) (x3 : Int32) (H : Heap) (locs : List Loc) (ls : Array Slot), k2 t x2 x3 = some u → va_P D classes (WM ca a t) H → va_S A s.heap H locs → lv_has ls 4 [(0, .ref (a 0)), (1, .ref (a 37)), (2, .int x2), (3, .int x3)] → W p l e rm_M_X11_moves__0_37 s m args below meth c H locs 0 0 Q (F0 m 2 ls [])) {t : fw_S} {x2 : Int32} {x3 : Int32} {H : Heap} {locs : List Loc} {ls : Array Slot} (hf : b_M_X11_moves__0_37_39 k2 t x2 x3 = some u) (hP : va_P D classes (WM ca a t) H) (hS : va_S A s.heap H locs) (hl : lv_has ls 4 [(0, .ref (a 0)), (1, .ref (a 37)), (2, .int x2), (3, .int x3)]) : W p l e rm_M_X11_moves__0_37 s m args below meth c H locs 0 0 Q (F0 m 39 ls []) := by
  obtain ⟨hx, hb, hml, hown, hts, hN, hK, hD, hA⟩ := id C
  have hf : (fb_l (up_I t 19 ((st_I t 19) + ((1 : Int32)))) fun t_1 => (k2 t_1 x2 (x3 + 1))) = some u := hf
  refine lv_aload_n hx hb dX11_moves_39 rfl (lv_at hl 0 rfl) ?_
  refine lv_dup hx hb dX11_moves_40 rfl ?_
  refine va_get (D := D) (ci := 11) (v := .int (st_I t 19)) (C := RX11) (T := TX11) (N := 76) hx hb hts inX11 hown hK hP 0 (heM_0 ca a t) rfl 68 (by decide) (hts _ kw_1260) (fun _ h9 => h9) rfl dX11_moves_41 ?_
  refine lv_iconst (v := 1) hx hb dX11_moves_44 (by decide) ?_
  refine lv_iadd hx hb dX11_moves_45 ?_
  refine va_put (D := D) (ci := 11) (v := .int ((st_I t 19) + ((1 : Int32)))) (ty := .int) (C := RX11) (T := TX11) (N := 76) hx hb hts inX11 tyX11 tyX11_ok nmX11 hown hK hP (hD t) hS 0 (heM_0 ca a t) rfl 68 (by decide) (hts _ kw_1260) (fun _ h9 => h9) rfl (by decide +kernel) rfl rfl (Nat.le_of_ble_eq_true rfl) dX11_moves_46 (fun H locs hP _ hS => ?_)
  rw [suM_0_68] at hP
  obtain ⟨t_1, e_46, hf⟩ := fb_ls hf
  rw [← e_46] at hP
  refine lv_iinc (v := x3 + 1) (lv' := [(3, .int (x3 + 1)), (0, .ref (a 0)), (1, .ref (a 37)), (2, .int x2)]) hx hb dX11_moves_49 hl (k := 3) rfl rfl (by decide) rfl (fun ls hl => ?_)
  refine lv_goto (tgt := 2) hx hb dX11_moves_52 (by decide) ?_
  exact hk2 t_1 x2 (x3 + 1) _ _ _ hf hP hS (lv_sub hl [1, 2, 3, 0] rfl)
set_option maxRecDepth 20000 in
theorem w_M_X11_moves__0_37_27 {p : Program} {l : Launch} {e : Env} {s : State} {m : MethodId} {args : Array Value} {below : List Frame} {meth : Method} {c : Code} {A : Nat → Prop} {Q : State → Prop} {D : va_G} {ca : Nat → ClassId} {a : Nat → Nat} {u : fw_S} {k2 : fw_S → Int32 → Int32 → Option fw_S} (C : CX (WM ca a) D (tyv ca) p s m args c A prog_13_method_88_code 4 RX11) (hr : True → RX (WM ca a) D p l e rm_M_X11_moves__0_37 s m args below meth c A prog_13_method_88_code Q .return_ [] u) (hk2 : ∀ (t : fw_S) (x2 : Int32) (x3 : Int32) (H : Heap) (locs : List Loc) (ls : Array Slot), k2 t x2 x3 = some u → va_P D classes (WM ca a t) H → va_S A s.heap H locs → lv_has ls 4 [(0, .ref (a 0)), (1, .ref (a 37)), (2, .int x2), (3, .int x3)] → W p l e rm_M_X11_moves__0_37 s m args below meth c H locs 0 0 Q (F0 m 2 ls [])) {t : fw_S} {x2 : Int32} {x3 : Int32} {H : Heap} {locs : List Loc} {ls : Array Slot} (hf : b_M_X11_moves__0_37_27 k2 t x2 x3 = some u) (hP : va_P D classes (WM ca a t) H) (hS : va_S A s.heap H locs) (hl : lv_has ls 4 [(0, .ref (a 0)), (1, .ref (a 37)), (2, .int x2), (3, .int x3)]) : W p l e rm_M_X11_moves__0_37 s m args below meth c H locs 0 0 Q (F0 m 27 ls []) := by
  obtain ⟨hx, hb, hml, hown, hts, hN, hK, hD, hA⟩ := id C
  have hf : (fb_g (¬ ((st_I t 19) < 0 ∨ 2000 ≤ (st_I t 19).toNatClampNeg)) (fb_g (¬ (x3 < 0 ∨ 8 ≤ x3.toNatClampNeg)) (fb_l (up_F t 32 (upd (st_F t 32) x3.toNatClampNeg (st_F t 39 (st_I t 19).toNatClampNeg))) fun t_1 => (b_M_X11_moves__0_37_39 k2 t_1 x2 x3)))) = some u := hf
  refine lv_aload_n hx hb dX11_moves_27 rfl (lv_at hl 1 rfl) ?_
  refine lv_iload_n hx hb dX11_moves_28 rfl (lv_at hl 3 rfl) ?_
  refine lv_aload_n hx hb dX11_moves_29 rfl (lv_at hl 0 rfl) ?_
  refine va_get (D := D) (ci := 11) (v := .ref (a 48)) (C := RX11) (T := TX11) (N := 76) hx hb hts inX11 hown hK hP 0 (heM_0 ca a t) rfl 66 (by decide) (hts _ kw_1258) (fun _ h9 => h9) rfl dX11_moves_30 ?_
  refine lv_aload_n hx hb dX11_moves_33 rfl (lv_at hl 0 rfl) ?_
  refine va_get (D := D) (ci := 11) (v := .int (st_I t 19)) (C := RX11) (T := TX11) (N := 76) hx hb hts inX11 hown hK hP 0 (heM_0 ca a t) rfl 68 (by decide) (hts _ kw_1260) (fun _ h9 => h9) rfl dX11_moves_34 ?_
  obtain ⟨h_37, hf⟩ := fb_if hf
  refine va_iald hx hb hK hP 48 0 (haM_48 ca a t) rfl h_37 dX11_moves_37 ?_
  obtain ⟨h_38, hf⟩ := fb_if hf
  refine va_iast hx hb hK hP (hD t) hS 37 0 (haM_37 ca a t) rfl h_38 dX11_moves_38 (fun H locs hP _ hS => ?_)
  rw [saM_37] at hP
  obtain ⟨t_1, e_38, hf⟩ := fb_ls hf
  rw [← e_38] at hP
  exact w_M_X11_moves__0_37_39 C hr hk2 hf hP hS (lv_sub hl [0, 1, 2, 3] rfl)
set_option maxRecDepth 20000 in
theorem w_M_X11_moves__0_37_12 {p : Program} {l : Launch} {e : Env} {s : State} {m : MethodId} {args : Array Value} {below : List Frame} {meth : Method} {c : Code} {A : Nat → Prop} {Q : State → Prop} {D : va_G} {ca : Nat → ClassId} {a : Nat → Nat} {u : fw_S} {k2 : fw_S → Int32 → Int32 → Option fw_S} (C : CX (WM ca a) D (tyv ca) p s m args c A prog_13_method_88_code 4 RX11) (hr : True → RX (WM ca a) D p l e rm_M_X11_moves__0_37 s m args below meth c A prog_13_method_88_code Q .return_ [] u) (hk2 : ∀ (t : fw_S) (x2 : Int32) (x3 : Int32) (H : Heap) (locs : List Loc) (ls : Array Slot), k2 t x2 x3 = some u → va_P D classes (WM ca a t) H → va_S A s.heap H locs → lv_has ls 4 [(0, .ref (a 0)), (1, .ref (a 37)), (2, .int x2), (3, .int x3)] → W p l e rm_M_X11_moves__0_37 s m args below meth c H locs 0 0 Q (F0 m 2 ls [])) {t : fw_S} {x2 : Int32} {x3 : Int32} {H : Heap} {locs : List Loc} {ls : Array Slot} (hf : b_M_X11_moves__0_37_12 k2 t x2 x3 = some u) (hP : va_P D classes (WM ca a t) H) (hS : va_S A s.heap H locs) (hl : lv_has ls 4 [(0, .ref (a 0)), (1, .ref (a 37)), (2, .int x2), (3, .int x3)]) : W p l e rm_M_X11_moves__0_37 s m args below meth c H locs 0 0 Q (F0 m 12 ls []) := by
  obtain ⟨hx, hb, hml, hown, hts, hN, hK, hD, hA⟩ := id C
  have hf : (fb_g (¬ (x3 < 0 ∨ 8 ≤ x3.toNatClampNeg)) (fb_g (¬ ((st_I t 19) < 0 ∨ 2000 ≤ (st_I t 19).toNatClampNeg)) (fb_l (up_F t 39 (upd (st_F t 39) (st_I t 19).toNatClampNeg (st_F t 32 x3.toNatClampNeg))) fun t_1 => (b_M_X11_moves__0_37_39 k2 t_1 x2 x3)))) = some u := hf
  refine lv_aload_n hx hb dX11_moves_12 rfl (lv_at hl 0 rfl) ?_
  refine va_get (D := D) (ci := 11) (v := .ref (a 48)) (C := RX11) (T := TX11) (N := 76) hx hb hts inX11 hown hK hP 0 (heM_0 ca a t) rfl 66 (by decide) (hts _ kw_1258) (fun _ h9 => h9) rfl dX11_moves_13 ?_
  refine lv_aload_n hx hb dX11_moves_16 rfl (lv_at hl 0 rfl) ?_
  refine va_get (D := D) (ci := 11) (v := .int (st_I t 19)) (C := RX11) (T := TX11) (N := 76) hx hb hts inX11 hown hK hP 0 (heM_0 ca a t) rfl 68 (by decide) (hts _ kw_1260) (fun _ h9 => h9) rfl dX11_moves_17 ?_
  refine lv_aload_n hx hb dX11_moves_20 rfl (lv_at hl 1 rfl) ?_
  refine lv_iload_n hx hb dX11_moves_21 rfl (lv_at hl 3 rfl) ?_
  obtain ⟨h_22, hf⟩ := fb_if hf
  refine va_iald hx hb hK hP 37 0 (haM_37 ca a t) rfl h_22 dX11_moves_22 ?_
  obtain ⟨h_23, hf⟩ := fb_if hf
  refine va_iast hx hb hK hP (hD t) hS 48 0 (haM_48 ca a t) rfl h_23 dX11_moves_23 (fun H locs hP _ hS => ?_)
  rw [saM_48] at hP
  obtain ⟨t_1, e_23, hf⟩ := fb_ls hf
  rw [← e_23] at hP
  refine lv_goto (tgt := 39) hx hb dX11_moves_24 (by decide) ?_
  exact w_M_X11_moves__0_37_39 C hr hk2 hf hP hS (lv_sub hl [0, 1, 2, 3] rfl)
set_option maxRecDepth 20000 in
theorem w_M_X11_moves__0_37_8 {p : Program} {l : Launch} {e : Env} {s : State} {m : MethodId} {args : Array Value} {below : List Frame} {meth : Method} {c : Code} {A : Nat → Prop} {Q : State → Prop} {D : va_G} {ca : Nat → ClassId} {a : Nat → Nat} {u : fw_S} {k2 : fw_S → Int32 → Int32 → Option fw_S} (C : CX (WM ca a) D (tyv ca) p s m args c A prog_13_method_88_code 4 RX11) (hr : True → RX (WM ca a) D p l e rm_M_X11_moves__0_37 s m args below meth c A prog_13_method_88_code Q .return_ [] u) (hk2 : ∀ (t : fw_S) (x2 : Int32) (x3 : Int32) (H : Heap) (locs : List Loc) (ls : Array Slot), k2 t x2 x3 = some u → va_P D classes (WM ca a t) H → va_S A s.heap H locs → lv_has ls 4 [(0, .ref (a 0)), (1, .ref (a 37)), (2, .int x2), (3, .int x3)] → W p l e rm_M_X11_moves__0_37 s m args below meth c H locs 0 0 Q (F0 m 2 ls [])) {t : fw_S} {x2 : Int32} {x3 : Int32} {H : Heap} {locs : List Loc} {ls : Array Slot} (hf : b_M_X11_moves__0_37_8 k2 t x2 x3 = some u) (hP : va_P D classes (WM ca a t) H) (hS : va_S A s.heap H locs) (hl : lv_has ls 4 [(0, .ref (a 0)), (1, .ref (a 37)), (2, .int x2), (3, .int x3)]) : W p l e rm_M_X11_moves__0_37 s m args below meth c H locs 0 0 Q (F0 m 8 ls []) := by
  obtain ⟨hx, hb, hml, hown, hts, hN, hK, hD, hA⟩ := id C
  have hf : (if x2 = 0 then b_M_X11_moves__0_37_27 k2 t x2 x3 else b_M_X11_moves__0_37_12 k2 t x2 x3) = some u := hf
  refine lv_iload_n hx hb dX11_moves_8 rfl (lv_at hl 2 rfl) ?_
  refine lv_if_eq (tgt := 27) hx hb dX11_moves_9 (by decide) (fun h_9 => ?_) (fun h_9 => ?_)
  · have hf := fb_t h_9 hf
    exact w_M_X11_moves__0_37_27 C hr hk2 hf hP hS (lv_sub hl [0, 1, 2, 3] rfl)
  · have hf := fb_f h_9 hf
    exact w_M_X11_moves__0_37_12 C hr hk2 hf hP hS (lv_sub hl [0, 1, 2, 3] rfl)
set_option maxRecDepth 20000 in
theorem w_M_X11_moves__0_37_2 {p : Program} {l : Launch} {e : Env} {s : State} {m : MethodId} {args : Array Value} {below : List Frame} {meth : Method} {c : Code} {A : Nat → Prop} {Q : State → Prop} {D : va_G} {ca : Nat → ClassId} {a : Nat → Nat} {u : fw_S}  (C : CX (WM ca a) D (tyv ca) p s m args c A prog_13_method_88_code 4 RX11) (hr : True → RX (WM ca a) D p l e rm_M_X11_moves__0_37 s m args below meth c A prog_13_method_88_code Q .return_ [] u) : ∀ (n : Nat) (t : fw_S) (x2 : Int32) (x3 : Int32) (H : Heap) (locs : List Loc) (ls : Array Slot), b_M_X11_moves__0_37_2  n t x2 x3 = some u → va_P D classes (WM ca a t) H → va_S A s.heap H locs → lv_has ls 4 [(0, .ref (a 0)), (1, .ref (a 37)), (2, .int x2), (3, .int x3)] → W p l e rm_M_X11_moves__0_37 s m args below meth c H locs 0 0 Q (F0 m 2 ls []) := by
  obtain ⟨hx, hb, hml, hown, hts, hN, hK, hD, hA⟩ := id C
  intro n
  induction n with
  | zero => intro t x2 x3 H locs ls hf; cases hf
  | succ n hk2 =>
    intro t x2 x3 H locs ls hf hP hS hl
    have hf : (if ((8 : Int32)) ≤ x3 then b_M_X11_moves__0_37_55 t else b_M_X11_moves__0_37_8 (b_M_X11_moves__0_37_2 n) t x2 x3) = some u := hf
    refine lv_iload_n hx hb dX11_moves_2 rfl (lv_at hl 3 rfl) ?_
    refine lv_aload_n hx hb dX11_moves_3 rfl (lv_at hl 1 rfl) ?_
    refine va_alen (v := 8) hx hb hK hP 37 0 (haM_37 ca a t) rfl rfl dX11_moves_4 ?_
    refine lv_icmp_ge (tgt := 55) hx hb dX11_moves_5 (by decide) (fun h_5 => ?_) (fun h_5 => ?_)
    · have hf := fb_t h_5 hf
      exact w_M_X11_moves__0_37_55 C hr hf hP hS (lv_sub hl [] rfl)
    · have hf := fb_f h_5 hf
      exact w_M_X11_moves__0_37_8 C hr hk2 hf hP hS (lv_sub hl [0, 1, 2, 3] rfl)
set_option maxRecDepth 20000 in
theorem w_M_X11_moves__0_37_0 {p : Program} {l : Launch} {e : Env} {s : State} {m : MethodId} {args : Array Value} {below : List Frame} {meth : Method} {c : Code} {A : Nat → Prop} {Q : State → Prop} {D : va_G} {ca : Nat → ClassId} {a : Nat → Nat} {u : fw_S}  (C : CX (WM ca a) D (tyv ca) p s m args c A prog_13_method_88_code 4 RX11) (hr : True → RX (WM ca a) D p l e rm_M_X11_moves__0_37 s m args below meth c A prog_13_method_88_code Q .return_ [] u) {t : fw_S} {x2 : Int32} {H : Heap} {locs : List Loc} {ls : Array Slot} (hf : b_M_X11_moves__0_37_0  t x2 = some u) (hP : va_P D classes (WM ca a t) H) (hS : va_S A s.heap H locs) (hl : lv_has ls 4 [(0, .ref (a 0)), (1, .ref (a 37)), (2, .int x2)]) : W p l e rm_M_X11_moves__0_37 s m args below meth c H locs 0 0 Q (F0 m 0 ls []) := by
  obtain ⟨hx, hb, hml, hown, hts, hN, hK, hD, hA⟩ := id C
  have hf : (b_M_X11_moves__0_37_2 3000 t x2 ((0 : Int32))) = some u := hf
  refine lv_iconst (v := 0) hx hb dX11_moves_0 (by decide) ?_
  refine lv_istore_n (lv' := [(3, .int ((0 : Int32))), (0, .ref (a 0)), (1, .ref (a 37)), (2, .int x2)]) hx hb dX11_moves_1 rfl hl (by decide) rfl (fun ls hl => ?_)
  exact w_M_X11_moves__0_37_2 C hr 3000 t x2 ((0 : Int32)) _ _ _ hf hP hS (lv_sub hl [1, 2, 3, 0] rfl)
set_option maxRecDepth 20000 in
theorem c_M_X11_moves__0_37 {l : Launch} {D : va_G} {ca : Nat → ClassId} {a : Nat → Nat} {t : fw_S} {x2 : Int32} {u : fw_S} (hf : f_M_X11_moves__0_37 t x2 = some u) : MC (WM ca a) D (tyv ca) l yX11_moves (.code yX11_moves prog_13_method_88_code 4 none :: lw_gd) rm_M_X11_moves__0_37 [.ref (a 0), .ref (a 37), .int x2] none t u := by
  refine fw_met (okM ca a) (by decide +kernel) rfl rfl (Nat.le_of_ble_eq_true rfl) ?_
  intro p e s m args below meth c A Q ls C hr hk hP hS hl hQ
  exact w_M_X11_moves__0_37_0 C (fun _ => fw_rv C hr hk hQ) hf hP hS (lv_sub hl [0, 1, 2] rfl)
/-! ReactiveSheetModel.moves([ZZ)V ['m', 'm.quit'] -/
abbrev rm_M_X11_moves___0_41 : Room := { frames := 0, cells := 0, slots := 0, locals := 0 }
def b_M_X11_moves___0_41_72  (t : fw_S)  : Option fw_S := some t
def b_M_X11_moves___0_41_56 (k2 : fw_S → Int32 → Int32 → Option fw_S) (t : fw_S) (x2 : Int32) (x3 : Int32) : Option fw_S := fb_l (up_I t 19 ((st_I t 19) + ((1 : Int32)))) fun t_1 => (k2 t_1 x2 (x3 + 1))
def b_M_X11_moves___0_41_55 (k2 : fw_S → Int32 → Int32 → Option fw_S) (t : fw_S) (x2 : Int32) (x3 : Int32) (z1 : Int32) (z2 : Int32) : Option fw_S := fb_g (¬ (z1 < 0 ∨ 8 ≤ z1.toNatClampNeg)) (fb_l (up_F t 36 (upd (st_F t 36) z1.toNatClampNeg (vp_nar .boolean z2))) fun t_1 => (b_M_X11_moves___0_41_56 k2 t_1 x2 x3))
def b_M_X11_moves___0_41_54 (k2 : fw_S → Int32 → Int32 → Option fw_S) (t : fw_S) (x2 : Int32) (x3 : Int32) (z1 : Int32) : Option fw_S := b_M_X11_moves___0_41_55 k2 t x2 x3 z1 ((0 : Int32))
def b_M_X11_moves___0_41_50 (k2 : fw_S → Int32 → Int32 → Option fw_S) (t : fw_S) (x2 : Int32) (x3 : Int32) (z1 : Int32) : Option fw_S := b_M_X11_moves___0_41_55 k2 t x2 x3 z1 ((1 : Int32))
def b_M_X11_moves___0_41_35 (k2 : fw_S → Int32 → Int32 → Option fw_S) (t : fw_S) (x2 : Int32) (x3 : Int32) : Option fw_S := fb_g (¬ ((st_I t 19) < 0 ∨ 2000 ≤ (st_I t 19).toNatClampNeg)) (if (st_F t 39 (st_I t 19).toNatClampNeg) = ((1 : Int32)) then b_M_X11_moves___0_41_50 k2 t x2 x3 x3 else b_M_X11_moves___0_41_54 k2 t x2 x3 x3)
def b_M_X11_moves___0_41_31 (k2 : fw_S → Int32 → Int32 → Option fw_S) (t : fw_S) (x2 : Int32) (x3 : Int32) (z1 : Int32) (z2 : Int32) : Option fw_S := fb_g (¬ (z1 < 0 ∨ 2000 ≤ z1.toNatClampNeg)) (fb_l (up_F t 39 (upd (st_F t 39) z1.toNatClampNeg z2)) fun t_1 => (b_M_X11_moves___0_41_56 k2 t_1 x2 x3))
def b_M_X11_moves___0_41_30 (k2 : fw_S → Int32 → Int32 → Option fw_S) (t : fw_S) (x2 : Int32) (x3 : Int32) (z1 : Int32) : Option fw_S := b_M_X11_moves___0_41_31 k2 t x2 x3 z1 ((0 : Int32))
def b_M_X11_moves___0_41_26 (k2 : fw_S → Int32 → Int32 → Option fw_S) (t : fw_S) (x2 : Int32) (x3 : Int32) (z1 : Int32) : Option fw_S := b_M_X11_moves___0_41_31 k2 t x2 x3 z1 ((1 : Int32))
def b_M_X11_moves___0_41_12 (k2 : fw_S → Int32 → Int32 → Option fw_S) (t : fw_S) (x2 : Int32) (x3 : Int32) : Option fw_S := fb_g (¬ (x3 < 0 ∨ 8 ≤ x3.toNatClampNeg)) (if (st_F t 36 x3.toNatClampNeg) = 0 then b_M_X11_moves___0_41_30 k2 t x2 x3 (st_I t 19) else b_M_X11_moves___0_41_26 k2 t x2 x3 (st_I t 19))
def b_M_X11_moves___0_41_8 (k2 : fw_S → Int32 → Int32 → Option fw_S) (t : fw_S) (x2 : Int32) (x3 : Int32) : Option fw_S := if x2 = 0 then b_M_X11_moves___0_41_35 k2 t x2 x3 else b_M_X11_moves___0_41_12 k2 t x2 x3
def b_M_X11_moves___0_41_2  : Nat → (fw_S → Int32 → Int32 → Option fw_S)
  | 0 => fun _ _ _ => none
  | n + 1 => fun t x2 x3 => if ((8 : Int32)) ≤ x3 then b_M_X11_moves___0_41_72 t else b_M_X11_moves___0_41_8 (b_M_X11_moves___0_41_2 n) t x2 x3
def b_M_X11_moves___0_41_0  (t : fw_S) (x2 : Int32) : Option fw_S := b_M_X11_moves___0_41_2 3000 t x2 ((0 : Int32))
def f_M_X11_moves___0_41 (t : fw_S) (x2 : Int32) : Option fw_S := b_M_X11_moves___0_41_0 t x2
set_option maxRecDepth 20000 in
theorem w_M_X11_moves___0_41_72 {p : Program} {l : Launch} {e : Env} {s : State} {m : MethodId} {args : Array Value} {below : List Frame} {meth : Method} {c : Code} {A : Nat → Prop} {Q : State → Prop} {D : va_G} {ca : Nat → ClassId} {a : Nat → Nat} {u : fw_S}  (C : CX (WM ca a) D (tyv ca) p s m args c A prog_13_method_89_code 4 RX11) (hr : True → RX (WM ca a) D p l e rm_M_X11_moves___0_41 s m args below meth c A prog_13_method_89_code Q .return_ [] u) {t : fw_S}  {H : Heap} {locs : List Loc} {ls : Array Slot} (hf : b_M_X11_moves___0_41_72  t  = some u) (hP : va_P D classes (WM ca a t) H) (hS : va_S A s.heap H locs) (hl : lv_has ls 4 []) : W p l e rm_M_X11_moves___0_41 s m args below meth c H locs 0 0 Q (F0 m 72 ls []) := by
  obtain ⟨hx, hb, hml, hown, hts, hN, hK, hD, hA⟩ := id C
  have hf : (some t) = some u := hf
  have e_72 := fb_ev hf
  subst e_72
  exact hr trivial _ _ _ _ hP hS dX11_moves__72
set_option maxRecDepth 20000 in
theorem w_M_X11_moves___0_41_56 {p : Program} {l : Launch} {e : Env} {s : State} {m : MethodId} {args : Array Value} {below : List Frame} {meth : Method} {c : Code} {A : Nat → Prop} {Q : State → Prop} {D : va_G} {ca : Nat → ClassId} {a : Nat → Nat} {u : fw_S} {k2 : fw_S → Int32 → Int32 → Option fw_S} (C : CX (WM ca a) D (tyv ca) p s m args c A prog_13_method_89_code 4 RX11) (hr : True → RX (WM ca a) D p l e rm_M_X11_moves___0_41 s m args below meth c A prog_13_method_89_code Q .return_ [] u) (hk2 : ∀ (t : fw_S) (x2 : Int32) (x3 : Int32) (H : Heap) (locs : List Loc) (ls : Array Slot), k2 t x2 x3 = some u → va_P D classes (WM ca a t) H → va_S A s.heap H locs → lv_has ls 4 [(0, .ref (a 0)), (1, .ref (a 41)), (2, .int x2), (3, .int x3)] → W p l e rm_M_X11_moves___0_41 s m args below meth c H locs 0 0 Q (F0 m 2 ls [])) {t : fw_S} {x2 : Int32} {x3 : Int32} {H : Heap} {locs : List Loc} {ls : Array Slot} (hf : b_M_X11_moves___0_41_56 k2 t x2 x3 = some u) (hP : va_P D classes (WM ca a t) H) (hS : va_S A s.heap H locs) (hl : lv_has ls 4 [(0, .ref (a 0)), (1, .ref (a 41)), (2, .int x2), (3, .int x3)]) : W p l e rm_M_X11_moves___0_41 s m args below meth c H locs 0 0 Q (F0 m 56 ls []) := by
  obtain ⟨hx, hb, hml, hown, hts, hN, hK, hD, hA⟩ := id C
  have hf : (fb_l (up_I t 19 ((st_I t 19) + ((1 : Int32)))) fun t_1 => (k2 t_1 x2 (x3 + 1))) = some u := hf
  refine lv_aload_n hx hb dX11_moves__56 rfl (lv_at hl 0 rfl) ?_
  refine lv_dup hx hb dX11_moves__57 rfl ?_
  refine va_get (D := D) (ci := 11) (v := .int (st_I t 19)) (C := RX11) (T := TX11) (N := 76) hx hb hts inX11 hown hK hP 0 (heM_0 ca a t) rfl 68 (by decide) (hts _ kw_1260) (fun _ h9 => h9) rfl dX11_moves__58 ?_
  refine lv_iconst (v := 1) hx hb dX11_moves__61 (by decide) ?_
  refine lv_iadd hx hb dX11_moves__62 ?_
  refine va_put (D := D) (ci := 11) (v := .int ((st_I t 19) + ((1 : Int32)))) (ty := .int) (C := RX11) (T := TX11) (N := 76) hx hb hts inX11 tyX11 tyX11_ok nmX11 hown hK hP (hD t) hS 0 (heM_0 ca a t) rfl 68 (by decide) (hts _ kw_1260) (fun _ h9 => h9) rfl (by decide +kernel) rfl rfl (Nat.le_of_ble_eq_true rfl) dX11_moves__63 (fun H locs hP _ hS => ?_)
  rw [suM_0_68] at hP
  obtain ⟨t_1, e_63, hf⟩ := fb_ls hf
  rw [← e_63] at hP
  refine lv_iinc (v := x3 + 1) (lv' := [(3, .int (x3 + 1)), (0, .ref (a 0)), (1, .ref (a 41)), (2, .int x2)]) hx hb dX11_moves__66 hl (k := 3) rfl rfl (by decide) rfl (fun ls hl => ?_)
  refine lv_goto (tgt := 2) hx hb dX11_moves__69 (by decide) ?_
  exact hk2 t_1 x2 (x3 + 1) _ _ _ hf hP hS (lv_sub hl [1, 2, 3, 0] rfl)
set_option maxRecDepth 20000 in
theorem w_M_X11_moves___0_41_55 {p : Program} {l : Launch} {e : Env} {s : State} {m : MethodId} {args : Array Value} {below : List Frame} {meth : Method} {c : Code} {A : Nat → Prop} {Q : State → Prop} {D : va_G} {ca : Nat → ClassId} {a : Nat → Nat} {u : fw_S} {k2 : fw_S → Int32 → Int32 → Option fw_S} (C : CX (WM ca a) D (tyv ca) p s m args c A prog_13_method_89_code 4 RX11) (hr : True → RX (WM ca a) D p l e rm_M_X11_moves___0_41 s m args below meth c A prog_13_method_89_code Q .return_ [] u) (hk2 : ∀ (t : fw_S) (x2 : Int32) (x3 : Int32) (H : Heap) (locs : List Loc) (ls : Array Slot), k2 t x2 x3 = some u → va_P D classes (WM ca a t) H → va_S A s.heap H locs → lv_has ls 4 [(0, .ref (a 0)), (1, .ref (a 41)), (2, .int x2), (3, .int x3)] → W p l e rm_M_X11_moves___0_41 s m args below meth c H locs 0 0 Q (F0 m 2 ls [])) {t : fw_S} {x2 : Int32} {x3 : Int32} {z1 : Int32} {z2 : Int32} {H : Heap} {locs : List Loc} {ls : Array Slot} (hf : b_M_X11_moves___0_41_55 k2 t x2 x3 z1 z2 = some u) (hP : va_P D classes (WM ca a t) H) (hS : va_S A s.heap H locs) (hl : lv_has ls 4 [(0, .ref (a 0)), (1, .ref (a 41)), (2, .int x2), (3, .int x3)]) : W p l e rm_M_X11_moves___0_41 s m args below meth c H locs 0 0 Q (F0 m 55 ls [.int z2, .int z1, .ref (a 41)]) := by
  obtain ⟨hx, hb, hml, hown, hts, hN, hK, hD, hA⟩ := id C
  have hf : (fb_g (¬ (z1 < 0 ∨ 8 ≤ z1.toNatClampNeg)) (fb_l (up_F t 36 (upd (st_F t 36) z1.toNatClampNeg (vp_nar .boolean z2))) fun t_1 => (b_M_X11_moves___0_41_56 k2 t_1 x2 x3))) = some u := hf
  obtain ⟨h_55, hf⟩ := fb_if hf
  refine va_zast hx hb hK hP (hD t) hS 41 2 (haM_41 ca a t) rfl h_55 dX11_moves__55 (fun H locs hP _ hS => ?_)
  rw [saM_41] at hP
  obtain ⟨t_1, e_55, hf⟩ := fb_ls hf
  rw [← e_55] at hP
  exact w_M_X11_moves___0_41_56 C hr hk2 hf hP hS (lv_sub hl [0, 1, 2, 3] rfl)
set_option maxRecDepth 20000 in
theorem w_M_X11_moves___0_41_54 {p : Program} {l : Launch} {e : Env} {s : State} {m : MethodId} {args : Array Value} {below : List Frame} {meth : Method} {c : Code} {A : Nat → Prop} {Q : State → Prop} {D : va_G} {ca : Nat → ClassId} {a : Nat → Nat} {u : fw_S} {k2 : fw_S → Int32 → Int32 → Option fw_S} (C : CX (WM ca a) D (tyv ca) p s m args c A prog_13_method_89_code 4 RX11) (hr : True → RX (WM ca a) D p l e rm_M_X11_moves___0_41 s m args below meth c A prog_13_method_89_code Q .return_ [] u) (hk2 : ∀ (t : fw_S) (x2 : Int32) (x3 : Int32) (H : Heap) (locs : List Loc) (ls : Array Slot), k2 t x2 x3 = some u → va_P D classes (WM ca a t) H → va_S A s.heap H locs → lv_has ls 4 [(0, .ref (a 0)), (1, .ref (a 41)), (2, .int x2), (3, .int x3)] → W p l e rm_M_X11_moves___0_41 s m args below meth c H locs 0 0 Q (F0 m 2 ls [])) {t : fw_S} {x2 : Int32} {x3 : Int32} {z1 : Int32} {H : Heap} {locs : List Loc} {ls : Array Slot} (hf : b_M_X11_moves___0_41_54 k2 t x2 x3 z1 = some u) (hP : va_P D classes (WM ca a t) H) (hS : va_S A s.heap H locs) (hl : lv_has ls 4 [(0, .ref (a 0)), (1, .ref (a 41)), (2, .int x2), (3, .int x3)]) : W p l e rm_M_X11_moves___0_41 s m args below meth c H locs 0 0 Q (F0 m 54 ls [.int z1, .ref (a 41)]) := by
  obtain ⟨hx, hb, hml, hown, hts, hN, hK, hD, hA⟩ := id C
  have hf : (b_M_X11_moves___0_41_55 k2 t x2 x3 z1 ((0 : Int32))) = some u := hf
  refine lv_iconst (v := 0) hx hb dX11_moves__54 (by decide) ?_
  exact w_M_X11_moves___0_41_55 C hr hk2 hf hP hS (lv_sub hl [0, 1, 2, 3] rfl)
set_option maxRecDepth 20000 in
theorem w_M_X11_moves___0_41_50 {p : Program} {l : Launch} {e : Env} {s : State} {m : MethodId} {args : Array Value} {below : List Frame} {meth : Method} {c : Code} {A : Nat → Prop} {Q : State → Prop} {D : va_G} {ca : Nat → ClassId} {a : Nat → Nat} {u : fw_S} {k2 : fw_S → Int32 → Int32 → Option fw_S} (C : CX (WM ca a) D (tyv ca) p s m args c A prog_13_method_89_code 4 RX11) (hr : True → RX (WM ca a) D p l e rm_M_X11_moves___0_41 s m args below meth c A prog_13_method_89_code Q .return_ [] u) (hk2 : ∀ (t : fw_S) (x2 : Int32) (x3 : Int32) (H : Heap) (locs : List Loc) (ls : Array Slot), k2 t x2 x3 = some u → va_P D classes (WM ca a t) H → va_S A s.heap H locs → lv_has ls 4 [(0, .ref (a 0)), (1, .ref (a 41)), (2, .int x2), (3, .int x3)] → W p l e rm_M_X11_moves___0_41 s m args below meth c H locs 0 0 Q (F0 m 2 ls [])) {t : fw_S} {x2 : Int32} {x3 : Int32} {z1 : Int32} {H : Heap} {locs : List Loc} {ls : Array Slot} (hf : b_M_X11_moves___0_41_50 k2 t x2 x3 z1 = some u) (hP : va_P D classes (WM ca a t) H) (hS : va_S A s.heap H locs) (hl : lv_has ls 4 [(0, .ref (a 0)), (1, .ref (a 41)), (2, .int x2), (3, .int x3)]) : W p l e rm_M_X11_moves___0_41 s m args below meth c H locs 0 0 Q (F0 m 50 ls [.int z1, .ref (a 41)]) := by
  obtain ⟨hx, hb, hml, hown, hts, hN, hK, hD, hA⟩ := id C
  have hf : (b_M_X11_moves___0_41_55 k2 t x2 x3 z1 ((1 : Int32))) = some u := hf
  refine lv_iconst (v := 1) hx hb dX11_moves__50 (by decide) ?_
  refine lv_goto (tgt := 55) hx hb dX11_moves__51 (by decide) ?_
  exact w_M_X11_moves___0_41_55 C hr hk2 hf hP hS (lv_sub hl [0, 1, 2, 3] rfl)
set_option maxRecDepth 20000 in
theorem w_M_X11_moves___0_41_35 {p : Program} {l : Launch} {e : Env} {s : State} {m : MethodId} {args : Array Value} {below : List Frame} {meth : Method} {c : Code} {A : Nat → Prop} {Q : State → Prop} {D : va_G} {ca : Nat → ClassId} {a : Nat → Nat} {u : fw_S} {k2 : fw_S → Int32 → Int32 → Option fw_S} (C : CX (WM ca a) D (tyv ca) p s m args c A prog_13_method_89_code 4 RX11) (hr : True → RX (WM ca a) D p l e rm_M_X11_moves___0_41 s m args below meth c A prog_13_method_89_code Q .return_ [] u) (hk2 : ∀ (t : fw_S) (x2 : Int32) (x3 : Int32) (H : Heap) (locs : List Loc) (ls : Array Slot), k2 t x2 x3 = some u → va_P D classes (WM ca a t) H → va_S A s.heap H locs → lv_has ls 4 [(0, .ref (a 0)), (1, .ref (a 41)), (2, .int x2), (3, .int x3)] → W p l e rm_M_X11_moves___0_41 s m args below meth c H locs 0 0 Q (F0 m 2 ls [])) {t : fw_S} {x2 : Int32} {x3 : Int32} {H : Heap} {locs : List Loc} {ls : Array Slot} (hf : b_M_X11_moves___0_41_35 k2 t x2 x3 = some u) (hP : va_P D classes (WM ca a t) H) (hS : va_S A s.heap H locs) (hl : lv_has ls 4 [(0, .ref (a 0)), (1, .ref (a 41)), (2, .int x2), (3, .int x3)]) : W p l e rm_M_X11_moves___0_41 s m args below meth c H locs 0 0 Q (F0 m 35 ls []) := by
  obtain ⟨hx, hb, hml, hown, hts, hN, hK, hD, hA⟩ := id C
  have hf : (fb_g (¬ ((st_I t 19) < 0 ∨ 2000 ≤ (st_I t 19).toNatClampNeg)) (if (st_F t 39 (st_I t 19).toNatClampNeg) = ((1 : Int32)) then b_M_X11_moves___0_41_50 k2 t x2 x3 x3 else b_M_X11_moves___0_41_54 k2 t x2 x3 x3)) = some u := hf
  refine lv_aload_n hx hb dX11_moves__35 rfl (lv_at hl 1 rfl) ?_
  refine lv_iload_n hx hb dX11_moves__36 rfl (lv_at hl 3 rfl) ?_
  refine lv_aload_n hx hb dX11_moves__37 rfl (lv_at hl 0 rfl) ?_
  refine va_get (D := D) (ci := 11) (v := .ref (a 48)) (C := RX11) (T := TX11) (N := 76) hx hb hts inX11 hown hK hP 0 (heM_0 ca a t) rfl 66 (by decide) (hts _ kw_1258) (fun _ h9 => h9) rfl dX11_moves__38 ?_
  refine lv_aload_n hx hb dX11_moves__41 rfl (lv_at hl 0 rfl) ?_
  refine va_get (D := D) (ci := 11) (v := .int (st_I t 19)) (C := RX11) (T := TX11) (N := 76) hx hb hts inX11 hown hK hP 0 (heM_0 ca a t) rfl 68 (by decide) (hts _ kw_1260) (fun _ h9 => h9) rfl dX11_moves__42 ?_
  obtain ⟨h_45, hf⟩ := fb_if hf
  refine va_iald hx hb hK hP 48 0 (haM_48 ca a t) rfl h_45 dX11_moves__45 ?_
  refine lv_iconst (v := 1) hx hb dX11_moves__46 (by decide) ?_
  refine lv_icmp_ne (tgt := 54) hx hb dX11_moves__47 (by decide) (fun h_47 => ?_) (fun h_47 => ?_)
  · have hf := fb_f h_47 hf
    exact w_M_X11_moves___0_41_54 C hr hk2 hf hP hS (lv_sub hl [0, 1, 2, 3] rfl)
  · have hf := fb_t h_47 hf
    exact w_M_X11_moves___0_41_50 C hr hk2 hf hP hS (lv_sub hl [0, 1, 2, 3] rfl)
set_option maxRecDepth 20000 in
theorem w_M_X11_moves___0_41_31 {p : Program} {l : Launch} {e : Env} {s : State} {m : MethodId} {args : Array Value} {below : List Frame} {meth : Method} {c : Code} {A : Nat → Prop} {Q : State → Prop} {D : va_G} {ca : Nat → ClassId} {a : Nat → Nat} {u : fw_S} {k2 : fw_S → Int32 → Int32 → Option fw_S} (C : CX (WM ca a) D (tyv ca) p s m args c A prog_13_method_89_code 4 RX11) (hr : True → RX (WM ca a) D p l e rm_M_X11_moves___0_41 s m args below meth c A prog_13_method_89_code Q .return_ [] u) (hk2 : ∀ (t : fw_S) (x2 : Int32) (x3 : Int32) (H : Heap) (locs : List Loc) (ls : Array Slot), k2 t x2 x3 = some u → va_P D classes (WM ca a t) H → va_S A s.heap H locs → lv_has ls 4 [(0, .ref (a 0)), (1, .ref (a 41)), (2, .int x2), (3, .int x3)] → W p l e rm_M_X11_moves___0_41 s m args below meth c H locs 0 0 Q (F0 m 2 ls [])) {t : fw_S} {x2 : Int32} {x3 : Int32} {z1 : Int32} {z2 : Int32} {H : Heap} {locs : List Loc} {ls : Array Slot} (hf : b_M_X11_moves___0_41_31 k2 t x2 x3 z1 z2 = some u) (hP : va_P D classes (WM ca a t) H) (hS : va_S A s.heap H locs) (hl : lv_has ls 4 [(0, .ref (a 0)), (1, .ref (a 41)), (2, .int x2), (3, .int x3)]) : W p l e rm_M_X11_moves___0_41 s m args below meth c H locs 0 0 Q (F0 m 31 ls [.int z2, .int z1, .ref (a 48)]) := by
  obtain ⟨hx, hb, hml, hown, hts, hN, hK, hD, hA⟩ := id C
  have hf : (fb_g (¬ (z1 < 0 ∨ 2000 ≤ z1.toNatClampNeg)) (fb_l (up_F t 39 (upd (st_F t 39) z1.toNatClampNeg z2)) fun t_1 => (b_M_X11_moves___0_41_56 k2 t_1 x2 x3))) = some u := hf
  obtain ⟨h_31, hf⟩ := fb_if hf
  refine va_iast hx hb hK hP (hD t) hS 48 0 (haM_48 ca a t) rfl h_31 dX11_moves__31 (fun H locs hP _ hS => ?_)
  rw [saM_48] at hP
  obtain ⟨t_1, e_31, hf⟩ := fb_ls hf
  rw [← e_31] at hP
  refine lv_goto (tgt := 56) hx hb dX11_moves__32 (by decide) ?_
  exact w_M_X11_moves___0_41_56 C hr hk2 hf hP hS (lv_sub hl [0, 1, 2, 3] rfl)
set_option maxRecDepth 20000 in
theorem w_M_X11_moves___0_41_30 {p : Program} {l : Launch} {e : Env} {s : State} {m : MethodId} {args : Array Value} {below : List Frame} {meth : Method} {c : Code} {A : Nat → Prop} {Q : State → Prop} {D : va_G} {ca : Nat → ClassId} {a : Nat → Nat} {u : fw_S} {k2 : fw_S → Int32 → Int32 → Option fw_S} (C : CX (WM ca a) D (tyv ca) p s m args c A prog_13_method_89_code 4 RX11) (hr : True → RX (WM ca a) D p l e rm_M_X11_moves___0_41 s m args below meth c A prog_13_method_89_code Q .return_ [] u) (hk2 : ∀ (t : fw_S) (x2 : Int32) (x3 : Int32) (H : Heap) (locs : List Loc) (ls : Array Slot), k2 t x2 x3 = some u → va_P D classes (WM ca a t) H → va_S A s.heap H locs → lv_has ls 4 [(0, .ref (a 0)), (1, .ref (a 41)), (2, .int x2), (3, .int x3)] → W p l e rm_M_X11_moves___0_41 s m args below meth c H locs 0 0 Q (F0 m 2 ls [])) {t : fw_S} {x2 : Int32} {x3 : Int32} {z1 : Int32} {H : Heap} {locs : List Loc} {ls : Array Slot} (hf : b_M_X11_moves___0_41_30 k2 t x2 x3 z1 = some u) (hP : va_P D classes (WM ca a t) H) (hS : va_S A s.heap H locs) (hl : lv_has ls 4 [(0, .ref (a 0)), (1, .ref (a 41)), (2, .int x2), (3, .int x3)]) : W p l e rm_M_X11_moves___0_41 s m args below meth c H locs 0 0 Q (F0 m 30 ls [.int z1, .ref (a 48)]) := by
  obtain ⟨hx, hb, hml, hown, hts, hN, hK, hD, hA⟩ := id C
  have hf : (b_M_X11_moves___0_41_31 k2 t x2 x3 z1 ((0 : Int32))) = some u := hf
  refine lv_iconst (v := 0) hx hb dX11_moves__30 (by decide) ?_
  exact w_M_X11_moves___0_41_31 C hr hk2 hf hP hS (lv_sub hl [0, 1, 2, 3] rfl)
set_option maxRecDepth 20000 in
theorem w_M_X11_moves___0_41_26 {p : Program} {l : Launch} {e : Env} {s : State} {m : MethodId} {args : Array Value} {below : List Frame} {meth : Method} {c : Code} {A : Nat → Prop} {Q : State → Prop} {D : va_G} {ca : Nat → ClassId} {a : Nat → Nat} {u : fw_S} {k2 : fw_S → Int32 → Int32 → Option fw_S} (C : CX (WM ca a) D (tyv ca) p s m args c A prog_13_method_89_code 4 RX11) (hr : True → RX (WM ca a) D p l e rm_M_X11_moves___0_41 s m args below meth c A prog_13_method_89_code Q .return_ [] u) (hk2 : ∀ (t : fw_S) (x2 : Int32) (x3 : Int32) (H : Heap) (locs : List Loc) (ls : Array Slot), k2 t x2 x3 = some u → va_P D classes (WM ca a t) H → va_S A s.heap H locs → lv_has ls 4 [(0, .ref (a 0)), (1, .ref (a 41)), (2, .int x2), (3, .int x3)] → W p l e rm_M_X11_moves___0_41 s m args below meth c H locs 0 0 Q (F0 m 2 ls [])) {t : fw_S} {x2 : Int32} {x3 : Int32} {z1 : Int32} {H : Heap} {locs : List Loc} {ls : Array Slot} (hf : b_M_X11_moves___0_41_26 k2 t x2 x3 z1 = some u) (hP : va_P D classes (WM ca a t) H) (hS : va_S A s.heap H locs) (hl : lv_has ls 4 [(0, .ref (a 0)), (1, .ref (a 41)), (2, .int x2), (3, .int x3)]) : W p l e rm_M_X11_moves___0_41 s m args below meth c H locs 0 0 Q (F0 m 26 ls [.int z1, .ref (a 48)]) := by
  obtain ⟨hx, hb, hml, hown, hts, hN, hK, hD, hA⟩ := id C
  have hf : (b_M_X11_moves___0_41_31 k2 t x2 x3 z1 ((1 : Int32))) = some u := hf
  refine lv_iconst (v := 1) hx hb dX11_moves__26 (by decide) ?_
  refine lv_goto (tgt := 31) hx hb dX11_moves__27 (by decide) ?_
  exact w_M_X11_moves___0_41_31 C hr hk2 hf hP hS (lv_sub hl [0, 1, 2, 3] rfl)
set_option maxRecDepth 20000 in
theorem w_M_X11_moves___0_41_12 {p : Program} {l : Launch} {e : Env} {s : State} {m : MethodId} {args : Array Value} {below : List Frame} {meth : Method} {c : Code} {A : Nat → Prop} {Q : State → Prop} {D : va_G} {ca : Nat → ClassId} {a : Nat → Nat} {u : fw_S} {k2 : fw_S → Int32 → Int32 → Option fw_S} (C : CX (WM ca a) D (tyv ca) p s m args c A prog_13_method_89_code 4 RX11) (hr : True → RX (WM ca a) D p l e rm_M_X11_moves___0_41 s m args below meth c A prog_13_method_89_code Q .return_ [] u) (hk2 : ∀ (t : fw_S) (x2 : Int32) (x3 : Int32) (H : Heap) (locs : List Loc) (ls : Array Slot), k2 t x2 x3 = some u → va_P D classes (WM ca a t) H → va_S A s.heap H locs → lv_has ls 4 [(0, .ref (a 0)), (1, .ref (a 41)), (2, .int x2), (3, .int x3)] → W p l e rm_M_X11_moves___0_41 s m args below meth c H locs 0 0 Q (F0 m 2 ls [])) {t : fw_S} {x2 : Int32} {x3 : Int32} {H : Heap} {locs : List Loc} {ls : Array Slot} (hf : b_M_X11_moves___0_41_12 k2 t x2 x3 = some u) (hP : va_P D classes (WM ca a t) H) (hS : va_S A s.heap H locs) (hl : lv_has ls 4 [(0, .ref (a 0)), (1, .ref (a 41)), (2, .int x2), (3, .int x3)]) : W p l e rm_M_X11_moves___0_41 s m args below meth c H locs 0 0 Q (F0 m 12 ls []) := by
  obtain ⟨hx, hb, hml, hown, hts, hN, hK, hD, hA⟩ := id C
  have hf : (fb_g (¬ (x3 < 0 ∨ 8 ≤ x3.toNatClampNeg)) (if (st_F t 36 x3.toNatClampNeg) = 0 then b_M_X11_moves___0_41_30 k2 t x2 x3 (st_I t 19) else b_M_X11_moves___0_41_26 k2 t x2 x3 (st_I t 19))) = some u := hf
  refine lv_aload_n hx hb dX11_moves__12 rfl (lv_at hl 0 rfl) ?_
  refine va_get (D := D) (ci := 11) (v := .ref (a 48)) (C := RX11) (T := TX11) (N := 76) hx hb hts inX11 hown hK hP 0 (heM_0 ca a t) rfl 66 (by decide) (hts _ kw_1258) (fun _ h9 => h9) rfl dX11_moves__13 ?_
  refine lv_aload_n hx hb dX11_moves__16 rfl (lv_at hl 0 rfl) ?_
  refine va_get (D := D) (ci := 11) (v := .int (st_I t 19)) (C := RX11) (T := TX11) (N := 76) hx hb hts inX11 hown hK hP 0 (heM_0 ca a t) rfl 68 (by decide) (hts _ kw_1260) (fun _ h9 => h9) rfl dX11_moves__17 ?_
  refine lv_aload_n hx hb dX11_moves__20 rfl (lv_at hl 1 rfl) ?_
  refine lv_iload_n hx hb dX11_moves__21 rfl (lv_at hl 3 rfl) ?_
  obtain ⟨h_22, hf⟩ := fb_if hf
  refine va_zald hx hb hK hP 41 2 (haM_41 ca a t) rfl h_22 dX11_moves__22 ?_
  refine lv_if_eq (tgt := 30) hx hb dX11_moves__23 (by decide) (fun h_23 => ?_) (fun h_23 => ?_)
  · have hf := fb_t h_23 hf
    exact w_M_X11_moves___0_41_30 C hr hk2 hf hP hS (lv_sub hl [0, 1, 2, 3] rfl)
  · have hf := fb_f h_23 hf
    exact w_M_X11_moves___0_41_26 C hr hk2 hf hP hS (lv_sub hl [0, 1, 2, 3] rfl)
set_option maxRecDepth 20000 in
theorem w_M_X11_moves___0_41_8 {p : Program} {l : Launch} {e : Env} {s : State} {m : MethodId} {args : Array Value} {below : List Frame} {meth : Method} {c : Code} {A : Nat → Prop} {Q : State → Prop} {D : va_G} {ca : Nat → ClassId} {a : Nat → Nat} {u : fw_S} {k2 : fw_S → Int32 → Int32 → Option fw_S} (C : CX (WM ca a) D (tyv ca) p s m args c A prog_13_method_89_code 4 RX11) (hr : True → RX (WM ca a) D p l e rm_M_X11_moves___0_41 s m args below meth c A prog_13_method_89_code Q .return_ [] u) (hk2 : ∀ (t : fw_S) (x2 : Int32) (x3 : Int32) (H : Heap) (locs : List Loc) (ls : Array Slot), k2 t x2 x3 = some u → va_P D classes (WM ca a t) H → va_S A s.heap H locs → lv_has ls 4 [(0, .ref (a 0)), (1, .ref (a 41)), (2, .int x2), (3, .int x3)] → W p l e rm_M_X11_moves___0_41 s m args below meth c H locs 0 0 Q (F0 m 2 ls [])) {t : fw_S} {x2 : Int32} {x3 : Int32} {H : Heap} {locs : List Loc} {ls : Array Slot} (hf : b_M_X11_moves___0_41_8 k2 t x2 x3 = some u) (hP : va_P D classes (WM ca a t) H) (hS : va_S A s.heap H locs) (hl : lv_has ls 4 [(0, .ref (a 0)), (1, .ref (a 41)), (2, .int x2), (3, .int x3)]) : W p l e rm_M_X11_moves___0_41 s m args below meth c H locs 0 0 Q (F0 m 8 ls []) := by
  obtain ⟨hx, hb, hml, hown, hts, hN, hK, hD, hA⟩ := id C
  have hf : (if x2 = 0 then b_M_X11_moves___0_41_35 k2 t x2 x3 else b_M_X11_moves___0_41_12 k2 t x2 x3) = some u := hf
  refine lv_iload_n hx hb dX11_moves__8 rfl (lv_at hl 2 rfl) ?_
  refine lv_if_eq (tgt := 35) hx hb dX11_moves__9 (by decide) (fun h_9 => ?_) (fun h_9 => ?_)
  · have hf := fb_t h_9 hf
    exact w_M_X11_moves___0_41_35 C hr hk2 hf hP hS (lv_sub hl [0, 1, 2, 3] rfl)
  · have hf := fb_f h_9 hf
    exact w_M_X11_moves___0_41_12 C hr hk2 hf hP hS (lv_sub hl [0, 1, 2, 3] rfl)
set_option maxRecDepth 20000 in
theorem w_M_X11_moves___0_41_2 {p : Program} {l : Launch} {e : Env} {s : State} {m : MethodId} {args : Array Value} {below : List Frame} {meth : Method} {c : Code} {A : Nat → Prop} {Q : State → Prop} {D : va_G} {ca : Nat → ClassId} {a : Nat → Nat} {u : fw_S}  (C : CX (WM ca a) D (tyv ca) p s m args c A prog_13_method_89_code 4 RX11) (hr : True → RX (WM ca a) D p l e rm_M_X11_moves___0_41 s m args below meth c A prog_13_method_89_code Q .return_ [] u) : ∀ (n : Nat) (t : fw_S) (x2 : Int32) (x3 : Int32) (H : Heap) (locs : List Loc) (ls : Array Slot), b_M_X11_moves___0_41_2  n t x2 x3 = some u → va_P D classes (WM ca a t) H → va_S A s.heap H locs → lv_has ls 4 [(0, .ref (a 0)), (1, .ref (a 41)), (2, .int x2), (3, .int x3)] → W p l e rm_M_X11_moves___0_41 s m args below meth c H locs 0 0 Q (F0 m 2 ls []) := by
  obtain ⟨hx, hb, hml, hown, hts, hN, hK, hD, hA⟩ := id C
  intro n
  induction n with
  | zero => intro t x2 x3 H locs ls hf; cases hf
  | succ n hk2 =>
    intro t x2 x3 H locs ls hf hP hS hl
    have hf : (if ((8 : Int32)) ≤ x3 then b_M_X11_moves___0_41_72 t else b_M_X11_moves___0_41_8 (b_M_X11_moves___0_41_2 n) t x2 x3) = some u := hf
    refine lv_iload_n hx hb dX11_moves__2 rfl (lv_at hl 3 rfl) ?_
    refine lv_aload_n hx hb dX11_moves__3 rfl (lv_at hl 1 rfl) ?_
    refine va_alen (v := 8) hx hb hK hP 41 2 (haM_41 ca a t) rfl rfl dX11_moves__4 ?_
    refine lv_icmp_ge (tgt := 72) hx hb dX11_moves__5 (by decide) (fun h_5 => ?_) (fun h_5 => ?_)
    · have hf := fb_t h_5 hf
      exact w_M_X11_moves___0_41_72 C hr hf hP hS (lv_sub hl [] rfl)
    · have hf := fb_f h_5 hf
      exact w_M_X11_moves___0_41_8 C hr hk2 hf hP hS (lv_sub hl [0, 1, 2, 3] rfl)
set_option maxRecDepth 20000 in
theorem w_M_X11_moves___0_41_0 {p : Program} {l : Launch} {e : Env} {s : State} {m : MethodId} {args : Array Value} {below : List Frame} {meth : Method} {c : Code} {A : Nat → Prop} {Q : State → Prop} {D : va_G} {ca : Nat → ClassId} {a : Nat → Nat} {u : fw_S}  (C : CX (WM ca a) D (tyv ca) p s m args c A prog_13_method_89_code 4 RX11) (hr : True → RX (WM ca a) D p l e rm_M_X11_moves___0_41 s m args below meth c A prog_13_method_89_code Q .return_ [] u) {t : fw_S} {x2 : Int32} {H : Heap} {locs : List Loc} {ls : Array Slot} (hf : b_M_X11_moves___0_41_0  t x2 = some u) (hP : va_P D classes (WM ca a t) H) (hS : va_S A s.heap H locs) (hl : lv_has ls 4 [(0, .ref (a 0)), (1, .ref (a 41)), (2, .int x2)]) : W p l e rm_M_X11_moves___0_41 s m args below meth c H locs 0 0 Q (F0 m 0 ls []) := by
  obtain ⟨hx, hb, hml, hown, hts, hN, hK, hD, hA⟩ := id C
  have hf : (b_M_X11_moves___0_41_2 3000 t x2 ((0 : Int32))) = some u := hf
  refine lv_iconst (v := 0) hx hb dX11_moves__0 (by decide) ?_
  refine lv_istore_n (lv' := [(3, .int ((0 : Int32))), (0, .ref (a 0)), (1, .ref (a 41)), (2, .int x2)]) hx hb dX11_moves__1 rfl hl (by decide) rfl (fun ls hl => ?_)
  exact w_M_X11_moves___0_41_2 C hr 3000 t x2 ((0 : Int32)) _ _ _ hf hP hS (lv_sub hl [1, 2, 3, 0] rfl)
set_option maxRecDepth 20000 in
theorem c_M_X11_moves___0_41 {l : Launch} {D : va_G} {ca : Nat → ClassId} {a : Nat → Nat} {t : fw_S} {x2 : Int32} {u : fw_S} (hf : f_M_X11_moves___0_41 t x2 = some u) : MC (WM ca a) D (tyv ca) l yX11_moves_ (.code yX11_moves_ prog_13_method_89_code 4 none :: lw_gd) rm_M_X11_moves___0_41 [.ref (a 0), .ref (a 41), .int x2] none t u := by
  refine fw_met (okM ca a) (by decide +kernel) rfl rfl (Nat.le_of_ble_eq_true rfl) ?_
  intro p e s m args below meth c A Q ls C hr hk hP hS hl hQ
  exact w_M_X11_moves___0_41_0 C (fun _ => fw_rv C hr hk hQ) hf hP hS (lv_sub hl [0, 1, 2] rfl)
/-! ReactiveSheetModel.moves([IZ)V ['m', 'm.logBy'] -/
abbrev rm_M_X11_moves__0_38 : Room := { frames := 0, cells := 0, slots := 0, locals := 0 }
def b_M_X11_moves__0_38_55  (t : fw_S)  : Option fw_S := some t
def b_M_X11_moves__0_38_39 (k2 : fw_S → Int32 → Int32 → Option fw_S) (t : fw_S) (x2 : Int32) (x3 : Int32) : Option fw_S := fb_l (up_I t 19 ((st_I t 19) + ((1 : Int32)))) fun t_1 => (k2 t_1 x2 (x3 + 1))
def b_M_X11_moves__0_38_27 (k2 : fw_S → Int32 → Int32 → Option fw_S) (t : fw_S) (x2 : Int32) (x3 : Int32) : Option fw_S := fb_g (¬ ((st_I t 19) < 0 ∨ 2000 ≤ (st_I t 19).toNatClampNeg)) (fb_g (¬ (x3 < 0 ∨ 60 ≤ x3.toNatClampNeg)) (fb_l (up_F t 33 (upd (st_F t 33) x3.toNatClampNeg (st_F t 39 (st_I t 19).toNatClampNeg))) fun t_1 => (b_M_X11_moves__0_38_39 k2 t_1 x2 x3)))
def b_M_X11_moves__0_38_12 (k2 : fw_S → Int32 → Int32 → Option fw_S) (t : fw_S) (x2 : Int32) (x3 : Int32) : Option fw_S := fb_g (¬ (x3 < 0 ∨ 60 ≤ x3.toNatClampNeg)) (fb_g (¬ ((st_I t 19) < 0 ∨ 2000 ≤ (st_I t 19).toNatClampNeg)) (fb_l (up_F t 39 (upd (st_F t 39) (st_I t 19).toNatClampNeg (st_F t 33 x3.toNatClampNeg))) fun t_1 => (b_M_X11_moves__0_38_39 k2 t_1 x2 x3)))
def b_M_X11_moves__0_38_8 (k2 : fw_S → Int32 → Int32 → Option fw_S) (t : fw_S) (x2 : Int32) (x3 : Int32) : Option fw_S := if x2 = 0 then b_M_X11_moves__0_38_27 k2 t x2 x3 else b_M_X11_moves__0_38_12 k2 t x2 x3
def b_M_X11_moves__0_38_2  : Nat → (fw_S → Int32 → Int32 → Option fw_S)
  | 0 => fun _ _ _ => none
  | n + 1 => fun t x2 x3 => if ((60 : Int32)) ≤ x3 then b_M_X11_moves__0_38_55 t else b_M_X11_moves__0_38_8 (b_M_X11_moves__0_38_2 n) t x2 x3
def b_M_X11_moves__0_38_0  (t : fw_S) (x2 : Int32) : Option fw_S := b_M_X11_moves__0_38_2 3000 t x2 ((0 : Int32))
def f_M_X11_moves__0_38 (t : fw_S) (x2 : Int32) : Option fw_S := b_M_X11_moves__0_38_0 t x2
set_option maxRecDepth 20000 in
theorem w_M_X11_moves__0_38_55 {p : Program} {l : Launch} {e : Env} {s : State} {m : MethodId} {args : Array Value} {below : List Frame} {meth : Method} {c : Code} {A : Nat → Prop} {Q : State → Prop} {D : va_G} {ca : Nat → ClassId} {a : Nat → Nat} {u : fw_S}  (C : CX (WM ca a) D (tyv ca) p s m args c A prog_13_method_88_code 4 RX11) (hr : True → RX (WM ca a) D p l e rm_M_X11_moves__0_38 s m args below meth c A prog_13_method_88_code Q .return_ [] u) {t : fw_S}  {H : Heap} {locs : List Loc} {ls : Array Slot} (hf : b_M_X11_moves__0_38_55  t  = some u) (hP : va_P D classes (WM ca a t) H) (hS : va_S A s.heap H locs) (hl : lv_has ls 4 []) : W p l e rm_M_X11_moves__0_38 s m args below meth c H locs 0 0 Q (F0 m 55 ls []) := by
  obtain ⟨hx, hb, hml, hown, hts, hN, hK, hD, hA⟩ := id C
  have hf : (some t) = some u := hf
  have e_55 := fb_ev hf
  subst e_55
  exact hr trivial _ _ _ _ hP hS dX11_moves_55
set_option maxRecDepth 20000 in
theorem w_M_X11_moves__0_38_39 {p : Program} {l : Launch} {e : Env} {s : State} {m : MethodId} {args : Array Value} {below : List Frame} {meth : Method} {c : Code} {A : Nat → Prop} {Q : State → Prop} {D : va_G} {ca : Nat → ClassId} {a : Nat → Nat} {u : fw_S} {k2 : fw_S → Int32 → Int32 → Option fw_S} (C : CX (WM ca a) D (tyv ca) p s m args c A prog_13_method_88_code 4 RX11) (hr : True → RX (WM ca a) D p l e rm_M_X11_moves__0_38 s m args below meth c A prog_13_method_88_code Q .return_ [] u) (hk2 : ∀ (t : fw_S) (x2 : Int32) (x3 : Int32) (H : Heap) (locs : List Loc) (ls : Array Slot), k2 t x2 x3 = some u → va_P D classes (WM ca a t) H → va_S A s.heap H locs → lv_has ls 4 [(0, .ref (a 0)), (1, .ref (a 38)), (2, .int x2), (3, .int x3)] → W p l e rm_M_X11_moves__0_38 s m args below meth c H locs 0 0 Q (F0 m 2 ls [])) {t : fw_S} {x2 : Int32} {x3 : Int32} {H : Heap} {locs : List Loc} {ls : Array Slot} (hf : b_M_X11_moves__0_38_39 k2 t x2 x3 = some u) (hP : va_P D classes (WM ca a t) H) (hS : va_S A s.heap H locs) (hl : lv_has ls 4 [(0, .ref (a 0)), (1, .ref (a 38)), (2, .int x2), (3, .int x3)]) : W p l e rm_M_X11_moves__0_38 s m args below meth c H locs 0 0 Q (F0 m 39 ls []) := by
  obtain ⟨hx, hb, hml, hown, hts, hN, hK, hD, hA⟩ := id C
  have hf : (fb_l (up_I t 19 ((st_I t 19) + ((1 : Int32)))) fun t_1 => (k2 t_1 x2 (x3 + 1))) = some u := hf
  refine lv_aload_n hx hb dX11_moves_39 rfl (lv_at hl 0 rfl) ?_
  refine lv_dup hx hb dX11_moves_40 rfl ?_
  refine va_get (D := D) (ci := 11) (v := .int (st_I t 19)) (C := RX11) (T := TX11) (N := 76) hx hb hts inX11 hown hK hP 0 (heM_0 ca a t) rfl 68 (by decide) (hts _ kw_1260) (fun _ h9 => h9) rfl dX11_moves_41 ?_
  refine lv_iconst (v := 1) hx hb dX11_moves_44 (by decide) ?_
  refine lv_iadd hx hb dX11_moves_45 ?_
  refine va_put (D := D) (ci := 11) (v := .int ((st_I t 19) + ((1 : Int32)))) (ty := .int) (C := RX11) (T := TX11) (N := 76) hx hb hts inX11 tyX11 tyX11_ok nmX11 hown hK hP (hD t) hS 0 (heM_0 ca a t) rfl 68 (by decide) (hts _ kw_1260) (fun _ h9 => h9) rfl (by decide +kernel) rfl rfl (Nat.le_of_ble_eq_true rfl) dX11_moves_46 (fun H locs hP _ hS => ?_)
  rw [suM_0_68] at hP
  obtain ⟨t_1, e_46, hf⟩ := fb_ls hf
  rw [← e_46] at hP
  refine lv_iinc (v := x3 + 1) (lv' := [(3, .int (x3 + 1)), (0, .ref (a 0)), (1, .ref (a 38)), (2, .int x2)]) hx hb dX11_moves_49 hl (k := 3) rfl rfl (by decide) rfl (fun ls hl => ?_)
  refine lv_goto (tgt := 2) hx hb dX11_moves_52 (by decide) ?_
  exact hk2 t_1 x2 (x3 + 1) _ _ _ hf hP hS (lv_sub hl [1, 2, 3, 0] rfl)
set_option maxRecDepth 20000 in
theorem w_M_X11_moves__0_38_27 {p : Program} {l : Launch} {e : Env} {s : State} {m : MethodId} {args : Array Value} {below : List Frame} {meth : Method} {c : Code} {A : Nat → Prop} {Q : State → Prop} {D : va_G} {ca : Nat → ClassId} {a : Nat → Nat} {u : fw_S} {k2 : fw_S → Int32 → Int32 → Option fw_S} (C : CX (WM ca a) D (tyv ca) p s m args c A prog_13_method_88_code 4 RX11) (hr : True → RX (WM ca a) D p l e rm_M_X11_moves__0_38 s m args below meth c A prog_13_method_88_code Q .return_ [] u) (hk2 : ∀ (t : fw_S) (x2 : Int32) (x3 : Int32) (H : Heap) (locs : List Loc) (ls : Array Slot), k2 t x2 x3 = some u → va_P D classes (WM ca a t) H → va_S A s.heap H locs → lv_has ls 4 [(0, .ref (a 0)), (1, .ref (a 38)), (2, .int x2), (3, .int x3)] → W p l e rm_M_X11_moves__0_38 s m args below meth c H locs 0 0 Q (F0 m 2 ls [])) {t : fw_S} {x2 : Int32} {x3 : Int32} {H : Heap} {locs : List Loc} {ls : Array Slot} (hf : b_M_X11_moves__0_38_27 k2 t x2 x3 = some u) (hP : va_P D classes (WM ca a t) H) (hS : va_S A s.heap H locs) (hl : lv_has ls 4 [(0, .ref (a 0)), (1, .ref (a 38)), (2, .int x2), (3, .int x3)]) : W p l e rm_M_X11_moves__0_38 s m args below meth c H locs 0 0 Q (F0 m 27 ls []) := by
  obtain ⟨hx, hb, hml, hown, hts, hN, hK, hD, hA⟩ := id C
  have hf : (fb_g (¬ ((st_I t 19) < 0 ∨ 2000 ≤ (st_I t 19).toNatClampNeg)) (fb_g (¬ (x3 < 0 ∨ 60 ≤ x3.toNatClampNeg)) (fb_l (up_F t 33 (upd (st_F t 33) x3.toNatClampNeg (st_F t 39 (st_I t 19).toNatClampNeg))) fun t_1 => (b_M_X11_moves__0_38_39 k2 t_1 x2 x3)))) = some u := hf
  refine lv_aload_n hx hb dX11_moves_27 rfl (lv_at hl 1 rfl) ?_
  refine lv_iload_n hx hb dX11_moves_28 rfl (lv_at hl 3 rfl) ?_
  refine lv_aload_n hx hb dX11_moves_29 rfl (lv_at hl 0 rfl) ?_
  refine va_get (D := D) (ci := 11) (v := .ref (a 48)) (C := RX11) (T := TX11) (N := 76) hx hb hts inX11 hown hK hP 0 (heM_0 ca a t) rfl 66 (by decide) (hts _ kw_1258) (fun _ h9 => h9) rfl dX11_moves_30 ?_
  refine lv_aload_n hx hb dX11_moves_33 rfl (lv_at hl 0 rfl) ?_
  refine va_get (D := D) (ci := 11) (v := .int (st_I t 19)) (C := RX11) (T := TX11) (N := 76) hx hb hts inX11 hown hK hP 0 (heM_0 ca a t) rfl 68 (by decide) (hts _ kw_1260) (fun _ h9 => h9) rfl dX11_moves_34 ?_
  obtain ⟨h_37, hf⟩ := fb_if hf
  refine va_iald hx hb hK hP 48 0 (haM_48 ca a t) rfl h_37 dX11_moves_37 ?_
  obtain ⟨h_38, hf⟩ := fb_if hf
  refine va_iast hx hb hK hP (hD t) hS 38 0 (haM_38 ca a t) rfl h_38 dX11_moves_38 (fun H locs hP _ hS => ?_)
  rw [saM_38] at hP
  obtain ⟨t_1, e_38, hf⟩ := fb_ls hf
  rw [← e_38] at hP
  exact w_M_X11_moves__0_38_39 C hr hk2 hf hP hS (lv_sub hl [0, 1, 2, 3] rfl)
set_option maxRecDepth 20000 in
theorem w_M_X11_moves__0_38_12 {p : Program} {l : Launch} {e : Env} {s : State} {m : MethodId} {args : Array Value} {below : List Frame} {meth : Method} {c : Code} {A : Nat → Prop} {Q : State → Prop} {D : va_G} {ca : Nat → ClassId} {a : Nat → Nat} {u : fw_S} {k2 : fw_S → Int32 → Int32 → Option fw_S} (C : CX (WM ca a) D (tyv ca) p s m args c A prog_13_method_88_code 4 RX11) (hr : True → RX (WM ca a) D p l e rm_M_X11_moves__0_38 s m args below meth c A prog_13_method_88_code Q .return_ [] u) (hk2 : ∀ (t : fw_S) (x2 : Int32) (x3 : Int32) (H : Heap) (locs : List Loc) (ls : Array Slot), k2 t x2 x3 = some u → va_P D classes (WM ca a t) H → va_S A s.heap H locs → lv_has ls 4 [(0, .ref (a 0)), (1, .ref (a 38)), (2, .int x2), (3, .int x3)] → W p l e rm_M_X11_moves__0_38 s m args below meth c H locs 0 0 Q (F0 m 2 ls [])) {t : fw_S} {x2 : Int32} {x3 : Int32} {H : Heap} {locs : List Loc} {ls : Array Slot} (hf : b_M_X11_moves__0_38_12 k2 t x2 x3 = some u) (hP : va_P D classes (WM ca a t) H) (hS : va_S A s.heap H locs) (hl : lv_has ls 4 [(0, .ref (a 0)), (1, .ref (a 38)), (2, .int x2), (3, .int x3)]) : W p l e rm_M_X11_moves__0_38 s m args below meth c H locs 0 0 Q (F0 m 12 ls []) := by
  obtain ⟨hx, hb, hml, hown, hts, hN, hK, hD, hA⟩ := id C
  have hf : (fb_g (¬ (x3 < 0 ∨ 60 ≤ x3.toNatClampNeg)) (fb_g (¬ ((st_I t 19) < 0 ∨ 2000 ≤ (st_I t 19).toNatClampNeg)) (fb_l (up_F t 39 (upd (st_F t 39) (st_I t 19).toNatClampNeg (st_F t 33 x3.toNatClampNeg))) fun t_1 => (b_M_X11_moves__0_38_39 k2 t_1 x2 x3)))) = some u := hf
  refine lv_aload_n hx hb dX11_moves_12 rfl (lv_at hl 0 rfl) ?_
  refine va_get (D := D) (ci := 11) (v := .ref (a 48)) (C := RX11) (T := TX11) (N := 76) hx hb hts inX11 hown hK hP 0 (heM_0 ca a t) rfl 66 (by decide) (hts _ kw_1258) (fun _ h9 => h9) rfl dX11_moves_13 ?_
  refine lv_aload_n hx hb dX11_moves_16 rfl (lv_at hl 0 rfl) ?_
  refine va_get (D := D) (ci := 11) (v := .int (st_I t 19)) (C := RX11) (T := TX11) (N := 76) hx hb hts inX11 hown hK hP 0 (heM_0 ca a t) rfl 68 (by decide) (hts _ kw_1260) (fun _ h9 => h9) rfl dX11_moves_17 ?_
  refine lv_aload_n hx hb dX11_moves_20 rfl (lv_at hl 1 rfl) ?_
  refine lv_iload_n hx hb dX11_moves_21 rfl (lv_at hl 3 rfl) ?_
  obtain ⟨h_22, hf⟩ := fb_if hf
  refine va_iald hx hb hK hP 38 0 (haM_38 ca a t) rfl h_22 dX11_moves_22 ?_
  obtain ⟨h_23, hf⟩ := fb_if hf
  refine va_iast hx hb hK hP (hD t) hS 48 0 (haM_48 ca a t) rfl h_23 dX11_moves_23 (fun H locs hP _ hS => ?_)
  rw [saM_48] at hP
  obtain ⟨t_1, e_23, hf⟩ := fb_ls hf
  rw [← e_23] at hP
  refine lv_goto (tgt := 39) hx hb dX11_moves_24 (by decide) ?_
  exact w_M_X11_moves__0_38_39 C hr hk2 hf hP hS (lv_sub hl [0, 1, 2, 3] rfl)
set_option maxRecDepth 20000 in
theorem w_M_X11_moves__0_38_8 {p : Program} {l : Launch} {e : Env} {s : State} {m : MethodId} {args : Array Value} {below : List Frame} {meth : Method} {c : Code} {A : Nat → Prop} {Q : State → Prop} {D : va_G} {ca : Nat → ClassId} {a : Nat → Nat} {u : fw_S} {k2 : fw_S → Int32 → Int32 → Option fw_S} (C : CX (WM ca a) D (tyv ca) p s m args c A prog_13_method_88_code 4 RX11) (hr : True → RX (WM ca a) D p l e rm_M_X11_moves__0_38 s m args below meth c A prog_13_method_88_code Q .return_ [] u) (hk2 : ∀ (t : fw_S) (x2 : Int32) (x3 : Int32) (H : Heap) (locs : List Loc) (ls : Array Slot), k2 t x2 x3 = some u → va_P D classes (WM ca a t) H → va_S A s.heap H locs → lv_has ls 4 [(0, .ref (a 0)), (1, .ref (a 38)), (2, .int x2), (3, .int x3)] → W p l e rm_M_X11_moves__0_38 s m args below meth c H locs 0 0 Q (F0 m 2 ls [])) {t : fw_S} {x2 : Int32} {x3 : Int32} {H : Heap} {locs : List Loc} {ls : Array Slot} (hf : b_M_X11_moves__0_38_8 k2 t x2 x3 = some u) (hP : va_P D classes (WM ca a t) H) (hS : va_S A s.heap H locs) (hl : lv_has ls 4 [(0, .ref (a 0)), (1, .ref (a 38)), (2, .int x2), (3, .int x3)]) : W p l e rm_M_X11_moves__0_38 s m args below meth c H locs 0 0 Q (F0 m 8 ls []) := by
  obtain ⟨hx, hb, hml, hown, hts, hN, hK, hD, hA⟩ := id C
  have hf : (if x2 = 0 then b_M_X11_moves__0_38_27 k2 t x2 x3 else b_M_X11_moves__0_38_12 k2 t x2 x3) = some u := hf
  refine lv_iload_n hx hb dX11_moves_8 rfl (lv_at hl 2 rfl) ?_
  refine lv_if_eq (tgt := 27) hx hb dX11_moves_9 (by decide) (fun h_9 => ?_) (fun h_9 => ?_)
  · have hf := fb_t h_9 hf
    exact w_M_X11_moves__0_38_27 C hr hk2 hf hP hS (lv_sub hl [0, 1, 2, 3] rfl)
  · have hf := fb_f h_9 hf
    exact w_M_X11_moves__0_38_12 C hr hk2 hf hP hS (lv_sub hl [0, 1, 2, 3] rfl)
set_option maxRecDepth 20000 in
theorem w_M_X11_moves__0_38_2 {p : Program} {l : Launch} {e : Env} {s : State} {m : MethodId} {args : Array Value} {below : List Frame} {meth : Method} {c : Code} {A : Nat → Prop} {Q : State → Prop} {D : va_G} {ca : Nat → ClassId} {a : Nat → Nat} {u : fw_S}  (C : CX (WM ca a) D (tyv ca) p s m args c A prog_13_method_88_code 4 RX11) (hr : True → RX (WM ca a) D p l e rm_M_X11_moves__0_38 s m args below meth c A prog_13_method_88_code Q .return_ [] u) : ∀ (n : Nat) (t : fw_S) (x2 : Int32) (x3 : Int32) (H : Heap) (locs : List Loc) (ls : Array Slot), b_M_X11_moves__0_38_2  n t x2 x3 = some u → va_P D classes (WM ca a t) H → va_S A s.heap H locs → lv_has ls 4 [(0, .ref (a 0)), (1, .ref (a 38)), (2, .int x2), (3, .int x3)] → W p l e rm_M_X11_moves__0_38 s m args below meth c H locs 0 0 Q (F0 m 2 ls []) := by
  obtain ⟨hx, hb, hml, hown, hts, hN, hK, hD, hA⟩ := id C
  intro n
  induction n with
  | zero => intro t x2 x3 H locs ls hf; cases hf
  | succ n hk2 =>
    intro t x2 x3 H locs ls hf hP hS hl
    have hf : (if ((60 : Int32)) ≤ x3 then b_M_X11_moves__0_38_55 t else b_M_X11_moves__0_38_8 (b_M_X11_moves__0_38_2 n) t x2 x3) = some u := hf
    refine lv_iload_n hx hb dX11_moves_2 rfl (lv_at hl 3 rfl) ?_
    refine lv_aload_n hx hb dX11_moves_3 rfl (lv_at hl 1 rfl) ?_
    refine va_alen (v := 60) hx hb hK hP 38 0 (haM_38 ca a t) rfl rfl dX11_moves_4 ?_
    refine lv_icmp_ge (tgt := 55) hx hb dX11_moves_5 (by decide) (fun h_5 => ?_) (fun h_5 => ?_)
    · have hf := fb_t h_5 hf
      exact w_M_X11_moves__0_38_55 C hr hf hP hS (lv_sub hl [] rfl)
    · have hf := fb_f h_5 hf
      exact w_M_X11_moves__0_38_8 C hr hk2 hf hP hS (lv_sub hl [0, 1, 2, 3] rfl)
set_option maxRecDepth 20000 in
theorem w_M_X11_moves__0_38_0 {p : Program} {l : Launch} {e : Env} {s : State} {m : MethodId} {args : Array Value} {below : List Frame} {meth : Method} {c : Code} {A : Nat → Prop} {Q : State → Prop} {D : va_G} {ca : Nat → ClassId} {a : Nat → Nat} {u : fw_S}  (C : CX (WM ca a) D (tyv ca) p s m args c A prog_13_method_88_code 4 RX11) (hr : True → RX (WM ca a) D p l e rm_M_X11_moves__0_38 s m args below meth c A prog_13_method_88_code Q .return_ [] u) {t : fw_S} {x2 : Int32} {H : Heap} {locs : List Loc} {ls : Array Slot} (hf : b_M_X11_moves__0_38_0  t x2 = some u) (hP : va_P D classes (WM ca a t) H) (hS : va_S A s.heap H locs) (hl : lv_has ls 4 [(0, .ref (a 0)), (1, .ref (a 38)), (2, .int x2)]) : W p l e rm_M_X11_moves__0_38 s m args below meth c H locs 0 0 Q (F0 m 0 ls []) := by
  obtain ⟨hx, hb, hml, hown, hts, hN, hK, hD, hA⟩ := id C
  have hf : (b_M_X11_moves__0_38_2 3000 t x2 ((0 : Int32))) = some u := hf
  refine lv_iconst (v := 0) hx hb dX11_moves_0 (by decide) ?_
  refine lv_istore_n (lv' := [(3, .int ((0 : Int32))), (0, .ref (a 0)), (1, .ref (a 38)), (2, .int x2)]) hx hb dX11_moves_1 rfl hl (by decide) rfl (fun ls hl => ?_)
  exact w_M_X11_moves__0_38_2 C hr 3000 t x2 ((0 : Int32)) _ _ _ hf hP hS (lv_sub hl [1, 2, 3, 0] rfl)
set_option maxRecDepth 20000 in
theorem c_M_X11_moves__0_38 {l : Launch} {D : va_G} {ca : Nat → ClassId} {a : Nat → Nat} {t : fw_S} {x2 : Int32} {u : fw_S} (hf : f_M_X11_moves__0_38 t x2 = some u) : MC (WM ca a) D (tyv ca) l yX11_moves (.code yX11_moves prog_13_method_88_code 4 none :: lw_gd) rm_M_X11_moves__0_38 [.ref (a 0), .ref (a 38), .int x2] none t u := by
  refine fw_met (okM ca a) (by decide +kernel) rfl rfl (Nat.le_of_ble_eq_true rfl) ?_
  intro p e s m args below meth c A Q ls C hr hk hP hS hl hQ
  exact w_M_X11_moves__0_38_0 C (fun _ => fw_rv C hr hk hQ) hf hP hS (lv_sub hl [0, 1, 2] rfl)
/-! ReactiveSheetModel.moves([IZ)V ['m', 'm.logWas'] -/
abbrev rm_M_X11_moves__0_39 : Room := { frames := 0, cells := 0, slots := 0, locals := 0 }
def b_M_X11_moves__0_39_55  (t : fw_S)  : Option fw_S := some t
def b_M_X11_moves__0_39_39 (k2 : fw_S → Int32 → Int32 → Option fw_S) (t : fw_S) (x2 : Int32) (x3 : Int32) : Option fw_S := fb_l (up_I t 19 ((st_I t 19) + ((1 : Int32)))) fun t_1 => (k2 t_1 x2 (x3 + 1))
def b_M_X11_moves__0_39_27 (k2 : fw_S → Int32 → Int32 → Option fw_S) (t : fw_S) (x2 : Int32) (x3 : Int32) : Option fw_S := fb_g (¬ ((st_I t 19) < 0 ∨ 2000 ≤ (st_I t 19).toNatClampNeg)) (fb_g (¬ (x3 < 0 ∨ 60 ≤ x3.toNatClampNeg)) (fb_l (up_F t 34 (upd (st_F t 34) x3.toNatClampNeg (st_F t 39 (st_I t 19).toNatClampNeg))) fun t_1 => (b_M_X11_moves__0_39_39 k2 t_1 x2 x3)))
def b_M_X11_moves__0_39_12 (k2 : fw_S → Int32 → Int32 → Option fw_S) (t : fw_S) (x2 : Int32) (x3 : Int32) : Option fw_S := fb_g (¬ (x3 < 0 ∨ 60 ≤ x3.toNatClampNeg)) (fb_g (¬ ((st_I t 19) < 0 ∨ 2000 ≤ (st_I t 19).toNatClampNeg)) (fb_l (up_F t 39 (upd (st_F t 39) (st_I t 19).toNatClampNeg (st_F t 34 x3.toNatClampNeg))) fun t_1 => (b_M_X11_moves__0_39_39 k2 t_1 x2 x3)))
def b_M_X11_moves__0_39_8 (k2 : fw_S → Int32 → Int32 → Option fw_S) (t : fw_S) (x2 : Int32) (x3 : Int32) : Option fw_S := if x2 = 0 then b_M_X11_moves__0_39_27 k2 t x2 x3 else b_M_X11_moves__0_39_12 k2 t x2 x3
def b_M_X11_moves__0_39_2  : Nat → (fw_S → Int32 → Int32 → Option fw_S)
  | 0 => fun _ _ _ => none
  | n + 1 => fun t x2 x3 => if ((60 : Int32)) ≤ x3 then b_M_X11_moves__0_39_55 t else b_M_X11_moves__0_39_8 (b_M_X11_moves__0_39_2 n) t x2 x3
def b_M_X11_moves__0_39_0  (t : fw_S) (x2 : Int32) : Option fw_S := b_M_X11_moves__0_39_2 3000 t x2 ((0 : Int32))
def f_M_X11_moves__0_39 (t : fw_S) (x2 : Int32) : Option fw_S := b_M_X11_moves__0_39_0 t x2
set_option maxRecDepth 20000 in
theorem w_M_X11_moves__0_39_55 {p : Program} {l : Launch} {e : Env} {s : State} {m : MethodId} {args : Array Value} {below : List Frame} {meth : Method} {c : Code} {A : Nat → Prop} {Q : State → Prop} {D : va_G} {ca : Nat → ClassId} {a : Nat → Nat} {u : fw_S}  (C : CX (WM ca a) D (tyv ca) p s m args c A prog_13_method_88_code 4 RX11) (hr : True → RX (WM ca a) D p l e rm_M_X11_moves__0_39 s m args below meth c A prog_13_method_88_code Q .return_ [] u) {t : fw_S}  {H : Heap} {locs : List Loc} {ls : Array Slot} (hf : b_M_X11_moves__0_39_55  t  = some u) (hP : va_P D classes (WM ca a t) H) (hS : va_S A s.heap H locs) (hl : lv_has ls 4 []) : W p l e rm_M_X11_moves__0_39 s m args below meth c H locs 0 0 Q (F0 m 55 ls []) := by
  obtain ⟨hx, hb, hml, hown, hts, hN, hK, hD, hA⟩ := id C
  have hf : (some t) = some u := hf
  have e_55 := fb_ev hf
  subst e_55
  exact hr trivial _ _ _ _ hP hS dX11_moves_55
set_option maxRecDepth 20000 in
theorem w_M_X11_moves__0_39_39 {p : Program} {l : Launch} {e : Env} {s : State} {m : MethodId} {args : Array Value} {below : List Frame} {meth : Method} {c : Code} {A : Nat → Prop} {Q : State → Prop} {D : va_G} {ca : Nat → ClassId} {a : Nat → Nat} {u : fw_S} {k2 : fw_S → Int32 → Int32 → Option fw_S} (C : CX (WM ca a) D (tyv ca) p s m args c A prog_13_method_88_code 4 RX11) (hr : True → RX (WM ca a) D p l e rm_M_X11_moves__0_39 s m args below meth c A prog_13_method_88_code Q .return_ [] u) (hk2 : ∀ (t : fw_S) (x2 : Int32) (x3 : Int32) (H : Heap) (locs : List Loc) (ls : Array Slot), k2 t x2 x3 = some u → va_P D classes (WM ca a t) H → va_S A s.heap H locs → lv_has ls 4 [(0, .ref (a 0)), (1, .ref (a 39)), (2, .int x2), (3, .int x3)] → W p l e rm_M_X11_moves__0_39 s m args below meth c H locs 0 0 Q (F0 m 2 ls [])) {t : fw_S} {x2 : Int32} {x3 : Int32} {H : Heap} {locs : List Loc} {ls : Array Slot} (hf : b_M_X11_moves__0_39_39 k2 t x2 x3 = some u) (hP : va_P D classes (WM ca a t) H) (hS : va_S A s.heap H locs) (hl : lv_has ls 4 [(0, .ref (a 0)), (1, .ref (a 39)), (2, .int x2), (3, .int x3)]) : W p l e rm_M_X11_moves__0_39 s m args below meth c H locs 0 0 Q (F0 m 39 ls []) := by
  obtain ⟨hx, hb, hml, hown, hts, hN, hK, hD, hA⟩ := id C
  have hf : (fb_l (up_I t 19 ((st_I t 19) + ((1 : Int32)))) fun t_1 => (k2 t_1 x2 (x3 + 1))) = some u := hf
  refine lv_aload_n hx hb dX11_moves_39 rfl (lv_at hl 0 rfl) ?_
  refine lv_dup hx hb dX11_moves_40 rfl ?_
  refine va_get (D := D) (ci := 11) (v := .int (st_I t 19)) (C := RX11) (T := TX11) (N := 76) hx hb hts inX11 hown hK hP 0 (heM_0 ca a t) rfl 68 (by decide) (hts _ kw_1260) (fun _ h9 => h9) rfl dX11_moves_41 ?_
  refine lv_iconst (v := 1) hx hb dX11_moves_44 (by decide) ?_
  refine lv_iadd hx hb dX11_moves_45 ?_
  refine va_put (D := D) (ci := 11) (v := .int ((st_I t 19) + ((1 : Int32)))) (ty := .int) (C := RX11) (T := TX11) (N := 76) hx hb hts inX11 tyX11 tyX11_ok nmX11 hown hK hP (hD t) hS 0 (heM_0 ca a t) rfl 68 (by decide) (hts _ kw_1260) (fun _ h9 => h9) rfl (by decide +kernel) rfl rfl (Nat.le_of_ble_eq_true rfl) dX11_moves_46 (fun H locs hP _ hS => ?_)
  rw [suM_0_68] at hP
  obtain ⟨t_1, e_46, hf⟩ := fb_ls hf
  rw [← e_46] at hP
  refine lv_iinc (v := x3 + 1) (lv' := [(3, .int (x3 + 1)), (0, .ref (a 0)), (1, .ref (a 39)), (2, .int x2)]) hx hb dX11_moves_49 hl (k := 3) rfl rfl (by decide) rfl (fun ls hl => ?_)
  refine lv_goto (tgt := 2) hx hb dX11_moves_52 (by decide) ?_
  exact hk2 t_1 x2 (x3 + 1) _ _ _ hf hP hS (lv_sub hl [1, 2, 3, 0] rfl)
set_option maxRecDepth 20000 in
theorem w_M_X11_moves__0_39_27 {p : Program} {l : Launch} {e : Env} {s : State} {m : MethodId} {args : Array Value} {below : List Frame} {meth : Method} {c : Code} {A : Nat → Prop} {Q : State → Prop} {D : va_G} {ca : Nat → ClassId} {a : Nat → Nat} {u : fw_S} {k2 : fw_S → Int32 → Int32 → Option fw_S} (C : CX (WM ca a) D (tyv ca) p s m args c A prog_13_method_88_code 4 RX11) (hr : True → RX (WM ca a) D p l e rm_M_X11_moves__0_39 s m args below meth c A prog_13_method_88_code Q .return_ [] u) (hk2 : ∀ (t : fw_S) (x2 : Int32) (x3 : Int32) (H : Heap) (locs : List Loc) (ls : Array Slot), k2 t x2 x3 = some u → va_P D classes (WM ca a t) H → va_S A s.heap H locs → lv_has ls 4 [(0, .ref (a 0)), (1, .ref (a 39)), (2, .int x2), (3, .int x3)] → W p l e rm_M_X11_moves__0_39 s m args below meth c H locs 0 0 Q (F0 m 2 ls [])) {t : fw_S} {x2 : Int32} {x3 : Int32} {H : Heap} {locs : List Loc} {ls : Array Slot} (hf : b_M_X11_moves__0_39_27 k2 t x2 x3 = some u) (hP : va_P D classes (WM ca a t) H) (hS : va_S A s.heap H locs) (hl : lv_has ls 4 [(0, .ref (a 0)), (1, .ref (a 39)), (2, .int x2), (3, .int x3)]) : W p l e rm_M_X11_moves__0_39 s m args below meth c H locs 0 0 Q (F0 m 27 ls []) := by
  obtain ⟨hx, hb, hml, hown, hts, hN, hK, hD, hA⟩ := id C
  have hf : (fb_g (¬ ((st_I t 19) < 0 ∨ 2000 ≤ (st_I t 19).toNatClampNeg)) (fb_g (¬ (x3 < 0 ∨ 60 ≤ x3.toNatClampNeg)) (fb_l (up_F t 34 (upd (st_F t 34) x3.toNatClampNeg (st_F t 39 (st_I t 19).toNatClampNeg))) fun t_1 => (b_M_X11_moves__0_39_39 k2 t_1 x2 x3)))) = some u := hf
  refine lv_aload_n hx hb dX11_moves_27 rfl (lv_at hl 1 rfl) ?_
  refine lv_iload_n hx hb dX11_moves_28 rfl (lv_at hl 3 rfl) ?_
  refine lv_aload_n hx hb dX11_moves_29 rfl (lv_at hl 0 rfl) ?_
  refine va_get (D := D) (ci := 11) (v := .ref (a 48)) (C := RX11) (T := TX11) (N := 76) hx hb hts inX11 hown hK hP 0 (heM_0 ca a t) rfl 66 (by decide) (hts _ kw_1258) (fun _ h9 => h9) rfl dX11_moves_30 ?_
  refine lv_aload_n hx hb dX11_moves_33 rfl (lv_at hl 0 rfl) ?_
  refine va_get (D := D) (ci := 11) (v := .int (st_I t 19)) (C := RX11) (T := TX11) (N := 76) hx hb hts inX11 hown hK hP 0 (heM_0 ca a t) rfl 68 (by decide) (hts _ kw_1260) (fun _ h9 => h9) rfl dX11_moves_34 ?_
  obtain ⟨h_37, hf⟩ := fb_if hf
  refine va_iald hx hb hK hP 48 0 (haM_48 ca a t) rfl h_37 dX11_moves_37 ?_
  obtain ⟨h_38, hf⟩ := fb_if hf
  refine va_iast hx hb hK hP (hD t) hS 39 0 (haM_39 ca a t) rfl h_38 dX11_moves_38 (fun H locs hP _ hS => ?_)
  rw [saM_39] at hP
  obtain ⟨t_1, e_38, hf⟩ := fb_ls hf
  rw [← e_38] at hP
  exact w_M_X11_moves__0_39_39 C hr hk2 hf hP hS (lv_sub hl [0, 1, 2, 3] rfl)
set_option maxRecDepth 20000 in
theorem w_M_X11_moves__0_39_12 {p : Program} {l : Launch} {e : Env} {s : State} {m : MethodId} {args : Array Value} {below : List Frame} {meth : Method} {c : Code} {A : Nat → Prop} {Q : State → Prop} {D : va_G} {ca : Nat → ClassId} {a : Nat → Nat} {u : fw_S} {k2 : fw_S → Int32 → Int32 → Option fw_S} (C : CX (WM ca a) D (tyv ca) p s m args c A prog_13_method_88_code 4 RX11) (hr : True → RX (WM ca a) D p l e rm_M_X11_moves__0_39 s m args below meth c A prog_13_method_88_code Q .return_ [] u) (hk2 : ∀ (t : fw_S) (x2 : Int32) (x3 : Int32) (H : Heap) (locs : List Loc) (ls : Array Slot), k2 t x2 x3 = some u → va_P D classes (WM ca a t) H → va_S A s.heap H locs → lv_has ls 4 [(0, .ref (a 0)), (1, .ref (a 39)), (2, .int x2), (3, .int x3)] → W p l e rm_M_X11_moves__0_39 s m args below meth c H locs 0 0 Q (F0 m 2 ls [])) {t : fw_S} {x2 : Int32} {x3 : Int32} {H : Heap} {locs : List Loc} {ls : Array Slot} (hf : b_M_X11_moves__0_39_12 k2 t x2 x3 = some u) (hP : va_P D classes (WM ca a t) H) (hS : va_S A s.heap H locs) (hl : lv_has ls 4 [(0, .ref (a 0)), (1, .ref (a 39)), (2, .int x2), (3, .int x3)]) : W p l e rm_M_X11_moves__0_39 s m args below meth c H locs 0 0 Q (F0 m 12 ls []) := by
  obtain ⟨hx, hb, hml, hown, hts, hN, hK, hD, hA⟩ := id C
  have hf : (fb_g (¬ (x3 < 0 ∨ 60 ≤ x3.toNatClampNeg)) (fb_g (¬ ((st_I t 19) < 0 ∨ 2000 ≤ (st_I t 19).toNatClampNeg)) (fb_l (up_F t 39 (upd (st_F t 39) (st_I t 19).toNatClampNeg (st_F t 34 x3.toNatClampNeg))) fun t_1 => (b_M_X11_moves__0_39_39 k2 t_1 x2 x3)))) = some u := hf
  refine lv_aload_n hx hb dX11_moves_12 rfl (lv_at hl 0 rfl) ?_
  refine va_get (D := D) (ci := 11) (v := .ref (a 48)) (C := RX11) (T := TX11) (N := 76) hx hb hts inX11 hown hK hP 0 (heM_0 ca a t) rfl 66 (by decide) (hts _ kw_1258) (fun _ h9 => h9) rfl dX11_moves_13 ?_
  refine lv_aload_n hx hb dX11_moves_16 rfl (lv_at hl 0 rfl) ?_
  refine va_get (D := D) (ci := 11) (v := .int (st_I t 19)) (C := RX11) (T := TX11) (N := 76) hx hb hts inX11 hown hK hP 0 (heM_0 ca a t) rfl 68 (by decide) (hts _ kw_1260) (fun _ h9 => h9) rfl dX11_moves_17 ?_
  refine lv_aload_n hx hb dX11_moves_20 rfl (lv_at hl 1 rfl) ?_
  refine lv_iload_n hx hb dX11_moves_21 rfl (lv_at hl 3 rfl) ?_
  obtain ⟨h_22, hf⟩ := fb_if hf
  refine va_iald hx hb hK hP 39 0 (haM_39 ca a t) rfl h_22 dX11_moves_22 ?_
  obtain ⟨h_23, hf⟩ := fb_if hf
  refine va_iast hx hb hK hP (hD t) hS 48 0 (haM_48 ca a t) rfl h_23 dX11_moves_23 (fun H locs hP _ hS => ?_)
  rw [saM_48] at hP
  obtain ⟨t_1, e_23, hf⟩ := fb_ls hf
  rw [← e_23] at hP
  refine lv_goto (tgt := 39) hx hb dX11_moves_24 (by decide) ?_
  exact w_M_X11_moves__0_39_39 C hr hk2 hf hP hS (lv_sub hl [0, 1, 2, 3] rfl)
set_option maxRecDepth 20000 in
theorem w_M_X11_moves__0_39_8 {p : Program} {l : Launch} {e : Env} {s : State} {m : MethodId} {args : Array Value} {below : List Frame} {meth : Method} {c : Code} {A : Nat → Prop} {Q : State → Prop} {D : va_G} {ca : Nat → ClassId} {a : Nat → Nat} {u : fw_S} {k2 : fw_S → Int32 → Int32 → Option fw_S} (C : CX (WM ca a) D (tyv ca) p s m args c A prog_13_method_88_code 4 RX11) (hr : True → RX (WM ca a) D p l e rm_M_X11_moves__0_39 s m args below meth c A prog_13_method_88_code Q .return_ [] u) (hk2 : ∀ (t : fw_S) (x2 : Int32) (x3 : Int32) (H : Heap) (locs : List Loc) (ls : Array Slot), k2 t x2 x3 = some u → va_P D classes (WM ca a t) H → va_S A s.heap H locs → lv_has ls 4 [(0, .ref (a 0)), (1, .ref (a 39)), (2, .int x2), (3, .int x3)] → W p l e rm_M_X11_moves__0_39 s m args below meth c H locs 0 0 Q (F0 m 2 ls [])) {t : fw_S} {x2 : Int32} {x3 : Int32} {H : Heap} {locs : List Loc} {ls : Array Slot} (hf : b_M_X11_moves__0_39_8 k2 t x2 x3 = some u) (hP : va_P D classes (WM ca a t) H) (hS : va_S A s.heap H locs) (hl : lv_has ls 4 [(0, .ref (a 0)), (1, .ref (a 39)), (2, .int x2), (3, .int x3)]) : W p l e rm_M_X11_moves__0_39 s m args below meth c H locs 0 0 Q (F0 m 8 ls []) := by
  obtain ⟨hx, hb, hml, hown, hts, hN, hK, hD, hA⟩ := id C
  have hf : (if x2 = 0 then b_M_X11_moves__0_39_27 k2 t x2 x3 else b_M_X11_moves__0_39_12 k2 t x2 x3) = some u := hf
  refine lv_iload_n hx hb dX11_moves_8 rfl (lv_at hl 2 rfl) ?_
  refine lv_if_eq (tgt := 27) hx hb dX11_moves_9 (by decide) (fun h_9 => ?_) (fun h_9 => ?_)
  · have hf := fb_t h_9 hf
    exact w_M_X11_moves__0_39_27 C hr hk2 hf hP hS (lv_sub hl [0, 1, 2, 3] rfl)
  · have hf := fb_f h_9 hf
    exact w_M_X11_moves__0_39_12 C hr hk2 hf hP hS (lv_sub hl [0, 1, 2, 3] rfl)
set_option maxRecDepth 20000 in
theorem w_M_X11_moves__0_39_2 {p : Program} {l : Launch} {e : Env} {s : State} {m : MethodId} {args : Array Value} {below : List Frame} {meth : Method} {c : Code} {A : Nat → Prop} {Q : State → Prop} {D : va_G} {ca : Nat → ClassId} {a : Nat → Nat} {u : fw_S}  (C : CX (WM ca a) D (tyv ca) p s m args c A prog_13_method_88_code 4 RX11) (hr : True → RX (WM ca a) D p l e rm_M_X11_moves__0_39 s m args below meth c A prog_13_method_88_code Q .return_ [] u) : ∀ (n : Nat) (t : fw_S) (x2 : Int32) (x3 : Int32) (H : Heap) (locs : List Loc) (ls : Array Slot), b_M_X11_moves__0_39_2  n t x2 x3 = some u → va_P D classes (WM ca a t) H → va_S A s.heap H locs → lv_has ls 4 [(0, .ref (a 0)), (1, .ref (a 39)), (2, .int x2), (3, .int x3)] → W p l e rm_M_X11_moves__0_39 s m args below meth c H locs 0 0 Q (F0 m 2 ls []) := by
  obtain ⟨hx, hb, hml, hown, hts, hN, hK, hD, hA⟩ := id C
  intro n
  induction n with
  | zero => intro t x2 x3 H locs ls hf; cases hf
  | succ n hk2 =>
    intro t x2 x3 H locs ls hf hP hS hl
    have hf : (if ((60 : Int32)) ≤ x3 then b_M_X11_moves__0_39_55 t else b_M_X11_moves__0_39_8 (b_M_X11_moves__0_39_2 n) t x2 x3) = some u := hf
    refine lv_iload_n hx hb dX11_moves_2 rfl (lv_at hl 3 rfl) ?_
    refine lv_aload_n hx hb dX11_moves_3 rfl (lv_at hl 1 rfl) ?_
    refine va_alen (v := 60) hx hb hK hP 39 0 (haM_39 ca a t) rfl rfl dX11_moves_4 ?_
    refine lv_icmp_ge (tgt := 55) hx hb dX11_moves_5 (by decide) (fun h_5 => ?_) (fun h_5 => ?_)
    · have hf := fb_t h_5 hf
      exact w_M_X11_moves__0_39_55 C hr hf hP hS (lv_sub hl [] rfl)
    · have hf := fb_f h_5 hf
      exact w_M_X11_moves__0_39_8 C hr hk2 hf hP hS (lv_sub hl [0, 1, 2, 3] rfl)
set_option maxRecDepth 20000 in
theorem w_M_X11_moves__0_39_0 {p : Program} {l : Launch} {e : Env} {s : State} {m : MethodId} {args : Array Value} {below : List Frame} {meth : Method} {c : Code} {A : Nat → Prop} {Q : State → Prop} {D : va_G} {ca : Nat → ClassId} {a : Nat → Nat} {u : fw_S}  (C : CX (WM ca a) D (tyv ca) p s m args c A prog_13_method_88_code 4 RX11) (hr : True → RX (WM ca a) D p l e rm_M_X11_moves__0_39 s m args below meth c A prog_13_method_88_code Q .return_ [] u) {t : fw_S} {x2 : Int32} {H : Heap} {locs : List Loc} {ls : Array Slot} (hf : b_M_X11_moves__0_39_0  t x2 = some u) (hP : va_P D classes (WM ca a t) H) (hS : va_S A s.heap H locs) (hl : lv_has ls 4 [(0, .ref (a 0)), (1, .ref (a 39)), (2, .int x2)]) : W p l e rm_M_X11_moves__0_39 s m args below meth c H locs 0 0 Q (F0 m 0 ls []) := by
  obtain ⟨hx, hb, hml, hown, hts, hN, hK, hD, hA⟩ := id C
  have hf : (b_M_X11_moves__0_39_2 3000 t x2 ((0 : Int32))) = some u := hf
  refine lv_iconst (v := 0) hx hb dX11_moves_0 (by decide) ?_
  refine lv_istore_n (lv' := [(3, .int ((0 : Int32))), (0, .ref (a 0)), (1, .ref (a 39)), (2, .int x2)]) hx hb dX11_moves_1 rfl hl (by decide) rfl (fun ls hl => ?_)
  exact w_M_X11_moves__0_39_2 C hr 3000 t x2 ((0 : Int32)) _ _ _ hf hP hS (lv_sub hl [1, 2, 3, 0] rfl)
set_option maxRecDepth 20000 in
theorem c_M_X11_moves__0_39 {l : Launch} {D : va_G} {ca : Nat → ClassId} {a : Nat → Nat} {t : fw_S} {x2 : Int32} {u : fw_S} (hf : f_M_X11_moves__0_39 t x2 = some u) : MC (WM ca a) D (tyv ca) l yX11_moves (.code yX11_moves prog_13_method_88_code 4 none :: lw_gd) rm_M_X11_moves__0_39 [.ref (a 0), .ref (a 39), .int x2] none t u := by
  refine fw_met (okM ca a) (by decide +kernel) rfl rfl (Nat.le_of_ble_eq_true rfl) ?_
  intro p e s m args below meth c A Q ls C hr hk hP hS hl hQ
  exact w_M_X11_moves__0_39_0 C (fun _ => fw_rv C hr hk hQ) hf hP hS (lv_sub hl [0, 1, 2] rfl)
/-! ReactiveSheetModel.moves([IZ)V ['m', 'm.logIs'] -/
abbrev rm_M_X11_moves__0_40 : Room := { frames := 0, cells := 0, slots := 0, locals := 0 }
def b_M_X11_moves__0_40_55  (t : fw_S)  : Option fw_S := some t
def b_M_X11_moves__0_40_39 (k2 : fw_S → Int32 → Int32 → Option fw_S) (t : fw_S) (x2 : Int32) (x3 : Int32) : Option fw_S := fb_l (up_I t 19 ((st_I t 19) + ((1 : Int32)))) fun t_1 => (k2 t_1 x2 (x3 + 1))
def b_M_X11_moves__0_40_27 (k2 : fw_S → Int32 → Int32 → Option fw_S) (t : fw_S) (x2 : Int32) (x3 : Int32) : Option fw_S := fb_g (¬ ((st_I t 19) < 0 ∨ 2000 ≤ (st_I t 19).toNatClampNeg)) (fb_g (¬ (x3 < 0 ∨ 60 ≤ x3.toNatClampNeg)) (fb_l (up_F t 35 (upd (st_F t 35) x3.toNatClampNeg (st_F t 39 (st_I t 19).toNatClampNeg))) fun t_1 => (b_M_X11_moves__0_40_39 k2 t_1 x2 x3)))
def b_M_X11_moves__0_40_12 (k2 : fw_S → Int32 → Int32 → Option fw_S) (t : fw_S) (x2 : Int32) (x3 : Int32) : Option fw_S := fb_g (¬ (x3 < 0 ∨ 60 ≤ x3.toNatClampNeg)) (fb_g (¬ ((st_I t 19) < 0 ∨ 2000 ≤ (st_I t 19).toNatClampNeg)) (fb_l (up_F t 39 (upd (st_F t 39) (st_I t 19).toNatClampNeg (st_F t 35 x3.toNatClampNeg))) fun t_1 => (b_M_X11_moves__0_40_39 k2 t_1 x2 x3)))
def b_M_X11_moves__0_40_8 (k2 : fw_S → Int32 → Int32 → Option fw_S) (t : fw_S) (x2 : Int32) (x3 : Int32) : Option fw_S := if x2 = 0 then b_M_X11_moves__0_40_27 k2 t x2 x3 else b_M_X11_moves__0_40_12 k2 t x2 x3
def b_M_X11_moves__0_40_2  : Nat → (fw_S → Int32 → Int32 → Option fw_S)
  | 0 => fun _ _ _ => none
  | n + 1 => fun t x2 x3 => if ((60 : Int32)) ≤ x3 then b_M_X11_moves__0_40_55 t else b_M_X11_moves__0_40_8 (b_M_X11_moves__0_40_2 n) t x2 x3
def b_M_X11_moves__0_40_0  (t : fw_S) (x2 : Int32) : Option fw_S := b_M_X11_moves__0_40_2 3000 t x2 ((0 : Int32))
def f_M_X11_moves__0_40 (t : fw_S) (x2 : Int32) : Option fw_S := b_M_X11_moves__0_40_0 t x2
set_option maxRecDepth 20000 in
theorem w_M_X11_moves__0_40_55 {p : Program} {l : Launch} {e : Env} {s : State} {m : MethodId} {args : Array Value} {below : List Frame} {meth : Method} {c : Code} {A : Nat → Prop} {Q : State → Prop} {D : va_G} {ca : Nat → ClassId} {a : Nat → Nat} {u : fw_S}  (C : CX (WM ca a) D (tyv ca) p s m args c A prog_13_method_88_code 4 RX11) (hr : True → RX (WM ca a) D p l e rm_M_X11_moves__0_40 s m args below meth c A prog_13_method_88_code Q .return_ [] u) {t : fw_S}  {H : Heap} {locs : List Loc} {ls : Array Slot} (hf : b_M_X11_moves__0_40_55  t  = some u) (hP : va_P D classes (WM ca a t) H) (hS : va_S A s.heap H locs) (hl : lv_has ls 4 []) : W p l e rm_M_X11_moves__0_40 s m args below meth c H locs 0 0 Q (F0 m 55 ls []) := by
  obtain ⟨hx, hb, hml, hown, hts, hN, hK, hD, hA⟩ := id C
  have hf : (some t) = some u := hf
  have e_55 := fb_ev hf
  subst e_55
  exact hr trivial _ _ _ _ hP hS dX11_moves_55
set_option maxRecDepth 20000 in
theorem w_M_X11_moves__0_40_39 {p : Program} {l : Launch} {e : Env} {s : State} {m : MethodId} {args : Array Value} {below : List Frame} {meth : Method} {c : Code} {A : Nat → Prop} {Q : State → Prop} {D : va_G} {ca : Nat → ClassId} {a : Nat → Nat} {u : fw_S} {k2 : fw_S → Int32 → Int32 → Option fw_S} (C : CX (WM ca a) D (tyv ca) p s m args c A prog_13_method_88_code 4 RX11) (hr : True → RX (WM ca a) D p l e rm_M_X11_moves__0_40 s m args below meth c A prog_13_method_88_code Q .return_ [] u) (hk2 : ∀ (t : fw_S) (x2 : Int32) (x3 : Int32) (H : Heap) (locs : List Loc) (ls : Array Slot), k2 t x2 x3 = some u → va_P D classes (WM ca a t) H → va_S A s.heap H locs → lv_has ls 4 [(0, .ref (a 0)), (1, .ref (a 40)), (2, .int x2), (3, .int x3)] → W p l e rm_M_X11_moves__0_40 s m args below meth c H locs 0 0 Q (F0 m 2 ls [])) {t : fw_S} {x2 : Int32} {x3 : Int32} {H : Heap} {locs : List Loc} {ls : Array Slot} (hf : b_M_X11_moves__0_40_39 k2 t x2 x3 = some u) (hP : va_P D classes (WM ca a t) H) (hS : va_S A s.heap H locs) (hl : lv_has ls 4 [(0, .ref (a 0)), (1, .ref (a 40)), (2, .int x2), (3, .int x3)]) : W p l e rm_M_X11_moves__0_40 s m args below meth c H locs 0 0 Q (F0 m 39 ls []) := by
  obtain ⟨hx, hb, hml, hown, hts, hN, hK, hD, hA⟩ := id C
  have hf : (fb_l (up_I t 19 ((st_I t 19) + ((1 : Int32)))) fun t_1 => (k2 t_1 x2 (x3 + 1))) = some u := hf
  refine lv_aload_n hx hb dX11_moves_39 rfl (lv_at hl 0 rfl) ?_
  refine lv_dup hx hb dX11_moves_40 rfl ?_
  refine va_get (D := D) (ci := 11) (v := .int (st_I t 19)) (C := RX11) (T := TX11) (N := 76) hx hb hts inX11 hown hK hP 0 (heM_0 ca a t) rfl 68 (by decide) (hts _ kw_1260) (fun _ h9 => h9) rfl dX11_moves_41 ?_
  refine lv_iconst (v := 1) hx hb dX11_moves_44 (by decide) ?_
  refine lv_iadd hx hb dX11_moves_45 ?_
  refine va_put (D := D) (ci := 11) (v := .int ((st_I t 19) + ((1 : Int32)))) (ty := .int) (C := RX11) (T := TX11) (N := 76) hx hb hts inX11 tyX11 tyX11_ok nmX11 hown hK hP (hD t) hS 0 (heM_0 ca a t) rfl 68 (by decide) (hts _ kw_1260) (fun _ h9 => h9) rfl (by decide +kernel) rfl rfl (Nat.le_of_ble_eq_true rfl) dX11_moves_46 (fun H locs hP _ hS => ?_)
  rw [suM_0_68] at hP
  obtain ⟨t_1, e_46, hf⟩ := fb_ls hf
  rw [← e_46] at hP
  refine lv_iinc (v := x3 + 1) (lv' := [(3, .int (x3 + 1)), (0, .ref (a 0)), (1, .ref (a 40)), (2, .int x2)]) hx hb dX11_moves_49 hl (k := 3) rfl rfl (by decide) rfl (fun ls hl => ?_)
  refine lv_goto (tgt := 2) hx hb dX11_moves_52 (by decide) ?_
  exact hk2 t_1 x2 (x3 + 1) _ _ _ hf hP hS (lv_sub hl [1, 2, 3, 0] rfl)
set_option maxRecDepth 20000 in
theorem w_M_X11_moves__0_40_27 {p : Program} {l : Launch} {e : Env} {s : State} {m : MethodId} {args : Array Value} {below : List Frame} {meth : Method} {c : Code} {A : Nat → Prop} {Q : State → Prop} {D : va_G} {ca : Nat → ClassId} {a : Nat → Nat} {u : fw_S} {k2 : fw_S → Int32 → Int32 → Option fw_S} (C : CX (WM ca a) D (tyv ca) p s m args c A prog_13_method_88_code 4 RX11) (hr : True → RX (WM ca a) D p l e rm_M_X11_moves__0_40 s m args below meth c A prog_13_method_88_code Q .return_ [] u) (hk2 : ∀ (t : fw_S) (x2 : Int32) (x3 : Int32) (H : Heap) (locs : List Loc) (ls : Array Slot), k2 t x2 x3 = some u → va_P D classes (WM ca a t) H → va_S A s.heap H locs → lv_has ls 4 [(0, .ref (a 0)), (1, .ref (a 40)), (2, .int x2), (3, .int x3)] → W p l e rm_M_X11_moves__0_40 s m args below meth c H locs 0 0 Q (F0 m 2 ls [])) {t : fw_S} {x2 : Int32} {x3 : Int32} {H : Heap} {locs : List Loc} {ls : Array Slot} (hf : b_M_X11_moves__0_40_27 k2 t x2 x3 = some u) (hP : va_P D classes (WM ca a t) H) (hS : va_S A s.heap H locs) (hl : lv_has ls 4 [(0, .ref (a 0)), (1, .ref (a 40)), (2, .int x2), (3, .int x3)]) : W p l e rm_M_X11_moves__0_40 s m args below meth c H locs 0 0 Q (F0 m 27 ls []) := by
  obtain ⟨hx, hb, hml, hown, hts, hN, hK, hD, hA⟩ := id C
  have hf : (fb_g (¬ ((st_I t 19) < 0 ∨ 2000 ≤ (st_I t 19).toNatClampNeg)) (fb_g (¬ (x3 < 0 ∨ 60 ≤ x3.toNatClampNeg)) (fb_l (up_F t 35 (upd (st_F t 35) x3.toNatClampNeg (st_F t 39 (st_I t 19).toNatClampNeg))) fun t_1 => (b_M_X11_moves__0_40_39 k2 t_1 x2 x3)))) = some u := hf
  refine lv_aload_n hx hb dX11_moves_27 rfl (lv_at hl 1 rfl) ?_
  refine lv_iload_n hx hb dX11_moves_28 rfl (lv_at hl 3 rfl) ?_
  refine lv_aload_n hx hb dX11_moves_29 rfl (lv_at hl 0 rfl) ?_
  refine va_get (D := D) (ci := 11) (v := .ref (a 48)) (C := RX11) (T := TX11) (N := 76) hx hb hts inX11 hown hK hP 0 (heM_0 ca a t) rfl 66 (by decide) (hts _ kw_1258) (fun _ h9 => h9) rfl dX11_moves_30 ?_
  refine lv_aload_n hx hb dX11_moves_33 rfl (lv_at hl 0 rfl) ?_
  refine va_get (D := D) (ci := 11) (v := .int (st_I t 19)) (C := RX11) (T := TX11) (N := 76) hx hb hts inX11 hown hK hP 0 (heM_0 ca a t) rfl 68 (by decide) (hts _ kw_1260) (fun _ h9 => h9) rfl dX11_moves_34 ?_
  obtain ⟨h_37, hf⟩ := fb_if hf
  refine va_iald hx hb hK hP 48 0 (haM_48 ca a t) rfl h_37 dX11_moves_37 ?_
  obtain ⟨h_38, hf⟩ := fb_if hf
  refine va_iast hx hb hK hP (hD t) hS 40 0 (haM_40 ca a t) rfl h_38 dX11_moves_38 (fun H locs hP _ hS => ?_)
  rw [saM_40] at hP
  obtain ⟨t_1, e_38, hf⟩ := fb_ls hf
  rw [← e_38] at hP
  exact w_M_X11_moves__0_40_39 C hr hk2 hf hP hS (lv_sub hl [0, 1, 2, 3] rfl)
set_option maxRecDepth 20000 in
theorem w_M_X11_moves__0_40_12 {p : Program} {l : Launch} {e : Env} {s : State} {m : MethodId} {args : Array Value} {below : List Frame} {meth : Method} {c : Code} {A : Nat → Prop} {Q : State → Prop} {D : va_G} {ca : Nat → ClassId} {a : Nat → Nat} {u : fw_S} {k2 : fw_S → Int32 → Int32 → Option fw_S} (C : CX (WM ca a) D (tyv ca) p s m args c A prog_13_method_88_code 4 RX11) (hr : True → RX (WM ca a) D p l e rm_M_X11_moves__0_40 s m args below meth c A prog_13_method_88_code Q .return_ [] u) (hk2 : ∀ (t : fw_S) (x2 : Int32) (x3 : Int32) (H : Heap) (locs : List Loc) (ls : Array Slot), k2 t x2 x3 = some u → va_P D classes (WM ca a t) H → va_S A s.heap H locs → lv_has ls 4 [(0, .ref (a 0)), (1, .ref (a 40)), (2, .int x2), (3, .int x3)] → W p l e rm_M_X11_moves__0_40 s m args below meth c H locs 0 0 Q (F0 m 2 ls [])) {t : fw_S} {x2 : Int32} {x3 : Int32} {H : Heap} {locs : List Loc} {ls : Array Slot} (hf : b_M_X11_moves__0_40_12 k2 t x2 x3 = some u) (hP : va_P D classes (WM ca a t) H) (hS : va_S A s.heap H locs) (hl : lv_has ls 4 [(0, .ref (a 0)), (1, .ref (a 40)), (2, .int x2), (3, .int x3)]) : W p l e rm_M_X11_moves__0_40 s m args below meth c H locs 0 0 Q (F0 m 12 ls []) := by
  obtain ⟨hx, hb, hml, hown, hts, hN, hK, hD, hA⟩ := id C
  have hf : (fb_g (¬ (x3 < 0 ∨ 60 ≤ x3.toNatClampNeg)) (fb_g (¬ ((st_I t 19) < 0 ∨ 2000 ≤ (st_I t 19).toNatClampNeg)) (fb_l (up_F t 39 (upd (st_F t 39) (st_I t 19).toNatClampNeg (st_F t 35 x3.toNatClampNeg))) fun t_1 => (b_M_X11_moves__0_40_39 k2 t_1 x2 x3)))) = some u := hf
  refine lv_aload_n hx hb dX11_moves_12 rfl (lv_at hl 0 rfl) ?_
  refine va_get (D := D) (ci := 11) (v := .ref (a 48)) (C := RX11) (T := TX11) (N := 76) hx hb hts inX11 hown hK hP 0 (heM_0 ca a t) rfl 66 (by decide) (hts _ kw_1258) (fun _ h9 => h9) rfl dX11_moves_13 ?_
  refine lv_aload_n hx hb dX11_moves_16 rfl (lv_at hl 0 rfl) ?_
  refine va_get (D := D) (ci := 11) (v := .int (st_I t 19)) (C := RX11) (T := TX11) (N := 76) hx hb hts inX11 hown hK hP 0 (heM_0 ca a t) rfl 68 (by decide) (hts _ kw_1260) (fun _ h9 => h9) rfl dX11_moves_17 ?_
  refine lv_aload_n hx hb dX11_moves_20 rfl (lv_at hl 1 rfl) ?_
  refine lv_iload_n hx hb dX11_moves_21 rfl (lv_at hl 3 rfl) ?_
  obtain ⟨h_22, hf⟩ := fb_if hf
  refine va_iald hx hb hK hP 40 0 (haM_40 ca a t) rfl h_22 dX11_moves_22 ?_
  obtain ⟨h_23, hf⟩ := fb_if hf
  refine va_iast hx hb hK hP (hD t) hS 48 0 (haM_48 ca a t) rfl h_23 dX11_moves_23 (fun H locs hP _ hS => ?_)
  rw [saM_48] at hP
  obtain ⟨t_1, e_23, hf⟩ := fb_ls hf
  rw [← e_23] at hP
  refine lv_goto (tgt := 39) hx hb dX11_moves_24 (by decide) ?_
  exact w_M_X11_moves__0_40_39 C hr hk2 hf hP hS (lv_sub hl [0, 1, 2, 3] rfl)
set_option maxRecDepth 20000 in
theorem w_M_X11_moves__0_40_8 {p : Program} {l : Launch} {e : Env} {s : State} {m : MethodId} {args : Array Value} {below : List Frame} {meth : Method} {c : Code} {A : Nat → Prop} {Q : State → Prop} {D : va_G} {ca : Nat → ClassId} {a : Nat → Nat} {u : fw_S} {k2 : fw_S → Int32 → Int32 → Option fw_S} (C : CX (WM ca a) D (tyv ca) p s m args c A prog_13_method_88_code 4 RX11) (hr : True → RX (WM ca a) D p l e rm_M_X11_moves__0_40 s m args below meth c A prog_13_method_88_code Q .return_ [] u) (hk2 : ∀ (t : fw_S) (x2 : Int32) (x3 : Int32) (H : Heap) (locs : List Loc) (ls : Array Slot), k2 t x2 x3 = some u → va_P D classes (WM ca a t) H → va_S A s.heap H locs → lv_has ls 4 [(0, .ref (a 0)), (1, .ref (a 40)), (2, .int x2), (3, .int x3)] → W p l e rm_M_X11_moves__0_40 s m args below meth c H locs 0 0 Q (F0 m 2 ls [])) {t : fw_S} {x2 : Int32} {x3 : Int32} {H : Heap} {locs : List Loc} {ls : Array Slot} (hf : b_M_X11_moves__0_40_8 k2 t x2 x3 = some u) (hP : va_P D classes (WM ca a t) H) (hS : va_S A s.heap H locs) (hl : lv_has ls 4 [(0, .ref (a 0)), (1, .ref (a 40)), (2, .int x2), (3, .int x3)]) : W p l e rm_M_X11_moves__0_40 s m args below meth c H locs 0 0 Q (F0 m 8 ls []) := by
  obtain ⟨hx, hb, hml, hown, hts, hN, hK, hD, hA⟩ := id C
  have hf : (if x2 = 0 then b_M_X11_moves__0_40_27 k2 t x2 x3 else b_M_X11_moves__0_40_12 k2 t x2 x3) = some u := hf
  refine lv_iload_n hx hb dX11_moves_8 rfl (lv_at hl 2 rfl) ?_
  refine lv_if_eq (tgt := 27) hx hb dX11_moves_9 (by decide) (fun h_9 => ?_) (fun h_9 => ?_)
  · have hf := fb_t h_9 hf
    exact w_M_X11_moves__0_40_27 C hr hk2 hf hP hS (lv_sub hl [0, 1, 2, 3] rfl)
  · have hf := fb_f h_9 hf
    exact w_M_X11_moves__0_40_12 C hr hk2 hf hP hS (lv_sub hl [0, 1, 2, 3] rfl)
set_option maxRecDepth 20000 in
theorem w_M_X11_moves__0_40_2 {p : Program} {l : Launch} {e : Env} {s : State} {m : MethodId} {args : Array Value} {below : List Frame} {meth : Method} {c : Code} {A : Nat → Prop} {Q : State → Prop} {D : va_G} {ca : Nat → ClassId} {a : Nat → Nat} {u : fw_S}  (C : CX (WM ca a) D (tyv ca) p s m args c A prog_13_method_88_code 4 RX11) (hr : True → RX (WM ca a) D p l e rm_M_X11_moves__0_40 s m args below meth c A prog_13_method_88_code Q .return_ [] u) : ∀ (n : Nat) (t : fw_S) (x2 : Int32) (x3 : Int32) (H : Heap) (locs : List Loc) (ls : Array Slot), b_M_X11_moves__0_40_2  n t x2 x3 = some u → va_P D classes (WM ca a t) H → va_S A s.heap H locs → lv_has ls 4 [(0, .ref (a 0)), (1, .ref (a 40)), (2, .int x2), (3, .int x3)] → W p l e rm_M_X11_moves__0_40 s m args below meth c H locs 0 0 Q (F0 m 2 ls []) := by
  obtain ⟨hx, hb, hml, hown, hts, hN, hK, hD, hA⟩ := id C
  intro n
  induction n with
  | zero => intro t x2 x3 H locs ls hf; cases hf
  | succ n hk2 =>
    intro t x2 x3 H locs ls hf hP hS hl
    have hf : (if ((60 : Int32)) ≤ x3 then b_M_X11_moves__0_40_55 t else b_M_X11_moves__0_40_8 (b_M_X11_moves__0_40_2 n) t x2 x3) = some u := hf
    refine lv_iload_n hx hb dX11_moves_2 rfl (lv_at hl 3 rfl) ?_
    refine lv_aload_n hx hb dX11_moves_3 rfl (lv_at hl 1 rfl) ?_
    refine va_alen (v := 60) hx hb hK hP 40 0 (haM_40 ca a t) rfl rfl dX11_moves_4 ?_
    refine lv_icmp_ge (tgt := 55) hx hb dX11_moves_5 (by decide) (fun h_5 => ?_) (fun h_5 => ?_)
    · have hf := fb_t h_5 hf
      exact w_M_X11_moves__0_40_55 C hr hf hP hS (lv_sub hl [] rfl)
    · have hf := fb_f h_5 hf
      exact w_M_X11_moves__0_40_8 C hr hk2 hf hP hS (lv_sub hl [0, 1, 2, 3] rfl)
set_option maxRecDepth 20000 in
theorem w_M_X11_moves__0_40_0 {p : Program} {l : Launch} {e : Env} {s : State} {m : MethodId} {args : Array Value} {below : List Frame} {meth : Method} {c : Code} {A : Nat → Prop} {Q : State → Prop} {D : va_G} {ca : Nat → ClassId} {a : Nat → Nat} {u : fw_S}  (C : CX (WM ca a) D (tyv ca) p s m args c A prog_13_method_88_code 4 RX11) (hr : True → RX (WM ca a) D p l e rm_M_X11_moves__0_40 s m args below meth c A prog_13_method_88_code Q .return_ [] u) {t : fw_S} {x2 : Int32} {H : Heap} {locs : List Loc} {ls : Array Slot} (hf : b_M_X11_moves__0_40_0  t x2 = some u) (hP : va_P D classes (WM ca a t) H) (hS : va_S A s.heap H locs) (hl : lv_has ls 4 [(0, .ref (a 0)), (1, .ref (a 40)), (2, .int x2)]) : W p l e rm_M_X11_moves__0_40 s m args below meth c H locs 0 0 Q (F0 m 0 ls []) := by
  obtain ⟨hx, hb, hml, hown, hts, hN, hK, hD, hA⟩ := id C
  have hf : (b_M_X11_moves__0_40_2 3000 t x2 ((0 : Int32))) = some u := hf
  refine lv_iconst (v := 0) hx hb dX11_moves_0 (by decide) ?_
  refine lv_istore_n (lv' := [(3, .int ((0 : Int32))), (0, .ref (a 0)), (1, .ref (a 40)), (2, .int x2)]) hx hb dX11_moves_1 rfl hl (by decide) rfl (fun ls hl => ?_)
  exact w_M_X11_moves__0_40_2 C hr 3000 t x2 ((0 : Int32)) _ _ _ hf hP hS (lv_sub hl [1, 2, 3, 0] rfl)
set_option maxRecDepth 20000 in
theorem c_M_X11_moves__0_40 {l : Launch} {D : va_G} {ca : Nat → ClassId} {a : Nat → Nat} {t : fw_S} {x2 : Int32} {u : fw_S} (hf : f_M_X11_moves__0_40 t x2 = some u) : MC (WM ca a) D (tyv ca) l yX11_moves (.code yX11_moves prog_13_method_88_code 4 none :: lw_gd) rm_M_X11_moves__0_40 [.ref (a 0), .ref (a 40), .int x2] none t u := by
  refine fw_met (okM ca a) (by decide +kernel) rfl rfl (Nat.le_of_ble_eq_true rfl) ?_
  intro p e s m args below meth c A Q ls C hr hk hP hS hl hQ
  exact w_M_X11_moves__0_40_0 C (fun _ => fw_rv C hr hk hQ) hf hP hS (lv_sub hl [0, 1, 2] rfl)
