theorem dX5_init_0 : decode prog_7_method_1_code 0 = .ok (.aload_n 0, 1) := by decide +kernel
theorem dX5_init_1 : decode prog_7_method_1_code 1 = .ok (.invokespecial 1, 3) := by decide +kernel
theorem dX5_init_4 : decode prog_7_method_1_code 4 = .ok (.aload_n 0, 1) := by decide +kernel
theorem dX5_init_5 : decode prog_7_method_1_code 5 = .ok (.bipush 120, 2) := by decide +kernel
theorem dX5_init_7 : decode prog_7_method_1_code 7 = .ok (.newarray .int, 2) := by decide +kernel
theorem dX5_init_9 : decode prog_7_method_1_code 9 = .ok (.putfield 9, 3) := by decide +kernel
theorem dX5_init_12 : decode prog_7_method_1_code 12 = .ok (.aload_n 0, 1) := by decide +kernel
theorem dX5_init_13 : decode prog_7_method_1_code 13 = .ok (.sipush 160, 3) := by decide +kernel
theorem dX5_init_16 : decode prog_7_method_1_code 16 = .ok (.newarray .int, 2) := by decide +kernel
theorem dX5_init_18 : decode prog_7_method_1_code 18 = .ok (.putfield 15, 3) := by decide +kernel
theorem dX5_init_21 : decode prog_7_method_1_code 21 = .ok (.aload_n 0, 1) := by decide +kernel
theorem dX5_init_22 : decode prog_7_method_1_code 22 = .ok (.sipush 160, 3) := by decide +kernel
theorem dX5_init_25 : decode prog_7_method_1_code 25 = .ok (.newarray .int, 2) := by decide +kernel
theorem dX5_init_27 : decode prog_7_method_1_code 27 = .ok (.putfield 18, 3) := by decide +kernel
theorem dX5_init_30 : decode prog_7_method_1_code 30 = .ok (.aload_n 0, 1) := by decide +kernel
theorem dX5_init_31 : decode prog_7_method_1_code 31 = .ok (.sipush 160, 3) := by decide +kernel
theorem dX5_init_34 : decode prog_7_method_1_code 34 = .ok (.newarray .int, 2) := by decide +kernel
theorem dX5_init_36 : decode prog_7_method_1_code 36 = .ok (.putfield 21, 3) := by decide +kernel
theorem dX5_init_39 : decode prog_7_method_1_code 39 = .ok (.aload_n 0, 1) := by decide +kernel
theorem dX5_init_40 : decode prog_7_method_1_code 40 = .ok (.sipush 160, 3) := by decide +kernel
theorem dX5_init_43 : decode prog_7_method_1_code 43 = .ok (.newarray .int, 2) := by decide +kernel
theorem dX5_init_45 : decode prog_7_method_1_code 45 = .ok (.putfield 24, 3) := by decide +kernel
theorem dX5_init_48 : decode prog_7_method_1_code 48 = .ok (.aload_n 0, 1) := by decide +kernel
theorem dX5_init_49 : decode prog_7_method_1_code 49 = .ok (.sipush 160, 3) := by decide +kernel
theorem dX5_init_52 : decode prog_7_method_1_code 52 = .ok (.newarray .int, 2) := by decide +kernel
theorem dX5_init_54 : decode prog_7_method_1_code 54 = .ok (.putfield 27, 3) := by decide +kernel
theorem dX5_init_57 : decode prog_7_method_1_code 57 = .ok (.aload_n 0, 1) := by decide +kernel
theorem dX5_init_58 : decode prog_7_method_1_code 58 = .ok (.iconst 0, 1) := by decide +kernel
theorem dX5_init_59 : decode prog_7_method_1_code 59 = .ok (.putfield 30, 3) := by decide +kernel
theorem dX5_init_62 : decode prog_7_method_1_code 62 = .ok (.aload_n 0, 1) := by decide +kernel
theorem dX5_init_63 : decode prog_7_method_1_code 63 = .ok (.iconst 0, 1) := by decide +kernel
theorem dX5_init_64 : decode prog_7_method_1_code 64 = .ok (.putfield 34, 3) := by decide +kernel
theorem dX5_init_67 : decode prog_7_method_1_code 67 = .ok (.aload_n 0, 1) := by decide +kernel
theorem dX5_init_68 : decode prog_7_method_1_code 68 = .ok (.iconst (-1), 1) := by decide +kernel
theorem dX5_init_69 : decode prog_7_method_1_code 69 = .ok (.putfield 37, 3) := by decide +kernel
theorem dX5_init_72 : decode prog_7_method_1_code 72 = .ok (.aload_n 0, 1) := by decide +kernel
theorem dX5_init_73 : decode prog_7_method_1_code 73 = .ok (.iconst 0, 1) := by decide +kernel
theorem dX5_init_74 : decode prog_7_method_1_code 74 = .ok (.putfield 40, 3) := by decide +kernel
theorem dX5_init_77 : decode prog_7_method_1_code 77 = .ok (.return_, 1) := by decide +kernel
def foK5_0 (a : Nat → Nat) (t : fw_S) : List Value := [.ref (a 1), .ref (a 2), .ref (a 3), .ref (a 4), .ref (a 5), .ref (a 6), .int (st_I t 0), .int (st_I t 1), .int (st_I t 2), .int (st_I t 3)]
def WK5 (ca : Nat → ClassId) (a : Nat → Nat) (t : fw_S) : va_W := [(a 0, .inr (5, foK5_0 a t)), (a 1, .inl (ca 0, 120, .inl (st_F t 0))), (a 2, .inl (ca 0, 160, .inl (st_F t 1))), (a 3, .inl (ca 0, 160, .inl (st_F t 2))), (a 4, .inl (ca 0, 160, .inl (st_F t 3))), (a 5, .inl (ca 0, 160, .inl (st_F t 4))), (a 6, .inl (ca 0, 160, .inl (st_F t 5)))]
theorem okK5 (ca : Nat → ClassId) (a : Nat → Nat) : fw_ok (WK5 ca a) := fun t u => rfl
theorem heK5_0 (ca : Nat → ClassId) (a : Nat → Nat) (t : fw_S) : (WK5 ca a t)[0]? = some (a 0, .inr (5, foK5_0 a t)) := rfl
theorem suK5_0_6 {ca : Nat → ClassId} {a : Nat → Nat} {t : fw_S} {v : Int32} : (WK5 ca a t).set 0 (a 0, .inr (5, (foK5_0 a t).set 6 (.int v))) = WK5 ca a (up_I t 0 v) := rfl
theorem suK5_0_7 {ca : Nat → ClassId} {a : Nat → Nat} {t : fw_S} {v : Int32} : (WK5 ca a t).set 0 (a 0, .inr (5, (foK5_0 a t).set 7 (.int v))) = WK5 ca a (up_I t 1 v) := rfl
theorem suK5_0_8 {ca : Nat → ClassId} {a : Nat → Nat} {t : fw_S} {v : Int32} : (WK5 ca a t).set 0 (a 0, .inr (5, (foK5_0 a t).set 8 (.int v))) = WK5 ca a (up_I t 2 v) := rfl
theorem suK5_0_9 {ca : Nat → ClassId} {a : Nat → Nat} {t : fw_S} {v : Int32} : (WK5 ca a t).set 0 (a 0, .inr (5, (foK5_0 a t).set 9 (.int v))) = WK5 ca a (up_I t 3 v) := rfl
theorem haK5_1 (ca : Nat → ClassId) (a : Nat → Nat) (t : fw_S) : (WK5 ca a t)[1]? = some (a 1, .inl (ca 0, 120, .inl (st_F t 0))) := rfl
theorem saK5_1 {ca : Nat → ClassId} {a : Nat → Nat} {t : fw_S} {f : Nat → Int32} : (WK5 ca a t).set 1 (a 1, .inl (ca 0, 120, .inl (f))) = WK5 ca a (up_F t 0 f) := rfl
theorem haK5_2 (ca : Nat → ClassId) (a : Nat → Nat) (t : fw_S) : (WK5 ca a t)[2]? = some (a 2, .inl (ca 0, 160, .inl (st_F t 1))) := rfl
theorem saK5_2 {ca : Nat → ClassId} {a : Nat → Nat} {t : fw_S} {f : Nat → Int32} : (WK5 ca a t).set 2 (a 2, .inl (ca 0, 160, .inl (f))) = WK5 ca a (up_F t 1 f) := rfl
theorem haK5_3 (ca : Nat → ClassId) (a : Nat → Nat) (t : fw_S) : (WK5 ca a t)[3]? = some (a 3, .inl (ca 0, 160, .inl (st_F t 2))) := rfl
theorem saK5_3 {ca : Nat → ClassId} {a : Nat → Nat} {t : fw_S} {f : Nat → Int32} : (WK5 ca a t).set 3 (a 3, .inl (ca 0, 160, .inl (f))) = WK5 ca a (up_F t 2 f) := rfl
theorem haK5_4 (ca : Nat → ClassId) (a : Nat → Nat) (t : fw_S) : (WK5 ca a t)[4]? = some (a 4, .inl (ca 0, 160, .inl (st_F t 3))) := rfl
theorem saK5_4 {ca : Nat → ClassId} {a : Nat → Nat} {t : fw_S} {f : Nat → Int32} : (WK5 ca a t).set 4 (a 4, .inl (ca 0, 160, .inl (f))) = WK5 ca a (up_F t 3 f) := rfl
theorem haK5_5 (ca : Nat → ClassId) (a : Nat → Nat) (t : fw_S) : (WK5 ca a t)[5]? = some (a 5, .inl (ca 0, 160, .inl (st_F t 4))) := rfl
theorem saK5_5 {ca : Nat → ClassId} {a : Nat → Nat} {t : fw_S} {f : Nat → Int32} : (WK5 ca a t).set 5 (a 5, .inl (ca 0, 160, .inl (f))) = WK5 ca a (up_F t 4 f) := rfl
theorem haK5_6 (ca : Nat → ClassId) (a : Nat → Nat) (t : fw_S) : (WK5 ca a t)[6]? = some (a 6, .inl (ca 0, 160, .inl (st_F t 5))) := rfl
theorem saK5_6 {ca : Nat → ClassId} {a : Nat → Nat} {t : fw_S} {f : Nat → Int32} : (WK5 ca a t).set 6 (a 6, .inl (ca 0, 160, .inl (f))) = WK5 ca a (up_F t 5 f) := rfl
def t0_5  : fw_S := (fun n => ([0, 0, -1, 0] : List Int32).getD n 0, fun n => ([] : List Int64).getD n 0, fun n => ([(fun _ => 0), (fun _ => 0), (fun _ => 0), (fun _ => 0), (fun _ => 0), (fun _ => 0)] : List (Nat → Int32)).getD n (fun _ => 0), fun n => ([] : List (Nat → Int64)).getD n (fun _ => 0))
abbrev rm_K5 : Room := { frames := 1, cells := 6, slots := 920, locals := 20 }
def Pr_5 (t : fw_S) : Prop := t = t0_5
set_option maxHeartbeats 4000000 in
set_option maxRecDepth 100000 in
theorem k_5 {l : Launch} {D : va_G} {ca : Nat → ClassId} : KC D ca l yX5_init (.code yX5_init prog_7_method_1_code 1 none :: lw_gd) rm_K5 5 [.null, .null, .null, .null, .null, .null, .int 0, .int 0, .int 0, .int 0] 6 920 (WK5 ca) Pr_5 := by
  intro h0 sz
  refine fw_ofW (cc := prog_7_method_1_code) (maxL := 1) (ret := none) (by decide +kernel) rfl ?_
  intro p e s m args below meth c s₁ B hml hv
  obtain ⟨rfl, hsz, hP, hK, hO, hD0⟩ := hv
  have hx := B.exec
  have hb := B.bytes
  have hr := B.returns
  have hts0 := atoms_spec (ws := .code yX5_init prog_7_method_1_code 1 none :: lw_gd) B.pre
  have hts : ∀ q ∈ lw_gd, q.before _ s = true := fun q hq => hts0 q (List.mem_cons_of_mem _ hq)
  have hown : s.vm.findClass RX5 = some m.cls := findClass_of_methodNamed B.named
  have hlocks := B.notSynchronized
  have hin : meth.name = "<init>" := (name_of_methodNamed B.named B.method).1
  subst hsz
  have hD := hD0.self (sz := s.heap.size)
  generalize hAe : va_A [(h0, .inr (5, [.null, .null, .null, .null, .null, .null, .int 0, .int 0, .int 0, .int 0]))] s.heap.size = A at hD ⊢
  have hA : ∀ q : Nat, s.heap.size ≤ q → A q := fun q h => by rw [← hAe]; exact Or.inr h
  have hS : va_S A s.heap s.heap [] := va_S.rf
  have hP : va_P D classes [(h0, .inr (5, [.null, .null, .null, .null, .null, .null, .int 0, .int 0, .int 0, .int 0]))] s.heap := hP
  have hl := lv_entry ([.ref h0]) (n := 1) (Nat.le_of_ble_eq_true rfl)
  rw [lg_entry_eq]
  generalize (lg_sl ([.ref h0]) ++ List.replicate (1 - (lg_sl ([.ref h0])).length) Slot.unset).toArray = ls at hl ⊢
  have hl : lv_has ls 1 [(0, .ref h0)] := hl
  show W p l e rm_K5 s m #[Value.ref h0] below meth c s.heap [] 0 0 _ _
  refine lv_aload_n hx hb dX5_init_0 rfl (lv_at hl 0 rfl) ?_
  refine W.objInit hx hb hown (hts _ kw_121) (hts _ kw_114) (hts _ kw_115) rfl (by rw [hml]; exact hl.1) rfl dX5_init_1 (Nat.le_of_ble_eq_true rfl) (Nat.le_of_ble_eq_true rfl) ?_
  refine W.eq (g2 := F0 m 4 ls []) rfl ?_
  refine lv_aload_n hx hb dX5_init_4 rfl (lv_at hl 0 rfl) ?_
  refine lv_bipush (v := 120) hx hb dX5_init_5 (by decide) ?_
  refine fw_newa (atype := .int) (ty := .int) (a0 := (120, .inl (fun _ => 0))) (N' := 120) hx hb (hts _ kw_153) rfl hK hP hD hS hA (fun _ => rfl) (by decide) rfl (Nat.le_of_ble_eq_true rfl) (Nat.le_of_ble_eq_true rfl) (Nat.le_of_ble_eq_true rfl) dX5_init_7 0 rfl (fun _ h => h) (fun q1 H hP hD hS => ?_)
  have hP : va_P D classes [(h0, .inr (5, [.null, .null, .null, .null, .null, .null, .int 0, .int 0, .int 0, .int 0])), (q1, .inl (ca 0, 120, .inl (fun _ => 0)))] H := hP
  have hD : va_D A [(h0, .inr (5, [.null, .null, .null, .null, .null, .null, .int 0, .int 0, .int 0, .int 0])), (q1, .inl (ca 0, 120, .inl (fun _ => 0)))] := hD
  refine W.widen (k := 1) (n := 120) (Nat.le_of_ble_eq_true rfl) (Nat.le_of_ble_eq_true rfl) ?_
  refine va_putF (D := D) (ci := 5) (v := .ref q1) (ty := .array .int) (C := RX5) (T := TX5) (N := 10) hx hb hts inX5 tyX5 tyX5_ok nmX5 hown hK hP hD hS 0 rfl rfl 0 (by decide) (hts _ kw_122) (fun _ h9 => h9) rfl hin rfl (by decide +kernel) rfl rfl (Nat.le_of_ble_eq_true rfl) dX5_init_9 (fun H locs hP hD hS => ?_)
  have hP : va_P D classes [(h0, .inr (5, [.ref q1, .null, .null, .null, .null, .null, .int 0, .int 0, .int 0, .int 0])), (q1, .inl (ca 0, 120, .inl (fun _ => 0)))] H := hP
  have hD : va_D A [(h0, .inr (5, [.ref q1, .null, .null, .null, .null, .null, .int 0, .int 0, .int 0, .int 0])), (q1, .inl (ca 0, 120, .inl (fun _ => 0)))] := hD
  refine lv_aload_n hx hb dX5_init_12 rfl (lv_at hl 0 rfl) ?_
  refine lv_sipush (v := 160) hx hb dX5_init_13 (by decide) ?_
  refine fw_newa (atype := .int) (ty := .int) (a0 := (160, .inl (fun _ => 0))) (N' := 160) hx hb (hts _ kw_153) rfl hK hP hD hS hA (fun _ => rfl) (by decide) rfl (Nat.le_of_ble_eq_true rfl) (Nat.le_of_ble_eq_true rfl) (Nat.le_of_ble_eq_true rfl) dX5_init_16 0 rfl (fun _ h => h) (fun q2 H hP hD hS => ?_)
  have hP : va_P D classes [(h0, .inr (5, [.ref q1, .null, .null, .null, .null, .null, .int 0, .int 0, .int 0, .int 0])), (q1, .inl (ca 0, 120, .inl (fun _ => 0))), (q2, .inl (ca 0, 160, .inl (fun _ => 0)))] H := hP
  have hD : va_D A [(h0, .inr (5, [.ref q1, .null, .null, .null, .null, .null, .int 0, .int 0, .int 0, .int 0])), (q1, .inl (ca 0, 120, .inl (fun _ => 0))), (q2, .inl (ca 0, 160, .inl (fun _ => 0)))] := hD
  refine W.widen (k := 2) (n := 280) (Nat.le_of_ble_eq_true rfl) (Nat.le_of_ble_eq_true rfl) ?_
  refine va_putF (D := D) (ci := 5) (v := .ref q2) (ty := .array .int) (C := RX5) (T := TX5) (N := 10) hx hb hts inX5 tyX5 tyX5_ok nmX5 hown hK hP hD hS 0 rfl rfl 1 (by decide) (hts _ kw_123) (fun _ h9 => h9) rfl hin rfl (by decide +kernel) rfl rfl (Nat.le_of_ble_eq_true rfl) dX5_init_18 (fun H locs hP hD hS => ?_)
  have hP : va_P D classes [(h0, .inr (5, [.ref q1, .ref q2, .null, .null, .null, .null, .int 0, .int 0, .int 0, .int 0])), (q1, .inl (ca 0, 120, .inl (fun _ => 0))), (q2, .inl (ca 0, 160, .inl (fun _ => 0)))] H := hP
  have hD : va_D A [(h0, .inr (5, [.ref q1, .ref q2, .null, .null, .null, .null, .int 0, .int 0, .int 0, .int 0])), (q1, .inl (ca 0, 120, .inl (fun _ => 0))), (q2, .inl (ca 0, 160, .inl (fun _ => 0)))] := hD
  refine lv_aload_n hx hb dX5_init_21 rfl (lv_at hl 0 rfl) ?_
  refine lv_sipush (v := 160) hx hb dX5_init_22 (by decide) ?_
  refine fw_newa (atype := .int) (ty := .int) (a0 := (160, .inl (fun _ => 0))) (N' := 160) hx hb (hts _ kw_153) rfl hK hP hD hS hA (fun _ => rfl) (by decide) rfl (Nat.le_of_ble_eq_true rfl) (Nat.le_of_ble_eq_true rfl) (Nat.le_of_ble_eq_true rfl) dX5_init_25 0 rfl (fun _ h => h) (fun q3 H hP hD hS => ?_)
  have hP : va_P D classes [(h0, .inr (5, [.ref q1, .ref q2, .null, .null, .null, .null, .int 0, .int 0, .int 0, .int 0])), (q1, .inl (ca 0, 120, .inl (fun _ => 0))), (q2, .inl (ca 0, 160, .inl (fun _ => 0))), (q3, .inl (ca 0, 160, .inl (fun _ => 0)))] H := hP
  have hD : va_D A [(h0, .inr (5, [.ref q1, .ref q2, .null, .null, .null, .null, .int 0, .int 0, .int 0, .int 0])), (q1, .inl (ca 0, 120, .inl (fun _ => 0))), (q2, .inl (ca 0, 160, .inl (fun _ => 0))), (q3, .inl (ca 0, 160, .inl (fun _ => 0)))] := hD
  refine W.widen (k := 3) (n := 440) (Nat.le_of_ble_eq_true rfl) (Nat.le_of_ble_eq_true rfl) ?_
  refine va_putF (D := D) (ci := 5) (v := .ref q3) (ty := .array .int) (C := RX5) (T := TX5) (N := 10) hx hb hts inX5 tyX5 tyX5_ok nmX5 hown hK hP hD hS 0 rfl rfl 2 (by decide) (hts _ kw_124) (fun _ h9 => h9) rfl hin rfl (by decide +kernel) rfl rfl (Nat.le_of_ble_eq_true rfl) dX5_init_27 (fun H locs hP hD hS => ?_)
  have hP : va_P D classes [(h0, .inr (5, [.ref q1, .ref q2, .ref q3, .null, .null, .null, .int 0, .int 0, .int 0, .int 0])), (q1, .inl (ca 0, 120, .inl (fun _ => 0))), (q2, .inl (ca 0, 160, .inl (fun _ => 0))), (q3, .inl (ca 0, 160, .inl (fun _ => 0)))] H := hP
  have hD : va_D A [(h0, .inr (5, [.ref q1, .ref q2, .ref q3, .null, .null, .null, .int 0, .int 0, .int 0, .int 0])), (q1, .inl (ca 0, 120, .inl (fun _ => 0))), (q2, .inl (ca 0, 160, .inl (fun _ => 0))), (q3, .inl (ca 0, 160, .inl (fun _ => 0)))] := hD
  refine lv_aload_n hx hb dX5_init_30 rfl (lv_at hl 0 rfl) ?_
  refine lv_sipush (v := 160) hx hb dX5_init_31 (by decide) ?_
  refine fw_newa (atype := .int) (ty := .int) (a0 := (160, .inl (fun _ => 0))) (N' := 160) hx hb (hts _ kw_153) rfl hK hP hD hS hA (fun _ => rfl) (by decide) rfl (Nat.le_of_ble_eq_true rfl) (Nat.le_of_ble_eq_true rfl) (Nat.le_of_ble_eq_true rfl) dX5_init_34 0 rfl (fun _ h => h) (fun q4 H hP hD hS => ?_)
  have hP : va_P D classes [(h0, .inr (5, [.ref q1, .ref q2, .ref q3, .null, .null, .null, .int 0, .int 0, .int 0, .int 0])), (q1, .inl (ca 0, 120, .inl (fun _ => 0))), (q2, .inl (ca 0, 160, .inl (fun _ => 0))), (q3, .inl (ca 0, 160, .inl (fun _ => 0))), (q4, .inl (ca 0, 160, .inl (fun _ => 0)))] H := hP
  have hD : va_D A [(h0, .inr (5, [.ref q1, .ref q2, .ref q3, .null, .null, .null, .int 0, .int 0, .int 0, .int 0])), (q1, .inl (ca 0, 120, .inl (fun _ => 0))), (q2, .inl (ca 0, 160, .inl (fun _ => 0))), (q3, .inl (ca 0, 160, .inl (fun _ => 0))), (q4, .inl (ca 0, 160, .inl (fun _ => 0)))] := hD
  refine W.widen (k := 4) (n := 600) (Nat.le_of_ble_eq_true rfl) (Nat.le_of_ble_eq_true rfl) ?_
  refine va_putF (D := D) (ci := 5) (v := .ref q4) (ty := .array .int) (C := RX5) (T := TX5) (N := 10) hx hb hts inX5 tyX5 tyX5_ok nmX5 hown hK hP hD hS 0 rfl rfl 3 (by decide) (hts _ kw_125) (fun _ h9 => h9) rfl hin rfl (by decide +kernel) rfl rfl (Nat.le_of_ble_eq_true rfl) dX5_init_36 (fun H locs hP hD hS => ?_)
  have hP : va_P D classes [(h0, .inr (5, [.ref q1, .ref q2, .ref q3, .ref q4, .null, .null, .int 0, .int 0, .int 0, .int 0])), (q1, .inl (ca 0, 120, .inl (fun _ => 0))), (q2, .inl (ca 0, 160, .inl (fun _ => 0))), (q3, .inl (ca 0, 160, .inl (fun _ => 0))), (q4, .inl (ca 0, 160, .inl (fun _ => 0)))] H := hP
  have hD : va_D A [(h0, .inr (5, [.ref q1, .ref q2, .ref q3, .ref q4, .null, .null, .int 0, .int 0, .int 0, .int 0])), (q1, .inl (ca 0, 120, .inl (fun _ => 0))), (q2, .inl (ca 0, 160, .inl (fun _ => 0))), (q3, .inl (ca 0, 160, .inl (fun _ => 0))), (q4, .inl (ca 0, 160, .inl (fun _ => 0)))] := hD
  refine lv_aload_n hx hb dX5_init_39 rfl (lv_at hl 0 rfl) ?_
  refine lv_sipush (v := 160) hx hb dX5_init_40 (by decide) ?_
  refine fw_newa (atype := .int) (ty := .int) (a0 := (160, .inl (fun _ => 0))) (N' := 160) hx hb (hts _ kw_153) rfl hK hP hD hS hA (fun _ => rfl) (by decide) rfl (Nat.le_of_ble_eq_true rfl) (Nat.le_of_ble_eq_true rfl) (Nat.le_of_ble_eq_true rfl) dX5_init_43 0 rfl (fun _ h => h) (fun q5 H hP hD hS => ?_)
  have hP : va_P D classes [(h0, .inr (5, [.ref q1, .ref q2, .ref q3, .ref q4, .null, .null, .int 0, .int 0, .int 0, .int 0])), (q1, .inl (ca 0, 120, .inl (fun _ => 0))), (q2, .inl (ca 0, 160, .inl (fun _ => 0))), (q3, .inl (ca 0, 160, .inl (fun _ => 0))), (q4, .inl (ca 0, 160, .inl (fun _ => 0))), (q5, .inl (ca 0, 160, .inl (fun _ => 0)))] H := hP
  have hD : va_D A [(h0, .inr (5, [.ref q1, .ref q2, .ref q3, .ref q4, .null, .null, .int 0, .int 0, .int 0, .int 0])), (q1, .inl (ca 0, 120, .inl (fun _ => 0))), (q2, .inl (ca 0, 160, .inl (fun _ => 0))), (q3, .inl (ca 0, 160, .inl (fun _ => 0))), (q4, .inl (ca 0, 160, .inl (fun _ => 0))), (q5, .inl (ca 0, 160, .inl (fun _ => 0)))] := hD
  refine W.widen (k := 5) (n := 760) (Nat.le_of_ble_eq_true rfl) (Nat.le_of_ble_eq_true rfl) ?_
  refine va_putF (D := D) (ci := 5) (v := .ref q5) (ty := .array .int) (C := RX5) (T := TX5) (N := 10) hx hb hts inX5 tyX5 tyX5_ok nmX5 hown hK hP hD hS 0 rfl rfl 4 (by decide) (hts _ kw_126) (fun _ h9 => h9) rfl hin rfl (by decide +kernel) rfl rfl (Nat.le_of_ble_eq_true rfl) dX5_init_45 (fun H locs hP hD hS => ?_)
  have hP : va_P D classes [(h0, .inr (5, [.ref q1, .ref q2, .ref q3, .ref q4, .ref q5, .null, .int 0, .int 0, .int 0, .int 0])), (q1, .inl (ca 0, 120, .inl (fun _ => 0))), (q2, .inl (ca 0, 160, .inl (fun _ => 0))), (q3, .inl (ca 0, 160, .inl (fun _ => 0))), (q4, .inl (ca 0, 160, .inl (fun _ => 0))), (q5, .inl (ca 0, 160, .inl (fun _ => 0)))] H := hP
  have hD : va_D A [(h0, .inr (5, [.ref q1, .ref q2, .ref q3, .ref q4, .ref q5, .null, .int 0, .int 0, .int 0, .int 0])), (q1, .inl (ca 0, 120, .inl (fun _ => 0))), (q2, .inl (ca 0, 160, .inl (fun _ => 0))), (q3, .inl (ca 0, 160, .inl (fun _ => 0))), (q4, .inl (ca 0, 160, .inl (fun _ => 0))), (q5, .inl (ca 0, 160, .inl (fun _ => 0)))] := hD
  refine lv_aload_n hx hb dX5_init_48 rfl (lv_at hl 0 rfl) ?_
  refine lv_sipush (v := 160) hx hb dX5_init_49 (by decide) ?_
  refine fw_newa (atype := .int) (ty := .int) (a0 := (160, .inl (fun _ => 0))) (N' := 160) hx hb (hts _ kw_153) rfl hK hP hD hS hA (fun _ => rfl) (by decide) rfl (Nat.le_of_ble_eq_true rfl) (Nat.le_of_ble_eq_true rfl) (Nat.le_of_ble_eq_true rfl) dX5_init_52 0 rfl (fun _ h => h) (fun q6 H hP hD hS => ?_)
  have hP : va_P D classes [(h0, .inr (5, [.ref q1, .ref q2, .ref q3, .ref q4, .ref q5, .null, .int 0, .int 0, .int 0, .int 0])), (q1, .inl (ca 0, 120, .inl (fun _ => 0))), (q2, .inl (ca 0, 160, .inl (fun _ => 0))), (q3, .inl (ca 0, 160, .inl (fun _ => 0))), (q4, .inl (ca 0, 160, .inl (fun _ => 0))), (q5, .inl (ca 0, 160, .inl (fun _ => 0))), (q6, .inl (ca 0, 160, .inl (fun _ => 0)))] H := hP
  have hD : va_D A [(h0, .inr (5, [.ref q1, .ref q2, .ref q3, .ref q4, .ref q5, .null, .int 0, .int 0, .int 0, .int 0])), (q1, .inl (ca 0, 120, .inl (fun _ => 0))), (q2, .inl (ca 0, 160, .inl (fun _ => 0))), (q3, .inl (ca 0, 160, .inl (fun _ => 0))), (q4, .inl (ca 0, 160, .inl (fun _ => 0))), (q5, .inl (ca 0, 160, .inl (fun _ => 0))), (q6, .inl (ca 0, 160, .inl (fun _ => 0)))] := hD
  refine W.widen (k := 6) (n := 920) (Nat.le_of_ble_eq_true rfl) (Nat.le_of_ble_eq_true rfl) ?_
  refine va_putF (D := D) (ci := 5) (v := .ref q6) (ty := .array .int) (C := RX5) (T := TX5) (N := 10) hx hb hts inX5 tyX5 tyX5_ok nmX5 hown hK hP hD hS 0 rfl rfl 5 (by decide) (hts _ kw_127) (fun _ h9 => h9) rfl hin rfl (by decide +kernel) rfl rfl (Nat.le_of_ble_eq_true rfl) dX5_init_54 (fun H locs hP hD hS => ?_)
  have hP : va_P D classes [(h0, .inr (5, [.ref q1, .ref q2, .ref q3, .ref q4, .ref q5, .ref q6, .int 0, .int 0, .int 0, .int 0])), (q1, .inl (ca 0, 120, .inl (fun _ => 0))), (q2, .inl (ca 0, 160, .inl (fun _ => 0))), (q3, .inl (ca 0, 160, .inl (fun _ => 0))), (q4, .inl (ca 0, 160, .inl (fun _ => 0))), (q5, .inl (ca 0, 160, .inl (fun _ => 0))), (q6, .inl (ca 0, 160, .inl (fun _ => 0)))] H := hP
  have hD : va_D A [(h0, .inr (5, [.ref q1, .ref q2, .ref q3, .ref q4, .ref q5, .ref q6, .int 0, .int 0, .int 0, .int 0])), (q1, .inl (ca 0, 120, .inl (fun _ => 0))), (q2, .inl (ca 0, 160, .inl (fun _ => 0))), (q3, .inl (ca 0, 160, .inl (fun _ => 0))), (q4, .inl (ca 0, 160, .inl (fun _ => 0))), (q5, .inl (ca 0, 160, .inl (fun _ => 0))), (q6, .inl (ca 0, 160, .inl (fun _ => 0)))] := hD
  refine lv_aload_n hx hb dX5_init_57 rfl (lv_at hl 0 rfl) ?_
  refine lv_iconst (v := 0) hx hb dX5_init_58 (by decide) ?_
  refine va_put (D := D) (ci := 5) (v := .int 0) (ty := .int) (C := RX5) (T := TX5) (N := 10) hx hb hts inX5 tyX5 tyX5_ok nmX5 hown hK hP hD hS 0 rfl rfl 6 (by decide) (hts _ kw_128) (fun _ h9 => h9) rfl (by decide +kernel) rfl rfl (Nat.le_of_ble_eq_true rfl) dX5_init_59 (fun H locs hP hD hS => ?_)
  have hP : va_P D classes [(h0, .inr (5, [.ref q1, .ref q2, .ref q3, .ref q4, .ref q5, .ref q6, .int 0, .int 0, .int 0, .int 0])), (q1, .inl (ca 0, 120, .inl (fun _ => 0))), (q2, .inl (ca 0, 160, .inl (fun _ => 0))), (q3, .inl (ca 0, 160, .inl (fun _ => 0))), (q4, .inl (ca 0, 160, .inl (fun _ => 0))), (q5, .inl (ca 0, 160, .inl (fun _ => 0))), (q6, .inl (ca 0, 160, .inl (fun _ => 0)))] H := hP
  have hD : va_D A [(h0, .inr (5, [.ref q1, .ref q2, .ref q3, .ref q4, .ref q5, .ref q6, .int 0, .int 0, .int 0, .int 0])), (q1, .inl (ca 0, 120, .inl (fun _ => 0))), (q2, .inl (ca 0, 160, .inl (fun _ => 0))), (q3, .inl (ca 0, 160, .inl (fun _ => 0))), (q4, .inl (ca 0, 160, .inl (fun _ => 0))), (q5, .inl (ca 0, 160, .inl (fun _ => 0))), (q6, .inl (ca 0, 160, .inl (fun _ => 0)))] := hD
  refine lv_aload_n hx hb dX5_init_62 rfl (lv_at hl 0 rfl) ?_
  refine lv_iconst (v := 0) hx hb dX5_init_63 (by decide) ?_
  refine va_put (D := D) (ci := 5) (v := .int 0) (ty := .int) (C := RX5) (T := TX5) (N := 10) hx hb hts inX5 tyX5 tyX5_ok nmX5 hown hK hP hD hS 0 rfl rfl 7 (by decide) (hts _ kw_129) (fun _ h9 => h9) rfl (by decide +kernel) rfl rfl (Nat.le_of_ble_eq_true rfl) dX5_init_64 (fun H locs hP hD hS => ?_)
  have hP : va_P D classes [(h0, .inr (5, [.ref q1, .ref q2, .ref q3, .ref q4, .ref q5, .ref q6, .int 0, .int 0, .int 0, .int 0])), (q1, .inl (ca 0, 120, .inl (fun _ => 0))), (q2, .inl (ca 0, 160, .inl (fun _ => 0))), (q3, .inl (ca 0, 160, .inl (fun _ => 0))), (q4, .inl (ca 0, 160, .inl (fun _ => 0))), (q5, .inl (ca 0, 160, .inl (fun _ => 0))), (q6, .inl (ca 0, 160, .inl (fun _ => 0)))] H := hP
  have hD : va_D A [(h0, .inr (5, [.ref q1, .ref q2, .ref q3, .ref q4, .ref q5, .ref q6, .int 0, .int 0, .int 0, .int 0])), (q1, .inl (ca 0, 120, .inl (fun _ => 0))), (q2, .inl (ca 0, 160, .inl (fun _ => 0))), (q3, .inl (ca 0, 160, .inl (fun _ => 0))), (q4, .inl (ca 0, 160, .inl (fun _ => 0))), (q5, .inl (ca 0, 160, .inl (fun _ => 0))), (q6, .inl (ca 0, 160, .inl (fun _ => 0)))] := hD
  refine lv_aload_n hx hb dX5_init_67 rfl (lv_at hl 0 rfl) ?_
  refine lv_iconst (v := (-1)) hx hb dX5_init_68 (by decide) ?_
  refine va_put (D := D) (ci := 5) (v := .int (-1)) (ty := .int) (C := RX5) (T := TX5) (N := 10) hx hb hts inX5 tyX5 tyX5_ok nmX5 hown hK hP hD hS 0 rfl rfl 8 (by decide) (hts _ kw_130) (fun _ h9 => h9) rfl (by decide +kernel) rfl rfl (Nat.le_of_ble_eq_true rfl) dX5_init_69 (fun H locs hP hD hS => ?_)
  have hP : va_P D classes [(h0, .inr (5, [.ref q1, .ref q2, .ref q3, .ref q4, .ref q5, .ref q6, .int 0, .int 0, .int (-1), .int 0])), (q1, .inl (ca 0, 120, .inl (fun _ => 0))), (q2, .inl (ca 0, 160, .inl (fun _ => 0))), (q3, .inl (ca 0, 160, .inl (fun _ => 0))), (q4, .inl (ca 0, 160, .inl (fun _ => 0))), (q5, .inl (ca 0, 160, .inl (fun _ => 0))), (q6, .inl (ca 0, 160, .inl (fun _ => 0)))] H := hP
  have hD : va_D A [(h0, .inr (5, [.ref q1, .ref q2, .ref q3, .ref q4, .ref q5, .ref q6, .int 0, .int 0, .int (-1), .int 0])), (q1, .inl (ca 0, 120, .inl (fun _ => 0))), (q2, .inl (ca 0, 160, .inl (fun _ => 0))), (q3, .inl (ca 0, 160, .inl (fun _ => 0))), (q4, .inl (ca 0, 160, .inl (fun _ => 0))), (q5, .inl (ca 0, 160, .inl (fun _ => 0))), (q6, .inl (ca 0, 160, .inl (fun _ => 0)))] := hD
  refine lv_aload_n hx hb dX5_init_72 rfl (lv_at hl 0 rfl) ?_
  refine lv_iconst (v := 0) hx hb dX5_init_73 (by decide) ?_
  refine va_put (D := D) (ci := 5) (v := .int 0) (ty := .int) (C := RX5) (T := TX5) (N := 10) hx hb hts inX5 tyX5 tyX5_ok nmX5 hown hK hP hD hS 0 rfl rfl 9 (by decide) (hts _ kw_131) (fun _ h9 => h9) rfl (by decide +kernel) rfl rfl (Nat.le_of_ble_eq_true rfl) dX5_init_74 (fun H locs hP hD hS => ?_)
  have hP : va_P D classes [(h0, .inr (5, [.ref q1, .ref q2, .ref q3, .ref q4, .ref q5, .ref q6, .int 0, .int 0, .int (-1), .int 0])), (q1, .inl (ca 0, 120, .inl (fun _ => 0))), (q2, .inl (ca 0, 160, .inl (fun _ => 0))), (q3, .inl (ca 0, 160, .inl (fun _ => 0))), (q4, .inl (ca 0, 160, .inl (fun _ => 0))), (q5, .inl (ca 0, 160, .inl (fun _ => 0))), (q6, .inl (ca 0, 160, .inl (fun _ => 0)))] H := hP
  have hD : va_D A [(h0, .inr (5, [.ref q1, .ref q2, .ref q3, .ref q4, .ref q5, .ref q6, .int 0, .int 0, .int (-1), .int 0])), (q1, .inl (ca 0, 120, .inl (fun _ => 0))), (q2, .inl (ca 0, 160, .inl (fun _ => 0))), (q3, .inl (ca 0, 160, .inl (fun _ => 0))), (q4, .inl (ca 0, 160, .inl (fun _ => 0))), (q5, .inl (ca 0, 160, .inl (fun _ => 0))), (q6, .inl (ca 0, 160, .inl (fun _ => 0)))] := hD
  have hP9 : va_P D classes (WK5 ca (fun k => ([h0, q1, q2, q3, q4, q5, q6] : List Nat).getD k 0) (t0_5)) H := hP.sub [0, 1, 2, 3, 4, 5, 6] rfl
  have hD9 : va_D A (WK5 ca (fun k => ([h0, q1, q2, q3, q4, q5, q6] : List Nat).getD k 0) (t0_5)) := hD.sub [0, 1, 2, 3, 4, 5, 6] (by decide) rfl
  exact W.vret hx hb hr (fun z hz hW => ⟨⟨rfl, (fun k => ([h0, q1, q2, q3, q4, q5, q6] : List Nat).getD k 0), (t0_5), rfl, rfl, by rw [hz]; exact hP9, hD9⟩, hS.F hz⟩) hS.2.2 dX5_init_77 hlocks
theorem dX6_init_0 : decode prog_8_method_1_code 0 = .ok (.aload_n 0, 1) := by decide +kernel
theorem dX6_init_1 : decode prog_8_method_1_code 1 = .ok (.invokespecial 3, 3) := by decide +kernel
theorem dX6_init_4 : decode prog_8_method_1_code 4 = .ok (.aload_n 0, 1) := by decide +kernel
theorem dX6_init_5 : decode prog_8_method_1_code 5 = .ok (.sipush 256, 3) := by decide +kernel
theorem dX6_init_8 : decode prog_8_method_1_code 8 = .ok (.newarray .int, 2) := by decide +kernel
theorem dX6_init_10 : decode prog_8_method_1_code 10 = .ok (.putfield 11, 3) := by decide +kernel
theorem dX6_init_13 : decode prog_8_method_1_code 13 = .ok (.aload_n 0, 1) := by decide +kernel
theorem dX6_init_14 : decode prog_8_method_1_code 14 = .ok (.sipush 512, 3) := by decide +kernel
theorem dX6_init_17 : decode prog_8_method_1_code 17 = .ok (.newarray .int, 2) := by decide +kernel
theorem dX6_init_19 : decode prog_8_method_1_code 19 = .ok (.putfield 15, 3) := by decide +kernel
theorem dX6_init_22 : decode prog_8_method_1_code 22 = .ok (.aload_n 0, 1) := by decide +kernel
theorem dX6_init_23 : decode prog_8_method_1_code 23 = .ok (.iconst 0, 1) := by decide +kernel
theorem dX6_init_24 : decode prog_8_method_1_code 24 = .ok (.putfield 18, 3) := by decide +kernel
theorem dX6_init_27 : decode prog_8_method_1_code 27 = .ok (.aload_n 0, 1) := by decide +kernel
theorem dX6_init_28 : decode prog_8_method_1_code 28 = .ok (.iconst 0, 1) := by decide +kernel
theorem dX6_init_29 : decode prog_8_method_1_code 29 = .ok (.putfield 22, 3) := by decide +kernel
theorem dX6_init_32 : decode prog_8_method_1_code 32 = .ok (.return_, 1) := by decide +kernel
def foK6_0 (a : Nat → Nat) (t : fw_S) : List Value := [.ref (a 1), .ref (a 2), .int (st_I t 0), .int (st_I t 1)]
def WK6 (ca : Nat → ClassId) (a : Nat → Nat) (t : fw_S) : va_W := [(a 0, .inr (6, foK6_0 a t)), (a 1, .inl (ca 0, 256, .inl (st_F t 0))), (a 2, .inl (ca 0, 512, .inl (st_F t 1)))]
theorem okK6 (ca : Nat → ClassId) (a : Nat → Nat) : fw_ok (WK6 ca a) := fun t u => rfl
theorem heK6_0 (ca : Nat → ClassId) (a : Nat → Nat) (t : fw_S) : (WK6 ca a t)[0]? = some (a 0, .inr (6, foK6_0 a t)) := rfl
theorem suK6_0_2 {ca : Nat → ClassId} {a : Nat → Nat} {t : fw_S} {v : Int32} : (WK6 ca a t).set 0 (a 0, .inr (6, (foK6_0 a t).set 2 (.int v))) = WK6 ca a (up_I t 0 v) := rfl
theorem suK6_0_3 {ca : Nat → ClassId} {a : Nat → Nat} {t : fw_S} {v : Int32} : (WK6 ca a t).set 0 (a 0, .inr (6, (foK6_0 a t).set 3 (.int v))) = WK6 ca a (up_I t 1 v) := rfl
theorem haK6_1 (ca : Nat → ClassId) (a : Nat → Nat) (t : fw_S) : (WK6 ca a t)[1]? = some (a 1, .inl (ca 0, 256, .inl (st_F t 0))) := rfl
theorem saK6_1 {ca : Nat → ClassId} {a : Nat → Nat} {t : fw_S} {f : Nat → Int32} : (WK6 ca a t).set 1 (a 1, .inl (ca 0, 256, .inl (f))) = WK6 ca a (up_F t 0 f) := rfl
theorem haK6_2 (ca : Nat → ClassId) (a : Nat → Nat) (t : fw_S) : (WK6 ca a t)[2]? = some (a 2, .inl (ca 0, 512, .inl (st_F t 1))) := rfl
theorem saK6_2 {ca : Nat → ClassId} {a : Nat → Nat} {t : fw_S} {f : Nat → Int32} : (WK6 ca a t).set 2 (a 2, .inl (ca 0, 512, .inl (f))) = WK6 ca a (up_F t 1 f) := rfl
def t0_6  : fw_S := (fun n => ([0, 0] : List Int32).getD n 0, fun n => ([] : List Int64).getD n 0, fun n => ([(fun _ => 0), (fun _ => 0)] : List (Nat → Int32)).getD n (fun _ => 0), fun n => ([] : List (Nat → Int64)).getD n (fun _ => 0))
abbrev rm_K6 : Room := { frames := 1, cells := 2, slots := 768, locals := 20 }
def Pr_6 (t : fw_S) : Prop := t = t0_6
set_option maxHeartbeats 4000000 in
set_option maxRecDepth 100000 in
theorem k_6 {l : Launch} {D : va_G} {ca : Nat → ClassId} : KC D ca l yX6_init (.code yX6_init prog_8_method_1_code 1 none :: lw_gd) rm_K6 6 [.null, .null, .int 0, .int 0] 2 768 (WK6 ca) Pr_6 := by
  intro h0 sz
  refine fw_ofW (cc := prog_8_method_1_code) (maxL := 1) (ret := none) (by decide +kernel) rfl ?_
  intro p e s m args below meth c s₁ B hml hv
  obtain ⟨rfl, hsz, hP, hK, hO, hD0⟩ := hv
  have hx := B.exec
  have hb := B.bytes
  have hr := B.returns
  have hts0 := atoms_spec (ws := .code yX6_init prog_8_method_1_code 1 none :: lw_gd) B.pre
  have hts : ∀ q ∈ lw_gd, q.before _ s = true := fun q hq => hts0 q (List.mem_cons_of_mem _ hq)
  have hown : s.vm.findClass RX6 = some m.cls := findClass_of_methodNamed B.named
  have hlocks := B.notSynchronized
  have hin : meth.name = "<init>" := (name_of_methodNamed B.named B.method).1
  subst hsz
  have hD := hD0.self (sz := s.heap.size)
  generalize hAe : va_A [(h0, .inr (6, [.null, .null, .int 0, .int 0]))] s.heap.size = A at hD ⊢
  have hA : ∀ q : Nat, s.heap.size ≤ q → A q := fun q h => by rw [← hAe]; exact Or.inr h
  have hS : va_S A s.heap s.heap [] := va_S.rf
  have hP : va_P D classes [(h0, .inr (6, [.null, .null, .int 0, .int 0]))] s.heap := hP
  have hl := lv_entry ([.ref h0]) (n := 1) (Nat.le_of_ble_eq_true rfl)
  rw [lg_entry_eq]
  generalize (lg_sl ([.ref h0]) ++ List.replicate (1 - (lg_sl ([.ref h0])).length) Slot.unset).toArray = ls at hl ⊢
  have hl : lv_has ls 1 [(0, .ref h0)] := hl
  show W p l e rm_K6 s m #[Value.ref h0] below meth c s.heap [] 0 0 _ _
  refine lv_aload_n hx hb dX6_init_0 rfl (lv_at hl 0 rfl) ?_
  refine W.objInit hx hb hown (hts _ kw_159) (hts _ kw_114) (hts _ kw_115) rfl (by rw [hml]; exact hl.1) rfl dX6_init_1 (Nat.le_of_ble_eq_true rfl) (Nat.le_of_ble_eq_true rfl) ?_
  refine W.eq (g2 := F0 m 4 ls []) rfl ?_
  refine lv_aload_n hx hb dX6_init_4 rfl (lv_at hl 0 rfl) ?_
  refine lv_sipush (v := 256) hx hb dX6_init_5 (by decide) ?_
  refine fw_newa (atype := .int) (ty := .int) (a0 := (256, .inl (fun _ => 0))) (N' := 256) hx hb (hts _ kw_153) rfl hK hP hD hS hA (fun _ => rfl) (by decide) rfl (Nat.le_of_ble_eq_true rfl) (Nat.le_of_ble_eq_true rfl) (Nat.le_of_ble_eq_true rfl) dX6_init_8 0 rfl (fun _ h => h) (fun q1 H hP hD hS => ?_)
  have hP : va_P D classes [(h0, .inr (6, [.null, .null, .int 0, .int 0])), (q1, .inl (ca 0, 256, .inl (fun _ => 0)))] H := hP
  have hD : va_D A [(h0, .inr (6, [.null, .null, .int 0, .int 0])), (q1, .inl (ca 0, 256, .inl (fun _ => 0)))] := hD
  refine W.widen (k := 1) (n := 256) (Nat.le_of_ble_eq_true rfl) (Nat.le_of_ble_eq_true rfl) ?_
  refine va_putF (D := D) (ci := 6) (v := .ref q1) (ty := .array .int) (C := RX6) (T := TX6) (N := 4) hx hb hts inX6 tyX6 tyX6_ok nmX6 hown hK hP hD hS 0 rfl rfl 0 (by decide) (hts _ kw_160) (fun _ h9 => h9) rfl hin rfl (by decide +kernel) rfl rfl (Nat.le_of_ble_eq_true rfl) dX6_init_10 (fun H locs hP hD hS => ?_)
  have hP : va_P D classes [(h0, .inr (6, [.ref q1, .null, .int 0, .int 0])), (q1, .inl (ca 0, 256, .inl (fun _ => 0)))] H := hP
  have hD : va_D A [(h0, .inr (6, [.ref q1, .null, .int 0, .int 0])), (q1, .inl (ca 0, 256, .inl (fun _ => 0)))] := hD
  refine lv_aload_n hx hb dX6_init_13 rfl (lv_at hl 0 rfl) ?_
  refine lv_sipush (v := 512) hx hb dX6_init_14 (by decide) ?_
  refine fw_newa (atype := .int) (ty := .int) (a0 := (512, .inl (fun _ => 0))) (N' := 512) hx hb (hts _ kw_153) rfl hK hP hD hS hA (fun _ => rfl) (by decide) rfl (Nat.le_of_ble_eq_true rfl) (Nat.le_of_ble_eq_true rfl) (Nat.le_of_ble_eq_true rfl) dX6_init_17 0 rfl (fun _ h => h) (fun q2 H hP hD hS => ?_)
  have hP : va_P D classes [(h0, .inr (6, [.ref q1, .null, .int 0, .int 0])), (q1, .inl (ca 0, 256, .inl (fun _ => 0))), (q2, .inl (ca 0, 512, .inl (fun _ => 0)))] H := hP
  have hD : va_D A [(h0, .inr (6, [.ref q1, .null, .int 0, .int 0])), (q1, .inl (ca 0, 256, .inl (fun _ => 0))), (q2, .inl (ca 0, 512, .inl (fun _ => 0)))] := hD
  refine W.widen (k := 2) (n := 768) (Nat.le_of_ble_eq_true rfl) (Nat.le_of_ble_eq_true rfl) ?_
  refine va_putF (D := D) (ci := 6) (v := .ref q2) (ty := .array .int) (C := RX6) (T := TX6) (N := 4) hx hb hts inX6 tyX6 tyX6_ok nmX6 hown hK hP hD hS 0 rfl rfl 1 (by decide) (hts _ kw_161) (fun _ h9 => h9) rfl hin rfl (by decide +kernel) rfl rfl (Nat.le_of_ble_eq_true rfl) dX6_init_19 (fun H locs hP hD hS => ?_)
  have hP : va_P D classes [(h0, .inr (6, [.ref q1, .ref q2, .int 0, .int 0])), (q1, .inl (ca 0, 256, .inl (fun _ => 0))), (q2, .inl (ca 0, 512, .inl (fun _ => 0)))] H := hP
  have hD : va_D A [(h0, .inr (6, [.ref q1, .ref q2, .int 0, .int 0])), (q1, .inl (ca 0, 256, .inl (fun _ => 0))), (q2, .inl (ca 0, 512, .inl (fun _ => 0)))] := hD
  refine lv_aload_n hx hb dX6_init_22 rfl (lv_at hl 0 rfl) ?_
  refine lv_iconst (v := 0) hx hb dX6_init_23 (by decide) ?_
  refine va_put (D := D) (ci := 6) (v := .int 0) (ty := .int) (C := RX6) (T := TX6) (N := 4) hx hb hts inX6 tyX6 tyX6_ok nmX6 hown hK hP hD hS 0 rfl rfl 2 (by decide) (hts _ kw_162) (fun _ h9 => h9) rfl (by decide +kernel) rfl rfl (Nat.le_of_ble_eq_true rfl) dX6_init_24 (fun H locs hP hD hS => ?_)
  have hP : va_P D classes [(h0, .inr (6, [.ref q1, .ref q2, .int 0, .int 0])), (q1, .inl (ca 0, 256, .inl (fun _ => 0))), (q2, .inl (ca 0, 512, .inl (fun _ => 0)))] H := hP
  have hD : va_D A [(h0, .inr (6, [.ref q1, .ref q2, .int 0, .int 0])), (q1, .inl (ca 0, 256, .inl (fun _ => 0))), (q2, .inl (ca 0, 512, .inl (fun _ => 0)))] := hD
  refine lv_aload_n hx hb dX6_init_27 rfl (lv_at hl 0 rfl) ?_
  refine lv_iconst (v := 0) hx hb dX6_init_28 (by decide) ?_
  refine va_put (D := D) (ci := 6) (v := .int 0) (ty := .int) (C := RX6) (T := TX6) (N := 4) hx hb hts inX6 tyX6 tyX6_ok nmX6 hown hK hP hD hS 0 rfl rfl 3 (by decide) (hts _ kw_163) (fun _ h9 => h9) rfl (by decide +kernel) rfl rfl (Nat.le_of_ble_eq_true rfl) dX6_init_29 (fun H locs hP hD hS => ?_)
  have hP : va_P D classes [(h0, .inr (6, [.ref q1, .ref q2, .int 0, .int 0])), (q1, .inl (ca 0, 256, .inl (fun _ => 0))), (q2, .inl (ca 0, 512, .inl (fun _ => 0)))] H := hP
  have hD : va_D A [(h0, .inr (6, [.ref q1, .ref q2, .int 0, .int 0])), (q1, .inl (ca 0, 256, .inl (fun _ => 0))), (q2, .inl (ca 0, 512, .inl (fun _ => 0)))] := hD
  have hP9 : va_P D classes (WK6 ca (fun k => ([h0, q1, q2] : List Nat).getD k 0) (t0_6)) H := hP.sub [0, 1, 2] rfl
  have hD9 : va_D A (WK6 ca (fun k => ([h0, q1, q2] : List Nat).getD k 0) (t0_6)) := hD.sub [0, 1, 2] (by decide) rfl
  exact W.vret hx hb hr (fun z hz hW => ⟨⟨rfl, (fun k => ([h0, q1, q2] : List Nat).getD k 0), (t0_6), rfl, rfl, by rw [hz]; exact hP9, hD9⟩, hS.F hz⟩) hS.2.2 dX6_init_32 hlocks
theorem dX0_init_0 : decode prog_2_method_1_code 0 = .ok (.aload_n 0, 1) := by decide +kernel
theorem dX0_init_1 : decode prog_2_method_1_code 1 = .ok (.invokespecial 3, 3) := by decide +kernel
theorem dX0_init_4 : decode prog_2_method_1_code 4 = .ok (.aload_n 0, 1) := by decide +kernel
theorem dX0_init_5 : decode prog_2_method_1_code 5 = .ok (.bipush 32, 2) := by decide +kernel
theorem dX0_init_7 : decode prog_2_method_1_code 7 = .ok (.newarray .int, 2) := by decide +kernel
theorem dX0_init_9 : decode prog_2_method_1_code 9 = .ok (.putfield 9, 3) := by decide +kernel
theorem dX0_init_12 : decode prog_2_method_1_code 12 = .ok (.aload_n 0, 1) := by decide +kernel
theorem dX0_init_13 : decode prog_2_method_1_code 13 = .ok (.bipush 32, 2) := by decide +kernel
theorem dX0_init_15 : decode prog_2_method_1_code 15 = .ok (.newarray .long, 2) := by decide +kernel
theorem dX0_init_17 : decode prog_2_method_1_code 17 = .ok (.putfield 15, 3) := by decide +kernel
theorem dX0_init_20 : decode prog_2_method_1_code 20 = .ok (.aload_n 0, 1) := by decide +kernel
theorem dX0_init_21 : decode prog_2_method_1_code 21 = .ok (.bipush 32, 2) := by decide +kernel
theorem dX0_init_23 : decode prog_2_method_1_code 23 = .ok (.newarray .int, 2) := by decide +kernel
theorem dX0_init_25 : decode prog_2_method_1_code 25 = .ok (.putfield 19, 3) := by decide +kernel
theorem dX0_init_28 : decode prog_2_method_1_code 28 = .ok (.aload_n 0, 1) := by decide +kernel
theorem dX0_init_29 : decode prog_2_method_1_code 29 = .ok (.bipush 32, 2) := by decide +kernel
theorem dX0_init_31 : decode prog_2_method_1_code 31 = .ok (.anewarray 22, 3) := by decide +kernel
theorem dX0_init_34 : decode prog_2_method_1_code 34 = .ok (.putfield 24, 3) := by decide +kernel
theorem dX0_init_37 : decode prog_2_method_1_code 37 = .ok (.aload_n 0, 1) := by decide +kernel
theorem dX0_init_38 : decode prog_2_method_1_code 38 = .ok (.bipush 32, 2) := by decide +kernel
theorem dX0_init_40 : decode prog_2_method_1_code 40 = .ok (.newarray .int, 2) := by decide +kernel
theorem dX0_init_42 : decode prog_2_method_1_code 42 = .ok (.putfield 28, 3) := by decide +kernel
theorem dX0_init_45 : decode prog_2_method_1_code 45 = .ok (.aload_n 0, 1) := by decide +kernel
theorem dX0_init_46 : decode prog_2_method_1_code 46 = .ok (.bipush 32, 2) := by decide +kernel
theorem dX0_init_48 : decode prog_2_method_1_code 48 = .ok (.newarray .int, 2) := by decide +kernel
theorem dX0_init_50 : decode prog_2_method_1_code 50 = .ok (.putfield 31, 3) := by decide +kernel
theorem dX0_init_53 : decode prog_2_method_1_code 53 = .ok (.aload_n 0, 1) := by decide +kernel
theorem dX0_init_54 : decode prog_2_method_1_code 54 = .ok (.bipush 32, 2) := by decide +kernel
theorem dX0_init_56 : decode prog_2_method_1_code 56 = .ok (.newarray .int, 2) := by decide +kernel
theorem dX0_init_58 : decode prog_2_method_1_code 58 = .ok (.putfield 34, 3) := by decide +kernel
theorem dX0_init_61 : decode prog_2_method_1_code 61 = .ok (.aload_n 0, 1) := by decide +kernel
theorem dX0_init_62 : decode prog_2_method_1_code 62 = .ok (.sipush 1024, 3) := by decide +kernel
theorem dX0_init_65 : decode prog_2_method_1_code 65 = .ok (.newarray .int, 2) := by decide +kernel
theorem dX0_init_67 : decode prog_2_method_1_code 67 = .ok (.putfield 37, 3) := by decide +kernel
theorem dX0_init_70 : decode prog_2_method_1_code 70 = .ok (.aload_n 0, 1) := by decide +kernel
theorem dX0_init_71 : decode prog_2_method_1_code 71 = .ok (.bipush 32, 2) := by decide +kernel
theorem dX0_init_73 : decode prog_2_method_1_code 73 = .ok (.newarray .int, 2) := by decide +kernel
theorem dX0_init_75 : decode prog_2_method_1_code 75 = .ok (.putfield 40, 3) := by decide +kernel
theorem dX0_init_78 : decode prog_2_method_1_code 78 = .ok (.aload_n 0, 1) := by decide +kernel
theorem dX0_init_79 : decode prog_2_method_1_code 79 = .ok (.bipush 32, 2) := by decide +kernel
theorem dX0_init_81 : decode prog_2_method_1_code 81 = .ok (.newarray .long, 2) := by decide +kernel
theorem dX0_init_83 : decode prog_2_method_1_code 83 = .ok (.putfield 43, 3) := by decide +kernel
theorem dX0_init_86 : decode prog_2_method_1_code 86 = .ok (.aload_n 0, 1) := by decide +kernel
theorem dX0_init_87 : decode prog_2_method_1_code 87 = .ok (.lconst 0, 1) := by decide +kernel
theorem dX0_init_88 : decode prog_2_method_1_code 88 = .ok (.putfield 46, 3) := by decide +kernel
theorem dX0_init_91 : decode prog_2_method_1_code 91 = .ok (.aload_n 0, 1) := by decide +kernel
theorem dX0_init_92 : decode prog_2_method_1_code 92 = .ok (.lconst 0, 1) := by decide +kernel
theorem dX0_init_93 : decode prog_2_method_1_code 93 = .ok (.putfield 50, 3) := by decide +kernel
theorem dX0_init_96 : decode prog_2_method_1_code 96 = .ok (.iconst 0, 1) := by decide +kernel
theorem dX0_init_97 : decode prog_2_method_1_code 97 = .ok (.istore_n 1, 1) := by decide +kernel
theorem dX0_init_98 : decode prog_2_method_1_code 98 = .ok (.iload_n 1, 1) := by decide +kernel
theorem dX0_init_99 : decode prog_2_method_1_code 99 = .ok (.bipush 32, 2) := by decide +kernel
theorem dX0_init_101 : decode prog_2_method_1_code 101 = .ok (.if_icmp .ge 24, 3) := by decide +kernel
theorem dX0_init_104 : decode prog_2_method_1_code 104 = .ok (.aload_n 0, 1) := by decide +kernel
theorem dX0_init_105 : decode prog_2_method_1_code 105 = .ok (.getfield 19, 3) := by decide +kernel
theorem dX0_init_108 : decode prog_2_method_1_code 108 = .ok (.iload_n 1, 1) := by decide +kernel
theorem dX0_init_109 : decode prog_2_method_1_code 109 = .ok (.iconst 3, 1) := by decide +kernel
theorem dX0_init_110 : decode prog_2_method_1_code 110 = .ok (.iastore, 1) := by decide +kernel
theorem dX0_init_111 : decode prog_2_method_1_code 111 = .ok (.aload_n 0, 1) := by decide +kernel
theorem dX0_init_112 : decode prog_2_method_1_code 112 = .ok (.getfield 34, 3) := by decide +kernel
theorem dX0_init_115 : decode prog_2_method_1_code 115 = .ok (.iload_n 1, 1) := by decide +kernel
theorem dX0_init_116 : decode prog_2_method_1_code 116 = .ok (.bipush (-5), 2) := by decide +kernel
theorem dX0_init_118 : decode prog_2_method_1_code 118 = .ok (.iastore, 1) := by decide +kernel
theorem dX0_init_119 : decode prog_2_method_1_code 119 = .ok (.iinc 1 1, 3) := by decide +kernel
theorem dX0_init_122 : decode prog_2_method_1_code 122 = .ok (.goto (-24), 3) := by decide +kernel
theorem dX0_init_125 : decode prog_2_method_1_code 125 = .ok (.return_, 1) := by decide +kernel
def foK0_0 (a : Nat → Nat) (t : fw_S) : List Value := [.ref (a 1), .ref (a 2), .ref (a 3), .ref (a 4), .ref (a 5), .ref (a 6), .ref (a 7), .ref (a 8), .ref (a 9), .ref (a 10), .long (st_J t 0), .long (st_J t 1)]
def WK0 (ca : Nat → ClassId) (a : Nat → Nat) (t : fw_S) : va_W := [(a 0, .inr (0, foK0_0 a t)), (a 1, .inl (ca 0, 32, .inl (st_F t 0))), (a 2, .inl (ca 1, 32, .inr (.inl (st_G t 0)))), (a 3, .inl (ca 0, 32, .inl (st_F t 1))), (a 4, .inl (ca 3, 32, .inr (.inr (.inr (.inr (fun _ => none)))))), (a 5, .inl (ca 0, 32, .inl (st_F t 2))), (a 6, .inl (ca 0, 32, .inl (st_F t 3))), (a 7, .inl (ca 0, 32, .inl (st_F t 4))), (a 8, .inl (ca 0, 1024, .inl (st_F t 5))), (a 9, .inl (ca 0, 32, .inl (st_F t 6))), (a 10, .inl (ca 1, 32, .inr (.inl (st_G t 1))))]
theorem okK0 (ca : Nat → ClassId) (a : Nat → Nat) : fw_ok (WK0 ca a) := fun t u => rfl
theorem heK0_0 (ca : Nat → ClassId) (a : Nat → Nat) (t : fw_S) : (WK0 ca a t)[0]? = some (a 0, .inr (0, foK0_0 a t)) := rfl
theorem suK0_0_10 {ca : Nat → ClassId} {a : Nat → Nat} {t : fw_S} {v : Int64} : (WK0 ca a t).set 0 (a 0, .inr (0, (foK0_0 a t).set 10 (.long v))) = WK0 ca a (up_J t 0 v) := rfl
theorem suK0_0_11 {ca : Nat → ClassId} {a : Nat → Nat} {t : fw_S} {v : Int64} : (WK0 ca a t).set 0 (a 0, .inr (0, (foK0_0 a t).set 11 (.long v))) = WK0 ca a (up_J t 1 v) := rfl
theorem haK0_1 (ca : Nat → ClassId) (a : Nat → Nat) (t : fw_S) : (WK0 ca a t)[1]? = some (a 1, .inl (ca 0, 32, .inl (st_F t 0))) := rfl
theorem saK0_1 {ca : Nat → ClassId} {a : Nat → Nat} {t : fw_S} {f : Nat → Int32} : (WK0 ca a t).set 1 (a 1, .inl (ca 0, 32, .inl (f))) = WK0 ca a (up_F t 0 f) := rfl
theorem haK0_2 (ca : Nat → ClassId) (a : Nat → Nat) (t : fw_S) : (WK0 ca a t)[2]? = some (a 2, .inl (ca 1, 32, .inr (.inl (st_G t 0)))) := rfl
theorem saK0_2 {ca : Nat → ClassId} {a : Nat → Nat} {t : fw_S} {f : Nat → Int64} : (WK0 ca a t).set 2 (a 2, .inl (ca 1, 32, .inr (.inl (f)))) = WK0 ca a (up_G t 0 f) := rfl
theorem haK0_3 (ca : Nat → ClassId) (a : Nat → Nat) (t : fw_S) : (WK0 ca a t)[3]? = some (a 3, .inl (ca 0, 32, .inl (st_F t 1))) := rfl
theorem saK0_3 {ca : Nat → ClassId} {a : Nat → Nat} {t : fw_S} {f : Nat → Int32} : (WK0 ca a t).set 3 (a 3, .inl (ca 0, 32, .inl (f))) = WK0 ca a (up_F t 1 f) := rfl
theorem haK0_4 (ca : Nat → ClassId) (a : Nat → Nat) (t : fw_S) : (WK0 ca a t)[4]? = some (a 4, .inl (ca 3, 32, .inr (.inr (.inr (.inr (fun _ => none)))))) := rfl
theorem saK0_4 {ca : Nat → ClassId} {a : Nat → Nat} {t : fw_S} : (WK0 ca a t).set 4 (a 4, .inl (ca 3, 32, .inr (.inr (.inr (.inr (fun _ => none)))))) = WK0 ca a t := rfl
theorem haK0_5 (ca : Nat → ClassId) (a : Nat → Nat) (t : fw_S) : (WK0 ca a t)[5]? = some (a 5, .inl (ca 0, 32, .inl (st_F t 2))) := rfl
theorem saK0_5 {ca : Nat → ClassId} {a : Nat → Nat} {t : fw_S} {f : Nat → Int32} : (WK0 ca a t).set 5 (a 5, .inl (ca 0, 32, .inl (f))) = WK0 ca a (up_F t 2 f) := rfl
theorem haK0_6 (ca : Nat → ClassId) (a : Nat → Nat) (t : fw_S) : (WK0 ca a t)[6]? = some (a 6, .inl (ca 0, 32, .inl (st_F t 3))) := rfl
theorem saK0_6 {ca : Nat → ClassId} {a : Nat → Nat} {t : fw_S} {f : Nat → Int32} : (WK0 ca a t).set 6 (a 6, .inl (ca 0, 32, .inl (f))) = WK0 ca a (up_F t 3 f) := rfl
theorem haK0_7 (ca : Nat → ClassId) (a : Nat → Nat) (t : fw_S) : (WK0 ca a t)[7]? = some (a 7, .inl (ca 0, 32, .inl (st_F t 4))) := rfl
theorem saK0_7 {ca : Nat → ClassId} {a : Nat → Nat} {t : fw_S} {f : Nat → Int32} : (WK0 ca a t).set 7 (a 7, .inl (ca 0, 32, .inl (f))) = WK0 ca a (up_F t 4 f) := rfl
theorem haK0_8 (ca : Nat → ClassId) (a : Nat → Nat) (t : fw_S) : (WK0 ca a t)[8]? = some (a 8, .inl (ca 0, 1024, .inl (st_F t 5))) := rfl
theorem saK0_8 {ca : Nat → ClassId} {a : Nat → Nat} {t : fw_S} {f : Nat → Int32} : (WK0 ca a t).set 8 (a 8, .inl (ca 0, 1024, .inl (f))) = WK0 ca a (up_F t 5 f) := rfl
theorem haK0_9 (ca : Nat → ClassId) (a : Nat → Nat) (t : fw_S) : (WK0 ca a t)[9]? = some (a 9, .inl (ca 0, 32, .inl (st_F t 6))) := rfl
theorem saK0_9 {ca : Nat → ClassId} {a : Nat → Nat} {t : fw_S} {f : Nat → Int32} : (WK0 ca a t).set 9 (a 9, .inl (ca 0, 32, .inl (f))) = WK0 ca a (up_F t 6 f) := rfl
theorem haK0_10 (ca : Nat → ClassId) (a : Nat → Nat) (t : fw_S) : (WK0 ca a t)[10]? = some (a 10, .inl (ca 1, 32, .inr (.inl (st_G t 1)))) := rfl
theorem saK0_10 {ca : Nat → ClassId} {a : Nat → Nat} {t : fw_S} {f : Nat → Int64} : (WK0 ca a t).set 10 (a 10, .inl (ca 1, 32, .inr (.inl (f)))) = WK0 ca a (up_G t 1 f) := rfl
def t0_0  : fw_S := (fun n => ([] : List Int32).getD n 0, fun n => ([0, 0] : List Int64).getD n 0, fun n => ([(fun _ => 0), (fun _ => 0), (fun _ => 0), (fun _ => 0), (fun _ => 0), (fun _ => 0), (fun _ => 0)] : List (Nat → Int32)).getD n (fun _ => 0), fun n => ([(fun _ => 0), (fun _ => 0)] : List (Nat → Int64)).getD n (fun _ => 0))
abbrev rm_K0 : Room := { frames := 1, cells := 10, slots := 1312, locals := 20 }
abbrev rm_K0_init : Room := rm_K0
def b_K0_init_125  (t : fw_S)  : Option fw_S := some t
def b_K0_init_104 (k98 : fw_S → Int32 → Option fw_S) (t : fw_S) (x1 : Int32) : Option fw_S := fb_g (¬ (x1 < 0 ∨ 32 ≤ x1.toNatClampNeg)) (fb_l (up_F t 1 (upd (st_F t 1) x1.toNatClampNeg ((3 : Int32)))) fun t_1 => (fb_g (¬ (x1 < 0 ∨ 32 ≤ x1.toNatClampNeg)) (fb_l (up_F t_1 4 (upd (st_F t_1 4) x1.toNatClampNeg ((-5 : Int32)))) fun t_2 => (k98 t_2 (x1 + 1)))))
def b_K0_init_98  : Nat → (fw_S → Int32 → Option fw_S)
  | 0 => fun _ _ => none
  | n + 1 => fun t x1 => if ((32 : Int32)) ≤ x1 then b_K0_init_125 t else b_K0_init_104 (b_K0_init_98 n) t x1
def b_K0_init_96  (t : fw_S)  : Option fw_S := b_K0_init_98 3000 t ((0 : Int32))
set_option maxRecDepth 20000 in
theorem w_K0_init_125 {p : Program} {l : Launch} {e : Env} {s : State} {m : MethodId} {args : Array Value} {below : List Frame} {meth : Method} {c : Code} {A : Nat → Prop} {Q : State → Prop} {D : va_G} {ca : Nat → ClassId} {a : Nat → Nat} {u : fw_S}  (C : CX (WK0 ca a) D (tyv ca) p s m args c A prog_2_method_1_code 2 RX0) (hr : True → RXn 10 1312 (WK0 ca a) D p l e rm_K0_init s m args below meth c A prog_2_method_1_code Q .return_ [] u) {t : fw_S}  {H : Heap} {locs : List Loc} {ls : Array Slot} (hf : b_K0_init_125  t  = some u) (hP : va_P D classes (WK0 ca a t) H) (hS : va_S A s.heap H locs) (hl : lv_has ls 2 []) : W p l e rm_K0_init s m args below meth c H locs 10 1312 Q (F0 m 125 ls []) := by
  obtain ⟨hx, hb, hml, hown, hts, hN, hK, hD, hA⟩ := id C
  have hf : (some t) = some u := hf
  have e_125 := fb_ev hf
  subst e_125
  exact hr trivial _ _ _ _ hP hS dX0_init_125
set_option maxRecDepth 20000 in
theorem w_K0_init_104 {p : Program} {l : Launch} {e : Env} {s : State} {m : MethodId} {args : Array Value} {below : List Frame} {meth : Method} {c : Code} {A : Nat → Prop} {Q : State → Prop} {D : va_G} {ca : Nat → ClassId} {a : Nat → Nat} {u : fw_S} {k98 : fw_S → Int32 → Option fw_S} (C : CX (WK0 ca a) D (tyv ca) p s m args c A prog_2_method_1_code 2 RX0) (hr : True → RXn 10 1312 (WK0 ca a) D p l e rm_K0_init s m args below meth c A prog_2_method_1_code Q .return_ [] u) (hk98 : ∀ (t : fw_S) (x1 : Int32) (H : Heap) (locs : List Loc) (ls : Array Slot), k98 t x1 = some u → va_P D classes (WK0 ca a t) H → va_S A s.heap H locs → lv_has ls 2 [(0, .ref (a 0)), (1, .int x1)] → W p l e rm_K0_init s m args below meth c H locs 10 1312 Q (F0 m 98 ls [])) {t : fw_S} {x1 : Int32} {H : Heap} {locs : List Loc} {ls : Array Slot} (hf : b_K0_init_104 k98 t x1 = some u) (hP : va_P D classes (WK0 ca a t) H) (hS : va_S A s.heap H locs) (hl : lv_has ls 2 [(0, .ref (a 0)), (1, .int x1)]) : W p l e rm_K0_init s m args below meth c H locs 10 1312 Q (F0 m 104 ls []) := by
  obtain ⟨hx, hb, hml, hown, hts, hN, hK, hD, hA⟩ := id C
  have hf : (fb_g (¬ (x1 < 0 ∨ 32 ≤ x1.toNatClampNeg)) (fb_l (up_F t 1 (upd (st_F t 1) x1.toNatClampNeg ((3 : Int32)))) fun t_1 => (fb_g (¬ (x1 < 0 ∨ 32 ≤ x1.toNatClampNeg)) (fb_l (up_F t_1 4 (upd (st_F t_1 4) x1.toNatClampNeg ((-5 : Int32)))) fun t_2 => (k98 t_2 (x1 + 1)))))) = some u := hf
  refine lv_aload_n hx hb dX0_init_104 rfl (lv_at hl 0 rfl) ?_
  refine va_get (D := D) (ci := 0) (v := .ref (a 3)) (C := RX0) (T := TX0) (N := 12) hx hb hts inX0 hown hK hP 0 (heK0_0 ca a t) rfl 2 (by decide) (hts _ kw_189) (fun _ h9 => h9) rfl dX0_init_105 ?_
  refine lv_iload_n hx hb dX0_init_108 rfl (lv_at hl 1 rfl) ?_
  refine lv_iconst (v := 3) hx hb dX0_init_109 (by decide) ?_
  obtain ⟨h_110, hf⟩ := fb_if hf
  refine va_iast hx hb hK hP (hD t) hS 3 0 (haK0_3 ca a t) rfl h_110 dX0_init_110 (fun H locs hP _ hS => ?_)
  rw [saK0_3] at hP
  obtain ⟨t_1, e_110, hf⟩ := fb_ls hf
  rw [← e_110] at hP
  refine lv_aload_n hx hb dX0_init_111 rfl (lv_at hl 0 rfl) ?_
  refine va_get (D := D) (ci := 0) (v := .ref (a 7)) (C := RX0) (T := TX0) (N := 12) hx hb hts inX0 hown hK hP 0 (heK0_0 ca a t_1) rfl 6 (by decide) (hts _ kw_193) (fun _ h9 => h9) rfl dX0_init_112 ?_
  refine lv_iload_n hx hb dX0_init_115 rfl (lv_at hl 1 rfl) ?_
  refine lv_bipush (v := (-5)) hx hb dX0_init_116 (by decide) ?_
  obtain ⟨h_118, hf⟩ := fb_if hf
  refine va_iast hx hb hK hP (hD t_1) hS 7 0 (haK0_7 ca a t_1) rfl h_118 dX0_init_118 (fun H locs hP _ hS => ?_)
  rw [saK0_7] at hP
  obtain ⟨t_2, e_118, hf⟩ := fb_ls hf
  rw [← e_118] at hP
  refine lv_iinc (v := x1 + 1) (lv' := [(1, .int (x1 + 1)), (0, .ref (a 0))]) hx hb dX0_init_119 hl (k := 1) rfl rfl (by decide) rfl (fun ls hl => ?_)
  refine lv_goto (tgt := 98) hx hb dX0_init_122 (by decide) ?_
  exact hk98 t_2 (x1 + 1) _ _ _ hf hP hS (lv_sub hl [1, 0] rfl)
set_option maxRecDepth 20000 in
theorem w_K0_init_98 {p : Program} {l : Launch} {e : Env} {s : State} {m : MethodId} {args : Array Value} {below : List Frame} {meth : Method} {c : Code} {A : Nat → Prop} {Q : State → Prop} {D : va_G} {ca : Nat → ClassId} {a : Nat → Nat} {u : fw_S}  (C : CX (WK0 ca a) D (tyv ca) p s m args c A prog_2_method_1_code 2 RX0) (hr : True → RXn 10 1312 (WK0 ca a) D p l e rm_K0_init s m args below meth c A prog_2_method_1_code Q .return_ [] u) : ∀ (n : Nat) (t : fw_S) (x1 : Int32) (H : Heap) (locs : List Loc) (ls : Array Slot), b_K0_init_98  n t x1 = some u → va_P D classes (WK0 ca a t) H → va_S A s.heap H locs → lv_has ls 2 [(0, .ref (a 0)), (1, .int x1)] → W p l e rm_K0_init s m args below meth c H locs 10 1312 Q (F0 m 98 ls []) := by
  obtain ⟨hx, hb, hml, hown, hts, hN, hK, hD, hA⟩ := id C
  intro n
  induction n with
  | zero => intro t x1 H locs ls hf; cases hf
  | succ n hk98 =>
    intro t x1 H locs ls hf hP hS hl
    have hf : (if ((32 : Int32)) ≤ x1 then b_K0_init_125 t else b_K0_init_104 (b_K0_init_98 n) t x1) = some u := hf
    refine lv_iload_n hx hb dX0_init_98 rfl (lv_at hl 1 rfl) ?_
    refine lv_bipush (v := 32) hx hb dX0_init_99 (by decide) ?_
    refine lv_icmp_ge (tgt := 125) hx hb dX0_init_101 (by decide) (fun h_101 => ?_) (fun h_101 => ?_)
    · have hf := fb_t h_101 hf
      exact w_K0_init_125 C hr hf hP hS (lv_sub hl [] rfl)
    · have hf := fb_f h_101 hf
      exact w_K0_init_104 C hr hk98 hf hP hS (lv_sub hl [0, 1] rfl)
set_option maxRecDepth 20000 in
theorem w_K0_init_96 {p : Program} {l : Launch} {e : Env} {s : State} {m : MethodId} {args : Array Value} {below : List Frame} {meth : Method} {c : Code} {A : Nat → Prop} {Q : State → Prop} {D : va_G} {ca : Nat → ClassId} {a : Nat → Nat} {u : fw_S}  (C : CX (WK0 ca a) D (tyv ca) p s m args c A prog_2_method_1_code 2 RX0) (hr : True → RXn 10 1312 (WK0 ca a) D p l e rm_K0_init s m args below meth c A prog_2_method_1_code Q .return_ [] u) {t : fw_S}  {H : Heap} {locs : List Loc} {ls : Array Slot} (hf : b_K0_init_96  t  = some u) (hP : va_P D classes (WK0 ca a t) H) (hS : va_S A s.heap H locs) (hl : lv_has ls 2 [(0, .ref (a 0))]) : W p l e rm_K0_init s m args below meth c H locs 10 1312 Q (F0 m 96 ls []) := by
  obtain ⟨hx, hb, hml, hown, hts, hN, hK, hD, hA⟩ := id C
  have hf : (b_K0_init_98 3000 t ((0 : Int32))) = some u := hf
  refine lv_iconst (v := 0) hx hb dX0_init_96 (by decide) ?_
  refine lv_istore_n (lv' := [(1, .int ((0 : Int32))), (0, .ref (a 0))]) hx hb dX0_init_97 rfl hl (by decide) rfl (fun ls hl => ?_)
  exact w_K0_init_98 C hr 3000 t ((0 : Int32)) _ _ _ hf hP hS (lv_sub hl [1, 0] rfl)
def Sz_0 (i : Nat) : fw_S := (fun _ => 0, fun _ => 0, fun k => if k = 1 then (fun j => if j < i then 3 else 0) else if k = 4 then (fun j => if j < i then (-5) else 0) else fun _ => 0, fun _ _ => 0)
def Pr_0 (t : fw_S) : Prop := t = Sz_0 32
theorem Sz_0_s (i : Nat) : (up_F (up_F (Sz_0 i) 1 (upd (st_F (Sz_0 i) 1) i 3)) 4 (upd (st_F (up_F (Sz_0 i) 1 (upd (st_F (Sz_0 i) 1) i 3)) 4) i (-5))) = Sz_0 (i + 1) := by
  have h1 : ∀ j : Nat, j < i + 1 ↔ (j = i ∨ j < i) := fun j => by omega
  simp only [up_F, st_F, Sz_0]
  refine Prod.ext rfl (Prod.ext rfl (Prod.ext (funext fun k => ?_) rfl))
  by_cases k1 : k = 1
  · subst k1; funext j; by_cases hj : j = i <;> simp [upd, h1, hj]
  by_cases k4 : k = 4
  · subst k4; funext j; by_cases hj : j = i <;> simp [upd, h1, hj]
  simp [k1, k4]
theorem Sz_0_0 : t0_0 = Sz_0 0 := by
  refine Prod.ext (funext fun k => ?_) (Prod.ext (funext fun k => ?_) (Prod.ext (funext fun k => ?_) (funext fun k => ?_)))
  · rfl
  · match k with
    | 0 | 1 => rfl
    | k + 2 => rfl
  · match k with
    | 0 | 2 | 3 | 5 | 6 => rfl
    | 1 => funext j; simp [t0_0, Sz_0]
    | 4 => funext j; simp [t0_0, Sz_0]
    | k + 7 => simp [t0_0, Sz_0]
  · match k with
    | 0 | 1 => rfl
    | k + 2 => rfl
theorem ex_0 : ∃ u, b_K0_init_96 t0_0 = some u ∧ Pr_0 u := by
  obtain ⟨⟨t, x⟩, h1, he⟩ := lp_up (fun n (x : fw_S × Int32) => b_K0_init_98 n x.1 x.2) (fun x => some x.1) (fun i x => x = (Sz_0 i, nI i)) 32
    (by
      rintro n i x hi rfl
      refine ⟨(Sz_0 (i + 1), nI (i + 1)), rfl, ?_⟩
      show b_K0_init_98 (n + 1) (Sz_0 i) (nI i) = b_K0_init_98 n _ (nI (i + 1))
      simp only [b_K0_init_98, b_K0_init_104, ni_c (N := 32) (c := 32) rfl hi (by decide), if_false, ni_cl (show i < 2 ^ 31 by omega), ni_n0 (show i < 2 ^ 31 by omega), Nat.not_le.mpr hi, or_self, not_false_eq_true, gb_gt, gb_l, ni_up]
      rw [Sz_0_s])
    (by
      rintro n x rfl
      rfl) 3000 0 (t0_0, 0) (by decide) (by decide) (by rw [Sz_0_0]; rfl)
  refine ⟨t, he, ?_⟩
  exact congrArg Prod.fst h1
set_option maxHeartbeats 4000000 in
set_option maxRecDepth 100000 in
theorem k_0 {l : Launch} {D : va_G} {ca : Nat → ClassId} : KC D ca l yX0_init (.code yX0_init prog_2_method_1_code 2 none :: lw_gd) rm_K0 0 [.null, .null, .null, .null, .null, .null, .null, .null, .null, .null, .long 0, .long 0] 10 1312 (WK0 ca) Pr_0 := by
  intro h0 sz
  refine fw_ofW (cc := prog_2_method_1_code) (maxL := 2) (ret := none) (by decide +kernel) rfl ?_
  intro p e s m args below meth c s₁ B hml hv
  obtain ⟨rfl, hsz, hP, hK, hO, hD0⟩ := hv
  have hx := B.exec
  have hb := B.bytes
  have hr := B.returns
  have hts0 := atoms_spec (ws := .code yX0_init prog_2_method_1_code 2 none :: lw_gd) B.pre
  have hts : ∀ q ∈ lw_gd, q.before _ s = true := fun q hq => hts0 q (List.mem_cons_of_mem _ hq)
  have hown : s.vm.findClass RX0 = some m.cls := findClass_of_methodNamed B.named
  have hlocks := B.notSynchronized
  have hin : meth.name = "<init>" := (name_of_methodNamed B.named B.method).1
  subst hsz
  have hD := hD0.self (sz := s.heap.size)
  generalize hAe : va_A [(h0, .inr (0, [.null, .null, .null, .null, .null, .null, .null, .null, .null, .null, .long 0, .long 0]))] s.heap.size = A at hD ⊢
  have hA : ∀ q : Nat, s.heap.size ≤ q → A q := fun q h => by rw [← hAe]; exact Or.inr h
  have hS : va_S A s.heap s.heap [] := va_S.rf
  have hP : va_P D classes [(h0, .inr (0, [.null, .null, .null, .null, .null, .null, .null, .null, .null, .null, .long 0, .long 0]))] s.heap := hP
  have hl := lv_entry ([.ref h0]) (n := 2) (Nat.le_of_ble_eq_true rfl)
  rw [lg_entry_eq]
  generalize (lg_sl ([.ref h0]) ++ List.replicate (2 - (lg_sl ([.ref h0])).length) Slot.unset).toArray = ls at hl ⊢
  have hl : lv_has ls 2 [(0, .ref h0)] := hl
  show W p l e rm_K0 s m #[Value.ref h0] below meth c s.heap [] 0 0 _ _
  refine lv_aload_n hx hb dX0_init_0 rfl (lv_at hl 0 rfl) ?_
  refine W.objInit hx hb hown (hts _ kw_184) (hts _ kw_114) (hts _ kw_115) rfl (by rw [hml]; exact hl.1) rfl dX0_init_1 (Nat.le_of_ble_eq_true rfl) (Nat.le_of_ble_eq_true rfl) ?_
  refine W.eq (g2 := F0 m 4 ls []) rfl ?_
  refine lv_aload_n hx hb dX0_init_4 rfl (lv_at hl 0 rfl) ?_
  refine lv_bipush (v := 32) hx hb dX0_init_5 (by decide) ?_
  refine fw_newa (atype := .int) (ty := .int) (a0 := (32, .inl (fun _ => 0))) (N' := 32) hx hb (hts _ kw_153) rfl hK hP hD hS hA (fun _ => rfl) (by decide) rfl (Nat.le_of_ble_eq_true rfl) (Nat.le_of_ble_eq_true rfl) (Nat.le_of_ble_eq_true rfl) dX0_init_7 0 rfl (fun _ h => h) (fun q1 H hP hD hS => ?_)
  have hP : va_P D classes [(h0, .inr (0, [.null, .null, .null, .null, .null, .null, .null, .null, .null, .null, .long 0, .long 0])), (q1, .inl (ca 0, 32, .inl (fun _ => 0)))] H := hP
  have hD : va_D A [(h0, .inr (0, [.null, .null, .null, .null, .null, .null, .null, .null, .null, .null, .long 0, .long 0])), (q1, .inl (ca 0, 32, .inl (fun _ => 0)))] := hD
  refine W.widen (k := 1) (n := 32) (Nat.le_of_ble_eq_true rfl) (Nat.le_of_ble_eq_true rfl) ?_
  refine va_putF (D := D) (ci := 0) (v := .ref q1) (ty := .array .int) (C := RX0) (T := TX0) (N := 12) hx hb hts inX0 tyX0 tyX0_ok nmX0 hown hK hP hD hS 0 rfl rfl 0 (by decide) (hts _ kw_187) (fun _ h9 => h9) rfl hin rfl (by decide +kernel) rfl rfl (Nat.le_of_ble_eq_true rfl) dX0_init_9 (fun H locs hP hD hS => ?_)
  have hP : va_P D classes [(h0, .inr (0, [.ref q1, .null, .null, .null, .null, .null, .null, .null, .null, .null, .long 0, .long 0])), (q1, .inl (ca 0, 32, .inl (fun _ => 0)))] H := hP
  have hD : va_D A [(h0, .inr (0, [.ref q1, .null, .null, .null, .null, .null, .null, .null, .null, .null, .long 0, .long 0])), (q1, .inl (ca 0, 32, .inl (fun _ => 0)))] := hD
  refine lv_aload_n hx hb dX0_init_12 rfl (lv_at hl 0 rfl) ?_
  refine lv_bipush (v := 32) hx hb dX0_init_13 (by decide) ?_
  refine fw_newa (atype := .long) (ty := .long) (a0 := (32, .inr (.inl (fun _ => 0)))) (N' := 32) hx hb (hts _ kw_224) rfl hK hP hD hS hA (fun _ => rfl) (by decide) rfl (Nat.le_of_ble_eq_true rfl) (Nat.le_of_ble_eq_true rfl) (Nat.le_of_ble_eq_true rfl) dX0_init_15 1 rfl (fun _ h => h) (fun q2 H hP hD hS => ?_)
  have hP : va_P D classes [(h0, .inr (0, [.ref q1, .null, .null, .null, .null, .null, .null, .null, .null, .null, .long 0, .long 0])), (q1, .inl (ca 0, 32, .inl (fun _ => 0))), (q2, .inl (ca 1, 32, .inr (.inl (fun _ => 0))))] H := hP
  have hD : va_D A [(h0, .inr (0, [.ref q1, .null, .null, .null, .null, .null, .null, .null, .null, .null, .long 0, .long 0])), (q1, .inl (ca 0, 32, .inl (fun _ => 0))), (q2, .inl (ca 1, 32, .inr (.inl (fun _ => 0))))] := hD
  refine W.widen (k := 2) (n := 64) (Nat.le_of_ble_eq_true rfl) (Nat.le_of_ble_eq_true rfl) ?_
  refine va_putF (D := D) (ci := 0) (v := .ref q2) (ty := .array .long) (C := RX0) (T := TX0) (N := 12) hx hb hts inX0 tyX0 tyX0_ok nmX0 hown hK hP hD hS 0 rfl rfl 1 (by decide) (hts _ kw_188) (fun _ h9 => h9) rfl hin rfl (by decide +kernel) rfl rfl (Nat.le_of_ble_eq_true rfl) dX0_init_17 (fun H locs hP hD hS => ?_)
  have hP : va_P D classes [(h0, .inr (0, [.ref q1, .ref q2, .null, .null, .null, .null, .null, .null, .null, .null, .long 0, .long 0])), (q1, .inl (ca 0, 32, .inl (fun _ => 0))), (q2, .inl (ca 1, 32, .inr (.inl (fun _ => 0))))] H := hP
  have hD : va_D A [(h0, .inr (0, [.ref q1, .ref q2, .null, .null, .null, .null, .null, .null, .null, .null, .long 0, .long 0])), (q1, .inl (ca 0, 32, .inl (fun _ => 0))), (q2, .inl (ca 1, 32, .inr (.inl (fun _ => 0))))] := hD
  refine lv_aload_n hx hb dX0_init_20 rfl (lv_at hl 0 rfl) ?_
  refine lv_bipush (v := 32) hx hb dX0_init_21 (by decide) ?_
  refine fw_newa (atype := .int) (ty := .int) (a0 := (32, .inl (fun _ => 0))) (N' := 32) hx hb (hts _ kw_153) rfl hK hP hD hS hA (fun _ => rfl) (by decide) rfl (Nat.le_of_ble_eq_true rfl) (Nat.le_of_ble_eq_true rfl) (Nat.le_of_ble_eq_true rfl) dX0_init_23 0 rfl (fun _ h => h) (fun q3 H hP hD hS => ?_)
  have hP : va_P D classes [(h0, .inr (0, [.ref q1, .ref q2, .null, .null, .null, .null, .null, .null, .null, .null, .long 0, .long 0])), (q1, .inl (ca 0, 32, .inl (fun _ => 0))), (q2, .inl (ca 1, 32, .inr (.inl (fun _ => 0)))), (q3, .inl (ca 0, 32, .inl (fun _ => 0)))] H := hP
  have hD : va_D A [(h0, .inr (0, [.ref q1, .ref q2, .null, .null, .null, .null, .null, .null, .null, .null, .long 0, .long 0])), (q1, .inl (ca 0, 32, .inl (fun _ => 0))), (q2, .inl (ca 1, 32, .inr (.inl (fun _ => 0)))), (q3, .inl (ca 0, 32, .inl (fun _ => 0)))] := hD
  refine W.widen (k := 3) (n := 96) (Nat.le_of_ble_eq_true rfl) (Nat.le_of_ble_eq_true rfl) ?_
  refine va_putF (D := D) (ci := 0) (v := .ref q3) (ty := .array .int) (C := RX0) (T := TX0) (N := 12) hx hb hts inX0 tyX0 tyX0_ok nmX0 hown hK hP hD hS 0 rfl rfl 2 (by decide) (hts _ kw_189) (fun _ h9 => h9) rfl hin rfl (by decide +kernel) rfl rfl (Nat.le_of_ble_eq_true rfl) dX0_init_25 (fun H locs hP hD hS => ?_)
  have hP : va_P D classes [(h0, .inr (0, [.ref q1, .ref q2, .ref q3, .null, .null, .null, .null, .null, .null, .null, .long 0, .long 0])), (q1, .inl (ca 0, 32, .inl (fun _ => 0))), (q2, .inl (ca 1, 32, .inr (.inl (fun _ => 0)))), (q3, .inl (ca 0, 32, .inl (fun _ => 0)))] H := hP
  have hD : va_D A [(h0, .inr (0, [.ref q1, .ref q2, .ref q3, .null, .null, .null, .null, .null, .null, .null, .long 0, .long 0])), (q1, .inl (ca 0, 32, .inl (fun _ => 0))), (q2, .inl (ca 1, 32, .inr (.inl (fun _ => 0)))), (q3, .inl (ca 0, 32, .inl (fun _ => 0)))] := hD
  refine lv_aload_n hx hb dX0_init_28 rfl (lv_at hl 0 rfl) ?_
  refine lv_bipush (v := 32) hx hb dX0_init_29 (by decide) ?_
  refine fw_newq (C := RX2) (N' := 32) hx hb hown (hts _ kw_185) hO.2 hK hP hD hS hA (by decide) rfl (Nat.le_of_ble_eq_true rfl) (Nat.le_of_ble_eq_true rfl) (Nat.le_of_ble_eq_true rfl) dX0_init_31 3 rfl (fun q4 H hP hD hS => ?_)
  have hP : va_P D classes [(h0, .inr (0, [.ref q1, .ref q2, .ref q3, .null, .null, .null, .null, .null, .null, .null, .long 0, .long 0])), (q1, .inl (ca 0, 32, .inl (fun _ => 0))), (q2, .inl (ca 1, 32, .inr (.inl (fun _ => 0)))), (q3, .inl (ca 0, 32, .inl (fun _ => 0))), (q4, .inl (ca 3, 32, .inr (.inr (.inr (.inr (fun _ => none))))))] H := hP
  have hD : va_D A [(h0, .inr (0, [.ref q1, .ref q2, .ref q3, .null, .null, .null, .null, .null, .null, .null, .long 0, .long 0])), (q1, .inl (ca 0, 32, .inl (fun _ => 0))), (q2, .inl (ca 1, 32, .inr (.inl (fun _ => 0)))), (q3, .inl (ca 0, 32, .inl (fun _ => 0))), (q4, .inl (ca 3, 32, .inr (.inr (.inr (.inr (fun _ => none))))))] := hD
  refine W.widen (k := 4) (n := 128) (Nat.le_of_ble_eq_true rfl) (Nat.le_of_ble_eq_true rfl) ?_
  refine va_putF (D := D) (ci := 0) (v := .ref q4) (ty := .array (.object "ReactiveSheet$Formula")) (C := RX0) (T := TX0) (N := 12) hx hb hts inX0 tyX0 tyX0_ok nmX0 hown hK hP hD hS 0 rfl rfl 3 (by decide) (hts _ kw_190) (fun _ h9 => h9) rfl hin rfl (by decide +kernel) rfl rfl (Nat.le_of_ble_eq_true rfl) dX0_init_34 (fun H locs hP hD hS => ?_)
  have hP : va_P D classes [(h0, .inr (0, [.ref q1, .ref q2, .ref q3, .ref q4, .null, .null, .null, .null, .null, .null, .long 0, .long 0])), (q1, .inl (ca 0, 32, .inl (fun _ => 0))), (q2, .inl (ca 1, 32, .inr (.inl (fun _ => 0)))), (q3, .inl (ca 0, 32, .inl (fun _ => 0))), (q4, .inl (ca 3, 32, .inr (.inr (.inr (.inr (fun _ => none))))))] H := hP
  have hD : va_D A [(h0, .inr (0, [.ref q1, .ref q2, .ref q3, .ref q4, .null, .null, .null, .null, .null, .null, .long 0, .long 0])), (q1, .inl (ca 0, 32, .inl (fun _ => 0))), (q2, .inl (ca 1, 32, .inr (.inl (fun _ => 0)))), (q3, .inl (ca 0, 32, .inl (fun _ => 0))), (q4, .inl (ca 3, 32, .inr (.inr (.inr (.inr (fun _ => none))))))] := hD
  refine lv_aload_n hx hb dX0_init_37 rfl (lv_at hl 0 rfl) ?_
  refine lv_bipush (v := 32) hx hb dX0_init_38 (by decide) ?_
  refine fw_newa (atype := .int) (ty := .int) (a0 := (32, .inl (fun _ => 0))) (N' := 32) hx hb (hts _ kw_153) rfl hK hP hD hS hA (fun _ => rfl) (by decide) rfl (Nat.le_of_ble_eq_true rfl) (Nat.le_of_ble_eq_true rfl) (Nat.le_of_ble_eq_true rfl) dX0_init_40 0 rfl (fun _ h => h) (fun q5 H hP hD hS => ?_)
  have hP : va_P D classes [(h0, .inr (0, [.ref q1, .ref q2, .ref q3, .ref q4, .null, .null, .null, .null, .null, .null, .long 0, .long 0])), (q1, .inl (ca 0, 32, .inl (fun _ => 0))), (q2, .inl (ca 1, 32, .inr (.inl (fun _ => 0)))), (q3, .inl (ca 0, 32, .inl (fun _ => 0))), (q4, .inl (ca 3, 32, .inr (.inr (.inr (.inr (fun _ => none)))))), (q5, .inl (ca 0, 32, .inl (fun _ => 0)))] H := hP
  have hD : va_D A [(h0, .inr (0, [.ref q1, .ref q2, .ref q3, .ref q4, .null, .null, .null, .null, .null, .null, .long 0, .long 0])), (q1, .inl (ca 0, 32, .inl (fun _ => 0))), (q2, .inl (ca 1, 32, .inr (.inl (fun _ => 0)))), (q3, .inl (ca 0, 32, .inl (fun _ => 0))), (q4, .inl (ca 3, 32, .inr (.inr (.inr (.inr (fun _ => none)))))), (q5, .inl (ca 0, 32, .inl (fun _ => 0)))] := hD
  refine W.widen (k := 5) (n := 160) (Nat.le_of_ble_eq_true rfl) (Nat.le_of_ble_eq_true rfl) ?_
  refine va_putF (D := D) (ci := 0) (v := .ref q5) (ty := .array .int) (C := RX0) (T := TX0) (N := 12) hx hb hts inX0 tyX0 tyX0_ok nmX0 hown hK hP hD hS 0 rfl rfl 4 (by decide) (hts _ kw_191) (fun _ h9 => h9) rfl hin rfl (by decide +kernel) rfl rfl (Nat.le_of_ble_eq_true rfl) dX0_init_42 (fun H locs hP hD hS => ?_)
  have hP : va_P D classes [(h0, .inr (0, [.ref q1, .ref q2, .ref q3, .ref q4, .ref q5, .null, .null, .null, .null, .null, .long 0, .long 0])), (q1, .inl (ca 0, 32, .inl (fun _ => 0))), (q2, .inl (ca 1, 32, .inr (.inl (fun _ => 0)))), (q3, .inl (ca 0, 32, .inl (fun _ => 0))), (q4, .inl (ca 3, 32, .inr (.inr (.inr (.inr (fun _ => none)))))), (q5, .inl (ca 0, 32, .inl (fun _ => 0)))] H := hP
  have hD : va_D A [(h0, .inr (0, [.ref q1, .ref q2, .ref q3, .ref q4, .ref q5, .null, .null, .null, .null, .null, .long 0, .long 0])), (q1, .inl (ca 0, 32, .inl (fun _ => 0))), (q2, .inl (ca 1, 32, .inr (.inl (fun _ => 0)))), (q3, .inl (ca 0, 32, .inl (fun _ => 0))), (q4, .inl (ca 3, 32, .inr (.inr (.inr (.inr (fun _ => none)))))), (q5, .inl (ca 0, 32, .inl (fun _ => 0)))] := hD
  refine lv_aload_n hx hb dX0_init_45 rfl (lv_at hl 0 rfl) ?_
  refine lv_bipush (v := 32) hx hb dX0_init_46 (by decide) ?_
  refine fw_newa (atype := .int) (ty := .int) (a0 := (32, .inl (fun _ => 0))) (N' := 32) hx hb (hts _ kw_153) rfl hK hP hD hS hA (fun _ => rfl) (by decide) rfl (Nat.le_of_ble_eq_true rfl) (Nat.le_of_ble_eq_true rfl) (Nat.le_of_ble_eq_true rfl) dX0_init_48 0 rfl (fun _ h => h) (fun q6 H hP hD hS => ?_)
  have hP : va_P D classes [(h0, .inr (0, [.ref q1, .ref q2, .ref q3, .ref q4, .ref q5, .null, .null, .null, .null, .null, .long 0, .long 0])), (q1, .inl (ca 0, 32, .inl (fun _ => 0))), (q2, .inl (ca 1, 32, .inr (.inl (fun _ => 0)))), (q3, .inl (ca 0, 32, .inl (fun _ => 0))), (q4, .inl (ca 3, 32, .inr (.inr (.inr (.inr (fun _ => none)))))), (q5, .inl (ca 0, 32, .inl (fun _ => 0))), (q6, .inl (ca 0, 32, .inl (fun _ => 0)))] H := hP
  have hD : va_D A [(h0, .inr (0, [.ref q1, .ref q2, .ref q3, .ref q4, .ref q5, .null, .null, .null, .null, .null, .long 0, .long 0])), (q1, .inl (ca 0, 32, .inl (fun _ => 0))), (q2, .inl (ca 1, 32, .inr (.inl (fun _ => 0)))), (q3, .inl (ca 0, 32, .inl (fun _ => 0))), (q4, .inl (ca 3, 32, .inr (.inr (.inr (.inr (fun _ => none)))))), (q5, .inl (ca 0, 32, .inl (fun _ => 0))), (q6, .inl (ca 0, 32, .inl (fun _ => 0)))] := hD
  refine W.widen (k := 6) (n := 192) (Nat.le_of_ble_eq_true rfl) (Nat.le_of_ble_eq_true rfl) ?_
  refine va_putF (D := D) (ci := 0) (v := .ref q6) (ty := .array .int) (C := RX0) (T := TX0) (N := 12) hx hb hts inX0 tyX0 tyX0_ok nmX0 hown hK hP hD hS 0 rfl rfl 5 (by decide) (hts _ kw_192) (fun _ h9 => h9) rfl hin rfl (by decide +kernel) rfl rfl (Nat.le_of_ble_eq_true rfl) dX0_init_50 (fun H locs hP hD hS => ?_)
  have hP : va_P D classes [(h0, .inr (0, [.ref q1, .ref q2, .ref q3, .ref q4, .ref q5, .ref q6, .null, .null, .null, .null, .long 0, .long 0])), (q1, .inl (ca 0, 32, .inl (fun _ => 0))), (q2, .inl (ca 1, 32, .inr (.inl (fun _ => 0)))), (q3, .inl (ca 0, 32, .inl (fun _ => 0))), (q4, .inl (ca 3, 32, .inr (.inr (.inr (.inr (fun _ => none)))))), (q5, .inl (ca 0, 32, .inl (fun _ => 0))), (q6, .inl (ca 0, 32, .inl (fun _ => 0)))] H := hP
  have hD : va_D A [(h0, .inr (0, [.ref q1, .ref q2, .ref q3, .ref q4, .ref q5, .ref q6, .null, .null, .null, .null, .long 0, .long 0])), (q1, .inl (ca 0, 32, .inl (fun _ => 0))), (q2, .inl (ca 1, 32, .inr (.inl (fun _ => 0)))), (q3, .inl (ca 0, 32, .inl (fun _ => 0))), (q4, .inl (ca 3, 32, .inr (.inr (.inr (.inr (fun _ => none)))))), (q5, .inl (ca 0, 32, .inl (fun _ => 0))), (q6, .inl (ca 0, 32, .inl (fun _ => 0)))] := hD
  refine lv_aload_n hx hb dX0_init_53 rfl (lv_at hl 0 rfl) ?_
  refine lv_bipush (v := 32) hx hb dX0_init_54 (by decide) ?_
  refine fw_newa (atype := .int) (ty := .int) (a0 := (32, .inl (fun _ => 0))) (N' := 32) hx hb (hts _ kw_153) rfl hK hP hD hS hA (fun _ => rfl) (by decide) rfl (Nat.le_of_ble_eq_true rfl) (Nat.le_of_ble_eq_true rfl) (Nat.le_of_ble_eq_true rfl) dX0_init_56 0 rfl (fun _ h => h) (fun q7 H hP hD hS => ?_)
  have hP : va_P D classes [(h0, .inr (0, [.ref q1, .ref q2, .ref q3, .ref q4, .ref q5, .ref q6, .null, .null, .null, .null, .long 0, .long 0])), (q1, .inl (ca 0, 32, .inl (fun _ => 0))), (q2, .inl (ca 1, 32, .inr (.inl (fun _ => 0)))), (q3, .inl (ca 0, 32, .inl (fun _ => 0))), (q4, .inl (ca 3, 32, .inr (.inr (.inr (.inr (fun _ => none)))))), (q5, .inl (ca 0, 32, .inl (fun _ => 0))), (q6, .inl (ca 0, 32, .inl (fun _ => 0))), (q7, .inl (ca 0, 32, .inl (fun _ => 0)))] H := hP
  have hD : va_D A [(h0, .inr (0, [.ref q1, .ref q2, .ref q3, .ref q4, .ref q5, .ref q6, .null, .null, .null, .null, .long 0, .long 0])), (q1, .inl (ca 0, 32, .inl (fun _ => 0))), (q2, .inl (ca 1, 32, .inr (.inl (fun _ => 0)))), (q3, .inl (ca 0, 32, .inl (fun _ => 0))), (q4, .inl (ca 3, 32, .inr (.inr (.inr (.inr (fun _ => none)))))), (q5, .inl (ca 0, 32, .inl (fun _ => 0))), (q6, .inl (ca 0, 32, .inl (fun _ => 0))), (q7, .inl (ca 0, 32, .inl (fun _ => 0)))] := hD
  refine W.widen (k := 7) (n := 224) (Nat.le_of_ble_eq_true rfl) (Nat.le_of_ble_eq_true rfl) ?_
  refine va_putF (D := D) (ci := 0) (v := .ref q7) (ty := .array .int) (C := RX0) (T := TX0) (N := 12) hx hb hts inX0 tyX0 tyX0_ok nmX0 hown hK hP hD hS 0 rfl rfl 6 (by decide) (hts _ kw_193) (fun _ h9 => h9) rfl hin rfl (by decide +kernel) rfl rfl (Nat.le_of_ble_eq_true rfl) dX0_init_58 (fun H locs hP hD hS => ?_)
  have hP : va_P D classes [(h0, .inr (0, [.ref q1, .ref q2, .ref q3, .ref q4, .ref q5, .ref q6, .ref q7, .null, .null, .null, .long 0, .long 0])), (q1, .inl (ca 0, 32, .inl (fun _ => 0))), (q2, .inl (ca 1, 32, .inr (.inl (fun _ => 0)))), (q3, .inl (ca 0, 32, .inl (fun _ => 0))), (q4, .inl (ca 3, 32, .inr (.inr (.inr (.inr (fun _ => none)))))), (q5, .inl (ca 0, 32, .inl (fun _ => 0))), (q6, .inl (ca 0, 32, .inl (fun _ => 0))), (q7, .inl (ca 0, 32, .inl (fun _ => 0)))] H := hP
  have hD : va_D A [(h0, .inr (0, [.ref q1, .ref q2, .ref q3, .ref q4, .ref q5, .ref q6, .ref q7, .null, .null, .null, .long 0, .long 0])), (q1, .inl (ca 0, 32, .inl (fun _ => 0))), (q2, .inl (ca 1, 32, .inr (.inl (fun _ => 0)))), (q3, .inl (ca 0, 32, .inl (fun _ => 0))), (q4, .inl (ca 3, 32, .inr (.inr (.inr (.inr (fun _ => none)))))), (q5, .inl (ca 0, 32, .inl (fun _ => 0))), (q6, .inl (ca 0, 32, .inl (fun _ => 0))), (q7, .inl (ca 0, 32, .inl (fun _ => 0)))] := hD
  refine lv_aload_n hx hb dX0_init_61 rfl (lv_at hl 0 rfl) ?_
  refine lv_sipush (v := 1024) hx hb dX0_init_62 (by decide) ?_
  refine fw_newa (atype := .int) (ty := .int) (a0 := (1024, .inl (fun _ => 0))) (N' := 1024) hx hb (hts _ kw_153) rfl hK hP hD hS hA (fun _ => rfl) (by decide) rfl (Nat.le_of_ble_eq_true rfl) (Nat.le_of_ble_eq_true rfl) (Nat.le_of_ble_eq_true rfl) dX0_init_65 0 rfl (fun _ h => h) (fun q8 H hP hD hS => ?_)
  have hP : va_P D classes [(h0, .inr (0, [.ref q1, .ref q2, .ref q3, .ref q4, .ref q5, .ref q6, .ref q7, .null, .null, .null, .long 0, .long 0])), (q1, .inl (ca 0, 32, .inl (fun _ => 0))), (q2, .inl (ca 1, 32, .inr (.inl (fun _ => 0)))), (q3, .inl (ca 0, 32, .inl (fun _ => 0))), (q4, .inl (ca 3, 32, .inr (.inr (.inr (.inr (fun _ => none)))))), (q5, .inl (ca 0, 32, .inl (fun _ => 0))), (q6, .inl (ca 0, 32, .inl (fun _ => 0))), (q7, .inl (ca 0, 32, .inl (fun _ => 0))), (q8, .inl (ca 0, 1024, .inl (fun _ => 0)))] H := hP
  have hD : va_D A [(h0, .inr (0, [.ref q1, .ref q2, .ref q3, .ref q4, .ref q5, .ref q6, .ref q7, .null, .null, .null, .long 0, .long 0])), (q1, .inl (ca 0, 32, .inl (fun _ => 0))), (q2, .inl (ca 1, 32, .inr (.inl (fun _ => 0)))), (q3, .inl (ca 0, 32, .inl (fun _ => 0))), (q4, .inl (ca 3, 32, .inr (.inr (.inr (.inr (fun _ => none)))))), (q5, .inl (ca 0, 32, .inl (fun _ => 0))), (q6, .inl (ca 0, 32, .inl (fun _ => 0))), (q7, .inl (ca 0, 32, .inl (fun _ => 0))), (q8, .inl (ca 0, 1024, .inl (fun _ => 0)))] := hD
  refine W.widen (k := 8) (n := 1248) (Nat.le_of_ble_eq_true rfl) (Nat.le_of_ble_eq_true rfl) ?_
  refine va_putF (D := D) (ci := 0) (v := .ref q8) (ty := .array .int) (C := RX0) (T := TX0) (N := 12) hx hb hts inX0 tyX0 tyX0_ok nmX0 hown hK hP hD hS 0 rfl rfl 7 (by decide) (hts _ kw_194) (fun _ h9 => h9) rfl hin rfl (by decide +kernel) rfl rfl (Nat.le_of_ble_eq_true rfl) dX0_init_67 (fun H locs hP hD hS => ?_)
  have hP : va_P D classes [(h0, .inr (0, [.ref q1, .ref q2, .ref q3, .ref q4, .ref q5, .ref q6, .ref q7, .ref q8, .null, .null, .long 0, .long 0])), (q1, .inl (ca 0, 32, .inl (fun _ => 0))), (q2, .inl (ca 1, 32, .inr (.inl (fun _ => 0)))), (q3, .inl (ca 0, 32, .inl (fun _ => 0))), (q4, .inl (ca 3, 32, .inr (.inr (.inr (.inr (fun _ => none)))))), (q5, .inl (ca 0, 32, .inl (fun _ => 0))), (q6, .inl (ca 0, 32, .inl (fun _ => 0))), (q7, .inl (ca 0, 32, .inl (fun _ => 0))), (q8, .inl (ca 0, 1024, .inl (fun _ => 0)))] H := hP
  have hD : va_D A [(h0, .inr (0, [.ref q1, .ref q2, .ref q3, .ref q4, .ref q5, .ref q6, .ref q7, .ref q8, .null, .null, .long 0, .long 0])), (q1, .inl (ca 0, 32, .inl (fun _ => 0))), (q2, .inl (ca 1, 32, .inr (.inl (fun _ => 0)))), (q3, .inl (ca 0, 32, .inl (fun _ => 0))), (q4, .inl (ca 3, 32, .inr (.inr (.inr (.inr (fun _ => none)))))), (q5, .inl (ca 0, 32, .inl (fun _ => 0))), (q6, .inl (ca 0, 32, .inl (fun _ => 0))), (q7, .inl (ca 0, 32, .inl (fun _ => 0))), (q8, .inl (ca 0, 1024, .inl (fun _ => 0)))] := hD
  refine lv_aload_n hx hb dX0_init_70 rfl (lv_at hl 0 rfl) ?_
  refine lv_bipush (v := 32) hx hb dX0_init_71 (by decide) ?_
  refine fw_newa (atype := .int) (ty := .int) (a0 := (32, .inl (fun _ => 0))) (N' := 32) hx hb (hts _ kw_153) rfl hK hP hD hS hA (fun _ => rfl) (by decide) rfl (Nat.le_of_ble_eq_true rfl) (Nat.le_of_ble_eq_true rfl) (Nat.le_of_ble_eq_true rfl) dX0_init_73 0 rfl (fun _ h => h) (fun q9 H hP hD hS => ?_)
  have hP : va_P D classes [(h0, .inr (0, [.ref q1, .ref q2, .ref q3, .ref q4, .ref q5, .ref q6, .ref q7, .ref q8, .null, .null, .long 0, .long 0])), (q1, .inl (ca 0, 32, .inl (fun _ => 0))), (q2, .inl (ca 1, 32, .inr (.inl (fun _ => 0)))), (q3, .inl (ca 0, 32, .inl (fun _ => 0))), (q4, .inl (ca 3, 32, .inr (.inr (.inr (.inr (fun _ => none)))))), (q5, .inl (ca 0, 32, .inl (fun _ => 0))), (q6, .inl (ca 0, 32, .inl (fun _ => 0))), (q7, .inl (ca 0, 32, .inl (fun _ => 0))), (q8, .inl (ca 0, 1024, .inl (fun _ => 0))), (q9, .inl (ca 0, 32, .inl (fun _ => 0)))] H := hP
  have hD : va_D A [(h0, .inr (0, [.ref q1, .ref q2, .ref q3, .ref q4, .ref q5, .ref q6, .ref q7, .ref q8, .null, .null, .long 0, .long 0])), (q1, .inl (ca 0, 32, .inl (fun _ => 0))), (q2, .inl (ca 1, 32, .inr (.inl (fun _ => 0)))), (q3, .inl (ca 0, 32, .inl (fun _ => 0))), (q4, .inl (ca 3, 32, .inr (.inr (.inr (.inr (fun _ => none)))))), (q5, .inl (ca 0, 32, .inl (fun _ => 0))), (q6, .inl (ca 0, 32, .inl (fun _ => 0))), (q7, .inl (ca 0, 32, .inl (fun _ => 0))), (q8, .inl (ca 0, 1024, .inl (fun _ => 0))), (q9, .inl (ca 0, 32, .inl (fun _ => 0)))] := hD
  refine W.widen (k := 9) (n := 1280) (Nat.le_of_ble_eq_true rfl) (Nat.le_of_ble_eq_true rfl) ?_
  refine va_putF (D := D) (ci := 0) (v := .ref q9) (ty := .array .int) (C := RX0) (T := TX0) (N := 12) hx hb hts inX0 tyX0 tyX0_ok nmX0 hown hK hP hD hS 0 rfl rfl 8 (by decide) (hts _ kw_195) (fun _ h9 => h9) rfl hin rfl (by decide +kernel) rfl rfl (Nat.le_of_ble_eq_true rfl) dX0_init_75 (fun H locs hP hD hS => ?_)
  have hP : va_P D classes [(h0, .inr (0, [.ref q1, .ref q2, .ref q3, .ref q4, .ref q5, .ref q6, .ref q7, .ref q8, .ref q9, .null, .long 0, .long 0])), (q1, .inl (ca 0, 32, .inl (fun _ => 0))), (q2, .inl (ca 1, 32, .inr (.inl (fun _ => 0)))), (q3, .inl (ca 0, 32, .inl (fun _ => 0))), (q4, .inl (ca 3, 32, .inr (.inr (.inr (.inr (fun _ => none)))))), (q5, .inl (ca 0, 32, .inl (fun _ => 0))), (q6, .inl (ca 0, 32, .inl (fun _ => 0))), (q7, .inl (ca 0, 32, .inl (fun _ => 0))), (q8, .inl (ca 0, 1024, .inl (fun _ => 0))), (q9, .inl (ca 0, 32, .inl (fun _ => 0)))] H := hP
  have hD : va_D A [(h0, .inr (0, [.ref q1, .ref q2, .ref q3, .ref q4, .ref q5, .ref q6, .ref q7, .ref q8, .ref q9, .null, .long 0, .long 0])), (q1, .inl (ca 0, 32, .inl (fun _ => 0))), (q2, .inl (ca 1, 32, .inr (.inl (fun _ => 0)))), (q3, .inl (ca 0, 32, .inl (fun _ => 0))), (q4, .inl (ca 3, 32, .inr (.inr (.inr (.inr (fun _ => none)))))), (q5, .inl (ca 0, 32, .inl (fun _ => 0))), (q6, .inl (ca 0, 32, .inl (fun _ => 0))), (q7, .inl (ca 0, 32, .inl (fun _ => 0))), (q8, .inl (ca 0, 1024, .inl (fun _ => 0))), (q9, .inl (ca 0, 32, .inl (fun _ => 0)))] := hD
  refine lv_aload_n hx hb dX0_init_78 rfl (lv_at hl 0 rfl) ?_
  refine lv_bipush (v := 32) hx hb dX0_init_79 (by decide) ?_
  refine fw_newa (atype := .long) (ty := .long) (a0 := (32, .inr (.inl (fun _ => 0)))) (N' := 32) hx hb (hts _ kw_224) rfl hK hP hD hS hA (fun _ => rfl) (by decide) rfl (Nat.le_of_ble_eq_true rfl) (Nat.le_of_ble_eq_true rfl) (Nat.le_of_ble_eq_true rfl) dX0_init_81 1 rfl (fun _ h => h) (fun q10 H hP hD hS => ?_)
  have hP : va_P D classes [(h0, .inr (0, [.ref q1, .ref q2, .ref q3, .ref q4, .ref q5, .ref q6, .ref q7, .ref q8, .ref q9, .null, .long 0, .long 0])), (q1, .inl (ca 0, 32, .inl (fun _ => 0))), (q2, .inl (ca 1, 32, .inr (.inl (fun _ => 0)))), (q3, .inl (ca 0, 32, .inl (fun _ => 0))), (q4, .inl (ca 3, 32, .inr (.inr (.inr (.inr (fun _ => none)))))), (q5, .inl (ca 0, 32, .inl (fun _ => 0))), (q6, .inl (ca 0, 32, .inl (fun _ => 0))), (q7, .inl (ca 0, 32, .inl (fun _ => 0))), (q8, .inl (ca 0, 1024, .inl (fun _ => 0))), (q9, .inl (ca 0, 32, .inl (fun _ => 0))), (q10, .inl (ca 1, 32, .inr (.inl (fun _ => 0))))] H := hP
  have hD : va_D A [(h0, .inr (0, [.ref q1, .ref q2, .ref q3, .ref q4, .ref q5, .ref q6, .ref q7, .ref q8, .ref q9, .null, .long 0, .long 0])), (q1, .inl (ca 0, 32, .inl (fun _ => 0))), (q2, .inl (ca 1, 32, .inr (.inl (fun _ => 0)))), (q3, .inl (ca 0, 32, .inl (fun _ => 0))), (q4, .inl (ca 3, 32, .inr (.inr (.inr (.inr (fun _ => none)))))), (q5, .inl (ca 0, 32, .inl (fun _ => 0))), (q6, .inl (ca 0, 32, .inl (fun _ => 0))), (q7, .inl (ca 0, 32, .inl (fun _ => 0))), (q8, .inl (ca 0, 1024, .inl (fun _ => 0))), (q9, .inl (ca 0, 32, .inl (fun _ => 0))), (q10, .inl (ca 1, 32, .inr (.inl (fun _ => 0))))] := hD
  refine W.widen (k := 10) (n := 1312) (Nat.le_of_ble_eq_true rfl) (Nat.le_of_ble_eq_true rfl) ?_
  refine va_putF (D := D) (ci := 0) (v := .ref q10) (ty := .array .long) (C := RX0) (T := TX0) (N := 12) hx hb hts inX0 tyX0 tyX0_ok nmX0 hown hK hP hD hS 0 rfl rfl 9 (by decide) (hts _ kw_196) (fun _ h9 => h9) rfl hin rfl (by decide +kernel) rfl rfl (Nat.le_of_ble_eq_true rfl) dX0_init_83 (fun H locs hP hD hS => ?_)
  have hP : va_P D classes [(h0, .inr (0, [.ref q1, .ref q2, .ref q3, .ref q4, .ref q5, .ref q6, .ref q7, .ref q8, .ref q9, .ref q10, .long 0, .long 0])), (q1, .inl (ca 0, 32, .inl (fun _ => 0))), (q2, .inl (ca 1, 32, .inr (.inl (fun _ => 0)))), (q3, .inl (ca 0, 32, .inl (fun _ => 0))), (q4, .inl (ca 3, 32, .inr (.inr (.inr (.inr (fun _ => none)))))), (q5, .inl (ca 0, 32, .inl (fun _ => 0))), (q6, .inl (ca 0, 32, .inl (fun _ => 0))), (q7, .inl (ca 0, 32, .inl (fun _ => 0))), (q8, .inl (ca 0, 1024, .inl (fun _ => 0))), (q9, .inl (ca 0, 32, .inl (fun _ => 0))), (q10, .inl (ca 1, 32, .inr (.inl (fun _ => 0))))] H := hP
  have hD : va_D A [(h0, .inr (0, [.ref q1, .ref q2, .ref q3, .ref q4, .ref q5, .ref q6, .ref q7, .ref q8, .ref q9, .ref q10, .long 0, .long 0])), (q1, .inl (ca 0, 32, .inl (fun _ => 0))), (q2, .inl (ca 1, 32, .inr (.inl (fun _ => 0)))), (q3, .inl (ca 0, 32, .inl (fun _ => 0))), (q4, .inl (ca 3, 32, .inr (.inr (.inr (.inr (fun _ => none)))))), (q5, .inl (ca 0, 32, .inl (fun _ => 0))), (q6, .inl (ca 0, 32, .inl (fun _ => 0))), (q7, .inl (ca 0, 32, .inl (fun _ => 0))), (q8, .inl (ca 0, 1024, .inl (fun _ => 0))), (q9, .inl (ca 0, 32, .inl (fun _ => 0))), (q10, .inl (ca 1, 32, .inr (.inl (fun _ => 0))))] := hD
  refine lv_aload_n hx hb dX0_init_86 rfl (lv_at hl 0 rfl) ?_
  refine lv_lconst (v := 0) hx hb dX0_init_87 (by decide) ?_
  refine va_put (D := D) (ci := 0) (v := .long 0) (ty := .long) (C := RX0) (T := TX0) (N := 12) hx hb hts inX0 tyX0 tyX0_ok nmX0 hown hK hP hD hS 0 rfl rfl 10 (by decide) (hts _ kw_197) (fun _ h9 => h9) rfl (by decide +kernel) rfl rfl (Nat.le_of_ble_eq_true rfl) dX0_init_88 (fun H locs hP hD hS => ?_)
  have hP : va_P D classes [(h0, .inr (0, [.ref q1, .ref q2, .ref q3, .ref q4, .ref q5, .ref q6, .ref q7, .ref q8, .ref q9, .ref q10, .long 0, .long 0])), (q1, .inl (ca 0, 32, .inl (fun _ => 0))), (q2, .inl (ca 1, 32, .inr (.inl (fun _ => 0)))), (q3, .inl (ca 0, 32, .inl (fun _ => 0))), (q4, .inl (ca 3, 32, .inr (.inr (.inr (.inr (fun _ => none)))))), (q5, .inl (ca 0, 32, .inl (fun _ => 0))), (q6, .inl (ca 0, 32, .inl (fun _ => 0))), (q7, .inl (ca 0, 32, .inl (fun _ => 0))), (q8, .inl (ca 0, 1024, .inl (fun _ => 0))), (q9, .inl (ca 0, 32, .inl (fun _ => 0))), (q10, .inl (ca 1, 32, .inr (.inl (fun _ => 0))))] H := hP
  have hD : va_D A [(h0, .inr (0, [.ref q1, .ref q2, .ref q3, .ref q4, .ref q5, .ref q6, .ref q7, .ref q8, .ref q9, .ref q10, .long 0, .long 0])), (q1, .inl (ca 0, 32, .inl (fun _ => 0))), (q2, .inl (ca 1, 32, .inr (.inl (fun _ => 0)))), (q3, .inl (ca 0, 32, .inl (fun _ => 0))), (q4, .inl (ca 3, 32, .inr (.inr (.inr (.inr (fun _ => none)))))), (q5, .inl (ca 0, 32, .inl (fun _ => 0))), (q6, .inl (ca 0, 32, .inl (fun _ => 0))), (q7, .inl (ca 0, 32, .inl (fun _ => 0))), (q8, .inl (ca 0, 1024, .inl (fun _ => 0))), (q9, .inl (ca 0, 32, .inl (fun _ => 0))), (q10, .inl (ca 1, 32, .inr (.inl (fun _ => 0))))] := hD
  refine lv_aload_n hx hb dX0_init_91 rfl (lv_at hl 0 rfl) ?_
  refine lv_lconst (v := 0) hx hb dX0_init_92 (by decide) ?_
  refine va_put (D := D) (ci := 0) (v := .long 0) (ty := .long) (C := RX0) (T := TX0) (N := 12) hx hb hts inX0 tyX0 tyX0_ok nmX0 hown hK hP hD hS 0 rfl rfl 11 (by decide) (hts _ kw_198) (fun _ h9 => h9) rfl (by decide +kernel) rfl rfl (Nat.le_of_ble_eq_true rfl) dX0_init_93 (fun H locs hP hD hS => ?_)
  have hP : va_P D classes [(h0, .inr (0, [.ref q1, .ref q2, .ref q3, .ref q4, .ref q5, .ref q6, .ref q7, .ref q8, .ref q9, .ref q10, .long 0, .long 0])), (q1, .inl (ca 0, 32, .inl (fun _ => 0))), (q2, .inl (ca 1, 32, .inr (.inl (fun _ => 0)))), (q3, .inl (ca 0, 32, .inl (fun _ => 0))), (q4, .inl (ca 3, 32, .inr (.inr (.inr (.inr (fun _ => none)))))), (q5, .inl (ca 0, 32, .inl (fun _ => 0))), (q6, .inl (ca 0, 32, .inl (fun _ => 0))), (q7, .inl (ca 0, 32, .inl (fun _ => 0))), (q8, .inl (ca 0, 1024, .inl (fun _ => 0))), (q9, .inl (ca 0, 32, .inl (fun _ => 0))), (q10, .inl (ca 1, 32, .inr (.inl (fun _ => 0))))] H := hP
  have hD : va_D A [(h0, .inr (0, [.ref q1, .ref q2, .ref q3, .ref q4, .ref q5, .ref q6, .ref q7, .ref q8, .ref q9, .ref q10, .long 0, .long 0])), (q1, .inl (ca 0, 32, .inl (fun _ => 0))), (q2, .inl (ca 1, 32, .inr (.inl (fun _ => 0)))), (q3, .inl (ca 0, 32, .inl (fun _ => 0))), (q4, .inl (ca 3, 32, .inr (.inr (.inr (.inr (fun _ => none)))))), (q5, .inl (ca 0, 32, .inl (fun _ => 0))), (q6, .inl (ca 0, 32, .inl (fun _ => 0))), (q7, .inl (ca 0, 32, .inl (fun _ => 0))), (q8, .inl (ca 0, 1024, .inl (fun _ => 0))), (q9, .inl (ca 0, 32, .inl (fun _ => 0))), (q10, .inl (ca 1, 32, .inr (.inl (fun _ => 0))))] := hD
  have hP9 : va_P D classes (WK0 ca (fun k => ([h0, q1, q2, q3, q4, q5, q6, q7, q8, q9, q10] : List Nat).getD k 0) (t0_0)) H := hP.sub [0, 1, 2, 3, 4, 5, 6, 7, 8, 9, 10] rfl
  have hD9 : va_D A (WK0 ca (fun k => ([h0, q1, q2, q3, q4, q5, q6, q7, q8, q9, q10] : List Nat).getD k 0) (t0_0)) := hD.sub [0, 1, 2, 3, 4, 5, 6, 7, 8, 9, 10] (by decide) rfl
  obtain ⟨u, hu, hPr⟩ := ex_0
  refine w_K0_init_96 (a := (fun k => ([h0, q1, q2, q3, q4, q5, q6, q7, q8, q9, q10] : List Nat).getD k 0)) (u := u) ⟨hx, hb, hml, hown, hts, hO.1, hK, fun x => fw_D (okK0 ca (fun k => ([h0, q1, q2, q3, q4, q5, q6, q7, q8, q9, q10] : List Nat).getD k 0) (t0_0) x) hD9, hA⟩ (fun _ H locs pc ls hP hS hdg => W.vret hx hb hr (fun z hz hW => ⟨⟨rfl, (fun k => ([h0, q1, q2, q3, q4, q5, q6, q7, q8, q9, q10] : List Nat).getD k 0), u, rfl, hPr, by rw [hz]; exact hP, fw_D (okK0 ca (fun k => ([h0, q1, q2, q3, q4, q5, q6, q7, q8, q9, q10] : List Nat).getD k 0) (t0_0) u) hD9⟩, hS.F hz⟩) hS.2.2 hdg hlocks) hu hP9 hS hl
theorem dX1_init_0 : decode prog_3_method_1_code 0 = .ok (.aload_n 0, 1) := by decide +kernel
theorem dX1_init_1 : decode prog_3_method_1_code 1 = .ok (.invokespecial 3, 3) := by decide +kernel
theorem dX1_init_4 : decode prog_3_method_1_code 4 = .ok (.aload_n 0, 1) := by decide +kernel
theorem dX1_init_5 : decode prog_3_method_1_code 5 = .ok (.new 9, 3) := by decide +kernel
theorem dX1_init_8 : decode prog_3_method_1_code 8 = .ok (.dup, 1) := by decide +kernel
theorem dX1_init_9 : decode prog_3_method_1_code 9 = .ok (.invokespecial 11, 3) := by decide +kernel
theorem dX1_init_12 : decode prog_3_method_1_code 12 = .ok (.putfield 12, 3) := by decide +kernel
theorem dX1_init_15 : decode prog_3_method_1_code 15 = .ok (.aload_n 0, 1) := by decide +kernel
theorem dX1_init_16 : decode prog_3_method_1_code 16 = .ok (.new 9, 3) := by decide +kernel
theorem dX1_init_19 : decode prog_3_method_1_code 19 = .ok (.dup, 1) := by decide +kernel
theorem dX1_init_20 : decode prog_3_method_1_code 20 = .ok (.invokespecial 11, 3) := by decide +kernel
theorem dX1_init_23 : decode prog_3_method_1_code 23 = .ok (.putfield 18, 3) := by decide +kernel
theorem dX1_init_26 : decode prog_3_method_1_code 26 = .ok (.aload_n 0, 1) := by decide +kernel
theorem dX1_init_27 : decode prog_3_method_1_code 27 = .ok (.sipush 5120, 3) := by decide +kernel
theorem dX1_init_30 : decode prog_3_method_1_code 30 = .ok (.newarray .long, 2) := by decide +kernel
theorem dX1_init_32 : decode prog_3_method_1_code 32 = .ok (.putfield 23, 3) := by decide +kernel
theorem dX1_init_35 : decode prog_3_method_1_code 35 = .ok (.aload_n 0, 1) := by decide +kernel
theorem dX1_init_36 : decode prog_3_method_1_code 36 = .ok (.lconst 0, 1) := by decide +kernel
theorem dX1_init_37 : decode prog_3_method_1_code 37 = .ok (.putfield 27, 3) := by decide +kernel
theorem dX1_init_40 : decode prog_3_method_1_code 40 = .ok (.aload_n 0, 1) := by decide +kernel
theorem dX1_init_41 : decode prog_3_method_1_code 41 = .ok (.lconst 0, 1) := by decide +kernel
theorem dX1_init_42 : decode prog_3_method_1_code 42 = .ok (.putfield 31, 3) := by decide +kernel
theorem dX1_init_45 : decode prog_3_method_1_code 45 = .ok (.aload_n 0, 1) := by decide +kernel
theorem dX1_init_46 : decode prog_3_method_1_code 46 = .ok (.lconst 0, 1) := by decide +kernel
theorem dX1_init_47 : decode prog_3_method_1_code 47 = .ok (.putfield 34, 3) := by decide +kernel
theorem dX1_init_50 : decode prog_3_method_1_code 50 = .ok (.aload_n 0, 1) := by decide +kernel
theorem dX1_init_51 : decode prog_3_method_1_code 51 = .ok (.iconst 0, 1) := by decide +kernel
theorem dX1_init_52 : decode prog_3_method_1_code 52 = .ok (.putfield 37, 3) := by decide +kernel
theorem dX1_init_55 : decode prog_3_method_1_code 55 = .ok (.aload_n 0, 1) := by decide +kernel
theorem dX1_init_56 : decode prog_3_method_1_code 56 = .ok (.lconst 0, 1) := by decide +kernel
theorem dX1_init_57 : decode prog_3_method_1_code 57 = .ok (.putfield 41, 3) := by decide +kernel
theorem dX1_init_60 : decode prog_3_method_1_code 60 = .ok (.return_, 1) := by decide +kernel
def foK1_0 (a : Nat → Nat) (t : fw_S) : List Value := [.ref (a 1), .ref (a 2), .ref (a 23), .long (st_J t 0), .long (st_J t 1), .long (st_J t 2), .int (st_I t 0), .long (st_J t 3)]
def foK1_1 (a : Nat → Nat) (t : fw_S) : List Value := [.ref (a 3), .ref (a 4), .ref (a 5), .ref (a 6), .ref (a 7), .ref (a 8), .ref (a 9), .ref (a 10), .ref (a 11), .ref (a 12), .long (st_J t 4), .long (st_J t 5)]
def foK1_2 (a : Nat → Nat) (t : fw_S) : List Value := [.ref (a 13), .ref (a 14), .ref (a 15), .ref (a 16), .ref (a 17), .ref (a 18), .ref (a 19), .ref (a 20), .ref (a 21), .ref (a 22), .long (st_J t 6), .long (st_J t 7)]
def WK1 (ca : Nat → ClassId) (a : Nat → Nat) (t : fw_S) : va_W := [(a 0, .inr (1, foK1_0 a t)), (a 1, .inr (0, foK1_1 a t)), (a 2, .inr (0, foK1_2 a t)), (a 3, .inl (ca 0, 32, .inl (st_F t 0))), (a 4, .inl (ca 1, 32, .inr (.inl (st_G t 0)))), (a 5, .inl (ca 0, 32, .inl (st_F t 1))), (a 6, .inl (ca 3, 32, .inr (.inr (.inr (.inr (fun _ => none)))))), (a 7, .inl (ca 0, 32, .inl (st_F t 2))), (a 8, .inl (ca 0, 32, .inl (st_F t 3))), (a 9, .inl (ca 0, 32, .inl (st_F t 4))), (a 10, .inl (ca 0, 1024, .inl (st_F t 5))), (a 11, .inl (ca 0, 32, .inl (st_F t 6))), (a 12, .inl (ca 1, 32, .inr (.inl (st_G t 1)))), (a 13, .inl (ca 0, 32, .inl (st_F t 7))), (a 14, .inl (ca 1, 32, .inr (.inl (st_G t 2)))), (a 15, .inl (ca 0, 32, .inl (st_F t 8))), (a 16, .inl (ca 3, 32, .inr (.inr (.inr (.inr (fun _ => none)))))), (a 17, .inl (ca 0, 32, .inl (st_F t 9))), (a 18, .inl (ca 0, 32, .inl (st_F t 10))), (a 19, .inl (ca 0, 32, .inl (st_F t 11))), (a 20, .inl (ca 0, 1024, .inl (st_F t 12))), (a 21, .inl (ca 0, 32, .inl (st_F t 13))), (a 22, .inl (ca 1, 32, .inr (.inl (st_G t 3)))), (a 23, .inl (ca 1, 5120, .inr (.inl (st_G t 4))))]
theorem okK1 (ca : Nat → ClassId) (a : Nat → Nat) : fw_ok (WK1 ca a) := fun t u => rfl
theorem heK1_0 (ca : Nat → ClassId) (a : Nat → Nat) (t : fw_S) : (WK1 ca a t)[0]? = some (a 0, .inr (1, foK1_0 a t)) := rfl
theorem suK1_0_3 {ca : Nat → ClassId} {a : Nat → Nat} {t : fw_S} {v : Int64} : (WK1 ca a t).set 0 (a 0, .inr (1, (foK1_0 a t).set 3 (.long v))) = WK1 ca a (up_J t 0 v) := rfl
theorem suK1_0_4 {ca : Nat → ClassId} {a : Nat → Nat} {t : fw_S} {v : Int64} : (WK1 ca a t).set 0 (a 0, .inr (1, (foK1_0 a t).set 4 (.long v))) = WK1 ca a (up_J t 1 v) := rfl
theorem suK1_0_5 {ca : Nat → ClassId} {a : Nat → Nat} {t : fw_S} {v : Int64} : (WK1 ca a t).set 0 (a 0, .inr (1, (foK1_0 a t).set 5 (.long v))) = WK1 ca a (up_J t 2 v) := rfl
theorem suK1_0_6 {ca : Nat → ClassId} {a : Nat → Nat} {t : fw_S} {v : Int32} : (WK1 ca a t).set 0 (a 0, .inr (1, (foK1_0 a t).set 6 (.int v))) = WK1 ca a (up_I t 0 v) := rfl
theorem suK1_0_7 {ca : Nat → ClassId} {a : Nat → Nat} {t : fw_S} {v : Int64} : (WK1 ca a t).set 0 (a 0, .inr (1, (foK1_0 a t).set 7 (.long v))) = WK1 ca a (up_J t 3 v) := rfl
theorem heK1_1 (ca : Nat → ClassId) (a : Nat → Nat) (t : fw_S) : (WK1 ca a t)[1]? = some (a 1, .inr (0, foK1_1 a t)) := rfl
theorem suK1_1_10 {ca : Nat → ClassId} {a : Nat → Nat} {t : fw_S} {v : Int64} : (WK1 ca a t).set 1 (a 1, .inr (0, (foK1_1 a t).set 10 (.long v))) = WK1 ca a (up_J t 4 v) := rfl
theorem suK1_1_11 {ca : Nat → ClassId} {a : Nat → Nat} {t : fw_S} {v : Int64} : (WK1 ca a t).set 1 (a 1, .inr (0, (foK1_1 a t).set 11 (.long v))) = WK1 ca a (up_J t 5 v) := rfl
theorem heK1_2 (ca : Nat → ClassId) (a : Nat → Nat) (t : fw_S) : (WK1 ca a t)[2]? = some (a 2, .inr (0, foK1_2 a t)) := rfl
theorem suK1_2_10 {ca : Nat → ClassId} {a : Nat → Nat} {t : fw_S} {v : Int64} : (WK1 ca a t).set 2 (a 2, .inr (0, (foK1_2 a t).set 10 (.long v))) = WK1 ca a (up_J t 6 v) := rfl
theorem suK1_2_11 {ca : Nat → ClassId} {a : Nat → Nat} {t : fw_S} {v : Int64} : (WK1 ca a t).set 2 (a 2, .inr (0, (foK1_2 a t).set 11 (.long v))) = WK1 ca a (up_J t 7 v) := rfl
theorem haK1_3 (ca : Nat → ClassId) (a : Nat → Nat) (t : fw_S) : (WK1 ca a t)[3]? = some (a 3, .inl (ca 0, 32, .inl (st_F t 0))) := rfl
theorem saK1_3 {ca : Nat → ClassId} {a : Nat → Nat} {t : fw_S} {f : Nat → Int32} : (WK1 ca a t).set 3 (a 3, .inl (ca 0, 32, .inl (f))) = WK1 ca a (up_F t 0 f) := rfl
theorem haK1_4 (ca : Nat → ClassId) (a : Nat → Nat) (t : fw_S) : (WK1 ca a t)[4]? = some (a 4, .inl (ca 1, 32, .inr (.inl (st_G t 0)))) := rfl
theorem saK1_4 {ca : Nat → ClassId} {a : Nat → Nat} {t : fw_S} {f : Nat → Int64} : (WK1 ca a t).set 4 (a 4, .inl (ca 1, 32, .inr (.inl (f)))) = WK1 ca a (up_G t 0 f) := rfl
theorem haK1_5 (ca : Nat → ClassId) (a : Nat → Nat) (t : fw_S) : (WK1 ca a t)[5]? = some (a 5, .inl (ca 0, 32, .inl (st_F t 1))) := rfl
theorem saK1_5 {ca : Nat → ClassId} {a : Nat → Nat} {t : fw_S} {f : Nat → Int32} : (WK1 ca a t).set 5 (a 5, .inl (ca 0, 32, .inl (f))) = WK1 ca a (up_F t 1 f) := rfl
theorem haK1_6 (ca : Nat → ClassId) (a : Nat → Nat) (t : fw_S) : (WK1 ca a t)[6]? = some (a 6, .inl (ca 3, 32, .inr (.inr (.inr (.inr (fun _ => none)))))) := rfl
theorem saK1_6 {ca : Nat → ClassId} {a : Nat → Nat} {t : fw_S} : (WK1 ca a t).set 6 (a 6, .inl (ca 3, 32, .inr (.inr (.inr (.inr (fun _ => none)))))) = WK1 ca a t := rfl
theorem haK1_7 (ca : Nat → ClassId) (a : Nat → Nat) (t : fw_S) : (WK1 ca a t)[7]? = some (a 7, .inl (ca 0, 32, .inl (st_F t 2))) := rfl
theorem saK1_7 {ca : Nat → ClassId} {a : Nat → Nat} {t : fw_S} {f : Nat → Int32} : (WK1 ca a t).set 7 (a 7, .inl (ca 0, 32, .inl (f))) = WK1 ca a (up_F t 2 f) := rfl
theorem haK1_8 (ca : Nat → ClassId) (a : Nat → Nat) (t : fw_S) : (WK1 ca a t)[8]? = some (a 8, .inl (ca 0, 32, .inl (st_F t 3))) := rfl
theorem saK1_8 {ca : Nat → ClassId} {a : Nat → Nat} {t : fw_S} {f : Nat → Int32} : (WK1 ca a t).set 8 (a 8, .inl (ca 0, 32, .inl (f))) = WK1 ca a (up_F t 3 f) := rfl
theorem haK1_9 (ca : Nat → ClassId) (a : Nat → Nat) (t : fw_S) : (WK1 ca a t)[9]? = some (a 9, .inl (ca 0, 32, .inl (st_F t 4))) := rfl
theorem saK1_9 {ca : Nat → ClassId} {a : Nat → Nat} {t : fw_S} {f : Nat → Int32} : (WK1 ca a t).set 9 (a 9, .inl (ca 0, 32, .inl (f))) = WK1 ca a (up_F t 4 f) := rfl
theorem haK1_10 (ca : Nat → ClassId) (a : Nat → Nat) (t : fw_S) : (WK1 ca a t)[10]? = some (a 10, .inl (ca 0, 1024, .inl (st_F t 5))) := rfl
theorem saK1_10 {ca : Nat → ClassId} {a : Nat → Nat} {t : fw_S} {f : Nat → Int32} : (WK1 ca a t).set 10 (a 10, .inl (ca 0, 1024, .inl (f))) = WK1 ca a (up_F t 5 f) := rfl
theorem haK1_11 (ca : Nat → ClassId) (a : Nat → Nat) (t : fw_S) : (WK1 ca a t)[11]? = some (a 11, .inl (ca 0, 32, .inl (st_F t 6))) := rfl
theorem saK1_11 {ca : Nat → ClassId} {a : Nat → Nat} {t : fw_S} {f : Nat → Int32} : (WK1 ca a t).set 11 (a 11, .inl (ca 0, 32, .inl (f))) = WK1 ca a (up_F t 6 f) := rfl
theorem haK1_12 (ca : Nat → ClassId) (a : Nat → Nat) (t : fw_S) : (WK1 ca a t)[12]? = some (a 12, .inl (ca 1, 32, .inr (.inl (st_G t 1)))) := rfl
theorem saK1_12 {ca : Nat → ClassId} {a : Nat → Nat} {t : fw_S} {f : Nat → Int64} : (WK1 ca a t).set 12 (a 12, .inl (ca 1, 32, .inr (.inl (f)))) = WK1 ca a (up_G t 1 f) := rfl
theorem haK1_13 (ca : Nat → ClassId) (a : Nat → Nat) (t : fw_S) : (WK1 ca a t)[13]? = some (a 13, .inl (ca 0, 32, .inl (st_F t 7))) := rfl
theorem saK1_13 {ca : Nat → ClassId} {a : Nat → Nat} {t : fw_S} {f : Nat → Int32} : (WK1 ca a t).set 13 (a 13, .inl (ca 0, 32, .inl (f))) = WK1 ca a (up_F t 7 f) := rfl
theorem haK1_14 (ca : Nat → ClassId) (a : Nat → Nat) (t : fw_S) : (WK1 ca a t)[14]? = some (a 14, .inl (ca 1, 32, .inr (.inl (st_G t 2)))) := rfl
theorem saK1_14 {ca : Nat → ClassId} {a : Nat → Nat} {t : fw_S} {f : Nat → Int64} : (WK1 ca a t).set 14 (a 14, .inl (ca 1, 32, .inr (.inl (f)))) = WK1 ca a (up_G t 2 f) := rfl
theorem haK1_15 (ca : Nat → ClassId) (a : Nat → Nat) (t : fw_S) : (WK1 ca a t)[15]? = some (a 15, .inl (ca 0, 32, .inl (st_F t 8))) := rfl
theorem saK1_15 {ca : Nat → ClassId} {a : Nat → Nat} {t : fw_S} {f : Nat → Int32} : (WK1 ca a t).set 15 (a 15, .inl (ca 0, 32, .inl (f))) = WK1 ca a (up_F t 8 f) := rfl
theorem haK1_16 (ca : Nat → ClassId) (a : Nat → Nat) (t : fw_S) : (WK1 ca a t)[16]? = some (a 16, .inl (ca 3, 32, .inr (.inr (.inr (.inr (fun _ => none)))))) := rfl
theorem saK1_16 {ca : Nat → ClassId} {a : Nat → Nat} {t : fw_S} : (WK1 ca a t).set 16 (a 16, .inl (ca 3, 32, .inr (.inr (.inr (.inr (fun _ => none)))))) = WK1 ca a t := rfl
theorem haK1_17 (ca : Nat → ClassId) (a : Nat → Nat) (t : fw_S) : (WK1 ca a t)[17]? = some (a 17, .inl (ca 0, 32, .inl (st_F t 9))) := rfl
theorem saK1_17 {ca : Nat → ClassId} {a : Nat → Nat} {t : fw_S} {f : Nat → Int32} : (WK1 ca a t).set 17 (a 17, .inl (ca 0, 32, .inl (f))) = WK1 ca a (up_F t 9 f) := rfl
theorem haK1_18 (ca : Nat → ClassId) (a : Nat → Nat) (t : fw_S) : (WK1 ca a t)[18]? = some (a 18, .inl (ca 0, 32, .inl (st_F t 10))) := rfl
theorem saK1_18 {ca : Nat → ClassId} {a : Nat → Nat} {t : fw_S} {f : Nat → Int32} : (WK1 ca a t).set 18 (a 18, .inl (ca 0, 32, .inl (f))) = WK1 ca a (up_F t 10 f) := rfl
theorem haK1_19 (ca : Nat → ClassId) (a : Nat → Nat) (t : fw_S) : (WK1 ca a t)[19]? = some (a 19, .inl (ca 0, 32, .inl (st_F t 11))) := rfl
theorem saK1_19 {ca : Nat → ClassId} {a : Nat → Nat} {t : fw_S} {f : Nat → Int32} : (WK1 ca a t).set 19 (a 19, .inl (ca 0, 32, .inl (f))) = WK1 ca a (up_F t 11 f) := rfl
theorem haK1_20 (ca : Nat → ClassId) (a : Nat → Nat) (t : fw_S) : (WK1 ca a t)[20]? = some (a 20, .inl (ca 0, 1024, .inl (st_F t 12))) := rfl
theorem saK1_20 {ca : Nat → ClassId} {a : Nat → Nat} {t : fw_S} {f : Nat → Int32} : (WK1 ca a t).set 20 (a 20, .inl (ca 0, 1024, .inl (f))) = WK1 ca a (up_F t 12 f) := rfl
theorem haK1_21 (ca : Nat → ClassId) (a : Nat → Nat) (t : fw_S) : (WK1 ca a t)[21]? = some (a 21, .inl (ca 0, 32, .inl (st_F t 13))) := rfl
theorem saK1_21 {ca : Nat → ClassId} {a : Nat → Nat} {t : fw_S} {f : Nat → Int32} : (WK1 ca a t).set 21 (a 21, .inl (ca 0, 32, .inl (f))) = WK1 ca a (up_F t 13 f) := rfl
theorem haK1_22 (ca : Nat → ClassId) (a : Nat → Nat) (t : fw_S) : (WK1 ca a t)[22]? = some (a 22, .inl (ca 1, 32, .inr (.inl (st_G t 3)))) := rfl
theorem saK1_22 {ca : Nat → ClassId} {a : Nat → Nat} {t : fw_S} {f : Nat → Int64} : (WK1 ca a t).set 22 (a 22, .inl (ca 1, 32, .inr (.inl (f)))) = WK1 ca a (up_G t 3 f) := rfl
theorem haK1_23 (ca : Nat → ClassId) (a : Nat → Nat) (t : fw_S) : (WK1 ca a t)[23]? = some (a 23, .inl (ca 1, 5120, .inr (.inl (st_G t 4)))) := rfl
theorem saK1_23 {ca : Nat → ClassId} {a : Nat → Nat} {t : fw_S} {f : Nat → Int64} : (WK1 ca a t).set 23 (a 23, .inl (ca 1, 5120, .inr (.inl (f)))) = WK1 ca a (up_G t 4 f) := rfl
def t0_1 (t1 : fw_S) (t2 : fw_S) : fw_S := (fun n => ([0] : List Int32).getD n 0, fun n => ([0, 0, 0, 0, st_J t1 0, st_J t1 1, st_J t2 0, st_J t2 1] : List Int64).getD n 0, fun n => ([st_F t1 0, st_F t1 1, st_F t1 2, st_F t1 3, st_F t1 4, st_F t1 5, st_F t1 6, st_F t2 0, st_F t2 1, st_F t2 2, st_F t2 3, st_F t2 4, st_F t2 5, st_F t2 6] : List (Nat → Int32)).getD n (fun _ => 0), fun n => ([st_G t1 0, st_G t1 1, st_G t2 0, st_G t2 1, (fun _ => 0)] : List (Nat → Int64)).getD n (fun _ => 0))
abbrev rm_K1 : Room := { frames := 2, cells := 23, slots := 7768, locals := 41 }
def Pr_1 (t : fw_S) : Prop := ∃ t1 t2 : fw_S, Pr_0 t1 ∧ Pr_0 t2 ∧ t = t0_1 t1 t2
set_option maxHeartbeats 4000000 in
set_option maxRecDepth 100000 in
theorem k_1 {l : Launch} {D : va_G} {ca : Nat → ClassId} : KC D ca l yX1_init (.code yX1_init prog_3_method_1_code 1 none :: lw_gd) rm_K1 1 [.null, .null, .null, .long 0, .long 0, .long 0, .int 0, .long 0] 23 7768 (WK1 ca) Pr_1 := by
  intro h0 sz
  refine fw_ofW (cc := prog_3_method_1_code) (maxL := 1) (ret := none) (by decide +kernel) rfl ?_
  intro p e s m args below meth c s₁ B hml hv
  obtain ⟨rfl, hsz, hP, hK, hO, hD0⟩ := hv
  have hx := B.exec
  have hb := B.bytes
  have hr := B.returns
  have hts0 := atoms_spec (ws := .code yX1_init prog_3_method_1_code 1 none :: lw_gd) B.pre
  have hts : ∀ q ∈ lw_gd, q.before _ s = true := fun q hq => hts0 q (List.mem_cons_of_mem _ hq)
  have hown : s.vm.findClass RX1 = some m.cls := findClass_of_methodNamed B.named
  have hlocks := B.notSynchronized
  have hin : meth.name = "<init>" := (name_of_methodNamed B.named B.method).1
  subst hsz
  have hD := hD0.self (sz := s.heap.size)
  generalize hAe : va_A [(h0, .inr (1, [.null, .null, .null, .long 0, .long 0, .long 0, .int 0, .long 0]))] s.heap.size = A at hD ⊢
  have hA : ∀ q : Nat, s.heap.size ≤ q → A q := fun q h => by rw [← hAe]; exact Or.inr h
  have hS : va_S A s.heap s.heap [] := va_S.rf
  have hP : va_P D classes [(h0, .inr (1, [.null, .null, .null, .long 0, .long 0, .long 0, .int 0, .long 0]))] s.heap := hP
  have hl := lv_entry ([.ref h0]) (n := 1) (Nat.le_of_ble_eq_true rfl)
  rw [lg_entry_eq]
  generalize (lg_sl ([.ref h0]) ++ List.replicate (1 - (lg_sl ([.ref h0])).length) Slot.unset).toArray = ls at hl ⊢
  have hl : lv_has ls 1 [(0, .ref h0)] := hl
  show W p l e rm_K1 s m #[Value.ref h0] below meth c s.heap [] 0 0 _ _
  refine lv_aload_n hx hb dX1_init_0 rfl (lv_at hl 0 rfl) ?_
  refine W.objInit hx hb hown (hts _ kw_178) (hts _ kw_114) (hts _ kw_115) rfl (by rw [hml]; exact hl.1) rfl dX1_init_1 (Nat.le_of_ble_eq_true rfl) (Nat.le_of_ble_eq_true rfl) ?_
  refine W.eq (g2 := F0 m 4 ls []) rfl ?_
  refine lv_aload_n hx hb dX1_init_4 rfl (lv_at hl 0 rfl) ?_
  refine va_new (ci := 0) (fs := [.null, .null, .null, .null, .null, .null, .null, .null, .null, .null, .long 0, .long 0]) (C := RX0) (T := TX0) (N := 12) hx hb hts inX0 tyX0 tyX0_ok hown (hts _ kw_179) (hts _ kw_180) (hts _ kw_96) hK hP hD hS hA rfl (by decide +kernel) (Nat.le_of_ble_eq_true rfl) (Nat.le_of_ble_eq_true rfl) dX1_init_5 (fun q1 H hP hD hS => ?_)
  have hP : va_P D classes [(h0, .inr (1, [.null, .null, .null, .long 0, .long 0, .long 0, .int 0, .long 0])), (q1, .inr (0, [.null, .null, .null, .null, .null, .null, .null, .null, .null, .null, .long 0, .long 0]))] H := hP
  have hD : va_D A [(h0, .inr (1, [.null, .null, .null, .long 0, .long 0, .long 0, .int 0, .long 0])), (q1, .inr (0, [.null, .null, .null, .null, .null, .null, .null, .null, .null, .null, .long 0, .long 0]))] := hD
  refine W.widen (k := 1) (n := 12) (Nat.le_of_ble_eq_true rfl) (Nat.le_of_ble_eq_true rfl) ?_
  refine lv_dup hx hb dX1_init_8 rfl ?_
  have hPc := hP.sub (ws' := [(q1, .inr (0, [.null, .null, .null, .null, .null, .null, .null, .null, .null, .null, .long 0, .long 0]))]) [1] rfl
  have hDc := hD.sub (ws' := [(q1, .inr (0, [.null, .null, .null, .null, .null, .null, .null, .null, .null, .null, .long 0, .long 0]))]) [1] (by decide) rfl
  have hFc := va_free (wc := [(q1, .inr (0, [.null, .null, .null, .null, .null, .null, .null, .null, .null, .null, .long 0, .long 0]))]) hD hS hA [1] rfl
  refine fw_K1 (rest := [.ref q1, .ref h0]) hx hb hml hown hts (k_0 (l := l) (D := D) (ca := ca)) kw_181 kw_182 kw_96 kw_183 hK hO hPc hDc hFc hS hl.1 rfl rfl (by decide) rfl (by decide +kernel) ⟨Nat.le_of_ble_eq_true rfl, Nat.le_of_ble_eq_true rfl⟩ (Nat.le_of_ble_eq_true rfl) dX1_init_9 (fun a1 t1 H1 locs ha1 hp1 hk1 hP1 hD1 hS => ?_)
  obtain ⟨hP, hD⟩ := va_join (wr := [(h0, .inr (1, [.null, .null, .null, .long 0, .long 0, .long 0, .int 0, .long 0]))]) (w1 := WK0 ca a1 t1) hP hD [1] [0] rfl rfl (by decide) (by decide) hk1 hFc hP1 hD1
  have hP : va_P D classes [(h0, .inr (1, [.null, .null, .null, .long 0, .long 0, .long 0, .int 0, .long 0])), (a1 0, .inr (0, [.ref (a1 1), .ref (a1 2), .ref (a1 3), .ref (a1 4), .ref (a1 5), .ref (a1 6), .ref (a1 7), .ref (a1 8), .ref (a1 9), .ref (a1 10), .long (st_J t1 0), .long (st_J t1 1)])), (a1 1, .inl (ca 0, 32, .inl (st_F t1 0))), (a1 2, .inl (ca 1, 32, .inr (.inl (st_G t1 0)))), (a1 3, .inl (ca 0, 32, .inl (st_F t1 1))), (a1 4, .inl (ca 3, 32, .inr (.inr (.inr (.inr (fun _ => none)))))), (a1 5, .inl (ca 0, 32, .inl (st_F t1 2))), (a1 6, .inl (ca 0, 32, .inl (st_F t1 3))), (a1 7, .inl (ca 0, 32, .inl (st_F t1 4))), (a1 8, .inl (ca 0, 1024, .inl (st_F t1 5))), (a1 9, .inl (ca 0, 32, .inl (st_F t1 6))), (a1 10, .inl (ca 1, 32, .inr (.inl (st_G t1 1))))] H1 := hP
  have hD : va_D A [(h0, .inr (1, [.null, .null, .null, .long 0, .long 0, .long 0, .int 0, .long 0])), (a1 0, .inr (0, [.ref (a1 1), .ref (a1 2), .ref (a1 3), .ref (a1 4), .ref (a1 5), .ref (a1 6), .ref (a1 7), .ref (a1 8), .ref (a1 9), .ref (a1 10), .long (st_J t1 0), .long (st_J t1 1)])), (a1 1, .inl (ca 0, 32, .inl (st_F t1 0))), (a1 2, .inl (ca 1, 32, .inr (.inl (st_G t1 0)))), (a1 3, .inl (ca 0, 32, .inl (st_F t1 1))), (a1 4, .inl (ca 3, 32, .inr (.inr (.inr (.inr (fun _ => none)))))), (a1 5, .inl (ca 0, 32, .inl (st_F t1 2))), (a1 6, .inl (ca 0, 32, .inl (st_F t1 3))), (a1 7, .inl (ca 0, 32, .inl (st_F t1 4))), (a1 8, .inl (ca 0, 1024, .inl (st_F t1 5))), (a1 9, .inl (ca 0, 32, .inl (st_F t1 6))), (a1 10, .inl (ca 1, 32, .inr (.inl (st_G t1 1))))] := hD
  generalize H1 = H at hP hS ⊢
  refine W.widen (k := 11) (n := 1324) (Nat.le_of_ble_eq_true rfl) (Nat.le_of_ble_eq_true rfl) ?_
  rw [← ha1]
  refine va_putF (D := D) (ci := 1) (v := .ref (a1 0)) (ty := .object "ReactiveSheet$Cells") (C := RX1) (T := TX1) (N := 8) hx hb hts inX1 tyX1 tyX1_ok nmX1 hown hK hP hD hS 0 rfl rfl 0 (by decide) (hts _ kw_225) (fun _ h9 => h9) rfl hin rfl (by decide +kernel) rfl rfl (Nat.le_of_ble_eq_true rfl) dX1_init_12 (fun H locs hP hD hS => ?_)
  have hP : va_P D classes [(h0, .inr (1, [.ref (a1 0), .null, .null, .long 0, .long 0, .long 0, .int 0, .long 0])), (a1 0, .inr (0, [.ref (a1 1), .ref (a1 2), .ref (a1 3), .ref (a1 4), .ref (a1 5), .ref (a1 6), .ref (a1 7), .ref (a1 8), .ref (a1 9), .ref (a1 10), .long (st_J t1 0), .long (st_J t1 1)])), (a1 1, .inl (ca 0, 32, .inl (st_F t1 0))), (a1 2, .inl (ca 1, 32, .inr (.inl (st_G t1 0)))), (a1 3, .inl (ca 0, 32, .inl (st_F t1 1))), (a1 4, .inl (ca 3, 32, .inr (.inr (.inr (.inr (fun _ => none)))))), (a1 5, .inl (ca 0, 32, .inl (st_F t1 2))), (a1 6, .inl (ca 0, 32, .inl (st_F t1 3))), (a1 7, .inl (ca 0, 32, .inl (st_F t1 4))), (a1 8, .inl (ca 0, 1024, .inl (st_F t1 5))), (a1 9, .inl (ca 0, 32, .inl (st_F t1 6))), (a1 10, .inl (ca 1, 32, .inr (.inl (st_G t1 1))))] H := hP
  have hD : va_D A [(h0, .inr (1, [.ref (a1 0), .null, .null, .long 0, .long 0, .long 0, .int 0, .long 0])), (a1 0, .inr (0, [.ref (a1 1), .ref (a1 2), .ref (a1 3), .ref (a1 4), .ref (a1 5), .ref (a1 6), .ref (a1 7), .ref (a1 8), .ref (a1 9), .ref (a1 10), .long (st_J t1 0), .long (st_J t1 1)])), (a1 1, .inl (ca 0, 32, .inl (st_F t1 0))), (a1 2, .inl (ca 1, 32, .inr (.inl (st_G t1 0)))), (a1 3, .inl (ca 0, 32, .inl (st_F t1 1))), (a1 4, .inl (ca 3, 32, .inr (.inr (.inr (.inr (fun _ => none)))))), (a1 5, .inl (ca 0, 32, .inl (st_F t1 2))), (a1 6, .inl (ca 0, 32, .inl (st_F t1 3))), (a1 7, .inl (ca 0, 32, .inl (st_F t1 4))), (a1 8, .inl (ca 0, 1024, .inl (st_F t1 5))), (a1 9, .inl (ca 0, 32, .inl (st_F t1 6))), (a1 10, .inl (ca 1, 32, .inr (.inl (st_G t1 1))))] := hD
  refine lv_aload_n hx hb dX1_init_15 rfl (lv_at hl 0 rfl) ?_
  refine va_new (ci := 0) (fs := [.null, .null, .null, .null, .null, .null, .null, .null, .null, .null, .long 0, .long 0]) (C := RX0) (T := TX0) (N := 12) hx hb hts inX0 tyX0 tyX0_ok hown (hts _ kw_179) (hts _ kw_180) (hts _ kw_96) hK hP hD hS hA rfl (by decide +kernel) (Nat.le_of_ble_eq_true rfl) (Nat.le_of_ble_eq_true rfl) dX1_init_16 (fun q12 H hP hD hS => ?_)
  have hP : va_P D classes [(h0, .inr (1, [.ref (a1 0), .null, .null, .long 0, .long 0, .long 0, .int 0, .long 0])), (a1 0, .inr (0, [.ref (a1 1), .ref (a1 2), .ref (a1 3), .ref (a1 4), .ref (a1 5), .ref (a1 6), .ref (a1 7), .ref (a1 8), .ref (a1 9), .ref (a1 10), .long (st_J t1 0), .long (st_J t1 1)])), (a1 1, .inl (ca 0, 32, .inl (st_F t1 0))), (a1 2, .inl (ca 1, 32, .inr (.inl (st_G t1 0)))), (a1 3, .inl (ca 0, 32, .inl (st_F t1 1))), (a1 4, .inl (ca 3, 32, .inr (.inr (.inr (.inr (fun _ => none)))))), (a1 5, .inl (ca 0, 32, .inl (st_F t1 2))), (a1 6, .inl (ca 0, 32, .inl (st_F t1 3))), (a1 7, .inl (ca 0, 32, .inl (st_F t1 4))), (a1 8, .inl (ca 0, 1024, .inl (st_F t1 5))), (a1 9, .inl (ca 0, 32, .inl (st_F t1 6))), (a1 10, .inl (ca 1, 32, .inr (.inl (st_G t1 1)))), (q12, .inr (0, [.null, .null, .null, .null, .null, .null, .null, .null, .null, .null, .long 0, .long 0]))] H := hP
  have hD : va_D A [(h0, .inr (1, [.ref (a1 0), .null, .null, .long 0, .long 0, .long 0, .int 0, .long 0])), (a1 0, .inr (0, [.ref (a1 1), .ref (a1 2), .ref (a1 3), .ref (a1 4), .ref (a1 5), .ref (a1 6), .ref (a1 7), .ref (a1 8), .ref (a1 9), .ref (a1 10), .long (st_J t1 0), .long (st_J t1 1)])), (a1 1, .inl (ca 0, 32, .inl (st_F t1 0))), (a1 2, .inl (ca 1, 32, .inr (.inl (st_G t1 0)))), (a1 3, .inl (ca 0, 32, .inl (st_F t1 1))), (a1 4, .inl (ca 3, 32, .inr (.inr (.inr (.inr (fun _ => none)))))), (a1 5, .inl (ca 0, 32, .inl (st_F t1 2))), (a1 6, .inl (ca 0, 32, .inl (st_F t1 3))), (a1 7, .inl (ca 0, 32, .inl (st_F t1 4))), (a1 8, .inl (ca 0, 1024, .inl (st_F t1 5))), (a1 9, .inl (ca 0, 32, .inl (st_F t1 6))), (a1 10, .inl (ca 1, 32, .inr (.inl (st_G t1 1)))), (q12, .inr (0, [.null, .null, .null, .null, .null, .null, .null, .null, .null, .null, .long 0, .long 0]))] := hD
  refine W.widen (k := 12) (n := 1336) (Nat.le_of_ble_eq_true rfl) (Nat.le_of_ble_eq_true rfl) ?_
  refine lv_dup hx hb dX1_init_19 rfl ?_
  have hPc := hP.sub (ws' := [(q12, .inr (0, [.null, .null, .null, .null, .null, .null, .null, .null, .null, .null, .long 0, .long 0]))]) [12] rfl
  have hDc := hD.sub (ws' := [(q12, .inr (0, [.null, .null, .null, .null, .null, .null, .null, .null, .null, .null, .long 0, .long 0]))]) [12] (by decide) rfl
  have hFc := va_free (wc := [(q12, .inr (0, [.null, .null, .null, .null, .null, .null, .null, .null, .null, .null, .long 0, .long 0]))]) hD hS hA [12] rfl
  refine fw_K1 (rest := [.ref q12, .ref h0]) hx hb hml hown hts (k_0 (l := l) (D := D) (ca := ca)) kw_181 kw_182 kw_96 kw_183 hK hO hPc hDc hFc hS hl.1 rfl rfl (by decide) rfl (by decide +kernel) ⟨Nat.le_of_ble_eq_true rfl, Nat.le_of_ble_eq_true rfl⟩ (Nat.le_of_ble_eq_true rfl) dX1_init_20 (fun a2 t2 H1 locs ha2 hp2 hk1 hP1 hD1 hS => ?_)
  obtain ⟨hP, hD⟩ := va_join (wr := [(h0, .inr (1, [.ref (a1 0), .null, .null, .long 0, .long 0, .long 0, .int 0, .long 0])), (a1 0, .inr (0, [.ref (a1 1), .ref (a1 2), .ref (a1 3), .ref (a1 4), .ref (a1 5), .ref (a1 6), .ref (a1 7), .ref (a1 8), .ref (a1 9), .ref (a1 10), .long (st_J t1 0), .long (st_J t1 1)])), (a1 1, .inl (ca 0, 32, .inl (st_F t1 0))), (a1 2, .inl (ca 1, 32, .inr (.inl (st_G t1 0)))), (a1 3, .inl (ca 0, 32, .inl (st_F t1 1))), (a1 4, .inl (ca 3, 32, .inr (.inr (.inr (.inr (fun _ => none)))))), (a1 5, .inl (ca 0, 32, .inl (st_F t1 2))), (a1 6, .inl (ca 0, 32, .inl (st_F t1 3))), (a1 7, .inl (ca 0, 32, .inl (st_F t1 4))), (a1 8, .inl (ca 0, 1024, .inl (st_F t1 5))), (a1 9, .inl (ca 0, 32, .inl (st_F t1 6))), (a1 10, .inl (ca 1, 32, .inr (.inl (st_G t1 1))))]) (w1 := WK0 ca a2 t2) hP hD [12] [0, 1, 2, 3, 4, 5, 6, 7, 8, 9, 10, 11] rfl rfl (by decide) (by decide) hk1 hFc hP1 hD1
  have hP : va_P D classes [(h0, .inr (1, [.ref (a1 0), .null, .null, .long 0, .long 0, .long 0, .int 0, .long 0])), (a1 0, .inr (0, [.ref (a1 1), .ref (a1 2), .ref (a1 3), .ref (a1 4), .ref (a1 5), .ref (a1 6), .ref (a1 7), .ref (a1 8), .ref (a1 9), .ref (a1 10), .long (st_J t1 0), .long (st_J t1 1)])), (a1 1, .inl (ca 0, 32, .inl (st_F t1 0))), (a1 2, .inl (ca 1, 32, .inr (.inl (st_G t1 0)))), (a1 3, .inl (ca 0, 32, .inl (st_F t1 1))), (a1 4, .inl (ca 3, 32, .inr (.inr (.inr (.inr (fun _ => none)))))), (a1 5, .inl (ca 0, 32, .inl (st_F t1 2))), (a1 6, .inl (ca 0, 32, .inl (st_F t1 3))), (a1 7, .inl (ca 0, 32, .inl (st_F t1 4))), (a1 8, .inl (ca 0, 1024, .inl (st_F t1 5))), (a1 9, .inl (ca 0, 32, .inl (st_F t1 6))), (a1 10, .inl (ca 1, 32, .inr (.inl (st_G t1 1)))), (a2 0, .inr (0, [.ref (a2 1), .ref (a2 2), .ref (a2 3), .ref (a2 4), .ref (a2 5), .ref (a2 6), .ref (a2 7), .ref (a2 8), .ref (a2 9), .ref (a2 10), .long (st_J t2 0), .long (st_J t2 1)])), (a2 1, .inl (ca 0, 32, .inl (st_F t2 0))), (a2 2, .inl (ca 1, 32, .inr (.inl (st_G t2 0)))), (a2 3, .inl (ca 0, 32, .inl (st_F t2 1))), (a2 4, .inl (ca 3, 32, .inr (.inr (.inr (.inr (fun _ => none)))))), (a2 5, .inl (ca 0, 32, .inl (st_F t2 2))), (a2 6, .inl (ca 0, 32, .inl (st_F t2 3))), (a2 7, .inl (ca 0, 32, .inl (st_F t2 4))), (a2 8, .inl (ca 0, 1024, .inl (st_F t2 5))), (a2 9, .inl (ca 0, 32, .inl (st_F t2 6))), (a2 10, .inl (ca 1, 32, .inr (.inl (st_G t2 1))))] H1 := hP
  have hD : va_D A [(h0, .inr (1, [.ref (a1 0), .null, .null, .long 0, .long 0, .long 0, .int 0, .long 0])), (a1 0, .inr (0, [.ref (a1 1), .ref (a1 2), .ref (a1 3), .ref (a1 4), .ref (a1 5), .ref (a1 6), .ref (a1 7), .ref (a1 8), .ref (a1 9), .ref (a1 10), .long (st_J t1 0), .long (st_J t1 1)])), (a1 1, .inl (ca 0, 32, .inl (st_F t1 0))), (a1 2, .inl (ca 1, 32, .inr (.inl (st_G t1 0)))), (a1 3, .inl (ca 0, 32, .inl (st_F t1 1))), (a1 4, .inl (ca 3, 32, .inr (.inr (.inr (.inr (fun _ => none)))))), (a1 5, .inl (ca 0, 32, .inl (st_F t1 2))), (a1 6, .inl (ca 0, 32, .inl (st_F t1 3))), (a1 7, .inl (ca 0, 32, .inl (st_F t1 4))), (a1 8, .inl (ca 0, 1024, .inl (st_F t1 5))), (a1 9, .inl (ca 0, 32, .inl (st_F t1 6))), (a1 10, .inl (ca 1, 32, .inr (.inl (st_G t1 1)))), (a2 0, .inr (0, [.ref (a2 1), .ref (a2 2), .ref (a2 3), .ref (a2 4), .ref (a2 5), .ref (a2 6), .ref (a2 7), .ref (a2 8), .ref (a2 9), .ref (a2 10), .long (st_J t2 0), .long (st_J t2 1)])), (a2 1, .inl (ca 0, 32, .inl (st_F t2 0))), (a2 2, .inl (ca 1, 32, .inr (.inl (st_G t2 0)))), (a2 3, .inl (ca 0, 32, .inl (st_F t2 1))), (a2 4, .inl (ca 3, 32, .inr (.inr (.inr (.inr (fun _ => none)))))), (a2 5, .inl (ca 0, 32, .inl (st_F t2 2))), (a2 6, .inl (ca 0, 32, .inl (st_F t2 3))), (a2 7, .inl (ca 0, 32, .inl (st_F t2 4))), (a2 8, .inl (ca 0, 1024, .inl (st_F t2 5))), (a2 9, .inl (ca 0, 32, .inl (st_F t2 6))), (a2 10, .inl (ca 1, 32, .inr (.inl (st_G t2 1))))] := hD
  generalize H1 = H at hP hS ⊢
  refine W.widen (k := 22) (n := 2648) (Nat.le_of_ble_eq_true rfl) (Nat.le_of_ble_eq_true rfl) ?_
  rw [← ha2]
  refine va_putF (D := D) (ci := 1) (v := .ref (a2 0)) (ty := .object "ReactiveSheet$Cells") (C := RX1) (T := TX1) (N := 8) hx hb hts inX1 tyX1 tyX1_ok nmX1 hown hK hP hD hS 0 rfl rfl 1 (by decide) (hts _ kw_226) (fun _ h9 => h9) rfl hin rfl (by decide +kernel) rfl rfl (Nat.le_of_ble_eq_true rfl) dX1_init_23 (fun H locs hP hD hS => ?_)
  have hP : va_P D classes [(h0, .inr (1, [.ref (a1 0), .ref (a2 0), .null, .long 0, .long 0, .long 0, .int 0, .long 0])), (a1 0, .inr (0, [.ref (a1 1), .ref (a1 2), .ref (a1 3), .ref (a1 4), .ref (a1 5), .ref (a1 6), .ref (a1 7), .ref (a1 8), .ref (a1 9), .ref (a1 10), .long (st_J t1 0), .long (st_J t1 1)])), (a1 1, .inl (ca 0, 32, .inl (st_F t1 0))), (a1 2, .inl (ca 1, 32, .inr (.inl (st_G t1 0)))), (a1 3, .inl (ca 0, 32, .inl (st_F t1 1))), (a1 4, .inl (ca 3, 32, .inr (.inr (.inr (.inr (fun _ => none)))))), (a1 5, .inl (ca 0, 32, .inl (st_F t1 2))), (a1 6, .inl (ca 0, 32, .inl (st_F t1 3))), (a1 7, .inl (ca 0, 32, .inl (st_F t1 4))), (a1 8, .inl (ca 0, 1024, .inl (st_F t1 5))), (a1 9, .inl (ca 0, 32, .inl (st_F t1 6))), (a1 10, .inl (ca 1, 32, .inr (.inl (st_G t1 1)))), (a2 0, .inr (0, [.ref (a2 1), .ref (a2 2), .ref (a2 3), .ref (a2 4), .ref (a2 5), .ref (a2 6), .ref (a2 7), .ref (a2 8), .ref (a2 9), .ref (a2 10), .long (st_J t2 0), .long (st_J t2 1)])), (a2 1, .inl (ca 0, 32, .inl (st_F t2 0))), (a2 2, .inl (ca 1, 32, .inr (.inl (st_G t2 0)))), (a2 3, .inl (ca 0, 32, .inl (st_F t2 1))), (a2 4, .inl (ca 3, 32, .inr (.inr (.inr (.inr (fun _ => none)))))), (a2 5, .inl (ca 0, 32, .inl (st_F t2 2))), (a2 6, .inl (ca 0, 32, .inl (st_F t2 3))), (a2 7, .inl (ca 0, 32, .inl (st_F t2 4))), (a2 8, .inl (ca 0, 1024, .inl (st_F t2 5))), (a2 9, .inl (ca 0, 32, .inl (st_F t2 6))), (a2 10, .inl (ca 1, 32, .inr (.inl (st_G t2 1))))] H := hP
  have hD : va_D A [(h0, .inr (1, [.ref (a1 0), .ref (a2 0), .null, .long 0, .long 0, .long 0, .int 0, .long 0])), (a1 0, .inr (0, [.ref (a1 1), .ref (a1 2), .ref (a1 3), .ref (a1 4), .ref (a1 5), .ref (a1 6), .ref (a1 7), .ref (a1 8), .ref (a1 9), .ref (a1 10), .long (st_J t1 0), .long (st_J t1 1)])), (a1 1, .inl (ca 0, 32, .inl (st_F t1 0))), (a1 2, .inl (ca 1, 32, .inr (.inl (st_G t1 0)))), (a1 3, .inl (ca 0, 32, .inl (st_F t1 1))), (a1 4, .inl (ca 3, 32, .inr (.inr (.inr (.inr (fun _ => none)))))), (a1 5, .inl (ca 0, 32, .inl (st_F t1 2))), (a1 6, .inl (ca 0, 32, .inl (st_F t1 3))), (a1 7, .inl (ca 0, 32, .inl (st_F t1 4))), (a1 8, .inl (ca 0, 1024, .inl (st_F t1 5))), (a1 9, .inl (ca 0, 32, .inl (st_F t1 6))), (a1 10, .inl (ca 1, 32, .inr (.inl (st_G t1 1)))), (a2 0, .inr (0, [.ref (a2 1), .ref (a2 2), .ref (a2 3), .ref (a2 4), .ref (a2 5), .ref (a2 6), .ref (a2 7), .ref (a2 8), .ref (a2 9), .ref (a2 10), .long (st_J t2 0), .long (st_J t2 1)])), (a2 1, .inl (ca 0, 32, .inl (st_F t2 0))), (a2 2, .inl (ca 1, 32, .inr (.inl (st_G t2 0)))), (a2 3, .inl (ca 0, 32, .inl (st_F t2 1))), (a2 4, .inl (ca 3, 32, .inr (.inr (.inr (.inr (fun _ => none)))))), (a2 5, .inl (ca 0, 32, .inl (st_F t2 2))), (a2 6, .inl (ca 0, 32, .inl (st_F t2 3))), (a2 7, .inl (ca 0, 32, .inl (st_F t2 4))), (a2 8, .inl (ca 0, 1024, .inl (st_F t2 5))), (a2 9, .inl (ca 0, 32, .inl (st_F t2 6))), (a2 10, .inl (ca 1, 32, .inr (.inl (st_G t2 1))))] := hD
  refine lv_aload_n hx hb dX1_init_26 rfl (lv_at hl 0 rfl) ?_
  refine lv_sipush (v := 5120) hx hb dX1_init_27 (by decide) ?_
  refine fw_newa (atype := .long) (ty := .long) (a0 := (5120, .inr (.inl (fun _ => 0)))) (N' := 5120) hx hb (hts _ kw_224) rfl hK hP hD hS hA (fun _ => rfl) (by decide) rfl (Nat.le_of_ble_eq_true rfl) (Nat.le_of_ble_eq_true rfl) (Nat.le_of_ble_eq_true rfl) dX1_init_30 1 rfl (fun _ h => h) (fun q23 H hP hD hS => ?_)
  have hP : va_P D classes [(h0, .inr (1, [.ref (a1 0), .ref (a2 0), .null, .long 0, .long 0, .long 0, .int 0, .long 0])), (a1 0, .inr (0, [.ref (a1 1), .ref (a1 2), .ref (a1 3), .ref (a1 4), .ref (a1 5), .ref (a1 6), .ref (a1 7), .ref (a1 8), .ref (a1 9), .ref (a1 10), .long (st_J t1 0), .long (st_J t1 1)])), (a1 1, .inl (ca 0, 32, .inl (st_F t1 0))), (a1 2, .inl (ca 1, 32, .inr (.inl (st_G t1 0)))), (a1 3, .inl (ca 0, 32, .inl (st_F t1 1))), (a1 4, .inl (ca 3, 32, .inr (.inr (.inr (.inr (fun _ => none)))))), (a1 5, .inl (ca 0, 32, .inl (st_F t1 2))), (a1 6, .inl (ca 0, 32, .inl (st_F t1 3))), (a1 7, .inl (ca 0, 32, .inl (st_F t1 4))), (a1 8, .inl (ca 0, 1024, .inl (st_F t1 5))), (a1 9, .inl (ca 0, 32, .inl (st_F t1 6))), (a1 10, .inl (ca 1, 32, .inr (.inl (st_G t1 1)))), (a2 0, .inr (0, [.ref (a2 1), .ref (a2 2), .ref (a2 3), .ref (a2 4), .ref (a2 5), .ref (a2 6), .ref (a2 7), .ref (a2 8), .ref (a2 9), .ref (a2 10), .long (st_J t2 0), .long (st_J t2 1)])), (a2 1, .inl (ca 0, 32, .inl (st_F t2 0))), (a2 2, .inl (ca 1, 32, .inr (.inl (st_G t2 0)))), (a2 3, .inl (ca 0, 32, .inl (st_F t2 1))), (a2 4, .inl (ca 3, 32, .inr (.inr (.inr (.inr (fun _ => none)))))), (a2 5, .inl (ca 0, 32, .inl (st_F t2 2))), (a2 6, .inl (ca 0, 32, .inl (st_F t2 3))), (a2 7, .inl (ca 0, 32, .inl (st_F t2 4))), (a2 8, .inl (ca 0, 1024, .inl (st_F t2 5))), (a2 9, .inl (ca 0, 32, .inl (st_F t2 6))), (a2 10, .inl (ca 1, 32, .inr (.inl (st_G t2 1)))), (q23, .inl (ca 1, 5120, .inr (.inl (fun _ => 0))))] H := hP
  have hD : va_D A [(h0, .inr (1, [.ref (a1 0), .ref (a2 0), .null, .long 0, .long 0, .long 0, .int 0, .long 0])), (a1 0, .inr (0, [.ref (a1 1), .ref (a1 2), .ref (a1 3), .ref (a1 4), .ref (a1 5), .ref (a1 6), .ref (a1 7), .ref (a1 8), .ref (a1 9), .ref (a1 10), .long (st_J t1 0), .long (st_J t1 1)])), (a1 1, .inl (ca 0, 32, .inl (st_F t1 0))), (a1 2, .inl (ca 1, 32, .inr (.inl (st_G t1 0)))), (a1 3, .inl (ca 0, 32, .inl (st_F t1 1))), (a1 4, .inl (ca 3, 32, .inr (.inr (.inr (.inr (fun _ => none)))))), (a1 5, .inl (ca 0, 32, .inl (st_F t1 2))), (a1 6, .inl (ca 0, 32, .inl (st_F t1 3))), (a1 7, .inl (ca 0, 32, .inl (st_F t1 4))), (a1 8, .inl (ca 0, 1024, .inl (st_F t1 5))), (a1 9, .inl (ca 0, 32, .inl (st_F t1 6))), (a1 10, .inl (ca 1, 32, .inr (.inl (st_G t1 1)))), (a2 0, .inr (0, [.ref (a2 1), .ref (a2 2), .ref (a2 3), .ref (a2 4), .ref (a2 5), .ref (a2 6), .ref (a2 7), .ref (a2 8), .ref (a2 9), .ref (a2 10), .long (st_J t2 0), .long (st_J t2 1)])), (a2 1, .inl (ca 0, 32, .inl (st_F t2 0))), (a2 2, .inl (ca 1, 32, .inr (.inl (st_G t2 0)))), (a2 3, .inl (ca 0, 32, .inl (st_F t2 1))), (a2 4, .inl (ca 3, 32, .inr (.inr (.inr (.inr (fun _ => none)))))), (a2 5, .inl (ca 0, 32, .inl (st_F t2 2))), (a2 6, .inl (ca 0, 32, .inl (st_F t2 3))), (a2 7, .inl (ca 0, 32, .inl (st_F t2 4))), (a2 8, .inl (ca 0, 1024, .inl (st_F t2 5))), (a2 9, .inl (ca 0, 32, .inl (st_F t2 6))), (a2 10, .inl (ca 1, 32, .inr (.inl (st_G t2 1)))), (q23, .inl (ca 1, 5120, .inr (.inl (fun _ => 0))))] := hD
  refine W.widen (k := 23) (n := 7768) (Nat.le_of_ble_eq_true rfl) (Nat.le_of_ble_eq_true rfl) ?_
  refine va_putF (D := D) (ci := 1) (v := .ref q23) (ty := .array .long) (C := RX1) (T := TX1) (N := 8) hx hb hts inX1 tyX1 tyX1_ok nmX1 hown hK hP hD hS 0 rfl rfl 2 (by decide) (hts _ kw_227) (fun _ h9 => h9) rfl hin rfl (by decide +kernel) rfl rfl (Nat.le_of_ble_eq_true rfl) dX1_init_32 (fun H locs hP hD hS => ?_)
  have hP : va_P D classes [(h0, .inr (1, [.ref (a1 0), .ref (a2 0), .ref q23, .long 0, .long 0, .long 0, .int 0, .long 0])), (a1 0, .inr (0, [.ref (a1 1), .ref (a1 2), .ref (a1 3), .ref (a1 4), .ref (a1 5), .ref (a1 6), .ref (a1 7), .ref (a1 8), .ref (a1 9), .ref (a1 10), .long (st_J t1 0), .long (st_J t1 1)])), (a1 1, .inl (ca 0, 32, .inl (st_F t1 0))), (a1 2, .inl (ca 1, 32, .inr (.inl (st_G t1 0)))), (a1 3, .inl (ca 0, 32, .inl (st_F t1 1))), (a1 4, .inl (ca 3, 32, .inr (.inr (.inr (.inr (fun _ => none)))))), (a1 5, .inl (ca 0, 32, .inl (st_F t1 2))), (a1 6, .inl (ca 0, 32, .inl (st_F t1 3))), (a1 7, .inl (ca 0, 32, .inl (st_F t1 4))), (a1 8, .inl (ca 0, 1024, .inl (st_F t1 5))), (a1 9, .inl (ca 0, 32, .inl (st_F t1 6))), (a1 10, .inl (ca 1, 32, .inr (.inl (st_G t1 1)))), (a2 0, .inr (0, [.ref (a2 1), .ref (a2 2), .ref (a2 3), .ref (a2 4), .ref (a2 5), .ref (a2 6), .ref (a2 7), .ref (a2 8), .ref (a2 9), .ref (a2 10), .long (st_J t2 0), .long (st_J t2 1)])), (a2 1, .inl (ca 0, 32, .inl (st_F t2 0))), (a2 2, .inl (ca 1, 32, .inr (.inl (st_G t2 0)))), (a2 3, .inl (ca 0, 32, .inl (st_F t2 1))), (a2 4, .inl (ca 3, 32, .inr (.inr (.inr (.inr (fun _ => none)))))), (a2 5, .inl (ca 0, 32, .inl (st_F t2 2))), (a2 6, .inl (ca 0, 32, .inl (st_F t2 3))), (a2 7, .inl (ca 0, 32, .inl (st_F t2 4))), (a2 8, .inl (ca 0, 1024, .inl (st_F t2 5))), (a2 9, .inl (ca 0, 32, .inl (st_F t2 6))), (a2 10, .inl (ca 1, 32, .inr (.inl (st_G t2 1)))), (q23, .inl (ca 1, 5120, .inr (.inl (fun _ => 0))))] H := hP
  have hD : va_D A [(h0, .inr (1, [.ref (a1 0), .ref (a2 0), .ref q23, .long 0, .long 0, .long 0, .int 0, .long 0])), (a1 0, .inr (0, [.ref (a1 1), .ref (a1 2), .ref (a1 3), .ref (a1 4), .ref (a1 5), .ref (a1 6), .ref (a1 7), .ref (a1 8), .ref (a1 9), .ref (a1 10), .long (st_J t1 0), .long (st_J t1 1)])), (a1 1, .inl (ca 0, 32, .inl (st_F t1 0))), (a1 2, .inl (ca 1, 32, .inr (.inl (st_G t1 0)))), (a1 3, .inl (ca 0, 32, .inl (st_F t1 1))), (a1 4, .inl (ca 3, 32, .inr (.inr (.inr (.inr (fun _ => none)))))), (a1 5, .inl (ca 0, 32, .inl (st_F t1 2))), (a1 6, .inl (ca 0, 32, .inl (st_F t1 3))), (a1 7, .inl (ca 0, 32, .inl (st_F t1 4))), (a1 8, .inl (ca 0, 1024, .inl (st_F t1 5))), (a1 9, .inl (ca 0, 32, .inl (st_F t1 6))), (a1 10, .inl (ca 1, 32, .inr (.inl (st_G t1 1)))), (a2 0, .inr (0, [.ref (a2 1), .ref (a2 2), .ref (a2 3), .ref (a2 4), .ref (a2 5), .ref (a2 6), .ref (a2 7), .ref (a2 8), .ref (a2 9), .ref (a2 10), .long (st_J t2 0), .long (st_J t2 1)])), (a2 1, .inl (ca 0, 32, .inl (st_F t2 0))), (a2 2, .inl (ca 1, 32, .inr (.inl (st_G t2 0)))), (a2 3, .inl (ca 0, 32, .inl (st_F t2 1))), (a2 4, .inl (ca 3, 32, .inr (.inr (.inr (.inr (fun _ => none)))))), (a2 5, .inl (ca 0, 32, .inl (st_F t2 2))), (a2 6, .inl (ca 0, 32, .inl (st_F t2 3))), (a2 7, .inl (ca 0, 32, .inl (st_F t2 4))), (a2 8, .inl (ca 0, 1024, .inl (st_F t2 5))), (a2 9, .inl (ca 0, 32, .inl (st_F t2 6))), (a2 10, .inl (ca 1, 32, .inr (.inl (st_G t2 1)))), (q23, .inl (ca 1, 5120, .inr (.inl (fun _ => 0))))] := hD
  refine lv_aload_n hx hb dX1_init_35 rfl (lv_at hl 0 rfl) ?_
  refine lv_lconst (v := 0) hx hb dX1_init_36 (by decide) ?_
  refine va_put (D := D) (ci := 1) (v := .long 0) (ty := .long) (C := RX1) (T := TX1) (N := 8) hx hb hts inX1 tyX1 tyX1_ok nmX1 hown hK hP hD hS 0 rfl rfl 3 (by decide) (hts _ kw_228) (fun _ h9 => h9) rfl (by decide +kernel) rfl rfl (Nat.le_of_ble_eq_true rfl) dX1_init_37 (fun H locs hP hD hS => ?_)
  have hP : va_P D classes [(h0, .inr (1, [.ref (a1 0), .ref (a2 0), .ref q23, .long 0, .long 0, .long 0, .int 0, .long 0])), (a1 0, .inr (0, [.ref (a1 1), .ref (a1 2), .ref (a1 3), .ref (a1 4), .ref (a1 5), .ref (a1 6), .ref (a1 7), .ref (a1 8), .ref (a1 9), .ref (a1 10), .long (st_J t1 0), .long (st_J t1 1)])), (a1 1, .inl (ca 0, 32, .inl (st_F t1 0))), (a1 2, .inl (ca 1, 32, .inr (.inl (st_G t1 0)))), (a1 3, .inl (ca 0, 32, .inl (st_F t1 1))), (a1 4, .inl (ca 3, 32, .inr (.inr (.inr (.inr (fun _ => none)))))), (a1 5, .inl (ca 0, 32, .inl (st_F t1 2))), (a1 6, .inl (ca 0, 32, .inl (st_F t1 3))), (a1 7, .inl (ca 0, 32, .inl (st_F t1 4))), (a1 8, .inl (ca 0, 1024, .inl (st_F t1 5))), (a1 9, .inl (ca 0, 32, .inl (st_F t1 6))), (a1 10, .inl (ca 1, 32, .inr (.inl (st_G t1 1)))), (a2 0, .inr (0, [.ref (a2 1), .ref (a2 2), .ref (a2 3), .ref (a2 4), .ref (a2 5), .ref (a2 6), .ref (a2 7), .ref (a2 8), .ref (a2 9), .ref (a2 10), .long (st_J t2 0), .long (st_J t2 1)])), (a2 1, .inl (ca 0, 32, .inl (st_F t2 0))), (a2 2, .inl (ca 1, 32, .inr (.inl (st_G t2 0)))), (a2 3, .inl (ca 0, 32, .inl (st_F t2 1))), (a2 4, .inl (ca 3, 32, .inr (.inr (.inr (.inr (fun _ => none)))))), (a2 5, .inl (ca 0, 32, .inl (st_F t2 2))), (a2 6, .inl (ca 0, 32, .inl (st_F t2 3))), (a2 7, .inl (ca 0, 32, .inl (st_F t2 4))), (a2 8, .inl (ca 0, 1024, .inl (st_F t2 5))), (a2 9, .inl (ca 0, 32, .inl (st_F t2 6))), (a2 10, .inl (ca 1, 32, .inr (.inl (st_G t2 1)))), (q23, .inl (ca 1, 5120, .inr (.inl (fun _ => 0))))] H := hP
  have hD : va_D A [(h0, .inr (1, [.ref (a1 0), .ref (a2 0), .ref q23, .long 0, .long 0, .long 0, .int 0, .long 0])), (a1 0, .inr (0, [.ref (a1 1), .ref (a1 2), .ref (a1 3), .ref (a1 4), .ref (a1 5), .ref (a1 6), .ref (a1 7), .ref (a1 8), .ref (a1 9), .ref (a1 10), .long (st_J t1 0), .long (st_J t1 1)])), (a1 1, .inl (ca 0, 32, .inl (st_F t1 0))), (a1 2, .inl (ca 1, 32, .inr (.inl (st_G t1 0)))), (a1 3, .inl (ca 0, 32, .inl (st_F t1 1))), (a1 4, .inl (ca 3, 32, .inr (.inr (.inr (.inr (fun _ => none)))))), (a1 5, .inl (ca 0, 32, .inl (st_F t1 2))), (a1 6, .inl (ca 0, 32, .inl (st_F t1 3))), (a1 7, .inl (ca 0, 32, .inl (st_F t1 4))), (a1 8, .inl (ca 0, 1024, .inl (st_F t1 5))), (a1 9, .inl (ca 0, 32, .inl (st_F t1 6))), (a1 10, .inl (ca 1, 32, .inr (.inl (st_G t1 1)))), (a2 0, .inr (0, [.ref (a2 1), .ref (a2 2), .ref (a2 3), .ref (a2 4), .ref (a2 5), .ref (a2 6), .ref (a2 7), .ref (a2 8), .ref (a2 9), .ref (a2 10), .long (st_J t2 0), .long (st_J t2 1)])), (a2 1, .inl (ca 0, 32, .inl (st_F t2 0))), (a2 2, .inl (ca 1, 32, .inr (.inl (st_G t2 0)))), (a2 3, .inl (ca 0, 32, .inl (st_F t2 1))), (a2 4, .inl (ca 3, 32, .inr (.inr (.inr (.inr (fun _ => none)))))), (a2 5, .inl (ca 0, 32, .inl (st_F t2 2))), (a2 6, .inl (ca 0, 32, .inl (st_F t2 3))), (a2 7, .inl (ca 0, 32, .inl (st_F t2 4))), (a2 8, .inl (ca 0, 1024, .inl (st_F t2 5))), (a2 9, .inl (ca 0, 32, .inl (st_F t2 6))), (a2 10, .inl (ca 1, 32, .inr (.inl (st_G t2 1)))), (q23, .inl (ca 1, 5120, .inr (.inl (fun _ => 0))))] := hD
  refine lv_aload_n hx hb dX1_init_40 rfl (lv_at hl 0 rfl) ?_
  refine lv_lconst (v := 0) hx hb dX1_init_41 (by decide) ?_
  refine va_put (D := D) (ci := 1) (v := .long 0) (ty := .long) (C := RX1) (T := TX1) (N := 8) hx hb hts inX1 tyX1 tyX1_ok nmX1 hown hK hP hD hS 0 rfl rfl 4 (by decide) (hts _ kw_229) (fun _ h9 => h9) rfl (by decide +kernel) rfl rfl (Nat.le_of_ble_eq_true rfl) dX1_init_42 (fun H locs hP hD hS => ?_)
  have hP : va_P D classes [(h0, .inr (1, [.ref (a1 0), .ref (a2 0), .ref q23, .long 0, .long 0, .long 0, .int 0, .long 0])), (a1 0, .inr (0, [.ref (a1 1), .ref (a1 2), .ref (a1 3), .ref (a1 4), .ref (a1 5), .ref (a1 6), .ref (a1 7), .ref (a1 8), .ref (a1 9), .ref (a1 10), .long (st_J t1 0), .long (st_J t1 1)])), (a1 1, .inl (ca 0, 32, .inl (st_F t1 0))), (a1 2, .inl (ca 1, 32, .inr (.inl (st_G t1 0)))), (a1 3, .inl (ca 0, 32, .inl (st_F t1 1))), (a1 4, .inl (ca 3, 32, .inr (.inr (.inr (.inr (fun _ => none)))))), (a1 5, .inl (ca 0, 32, .inl (st_F t1 2))), (a1 6, .inl (ca 0, 32, .inl (st_F t1 3))), (a1 7, .inl (ca 0, 32, .inl (st_F t1 4))), (a1 8, .inl (ca 0, 1024, .inl (st_F t1 5))), (a1 9, .inl (ca 0, 32, .inl (st_F t1 6))), (a1 10, .inl (ca 1, 32, .inr (.inl (st_G t1 1)))), (a2 0, .inr (0, [.ref (a2 1), .ref (a2 2), .ref (a2 3), .ref (a2 4), .ref (a2 5), .ref (a2 6), .ref (a2 7), .ref (a2 8), .ref (a2 9), .ref (a2 10), .long (st_J t2 0), .long (st_J t2 1)])), (a2 1, .inl (ca 0, 32, .inl (st_F t2 0))), (a2 2, .inl (ca 1, 32, .inr (.inl (st_G t2 0)))), (a2 3, .inl (ca 0, 32, .inl (st_F t2 1))), (a2 4, .inl (ca 3, 32, .inr (.inr (.inr (.inr (fun _ => none)))))), (a2 5, .inl (ca 0, 32, .inl (st_F t2 2))), (a2 6, .inl (ca 0, 32, .inl (st_F t2 3))), (a2 7, .inl (ca 0, 32, .inl (st_F t2 4))), (a2 8, .inl (ca 0, 1024, .inl (st_F t2 5))), (a2 9, .inl (ca 0, 32, .inl (st_F t2 6))), (a2 10, .inl (ca 1, 32, .inr (.inl (st_G t2 1)))), (q23, .inl (ca 1, 5120, .inr (.inl (fun _ => 0))))] H := hP
  have hD : va_D A [(h0, .inr (1, [.ref (a1 0), .ref (a2 0), .ref q23, .long 0, .long 0, .long 0, .int 0, .long 0])), (a1 0, .inr (0, [.ref (a1 1), .ref (a1 2), .ref (a1 3), .ref (a1 4), .ref (a1 5), .ref (a1 6), .ref (a1 7), .ref (a1 8), .ref (a1 9), .ref (a1 10), .long (st_J t1 0), .long (st_J t1 1)])), (a1 1, .inl (ca 0, 32, .inl (st_F t1 0))), (a1 2, .inl (ca 1, 32, .inr (.inl (st_G t1 0)))), (a1 3, .inl (ca 0, 32, .inl (st_F t1 1))), (a1 4, .inl (ca 3, 32, .inr (.inr (.inr (.inr (fun _ => none)))))), (a1 5, .inl (ca 0, 32, .inl (st_F t1 2))), (a1 6, .inl (ca 0, 32, .inl (st_F t1 3))), (a1 7, .inl (ca 0, 32, .inl (st_F t1 4))), (a1 8, .inl (ca 0, 1024, .inl (st_F t1 5))), (a1 9, .inl (ca 0, 32, .inl (st_F t1 6))), (a1 10, .inl (ca 1, 32, .inr (.inl (st_G t1 1)))), (a2 0, .inr (0, [.ref (a2 1), .ref (a2 2), .ref (a2 3), .ref (a2 4), .ref (a2 5), .ref (a2 6), .ref (a2 7), .ref (a2 8), .ref (a2 9), .ref (a2 10), .long (st_J t2 0), .long (st_J t2 1)])), (a2 1, .inl (ca 0, 32, .inl (st_F t2 0))), (a2 2, .inl (ca 1, 32, .inr (.inl (st_G t2 0)))), (a2 3, .inl (ca 0, 32, .inl (st_F t2 1))), (a2 4, .inl (ca 3, 32, .inr (.inr (.inr (.inr (fun _ => none)))))), (a2 5, .inl (ca 0, 32, .inl (st_F t2 2))), (a2 6, .inl (ca 0, 32, .inl (st_F t2 3))), (a2 7, .inl (ca 0, 32, .inl (st_F t2 4))), (a2 8, .inl (ca 0, 1024, .inl (st_F t2 5))), (a2 9, .inl (ca 0, 32, .inl (st_F t2 6))), (a2 10, .inl (ca 1, 32, .inr (.inl (st_G t2 1)))), (q23, .inl (ca 1, 5120, .inr (.inl (fun _ => 0))))] := hD
  refine lv_aload_n hx hb dX1_init_45 rfl (lv_at hl 0 rfl) ?_
  refine lv_lconst (v := 0) hx hb dX1_init_46 (by decide) ?_
  refine va_put (D := D) (ci := 1) (v := .long 0) (ty := .long) (C := RX1) (T := TX1) (N := 8) hx hb hts inX1 tyX1 tyX1_ok nmX1 hown hK hP hD hS 0 rfl rfl 5 (by decide) (hts _ kw_230) (fun _ h9 => h9) rfl (by decide +kernel) rfl rfl (Nat.le_of_ble_eq_true rfl) dX1_init_47 (fun H locs hP hD hS => ?_)
  have hP : va_P D classes [(h0, .inr (1, [.ref (a1 0), .ref (a2 0), .ref q23, .long 0, .long 0, .long 0, .int 0, .long 0])), (a1 0, .inr (0, [.ref (a1 1), .ref (a1 2), .ref (a1 3), .ref (a1 4), .ref (a1 5), .ref (a1 6), .ref (a1 7), .ref (a1 8), .ref (a1 9), .ref (a1 10), .long (st_J t1 0), .long (st_J t1 1)])), (a1 1, .inl (ca 0, 32, .inl (st_F t1 0))), (a1 2, .inl (ca 1, 32, .inr (.inl (st_G t1 0)))), (a1 3, .inl (ca 0, 32, .inl (st_F t1 1))), (a1 4, .inl (ca 3, 32, .inr (.inr (.inr (.inr (fun _ => none)))))), (a1 5, .inl (ca 0, 32, .inl (st_F t1 2))), (a1 6, .inl (ca 0, 32, .inl (st_F t1 3))), (a1 7, .inl (ca 0, 32, .inl (st_F t1 4))), (a1 8, .inl (ca 0, 1024, .inl (st_F t1 5))), (a1 9, .inl (ca 0, 32, .inl (st_F t1 6))), (a1 10, .inl (ca 1, 32, .inr (.inl (st_G t1 1)))), (a2 0, .inr (0, [.ref (a2 1), .ref (a2 2), .ref (a2 3), .ref (a2 4), .ref (a2 5), .ref (a2 6), .ref (a2 7), .ref (a2 8), .ref (a2 9), .ref (a2 10), .long (st_J t2 0), .long (st_J t2 1)])), (a2 1, .inl (ca 0, 32, .inl (st_F t2 0))), (a2 2, .inl (ca 1, 32, .inr (.inl (st_G t2 0)))), (a2 3, .inl (ca 0, 32, .inl (st_F t2 1))), (a2 4, .inl (ca 3, 32, .inr (.inr (.inr (.inr (fun _ => none)))))), (a2 5, .inl (ca 0, 32, .inl (st_F t2 2))), (a2 6, .inl (ca 0, 32, .inl (st_F t2 3))), (a2 7, .inl (ca 0, 32, .inl (st_F t2 4))), (a2 8, .inl (ca 0, 1024, .inl (st_F t2 5))), (a2 9, .inl (ca 0, 32, .inl (st_F t2 6))), (a2 10, .inl (ca 1, 32, .inr (.inl (st_G t2 1)))), (q23, .inl (ca 1, 5120, .inr (.inl (fun _ => 0))))] H := hP
  have hD : va_D A [(h0, .inr (1, [.ref (a1 0), .ref (a2 0), .ref q23, .long 0, .long 0, .long 0, .int 0, .long 0])), (a1 0, .inr (0, [.ref (a1 1), .ref (a1 2), .ref (a1 3), .ref (a1 4), .ref (a1 5), .ref (a1 6), .ref (a1 7), .ref (a1 8), .ref (a1 9), .ref (a1 10), .long (st_J t1 0), .long (st_J t1 1)])), (a1 1, .inl (ca 0, 32, .inl (st_F t1 0))), (a1 2, .inl (ca 1, 32, .inr (.inl (st_G t1 0)))), (a1 3, .inl (ca 0, 32, .inl (st_F t1 1))), (a1 4, .inl (ca 3, 32, .inr (.inr (.inr (.inr (fun _ => none)))))), (a1 5, .inl (ca 0, 32, .inl (st_F t1 2))), (a1 6, .inl (ca 0, 32, .inl (st_F t1 3))), (a1 7, .inl (ca 0, 32, .inl (st_F t1 4))), (a1 8, .inl (ca 0, 1024, .inl (st_F t1 5))), (a1 9, .inl (ca 0, 32, .inl (st_F t1 6))), (a1 10, .inl (ca 1, 32, .inr (.inl (st_G t1 1)))), (a2 0, .inr (0, [.ref (a2 1), .ref (a2 2), .ref (a2 3), .ref (a2 4), .ref (a2 5), .ref (a2 6), .ref (a2 7), .ref (a2 8), .ref (a2 9), .ref (a2 10), .long (st_J t2 0), .long (st_J t2 1)])), (a2 1, .inl (ca 0, 32, .inl (st_F t2 0))), (a2 2, .inl (ca 1, 32, .inr (.inl (st_G t2 0)))), (a2 3, .inl (ca 0, 32, .inl (st_F t2 1))), (a2 4, .inl (ca 3, 32, .inr (.inr (.inr (.inr (fun _ => none)))))), (a2 5, .inl (ca 0, 32, .inl (st_F t2 2))), (a2 6, .inl (ca 0, 32, .inl (st_F t2 3))), (a2 7, .inl (ca 0, 32, .inl (st_F t2 4))), (a2 8, .inl (ca 0, 1024, .inl (st_F t2 5))), (a2 9, .inl (ca 0, 32, .inl (st_F t2 6))), (a2 10, .inl (ca 1, 32, .inr (.inl (st_G t2 1)))), (q23, .inl (ca 1, 5120, .inr (.inl (fun _ => 0))))] := hD
  refine lv_aload_n hx hb dX1_init_50 rfl (lv_at hl 0 rfl) ?_
  refine lv_iconst (v := 0) hx hb dX1_init_51 (by decide) ?_
  refine va_put (D := D) (ci := 1) (v := .int 0) (ty := .boolean) (C := RX1) (T := TX1) (N := 8) hx hb hts inX1 tyX1 tyX1_ok nmX1 hown hK hP hD hS 0 rfl rfl 6 (by decide) (hts _ kw_231) (fun _ h9 => h9) rfl (by decide +kernel) rfl rfl (Nat.le_of_ble_eq_true rfl) dX1_init_52 (fun H locs hP hD hS => ?_)
  have hP : va_P D classes [(h0, .inr (1, [.ref (a1 0), .ref (a2 0), .ref q23, .long 0, .long 0, .long 0, .int 0, .long 0])), (a1 0, .inr (0, [.ref (a1 1), .ref (a1 2), .ref (a1 3), .ref (a1 4), .ref (a1 5), .ref (a1 6), .ref (a1 7), .ref (a1 8), .ref (a1 9), .ref (a1 10), .long (st_J t1 0), .long (st_J t1 1)])), (a1 1, .inl (ca 0, 32, .inl (st_F t1 0))), (a1 2, .inl (ca 1, 32, .inr (.inl (st_G t1 0)))), (a1 3, .inl (ca 0, 32, .inl (st_F t1 1))), (a1 4, .inl (ca 3, 32, .inr (.inr (.inr (.inr (fun _ => none)))))), (a1 5, .inl (ca 0, 32, .inl (st_F t1 2))), (a1 6, .inl (ca 0, 32, .inl (st_F t1 3))), (a1 7, .inl (ca 0, 32, .inl (st_F t1 4))), (a1 8, .inl (ca 0, 1024, .inl (st_F t1 5))), (a1 9, .inl (ca 0, 32, .inl (st_F t1 6))), (a1 10, .inl (ca 1, 32, .inr (.inl (st_G t1 1)))), (a2 0, .inr (0, [.ref (a2 1), .ref (a2 2), .ref (a2 3), .ref (a2 4), .ref (a2 5), .ref (a2 6), .ref (a2 7), .ref (a2 8), .ref (a2 9), .ref (a2 10), .long (st_J t2 0), .long (st_J t2 1)])), (a2 1, .inl (ca 0, 32, .inl (st_F t2 0))), (a2 2, .inl (ca 1, 32, .inr (.inl (st_G t2 0)))), (a2 3, .inl (ca 0, 32, .inl (st_F t2 1))), (a2 4, .inl (ca 3, 32, .inr (.inr (.inr (.inr (fun _ => none)))))), (a2 5, .inl (ca 0, 32, .inl (st_F t2 2))), (a2 6, .inl (ca 0, 32, .inl (st_F t2 3))), (a2 7, .inl (ca 0, 32, .inl (st_F t2 4))), (a2 8, .inl (ca 0, 1024, .inl (st_F t2 5))), (a2 9, .inl (ca 0, 32, .inl (st_F t2 6))), (a2 10, .inl (ca 1, 32, .inr (.inl (st_G t2 1)))), (q23, .inl (ca 1, 5120, .inr (.inl (fun _ => 0))))] H := hP
  have hD : va_D A [(h0, .inr (1, [.ref (a1 0), .ref (a2 0), .ref q23, .long 0, .long 0, .long 0, .int 0, .long 0])), (a1 0, .inr (0, [.ref (a1 1), .ref (a1 2), .ref (a1 3), .ref (a1 4), .ref (a1 5), .ref (a1 6), .ref (a1 7), .ref (a1 8), .ref (a1 9), .ref (a1 10), .long (st_J t1 0), .long (st_J t1 1)])), (a1 1, .inl (ca 0, 32, .inl (st_F t1 0))), (a1 2, .inl (ca 1, 32, .inr (.inl (st_G t1 0)))), (a1 3, .inl (ca 0, 32, .inl (st_F t1 1))), (a1 4, .inl (ca 3, 32, .inr (.inr (.inr (.inr (fun _ => none)))))), (a1 5, .inl (ca 0, 32, .inl (st_F t1 2))), (a1 6, .inl (ca 0, 32, .inl (st_F t1 3))), (a1 7, .inl (ca 0, 32, .inl (st_F t1 4))), (a1 8, .inl (ca 0, 1024, .inl (st_F t1 5))), (a1 9, .inl (ca 0, 32, .inl (st_F t1 6))), (a1 10, .inl (ca 1, 32, .inr (.inl (st_G t1 1)))), (a2 0, .inr (0, [.ref (a2 1), .ref (a2 2), .ref (a2 3), .ref (a2 4), .ref (a2 5), .ref (a2 6), .ref (a2 7), .ref (a2 8), .ref (a2 9), .ref (a2 10), .long (st_J t2 0), .long (st_J t2 1)])), (a2 1, .inl (ca 0, 32, .inl (st_F t2 0))), (a2 2, .inl (ca 1, 32, .inr (.inl (st_G t2 0)))), (a2 3, .inl (ca 0, 32, .inl (st_F t2 1))), (a2 4, .inl (ca 3, 32, .inr (.inr (.inr (.inr (fun _ => none)))))), (a2 5, .inl (ca 0, 32, .inl (st_F t2 2))), (a2 6, .inl (ca 0, 32, .inl (st_F t2 3))), (a2 7, .inl (ca 0, 32, .inl (st_F t2 4))), (a2 8, .inl (ca 0, 1024, .inl (st_F t2 5))), (a2 9, .inl (ca 0, 32, .inl (st_F t2 6))), (a2 10, .inl (ca 1, 32, .inr (.inl (st_G t2 1)))), (q23, .inl (ca 1, 5120, .inr (.inl (fun _ => 0))))] := hD
  refine lv_aload_n hx hb dX1_init_55 rfl (lv_at hl 0 rfl) ?_
  refine lv_lconst (v := 0) hx hb dX1_init_56 (by decide) ?_
  refine va_put (D := D) (ci := 1) (v := .long 0) (ty := .long) (C := RX1) (T := TX1) (N := 8) hx hb hts inX1 tyX1 tyX1_ok nmX1 hown hK hP hD hS 0 rfl rfl 7 (by decide) (hts _ kw_232) (fun _ h9 => h9) rfl (by decide +kernel) rfl rfl (Nat.le_of_ble_eq_true rfl) dX1_init_57 (fun H locs hP hD hS => ?_)
  have hP : va_P D classes [(h0, .inr (1, [.ref (a1 0), .ref (a2 0), .ref q23, .long 0, .long 0, .long 0, .int 0, .long 0])), (a1 0, .inr (0, [.ref (a1 1), .ref (a1 2), .ref (a1 3), .ref (a1 4), .ref (a1 5), .ref (a1 6), .ref (a1 7), .ref (a1 8), .ref (a1 9), .ref (a1 10), .long (st_J t1 0), .long (st_J t1 1)])), (a1 1, .inl (ca 0, 32, .inl (st_F t1 0))), (a1 2, .inl (ca 1, 32, .inr (.inl (st_G t1 0)))), (a1 3, .inl (ca 0, 32, .inl (st_F t1 1))), (a1 4, .inl (ca 3, 32, .inr (.inr (.inr (.inr (fun _ => none)))))), (a1 5, .inl (ca 0, 32, .inl (st_F t1 2))), (a1 6, .inl (ca 0, 32, .inl (st_F t1 3))), (a1 7, .inl (ca 0, 32, .inl (st_F t1 4))), (a1 8, .inl (ca 0, 1024, .inl (st_F t1 5))), (a1 9, .inl (ca 0, 32, .inl (st_F t1 6))), (a1 10, .inl (ca 1, 32, .inr (.inl (st_G t1 1)))), (a2 0, .inr (0, [.ref (a2 1), .ref (a2 2), .ref (a2 3), .ref (a2 4), .ref (a2 5), .ref (a2 6), .ref (a2 7), .ref (a2 8), .ref (a2 9), .ref (a2 10), .long (st_J t2 0), .long (st_J t2 1)])), (a2 1, .inl (ca 0, 32, .inl (st_F t2 0))), (a2 2, .inl (ca 1, 32, .inr (.inl (st_G t2 0)))), (a2 3, .inl (ca 0, 32, .inl (st_F t2 1))), (a2 4, .inl (ca 3, 32, .inr (.inr (.inr (.inr (fun _ => none)))))), (a2 5, .inl (ca 0, 32, .inl (st_F t2 2))), (a2 6, .inl (ca 0, 32, .inl (st_F t2 3))), (a2 7, .inl (ca 0, 32, .inl (st_F t2 4))), (a2 8, .inl (ca 0, 1024, .inl (st_F t2 5))), (a2 9, .inl (ca 0, 32, .inl (st_F t2 6))), (a2 10, .inl (ca 1, 32, .inr (.inl (st_G t2 1)))), (q23, .inl (ca 1, 5120, .inr (.inl (fun _ => 0))))] H := hP
  have hD : va_D A [(h0, .inr (1, [.ref (a1 0), .ref (a2 0), .ref q23, .long 0, .long 0, .long 0, .int 0, .long 0])), (a1 0, .inr (0, [.ref (a1 1), .ref (a1 2), .ref (a1 3), .ref (a1 4), .ref (a1 5), .ref (a1 6), .ref (a1 7), .ref (a1 8), .ref (a1 9), .ref (a1 10), .long (st_J t1 0), .long (st_J t1 1)])), (a1 1, .inl (ca 0, 32, .inl (st_F t1 0))), (a1 2, .inl (ca 1, 32, .inr (.inl (st_G t1 0)))), (a1 3, .inl (ca 0, 32, .inl (st_F t1 1))), (a1 4, .inl (ca 3, 32, .inr (.inr (.inr (.inr (fun _ => none)))))), (a1 5, .inl (ca 0, 32, .inl (st_F t1 2))), (a1 6, .inl (ca 0, 32, .inl (st_F t1 3))), (a1 7, .inl (ca 0, 32, .inl (st_F t1 4))), (a1 8, .inl (ca 0, 1024, .inl (st_F t1 5))), (a1 9, .inl (ca 0, 32, .inl (st_F t1 6))), (a1 10, .inl (ca 1, 32, .inr (.inl (st_G t1 1)))), (a2 0, .inr (0, [.ref (a2 1), .ref (a2 2), .ref (a2 3), .ref (a2 4), .ref (a2 5), .ref (a2 6), .ref (a2 7), .ref (a2 8), .ref (a2 9), .ref (a2 10), .long (st_J t2 0), .long (st_J t2 1)])), (a2 1, .inl (ca 0, 32, .inl (st_F t2 0))), (a2 2, .inl (ca 1, 32, .inr (.inl (st_G t2 0)))), (a2 3, .inl (ca 0, 32, .inl (st_F t2 1))), (a2 4, .inl (ca 3, 32, .inr (.inr (.inr (.inr (fun _ => none)))))), (a2 5, .inl (ca 0, 32, .inl (st_F t2 2))), (a2 6, .inl (ca 0, 32, .inl (st_F t2 3))), (a2 7, .inl (ca 0, 32, .inl (st_F t2 4))), (a2 8, .inl (ca 0, 1024, .inl (st_F t2 5))), (a2 9, .inl (ca 0, 32, .inl (st_F t2 6))), (a2 10, .inl (ca 1, 32, .inr (.inl (st_G t2 1)))), (q23, .inl (ca 1, 5120, .inr (.inl (fun _ => 0))))] := hD
  have hP9 : va_P D classes (WK1 ca (fun k => ([h0, a1 0, a2 0, a1 1, a1 2, a1 3, a1 4, a1 5, a1 6, a1 7, a1 8, a1 9, a1 10, a2 1, a2 2, a2 3, a2 4, a2 5, a2 6, a2 7, a2 8, a2 9, a2 10, q23] : List Nat).getD k 0) (t0_1 t1 t2)) H := hP.sub [0, 1, 12, 2, 3, 4, 5, 6, 7, 8, 9, 10, 11, 13, 14, 15, 16, 17, 18, 19, 20, 21, 22, 23] rfl
  have hD9 : va_D A (WK1 ca (fun k => ([h0, a1 0, a2 0, a1 1, a1 2, a1 3, a1 4, a1 5, a1 6, a1 7, a1 8, a1 9, a1 10, a2 1, a2 2, a2 3, a2 4, a2 5, a2 6, a2 7, a2 8, a2 9, a2 10, q23] : List Nat).getD k 0) (t0_1 t1 t2)) := hD.sub [0, 1, 12, 2, 3, 4, 5, 6, 7, 8, 9, 10, 11, 13, 14, 15, 16, 17, 18, 19, 20, 21, 22, 23] (by decide) rfl
  exact W.vret hx hb hr (fun z hz hW => ⟨⟨rfl, (fun k => ([h0, a1 0, a2 0, a1 1, a1 2, a1 3, a1 4, a1 5, a1 6, a1 7, a1 8, a1 9, a1 10, a2 1, a2 2, a2 3, a2 4, a2 5, a2 6, a2 7, a2 8, a2 9, a2 10, q23] : List Nat).getD k 0), (t0_1 t1 t2), rfl, ⟨t1, t2, hp1, hp2, rfl⟩, by rw [hz]; exact hP9, hD9⟩, hS.F hz⟩) hS.2.2 dX1_init_60 hlocks
theorem dX7_init_0 : decode prog_9_method_1_code 0 = .ok (.aload_n 0, 1) := by decide +kernel
theorem dX7_init_1 : decode prog_9_method_1_code 1 = .ok (.invokespecial 3, 3) := by decide +kernel
theorem dX7_init_4 : decode prog_9_method_1_code 4 = .ok (.aload_n 0, 1) := by decide +kernel
theorem dX7_init_5 : decode prog_9_method_1_code 5 = .ok (.bipush 32, 2) := by decide +kernel
theorem dX7_init_7 : decode prog_9_method_1_code 7 = .ok (.newarray .int, 2) := by decide +kernel
theorem dX7_init_9 : decode prog_9_method_1_code 9 = .ok (.putfield 9, 3) := by decide +kernel
theorem dX7_init_12 : decode prog_9_method_1_code 12 = .ok (.aload_n 0, 1) := by decide +kernel
theorem dX7_init_13 : decode prog_9_method_1_code 13 = .ok (.bipush 32, 2) := by decide +kernel
theorem dX7_init_15 : decode prog_9_method_1_code 15 = .ok (.newarray .long, 2) := by decide +kernel
theorem dX7_init_17 : decode prog_9_method_1_code 17 = .ok (.putfield 15, 3) := by decide +kernel
theorem dX7_init_20 : decode prog_9_method_1_code 20 = .ok (.aload_n 0, 1) := by decide +kernel
theorem dX7_init_21 : decode prog_9_method_1_code 21 = .ok (.bipush 32, 2) := by decide +kernel
theorem dX7_init_23 : decode prog_9_method_1_code 23 = .ok (.anewarray 19, 3) := by decide +kernel
theorem dX7_init_26 : decode prog_9_method_1_code 26 = .ok (.putfield 21, 3) := by decide +kernel
theorem dX7_init_29 : decode prog_9_method_1_code 29 = .ok (.aload_n 0, 1) := by decide +kernel
theorem dX7_init_30 : decode prog_9_method_1_code 30 = .ok (.lconst 0, 1) := by decide +kernel
theorem dX7_init_31 : decode prog_9_method_1_code 31 = .ok (.putfield 25, 3) := by decide +kernel
theorem dX7_init_34 : decode prog_9_method_1_code 34 = .ok (.return_, 1) := by decide +kernel
def foK7_0 (a : Nat → Nat) (t : fw_S) : List Value := [.ref (a 1), .ref (a 2), .ref (a 3), .long (st_J t 0)]
def WK7 (ca : Nat → ClassId) (a : Nat → Nat) (t : fw_S) : va_W := [(a 0, .inr (7, foK7_0 a t)), (a 1, .inl (ca 0, 32, .inl (st_F t 0))), (a 2, .inl (ca 1, 32, .inr (.inl (st_G t 0)))), (a 3, .inl (ca 3, 32, .inr (.inr (.inr (.inr (fun _ => none))))))]
theorem okK7 (ca : Nat → ClassId) (a : Nat → Nat) : fw_ok (WK7 ca a) := fun t u => rfl
theorem heK7_0 (ca : Nat → ClassId) (a : Nat → Nat) (t : fw_S) : (WK7 ca a t)[0]? = some (a 0, .inr (7, foK7_0 a t)) := rfl
theorem suK7_0_3 {ca : Nat → ClassId} {a : Nat → Nat} {t : fw_S} {v : Int64} : (WK7 ca a t).set 0 (a 0, .inr (7, (foK7_0 a t).set 3 (.long v))) = WK7 ca a (up_J t 0 v) := rfl
theorem haK7_1 (ca : Nat → ClassId) (a : Nat → Nat) (t : fw_S) : (WK7 ca a t)[1]? = some (a 1, .inl (ca 0, 32, .inl (st_F t 0))) := rfl
theorem saK7_1 {ca : Nat → ClassId} {a : Nat → Nat} {t : fw_S} {f : Nat → Int32} : (WK7 ca a t).set 1 (a 1, .inl (ca 0, 32, .inl (f))) = WK7 ca a (up_F t 0 f) := rfl
theorem haK7_2 (ca : Nat → ClassId) (a : Nat → Nat) (t : fw_S) : (WK7 ca a t)[2]? = some (a 2, .inl (ca 1, 32, .inr (.inl (st_G t 0)))) := rfl
theorem saK7_2 {ca : Nat → ClassId} {a : Nat → Nat} {t : fw_S} {f : Nat → Int64} : (WK7 ca a t).set 2 (a 2, .inl (ca 1, 32, .inr (.inl (f)))) = WK7 ca a (up_G t 0 f) := rfl
theorem haK7_3 (ca : Nat → ClassId) (a : Nat → Nat) (t : fw_S) : (WK7 ca a t)[3]? = some (a 3, .inl (ca 3, 32, .inr (.inr (.inr (.inr (fun _ => none)))))) := rfl
theorem saK7_3 {ca : Nat → ClassId} {a : Nat → Nat} {t : fw_S} : (WK7 ca a t).set 3 (a 3, .inl (ca 3, 32, .inr (.inr (.inr (.inr (fun _ => none)))))) = WK7 ca a t := rfl
def t0_7  : fw_S := (fun n => ([] : List Int32).getD n 0, fun n => ([0] : List Int64).getD n 0, fun n => ([(fun _ => 0)] : List (Nat → Int32)).getD n (fun _ => 0), fun n => ([(fun _ => 0)] : List (Nat → Int64)).getD n (fun _ => 0))
abbrev rm_K7 : Room := { frames := 1, cells := 3, slots := 96, locals := 20 }
def Pr_7 (t : fw_S) : Prop := t = t0_7
set_option maxHeartbeats 4000000 in
set_option maxRecDepth 100000 in
theorem k_7 {l : Launch} {D : va_G} {ca : Nat → ClassId} : KC D ca l yX7_init (.code yX7_init prog_9_method_1_code 1 none :: lw_gd) rm_K7 7 [.null, .null, .null, .long 0] 3 96 (WK7 ca) Pr_7 := by
  intro h0 sz
  refine fw_ofW (cc := prog_9_method_1_code) (maxL := 1) (ret := none) (by decide +kernel) rfl ?_
  intro p e s m args below meth c s₁ B hml hv
  obtain ⟨rfl, hsz, hP, hK, hO, hD0⟩ := hv
  have hx := B.exec
  have hb := B.bytes
  have hr := B.returns
  have hts0 := atoms_spec (ws := .code yX7_init prog_9_method_1_code 1 none :: lw_gd) B.pre
  have hts : ∀ q ∈ lw_gd, q.before _ s = true := fun q hq => hts0 q (List.mem_cons_of_mem _ hq)
  have hown : s.vm.findClass RX7 = some m.cls := findClass_of_methodNamed B.named
  have hlocks := B.notSynchronized
  have hin : meth.name = "<init>" := (name_of_methodNamed B.named B.method).1
  subst hsz
  have hD := hD0.self (sz := s.heap.size)
  generalize hAe : va_A [(h0, .inr (7, [.null, .null, .null, .long 0]))] s.heap.size = A at hD ⊢
  have hA : ∀ q : Nat, s.heap.size ≤ q → A q := fun q h => by rw [← hAe]; exact Or.inr h
  have hS : va_S A s.heap s.heap [] := va_S.rf
  have hP : va_P D classes [(h0, .inr (7, [.null, .null, .null, .long 0]))] s.heap := hP
  have hl := lv_entry ([.ref h0]) (n := 1) (Nat.le_of_ble_eq_true rfl)
  rw [lg_entry_eq]
  generalize (lg_sl ([.ref h0]) ++ List.replicate (1 - (lg_sl ([.ref h0])).length) Slot.unset).toArray = ls at hl ⊢
  have hl : lv_has ls 1 [(0, .ref h0)] := hl
  show W p l e rm_K7 s m #[Value.ref h0] below meth c s.heap [] 0 0 _ _
  refine lv_aload_n hx hb dX7_init_0 rfl (lv_at hl 0 rfl) ?_
  refine W.objInit hx hb hown (hts _ kw_255) (hts _ kw_114) (hts _ kw_115) rfl (by rw [hml]; exact hl.1) rfl dX7_init_1 (Nat.le_of_ble_eq_true rfl) (Nat.le_of_ble_eq_true rfl) ?_
  refine W.eq (g2 := F0 m 4 ls []) rfl ?_
  refine lv_aload_n hx hb dX7_init_4 rfl (lv_at hl 0 rfl) ?_
  refine lv_bipush (v := 32) hx hb dX7_init_5 (by decide) ?_
  refine fw_newa (atype := .int) (ty := .int) (a0 := (32, .inl (fun _ => 0))) (N' := 32) hx hb (hts _ kw_153) rfl hK hP hD hS hA (fun _ => rfl) (by decide) rfl (Nat.le_of_ble_eq_true rfl) (Nat.le_of_ble_eq_true rfl) (Nat.le_of_ble_eq_true rfl) dX7_init_7 0 rfl (fun _ h => h) (fun q1 H hP hD hS => ?_)
  have hP : va_P D classes [(h0, .inr (7, [.null, .null, .null, .long 0])), (q1, .inl (ca 0, 32, .inl (fun _ => 0)))] H := hP
  have hD : va_D A [(h0, .inr (7, [.null, .null, .null, .long 0])), (q1, .inl (ca 0, 32, .inl (fun _ => 0)))] := hD
  refine W.widen (k := 1) (n := 32) (Nat.le_of_ble_eq_true rfl) (Nat.le_of_ble_eq_true rfl) ?_
  refine va_putF (D := D) (ci := 7) (v := .ref q1) (ty := .array .int) (C := RX7) (T := TX7) (N := 4) hx hb hts inX7 tyX7 tyX7_ok nmX7 hown hK hP hD hS 0 rfl rfl 0 (by decide) (hts _ kw_257) (fun _ h9 => h9) rfl hin rfl (by decide +kernel) rfl rfl (Nat.le_of_ble_eq_true rfl) dX7_init_9 (fun H locs hP hD hS => ?_)
  have hP : va_P D classes [(h0, .inr (7, [.ref q1, .null, .null, .long 0])), (q1, .inl (ca 0, 32, .inl (fun _ => 0)))] H := hP
  have hD : va_D A [(h0, .inr (7, [.ref q1, .null, .null, .long 0])), (q1, .inl (ca 0, 32, .inl (fun _ => 0)))] := hD
  refine lv_aload_n hx hb dX7_init_12 rfl (lv_at hl 0 rfl) ?_
  refine lv_bipush (v := 32) hx hb dX7_init_13 (by decide) ?_
  refine fw_newa (atype := .long) (ty := .long) (a0 := (32, .inr (.inl (fun _ => 0)))) (N' := 32) hx hb (hts _ kw_224) rfl hK hP hD hS hA (fun _ => rfl) (by decide) rfl (Nat.le_of_ble_eq_true rfl) (Nat.le_of_ble_eq_true rfl) (Nat.le_of_ble_eq_true rfl) dX7_init_15 1 rfl (fun _ h => h) (fun q2 H hP hD hS => ?_)
  have hP : va_P D classes [(h0, .inr (7, [.ref q1, .null, .null, .long 0])), (q1, .inl (ca 0, 32, .inl (fun _ => 0))), (q2, .inl (ca 1, 32, .inr (.inl (fun _ => 0))))] H := hP
  have hD : va_D A [(h0, .inr (7, [.ref q1, .null, .null, .long 0])), (q1, .inl (ca 0, 32, .inl (fun _ => 0))), (q2, .inl (ca 1, 32, .inr (.inl (fun _ => 0))))] := hD
  refine W.widen (k := 2) (n := 64) (Nat.le_of_ble_eq_true rfl) (Nat.le_of_ble_eq_true rfl) ?_
  refine va_putF (D := D) (ci := 7) (v := .ref q2) (ty := .array .long) (C := RX7) (T := TX7) (N := 4) hx hb hts inX7 tyX7 tyX7_ok nmX7 hown hK hP hD hS 0 rfl rfl 1 (by decide) (hts _ kw_258) (fun _ h9 => h9) rfl hin rfl (by decide +kernel) rfl rfl (Nat.le_of_ble_eq_true rfl) dX7_init_17 (fun H locs hP hD hS => ?_)
  have hP : va_P D classes [(h0, .inr (7, [.ref q1, .ref q2, .null, .long 0])), (q1, .inl (ca 0, 32, .inl (fun _ => 0))), (q2, .inl (ca 1, 32, .inr (.inl (fun _ => 0))))] H := hP
  have hD : va_D A [(h0, .inr (7, [.ref q1, .ref q2, .null, .long 0])), (q1, .inl (ca 0, 32, .inl (fun _ => 0))), (q2, .inl (ca 1, 32, .inr (.inl (fun _ => 0))))] := hD
  refine lv_aload_n hx hb dX7_init_20 rfl (lv_at hl 0 rfl) ?_
  refine lv_bipush (v := 32) hx hb dX7_init_21 (by decide) ?_
  refine fw_newq (C := RX2) (N' := 32) hx hb hown (hts _ kw_256) hO.2 hK hP hD hS hA (by decide) rfl (Nat.le_of_ble_eq_true rfl) (Nat.le_of_ble_eq_true rfl) (Nat.le_of_ble_eq_true rfl) dX7_init_23 3 rfl (fun q3 H hP hD hS => ?_)
  have hP : va_P D classes [(h0, .inr (7, [.ref q1, .ref q2, .null, .long 0])), (q1, .inl (ca 0, 32, .inl (fun _ => 0))), (q2, .inl (ca 1, 32, .inr (.inl (fun _ => 0)))), (q3, .inl (ca 3, 32, .inr (.inr (.inr (.inr (fun _ => none))))))] H := hP
  have hD : va_D A [(h0, .inr (7, [.ref q1, .ref q2, .null, .long 0])), (q1, .inl (ca 0, 32, .inl (fun _ => 0))), (q2, .inl (ca 1, 32, .inr (.inl (fun _ => 0)))), (q3, .inl (ca 3, 32, .inr (.inr (.inr (.inr (fun _ => none))))))] := hD
  refine W.widen (k := 3) (n := 96) (Nat.le_of_ble_eq_true rfl) (Nat.le_of_ble_eq_true rfl) ?_
  refine va_putF (D := D) (ci := 7) (v := .ref q3) (ty := .array (.object "ReactiveSheet$Formula")) (C := RX7) (T := TX7) (N := 4) hx hb hts inX7 tyX7 tyX7_ok nmX7 hown hK hP hD hS 0 rfl rfl 2 (by decide) (hts _ kw_259) (fun _ h9 => h9) rfl hin rfl (by decide +kernel) rfl rfl (Nat.le_of_ble_eq_true rfl) dX7_init_26 (fun H locs hP hD hS => ?_)
  have hP : va_P D classes [(h0, .inr (7, [.ref q1, .ref q2, .ref q3, .long 0])), (q1, .inl (ca 0, 32, .inl (fun _ => 0))), (q2, .inl (ca 1, 32, .inr (.inl (fun _ => 0)))), (q3, .inl (ca 3, 32, .inr (.inr (.inr (.inr (fun _ => none))))))] H := hP
  have hD : va_D A [(h0, .inr (7, [.ref q1, .ref q2, .ref q3, .long 0])), (q1, .inl (ca 0, 32, .inl (fun _ => 0))), (q2, .inl (ca 1, 32, .inr (.inl (fun _ => 0)))), (q3, .inl (ca 3, 32, .inr (.inr (.inr (.inr (fun _ => none))))))] := hD
  refine lv_aload_n hx hb dX7_init_29 rfl (lv_at hl 0 rfl) ?_
  refine lv_lconst (v := 0) hx hb dX7_init_30 (by decide) ?_
  refine va_put (D := D) (ci := 7) (v := .long 0) (ty := .long) (C := RX7) (T := TX7) (N := 4) hx hb hts inX7 tyX7 tyX7_ok nmX7 hown hK hP hD hS 0 rfl rfl 3 (by decide) (hts _ kw_260) (fun _ h9 => h9) rfl (by decide +kernel) rfl rfl (Nat.le_of_ble_eq_true rfl) dX7_init_31 (fun H locs hP hD hS => ?_)
  have hP : va_P D classes [(h0, .inr (7, [.ref q1, .ref q2, .ref q3, .long 0])), (q1, .inl (ca 0, 32, .inl (fun _ => 0))), (q2, .inl (ca 1, 32, .inr (.inl (fun _ => 0)))), (q3, .inl (ca 3, 32, .inr (.inr (.inr (.inr (fun _ => none))))))] H := hP
  have hD : va_D A [(h0, .inr (7, [.ref q1, .ref q2, .ref q3, .long 0])), (q1, .inl (ca 0, 32, .inl (fun _ => 0))), (q2, .inl (ca 1, 32, .inr (.inl (fun _ => 0)))), (q3, .inl (ca 3, 32, .inr (.inr (.inr (.inr (fun _ => none))))))] := hD
  have hP9 : va_P D classes (WK7 ca (fun k => ([h0, q1, q2, q3] : List Nat).getD k 0) (t0_7)) H := hP.sub [0, 1, 2, 3] rfl
  have hD9 : va_D A (WK7 ca (fun k => ([h0, q1, q2, q3] : List Nat).getD k 0) (t0_7)) := hD.sub [0, 1, 2, 3] (by decide) rfl
  exact W.vret hx hb hr (fun z hz hW => ⟨⟨rfl, (fun k => ([h0, q1, q2, q3] : List Nat).getD k 0), (t0_7), rfl, rfl, by rw [hz]; exact hP9, hD9⟩, hS.F hz⟩) hS.2.2 dX7_init_34 hlocks
theorem dX9_init_0 : decode prog_11_method_1_code 0 = .ok (.aload_n 0, 1) := by decide +kernel
theorem dX9_init_1 : decode prog_11_method_1_code 1 = .ok (.invokespecial 3, 3) := by decide +kernel
theorem dX9_init_4 : decode prog_11_method_1_code 4 = .ok (.aload_n 0, 1) := by decide +kernel
theorem dX9_init_5 : decode prog_11_method_1_code 5 = .ok (.bipush 8, 2) := by decide +kernel
theorem dX9_init_7 : decode prog_11_method_1_code 7 = .ok (.newarray .int, 2) := by decide +kernel
theorem dX9_init_9 : decode prog_11_method_1_code 9 = .ok (.putfield 11, 3) := by decide +kernel
theorem dX9_init_12 : decode prog_11_method_1_code 12 = .ok (.aload_n 0, 1) := by decide +kernel
theorem dX9_init_13 : decode prog_11_method_1_code 13 = .ok (.bipush 8, 2) := by decide +kernel
theorem dX9_init_15 : decode prog_11_method_1_code 15 = .ok (.newarray .int, 2) := by decide +kernel
theorem dX9_init_17 : decode prog_11_method_1_code 17 = .ok (.putfield 15, 3) := by decide +kernel
theorem dX9_init_20 : decode prog_11_method_1_code 20 = .ok (.aload_n 0, 1) := by decide +kernel
theorem dX9_init_21 : decode prog_11_method_1_code 21 = .ok (.bipush 8, 2) := by decide +kernel
theorem dX9_init_23 : decode prog_11_method_1_code 23 = .ok (.newarray .long, 2) := by decide +kernel
theorem dX9_init_25 : decode prog_11_method_1_code 25 = .ok (.putfield 18, 3) := by decide +kernel
theorem dX9_init_28 : decode prog_11_method_1_code 28 = .ok (.aload_n 0, 1) := by decide +kernel
theorem dX9_init_29 : decode prog_11_method_1_code 29 = .ok (.iconst 0, 1) := by decide +kernel
theorem dX9_init_30 : decode prog_11_method_1_code 30 = .ok (.putfield 22, 3) := by decide +kernel
theorem dX9_init_33 : decode prog_11_method_1_code 33 = .ok (.aload_n 0, 1) := by decide +kernel
theorem dX9_init_34 : decode prog_11_method_1_code 34 = .ok (.lconst 0, 1) := by decide +kernel
theorem dX9_init_35 : decode prog_11_method_1_code 35 = .ok (.putfield 26, 3) := by decide +kernel
theorem dX9_init_38 : decode prog_11_method_1_code 38 = .ok (.aload_n 0, 1) := by decide +kernel
theorem dX9_init_39 : decode prog_11_method_1_code 39 = .ok (.bipush 60, 2) := by decide +kernel
theorem dX9_init_41 : decode prog_11_method_1_code 41 = .ok (.newarray .int, 2) := by decide +kernel
theorem dX9_init_43 : decode prog_11_method_1_code 43 = .ok (.putfield 30, 3) := by decide +kernel
theorem dX9_init_46 : decode prog_11_method_1_code 46 = .ok (.aload_n 0, 1) := by decide +kernel
theorem dX9_init_47 : decode prog_11_method_1_code 47 = .ok (.bipush 60, 2) := by decide +kernel
theorem dX9_init_49 : decode prog_11_method_1_code 49 = .ok (.newarray .int, 2) := by decide +kernel
theorem dX9_init_51 : decode prog_11_method_1_code 51 = .ok (.putfield 33, 3) := by decide +kernel
theorem dX9_init_54 : decode prog_11_method_1_code 54 = .ok (.aload_n 0, 1) := by decide +kernel
theorem dX9_init_55 : decode prog_11_method_1_code 55 = .ok (.bipush 60, 2) := by decide +kernel
theorem dX9_init_57 : decode prog_11_method_1_code 57 = .ok (.newarray .int, 2) := by decide +kernel
theorem dX9_init_59 : decode prog_11_method_1_code 59 = .ok (.putfield 36, 3) := by decide +kernel
theorem dX9_init_62 : decode prog_11_method_1_code 62 = .ok (.aload_n 0, 1) := by decide +kernel
theorem dX9_init_63 : decode prog_11_method_1_code 63 = .ok (.bipush 60, 2) := by decide +kernel
theorem dX9_init_65 : decode prog_11_method_1_code 65 = .ok (.newarray .long, 2) := by decide +kernel
theorem dX9_init_67 : decode prog_11_method_1_code 67 = .ok (.putfield 39, 3) := by decide +kernel
theorem dX9_init_70 : decode prog_11_method_1_code 70 = .ok (.aload_n 0, 1) := by decide +kernel
theorem dX9_init_71 : decode prog_11_method_1_code 71 = .ok (.bipush 60, 2) := by decide +kernel
theorem dX9_init_73 : decode prog_11_method_1_code 73 = .ok (.newarray .long, 2) := by decide +kernel
theorem dX9_init_75 : decode prog_11_method_1_code 75 = .ok (.putfield 42, 3) := by decide +kernel
theorem dX9_init_78 : decode prog_11_method_1_code 78 = .ok (.aload_n 0, 1) := by decide +kernel
theorem dX9_init_79 : decode prog_11_method_1_code 79 = .ok (.iconst 0, 1) := by decide +kernel
theorem dX9_init_80 : decode prog_11_method_1_code 80 = .ok (.putfield 45, 3) := by decide +kernel
theorem dX9_init_83 : decode prog_11_method_1_code 83 = .ok (.aload_n 0, 1) := by decide +kernel
theorem dX9_init_84 : decode prog_11_method_1_code 84 = .ok (.iconst 0, 1) := by decide +kernel
theorem dX9_init_85 : decode prog_11_method_1_code 85 = .ok (.putfield 48, 3) := by decide +kernel
theorem dX9_init_88 : decode prog_11_method_1_code 88 = .ok (.return_, 1) := by decide +kernel
def foK9_0 (a : Nat → Nat) (t : fw_S) : List Value := [.ref (a 1), .ref (a 2), .ref (a 3), .int (st_I t 0), .long (st_J t 0), .ref (a 4), .ref (a 5), .ref (a 6), .ref (a 7), .ref (a 8), .int (st_I t 1), .int (st_I t 2)]
def WK9 (ca : Nat → ClassId) (a : Nat → Nat) (t : fw_S) : va_W := [(a 0, .inr (9, foK9_0 a t)), (a 1, .inl (ca 0, 8, .inl (st_F t 0))), (a 2, .inl (ca 0, 8, .inl (st_F t 1))), (a 3, .inl (ca 1, 8, .inr (.inl (st_G t 0)))), (a 4, .inl (ca 0, 60, .inl (st_F t 2))), (a 5, .inl (ca 0, 60, .inl (st_F t 3))), (a 6, .inl (ca 0, 60, .inl (st_F t 4))), (a 7, .inl (ca 1, 60, .inr (.inl (st_G t 1)))), (a 8, .inl (ca 1, 60, .inr (.inl (st_G t 2))))]
theorem okK9 (ca : Nat → ClassId) (a : Nat → Nat) : fw_ok (WK9 ca a) := fun t u => rfl
theorem heK9_0 (ca : Nat → ClassId) (a : Nat → Nat) (t : fw_S) : (WK9 ca a t)[0]? = some (a 0, .inr (9, foK9_0 a t)) := rfl
theorem suK9_0_3 {ca : Nat → ClassId} {a : Nat → Nat} {t : fw_S} {v : Int32} : (WK9 ca a t).set 0 (a 0, .inr (9, (foK9_0 a t).set 3 (.int v))) = WK9 ca a (up_I t 0 v) := rfl
theorem suK9_0_4 {ca : Nat → ClassId} {a : Nat → Nat} {t : fw_S} {v : Int64} : (WK9 ca a t).set 0 (a 0, .inr (9, (foK9_0 a t).set 4 (.long v))) = WK9 ca a (up_J t 0 v) := rfl
theorem suK9_0_10 {ca : Nat → ClassId} {a : Nat → Nat} {t : fw_S} {v : Int32} : (WK9 ca a t).set 0 (a 0, .inr (9, (foK9_0 a t).set 10 (.int v))) = WK9 ca a (up_I t 1 v) := rfl
theorem suK9_0_11 {ca : Nat → ClassId} {a : Nat → Nat} {t : fw_S} {v : Int32} : (WK9 ca a t).set 0 (a 0, .inr (9, (foK9_0 a t).set 11 (.int v))) = WK9 ca a (up_I t 2 v) := rfl
theorem haK9_1 (ca : Nat → ClassId) (a : Nat → Nat) (t : fw_S) : (WK9 ca a t)[1]? = some (a 1, .inl (ca 0, 8, .inl (st_F t 0))) := rfl
theorem saK9_1 {ca : Nat → ClassId} {a : Nat → Nat} {t : fw_S} {f : Nat → Int32} : (WK9 ca a t).set 1 (a 1, .inl (ca 0, 8, .inl (f))) = WK9 ca a (up_F t 0 f) := rfl
theorem haK9_2 (ca : Nat → ClassId) (a : Nat → Nat) (t : fw_S) : (WK9 ca a t)[2]? = some (a 2, .inl (ca 0, 8, .inl (st_F t 1))) := rfl
theorem saK9_2 {ca : Nat → ClassId} {a : Nat → Nat} {t : fw_S} {f : Nat → Int32} : (WK9 ca a t).set 2 (a 2, .inl (ca 0, 8, .inl (f))) = WK9 ca a (up_F t 1 f) := rfl
theorem haK9_3 (ca : Nat → ClassId) (a : Nat → Nat) (t : fw_S) : (WK9 ca a t)[3]? = some (a 3, .inl (ca 1, 8, .inr (.inl (st_G t 0)))) := rfl
theorem saK9_3 {ca : Nat → ClassId} {a : Nat → Nat} {t : fw_S} {f : Nat → Int64} : (WK9 ca a t).set 3 (a 3, .inl (ca 1, 8, .inr (.inl (f)))) = WK9 ca a (up_G t 0 f) := rfl
theorem haK9_4 (ca : Nat → ClassId) (a : Nat → Nat) (t : fw_S) : (WK9 ca a t)[4]? = some (a 4, .inl (ca 0, 60, .inl (st_F t 2))) := rfl
theorem saK9_4 {ca : Nat → ClassId} {a : Nat → Nat} {t : fw_S} {f : Nat → Int32} : (WK9 ca a t).set 4 (a 4, .inl (ca 0, 60, .inl (f))) = WK9 ca a (up_F t 2 f) := rfl
theorem haK9_5 (ca : Nat → ClassId) (a : Nat → Nat) (t : fw_S) : (WK9 ca a t)[5]? = some (a 5, .inl (ca 0, 60, .inl (st_F t 3))) := rfl
theorem saK9_5 {ca : Nat → ClassId} {a : Nat → Nat} {t : fw_S} {f : Nat → Int32} : (WK9 ca a t).set 5 (a 5, .inl (ca 0, 60, .inl (f))) = WK9 ca a (up_F t 3 f) := rfl
theorem haK9_6 (ca : Nat → ClassId) (a : Nat → Nat) (t : fw_S) : (WK9 ca a t)[6]? = some (a 6, .inl (ca 0, 60, .inl (st_F t 4))) := rfl
theorem saK9_6 {ca : Nat → ClassId} {a : Nat → Nat} {t : fw_S} {f : Nat → Int32} : (WK9 ca a t).set 6 (a 6, .inl (ca 0, 60, .inl (f))) = WK9 ca a (up_F t 4 f) := rfl
theorem haK9_7 (ca : Nat → ClassId) (a : Nat → Nat) (t : fw_S) : (WK9 ca a t)[7]? = some (a 7, .inl (ca 1, 60, .inr (.inl (st_G t 1)))) := rfl
theorem saK9_7 {ca : Nat → ClassId} {a : Nat → Nat} {t : fw_S} {f : Nat → Int64} : (WK9 ca a t).set 7 (a 7, .inl (ca 1, 60, .inr (.inl (f)))) = WK9 ca a (up_G t 1 f) := rfl
theorem haK9_8 (ca : Nat → ClassId) (a : Nat → Nat) (t : fw_S) : (WK9 ca a t)[8]? = some (a 8, .inl (ca 1, 60, .inr (.inl (st_G t 2)))) := rfl
theorem saK9_8 {ca : Nat → ClassId} {a : Nat → Nat} {t : fw_S} {f : Nat → Int64} : (WK9 ca a t).set 8 (a 8, .inl (ca 1, 60, .inr (.inl (f)))) = WK9 ca a (up_G t 2 f) := rfl
def t0_9  : fw_S := (fun n => ([0, 0, 0] : List Int32).getD n 0, fun n => ([0] : List Int64).getD n 0, fun n => ([(fun _ => 0), (fun _ => 0), (fun _ => 0), (fun _ => 0), (fun _ => 0)] : List (Nat → Int32)).getD n (fun _ => 0), fun n => ([(fun _ => 0), (fun _ => 0), (fun _ => 0)] : List (Nat → Int64)).getD n (fun _ => 0))
abbrev rm_K9 : Room := { frames := 1, cells := 8, slots := 324, locals := 20 }
def Pr_9 (t : fw_S) : Prop := t = t0_9
set_option maxHeartbeats 4000000 in
set_option maxRecDepth 100000 in
theorem k_9 {l : Launch} {D : va_G} {ca : Nat → ClassId} : KC D ca l yX9_init (.code yX9_init prog_11_method_1_code 1 none :: lw_gd) rm_K9 9 [.null, .null, .null, .int 0, .long 0, .null, .null, .null, .null, .null, .int 0, .int 0] 8 324 (WK9 ca) Pr_9 := by
  intro h0 sz
  refine fw_ofW (cc := prog_11_method_1_code) (maxL := 1) (ret := none) (by decide +kernel) rfl ?_
  intro p e s m args below meth c s₁ B hml hv
  obtain ⟨rfl, hsz, hP, hK, hO, hD0⟩ := hv
  have hx := B.exec
  have hb := B.bytes
  have hr := B.returns
  have hts0 := atoms_spec (ws := .code yX9_init prog_11_method_1_code 1 none :: lw_gd) B.pre
  have hts : ∀ q ∈ lw_gd, q.before _ s = true := fun q hq => hts0 q (List.mem_cons_of_mem _ hq)
  have hown : s.vm.findClass RX9 = some m.cls := findClass_of_methodNamed B.named
  have hlocks := B.notSynchronized
  have hin : meth.name = "<init>" := (name_of_methodNamed B.named B.method).1
  subst hsz
  have hD := hD0.self (sz := s.heap.size)
  generalize hAe : va_A [(h0, .inr (9, [.null, .null, .null, .int 0, .long 0, .null, .null, .null, .null, .null, .int 0, .int 0]))] s.heap.size = A at hD ⊢
  have hA : ∀ q : Nat, s.heap.size ≤ q → A q := fun q h => by rw [← hAe]; exact Or.inr h
  have hS : va_S A s.heap s.heap [] := va_S.rf
  have hP : va_P D classes [(h0, .inr (9, [.null, .null, .null, .int 0, .long 0, .null, .null, .null, .null, .null, .int 0, .int 0]))] s.heap := hP
  have hl := lv_entry ([.ref h0]) (n := 1) (Nat.le_of_ble_eq_true rfl)
  rw [lg_entry_eq]
  generalize (lg_sl ([.ref h0]) ++ List.replicate (1 - (lg_sl ([.ref h0])).length) Slot.unset).toArray = ls at hl ⊢
  have hl : lv_has ls 1 [(0, .ref h0)] := hl
  show W p l e rm_K9 s m #[Value.ref h0] below meth c s.heap [] 0 0 _ _
  refine lv_aload_n hx hb dX9_init_0 rfl (lv_at hl 0 rfl) ?_
  refine W.objInit hx hb hown (hts _ kw_275) (hts _ kw_114) (hts _ kw_115) rfl (by rw [hml]; exact hl.1) rfl dX9_init_1 (Nat.le_of_ble_eq_true rfl) (Nat.le_of_ble_eq_true rfl) ?_
  refine W.eq (g2 := F0 m 4 ls []) rfl ?_
  refine lv_aload_n hx hb dX9_init_4 rfl (lv_at hl 0 rfl) ?_
  refine lv_bipush (v := 8) hx hb dX9_init_5 (by decide) ?_
  refine fw_newa (atype := .int) (ty := .int) (a0 := (8, .inl (fun _ => 0))) (N' := 8) hx hb (hts _ kw_153) rfl hK hP hD hS hA (fun _ => rfl) (by decide) rfl (Nat.le_of_ble_eq_true rfl) (Nat.le_of_ble_eq_true rfl) (Nat.le_of_ble_eq_true rfl) dX9_init_7 0 rfl (fun _ h => h) (fun q1 H hP hD hS => ?_)
  have hP : va_P D classes [(h0, .inr (9, [.null, .null, .null, .int 0, .long 0, .null, .null, .null, .null, .null, .int 0, .int 0])), (q1, .inl (ca 0, 8, .inl (fun _ => 0)))] H := hP
  have hD : va_D A [(h0, .inr (9, [.null, .null, .null, .int 0, .long 0, .null, .null, .null, .null, .null, .int 0, .int 0])), (q1, .inl (ca 0, 8, .inl (fun _ => 0)))] := hD
  refine W.widen (k := 1) (n := 8) (Nat.le_of_ble_eq_true rfl) (Nat.le_of_ble_eq_true rfl) ?_
  refine va_putF (D := D) (ci := 9) (v := .ref q1) (ty := .array .int) (C := RX9) (T := TX9) (N := 12) hx hb hts inX9 tyX9 tyX9_ok nmX9 hown hK hP hD hS 0 rfl rfl 0 (by decide) (hts _ kw_276) (fun _ h9 => h9) rfl hin rfl (by decide +kernel) rfl rfl (Nat.le_of_ble_eq_true rfl) dX9_init_9 (fun H locs hP hD hS => ?_)
  have hP : va_P D classes [(h0, .inr (9, [.ref q1, .null, .null, .int 0, .long 0, .null, .null, .null, .null, .null, .int 0, .int 0])), (q1, .inl (ca 0, 8, .inl (fun _ => 0)))] H := hP
  have hD : va_D A [(h0, .inr (9, [.ref q1, .null, .null, .int 0, .long 0, .null, .null, .null, .null, .null, .int 0, .int 0])), (q1, .inl (ca 0, 8, .inl (fun _ => 0)))] := hD
  refine lv_aload_n hx hb dX9_init_12 rfl (lv_at hl 0 rfl) ?_
  refine lv_bipush (v := 8) hx hb dX9_init_13 (by decide) ?_
  refine fw_newa (atype := .int) (ty := .int) (a0 := (8, .inl (fun _ => 0))) (N' := 8) hx hb (hts _ kw_153) rfl hK hP hD hS hA (fun _ => rfl) (by decide) rfl (Nat.le_of_ble_eq_true rfl) (Nat.le_of_ble_eq_true rfl) (Nat.le_of_ble_eq_true rfl) dX9_init_15 0 rfl (fun _ h => h) (fun q2 H hP hD hS => ?_)
  have hP : va_P D classes [(h0, .inr (9, [.ref q1, .null, .null, .int 0, .long 0, .null, .null, .null, .null, .null, .int 0, .int 0])), (q1, .inl (ca 0, 8, .inl (fun _ => 0))), (q2, .inl (ca 0, 8, .inl (fun _ => 0)))] H := hP
  have hD : va_D A [(h0, .inr (9, [.ref q1, .null, .null, .int 0, .long 0, .null, .null, .null, .null, .null, .int 0, .int 0])), (q1, .inl (ca 0, 8, .inl (fun _ => 0))), (q2, .inl (ca 0, 8, .inl (fun _ => 0)))] := hD
  refine W.widen (k := 2) (n := 16) (Nat.le_of_ble_eq_true rfl) (Nat.le_of_ble_eq_true rfl) ?_
  refine va_putF (D := D) (ci := 9) (v := .ref q2) (ty := .array .int) (C := RX9) (T := TX9) (N := 12) hx hb hts inX9 tyX9 tyX9_ok nmX9 hown hK hP hD hS 0 rfl rfl 1 (by decide) (hts _ kw_277) (fun _ h9 => h9) rfl hin rfl (by decide +kernel) rfl rfl (Nat.le_of_ble_eq_true rfl) dX9_init_17 (fun H locs hP hD hS => ?_)
  have hP : va_P D classes [(h0, .inr (9, [.ref q1, .ref q2, .null, .int 0, .long 0, .null, .null, .null, .null, .null, .int 0, .int 0])), (q1, .inl (ca 0, 8, .inl (fun _ => 0))), (q2, .inl (ca 0, 8, .inl (fun _ => 0)))] H := hP
  have hD : va_D A [(h0, .inr (9, [.ref q1, .ref q2, .null, .int 0, .long 0, .null, .null, .null, .null, .null, .int 0, .int 0])), (q1, .inl (ca 0, 8, .inl (fun _ => 0))), (q2, .inl (ca 0, 8, .inl (fun _ => 0)))] := hD
  refine lv_aload_n hx hb dX9_init_20 rfl (lv_at hl 0 rfl) ?_
  refine lv_bipush (v := 8) hx hb dX9_init_21 (by decide) ?_
  refine fw_newa (atype := .long) (ty := .long) (a0 := (8, .inr (.inl (fun _ => 0)))) (N' := 8) hx hb (hts _ kw_224) rfl hK hP hD hS hA (fun _ => rfl) (by decide) rfl (Nat.le_of_ble_eq_true rfl) (Nat.le_of_ble_eq_true rfl) (Nat.le_of_ble_eq_true rfl) dX9_init_23 1 rfl (fun _ h => h) (fun q3 H hP hD hS => ?_)
  have hP : va_P D classes [(h0, .inr (9, [.ref q1, .ref q2, .null, .int 0, .long 0, .null, .null, .null, .null, .null, .int 0, .int 0])), (q1, .inl (ca 0, 8, .inl (fun _ => 0))), (q2, .inl (ca 0, 8, .inl (fun _ => 0))), (q3, .inl (ca 1, 8, .inr (.inl (fun _ => 0))))] H := hP
  have hD : va_D A [(h0, .inr (9, [.ref q1, .ref q2, .null, .int 0, .long 0, .null, .null, .null, .null, .null, .int 0, .int 0])), (q1, .inl (ca 0, 8, .inl (fun _ => 0))), (q2, .inl (ca 0, 8, .inl (fun _ => 0))), (q3, .inl (ca 1, 8, .inr (.inl (fun _ => 0))))] := hD
  refine W.widen (k := 3) (n := 24) (Nat.le_of_ble_eq_true rfl) (Nat.le_of_ble_eq_true rfl) ?_
  refine va_putF (D := D) (ci := 9) (v := .ref q3) (ty := .array .long) (C := RX9) (T := TX9) (N := 12) hx hb hts inX9 tyX9 tyX9_ok nmX9 hown hK hP hD hS 0 rfl rfl 2 (by decide) (hts _ kw_278) (fun _ h9 => h9) rfl hin rfl (by decide +kernel) rfl rfl (Nat.le_of_ble_eq_true rfl) dX9_init_25 (fun H locs hP hD hS => ?_)
  have hP : va_P D classes [(h0, .inr (9, [.ref q1, .ref q2, .ref q3, .int 0, .long 0, .null, .null, .null, .null, .null, .int 0, .int 0])), (q1, .inl (ca 0, 8, .inl (fun _ => 0))), (q2, .inl (ca 0, 8, .inl (fun _ => 0))), (q3, .inl (ca 1, 8, .inr (.inl (fun _ => 0))))] H := hP
  have hD : va_D A [(h0, .inr (9, [.ref q1, .ref q2, .ref q3, .int 0, .long 0, .null, .null, .null, .null, .null, .int 0, .int 0])), (q1, .inl (ca 0, 8, .inl (fun _ => 0))), (q2, .inl (ca 0, 8, .inl (fun _ => 0))), (q3, .inl (ca 1, 8, .inr (.inl (fun _ => 0))))] := hD
  refine lv_aload_n hx hb dX9_init_28 rfl (lv_at hl 0 rfl) ?_
  refine lv_iconst (v := 0) hx hb dX9_init_29 (by decide) ?_
  refine va_put (D := D) (ci := 9) (v := .int 0) (ty := .int) (C := RX9) (T := TX9) (N := 12) hx hb hts inX9 tyX9 tyX9_ok nmX9 hown hK hP hD hS 0 rfl rfl 3 (by decide) (hts _ kw_279) (fun _ h9 => h9) rfl (by decide +kernel) rfl rfl (Nat.le_of_ble_eq_true rfl) dX9_init_30 (fun H locs hP hD hS => ?_)
  have hP : va_P D classes [(h0, .inr (9, [.ref q1, .ref q2, .ref q3, .int 0, .long 0, .null, .null, .null, .null, .null, .int 0, .int 0])), (q1, .inl (ca 0, 8, .inl (fun _ => 0))), (q2, .inl (ca 0, 8, .inl (fun _ => 0))), (q3, .inl (ca 1, 8, .inr (.inl (fun _ => 0))))] H := hP
  have hD : va_D A [(h0, .inr (9, [.ref q1, .ref q2, .ref q3, .int 0, .long 0, .null, .null, .null, .null, .null, .int 0, .int 0])), (q1, .inl (ca 0, 8, .inl (fun _ => 0))), (q2, .inl (ca 0, 8, .inl (fun _ => 0))), (q3, .inl (ca 1, 8, .inr (.inl (fun _ => 0))))] := hD
  refine lv_aload_n hx hb dX9_init_33 rfl (lv_at hl 0 rfl) ?_
  refine lv_lconst (v := 0) hx hb dX9_init_34 (by decide) ?_
  refine va_put (D := D) (ci := 9) (v := .long 0) (ty := .long) (C := RX9) (T := TX9) (N := 12) hx hb hts inX9 tyX9 tyX9_ok nmX9 hown hK hP hD hS 0 rfl rfl 4 (by decide) (hts _ kw_280) (fun _ h9 => h9) rfl (by decide +kernel) rfl rfl (Nat.le_of_ble_eq_true rfl) dX9_init_35 (fun H locs hP hD hS => ?_)
  have hP : va_P D classes [(h0, .inr (9, [.ref q1, .ref q2, .ref q3, .int 0, .long 0, .null, .null, .null, .null, .null, .int 0, .int 0])), (q1, .inl (ca 0, 8, .inl (fun _ => 0))), (q2, .inl (ca 0, 8, .inl (fun _ => 0))), (q3, .inl (ca 1, 8, .inr (.inl (fun _ => 0))))] H := hP
  have hD : va_D A [(h0, .inr (9, [.ref q1, .ref q2, .ref q3, .int 0, .long 0, .null, .null, .null, .null, .null, .int 0, .int 0])), (q1, .inl (ca 0, 8, .inl (fun _ => 0))), (q2, .inl (ca 0, 8, .inl (fun _ => 0))), (q3, .inl (ca 1, 8, .inr (.inl (fun _ => 0))))] := hD
  refine lv_aload_n hx hb dX9_init_38 rfl (lv_at hl 0 rfl) ?_
  refine lv_bipush (v := 60) hx hb dX9_init_39 (by decide) ?_
  refine fw_newa (atype := .int) (ty := .int) (a0 := (60, .inl (fun _ => 0))) (N' := 60) hx hb (hts _ kw_153) rfl hK hP hD hS hA (fun _ => rfl) (by decide) rfl (Nat.le_of_ble_eq_true rfl) (Nat.le_of_ble_eq_true rfl) (Nat.le_of_ble_eq_true rfl) dX9_init_41 0 rfl (fun _ h => h) (fun q4 H hP hD hS => ?_)
  have hP : va_P D classes [(h0, .inr (9, [.ref q1, .ref q2, .ref q3, .int 0, .long 0, .null, .null, .null, .null, .null, .int 0, .int 0])), (q1, .inl (ca 0, 8, .inl (fun _ => 0))), (q2, .inl (ca 0, 8, .inl (fun _ => 0))), (q3, .inl (ca 1, 8, .inr (.inl (fun _ => 0)))), (q4, .inl (ca 0, 60, .inl (fun _ => 0)))] H := hP
  have hD : va_D A [(h0, .inr (9, [.ref q1, .ref q2, .ref q3, .int 0, .long 0, .null, .null, .null, .null, .null, .int 0, .int 0])), (q1, .inl (ca 0, 8, .inl (fun _ => 0))), (q2, .inl (ca 0, 8, .inl (fun _ => 0))), (q3, .inl (ca 1, 8, .inr (.inl (fun _ => 0)))), (q4, .inl (ca 0, 60, .inl (fun _ => 0)))] := hD
  refine W.widen (k := 4) (n := 84) (Nat.le_of_ble_eq_true rfl) (Nat.le_of_ble_eq_true rfl) ?_
  refine va_putF (D := D) (ci := 9) (v := .ref q4) (ty := .array .int) (C := RX9) (T := TX9) (N := 12) hx hb hts inX9 tyX9 tyX9_ok nmX9 hown hK hP hD hS 0 rfl rfl 5 (by decide) (hts _ kw_281) (fun _ h9 => h9) rfl hin rfl (by decide +kernel) rfl rfl (Nat.le_of_ble_eq_true rfl) dX9_init_43 (fun H locs hP hD hS => ?_)
  have hP : va_P D classes [(h0, .inr (9, [.ref q1, .ref q2, .ref q3, .int 0, .long 0, .ref q4, .null, .null, .null, .null, .int 0, .int 0])), (q1, .inl (ca 0, 8, .inl (fun _ => 0))), (q2, .inl (ca 0, 8, .inl (fun _ => 0))), (q3, .inl (ca 1, 8, .inr (.inl (fun _ => 0)))), (q4, .inl (ca 0, 60, .inl (fun _ => 0)))] H := hP
  have hD : va_D A [(h0, .inr (9, [.ref q1, .ref q2, .ref q3, .int 0, .long 0, .ref q4, .null, .null, .null, .null, .int 0, .int 0])), (q1, .inl (ca 0, 8, .inl (fun _ => 0))), (q2, .inl (ca 0, 8, .inl (fun _ => 0))), (q3, .inl (ca 1, 8, .inr (.inl (fun _ => 0)))), (q4, .inl (ca 0, 60, .inl (fun _ => 0)))] := hD
  refine lv_aload_n hx hb dX9_init_46 rfl (lv_at hl 0 rfl) ?_
  refine lv_bipush (v := 60) hx hb dX9_init_47 (by decide) ?_
  refine fw_newa (atype := .int) (ty := .int) (a0 := (60, .inl (fun _ => 0))) (N' := 60) hx hb (hts _ kw_153) rfl hK hP hD hS hA (fun _ => rfl) (by decide) rfl (Nat.le_of_ble_eq_true rfl) (Nat.le_of_ble_eq_true rfl) (Nat.le_of_ble_eq_true rfl) dX9_init_49 0 rfl (fun _ h => h) (fun q5 H hP hD hS => ?_)
  have hP : va_P D classes [(h0, .inr (9, [.ref q1, .ref q2, .ref q3, .int 0, .long 0, .ref q4, .null, .null, .null, .null, .int 0, .int 0])), (q1, .inl (ca 0, 8, .inl (fun _ => 0))), (q2, .inl (ca 0, 8, .inl (fun _ => 0))), (q3, .inl (ca 1, 8, .inr (.inl (fun _ => 0)))), (q4, .inl (ca 0, 60, .inl (fun _ => 0))), (q5, .inl (ca 0, 60, .inl (fun _ => 0)))] H := hP
  have hD : va_D A [(h0, .inr (9, [.ref q1, .ref q2, .ref q3, .int 0, .long 0, .ref q4, .null, .null, .null, .null, .int 0, .int 0])), (q1, .inl (ca 0, 8, .inl (fun _ => 0))), (q2, .inl (ca 0, 8, .inl (fun _ => 0))), (q3, .inl (ca 1, 8, .inr (.inl (fun _ => 0)))), (q4, .inl (ca 0, 60, .inl (fun _ => 0))), (q5, .inl (ca 0, 60, .inl (fun _ => 0)))] := hD
  refine W.widen (k := 5) (n := 144) (Nat.le_of_ble_eq_true rfl) (Nat.le_of_ble_eq_true rfl) ?_
  refine va_putF (D := D) (ci := 9) (v := .ref q5) (ty := .array .int) (C := RX9) (T := TX9) (N := 12) hx hb hts inX9 tyX9 tyX9_ok nmX9 hown hK hP hD hS 0 rfl rfl 6 (by decide) (hts _ kw_282) (fun _ h9 => h9) rfl hin rfl (by decide +kernel) rfl rfl (Nat.le_of_ble_eq_true rfl) dX9_init_51 (fun H locs hP hD hS => ?_)
  have hP : va_P D classes [(h0, .inr (9, [.ref q1, .ref q2, .ref q3, .int 0, .long 0, .ref q4, .ref q5, .null, .null, .null, .int 0, .int 0])), (q1, .inl (ca 0, 8, .inl (fun _ => 0))), (q2, .inl (ca 0, 8, .inl (fun _ => 0))), (q3, .inl (ca 1, 8, .inr (.inl (fun _ => 0)))), (q4, .inl (ca 0, 60, .inl (fun _ => 0))), (q5, .inl (ca 0, 60, .inl (fun _ => 0)))] H := hP
  have hD : va_D A [(h0, .inr (9, [.ref q1, .ref q2, .ref q3, .int 0, .long 0, .ref q4, .ref q5, .null, .null, .null, .int 0, .int 0])), (q1, .inl (ca 0, 8, .inl (fun _ => 0))), (q2, .inl (ca 0, 8, .inl (fun _ => 0))), (q3, .inl (ca 1, 8, .inr (.inl (fun _ => 0)))), (q4, .inl (ca 0, 60, .inl (fun _ => 0))), (q5, .inl (ca 0, 60, .inl (fun _ => 0)))] := hD
  refine lv_aload_n hx hb dX9_init_54 rfl (lv_at hl 0 rfl) ?_
  refine lv_bipush (v := 60) hx hb dX9_init_55 (by decide) ?_
  refine fw_newa (atype := .int) (ty := .int) (a0 := (60, .inl (fun _ => 0))) (N' := 60) hx hb (hts _ kw_153) rfl hK hP hD hS hA (fun _ => rfl) (by decide) rfl (Nat.le_of_ble_eq_true rfl) (Nat.le_of_ble_eq_true rfl) (Nat.le_of_ble_eq_true rfl) dX9_init_57 0 rfl (fun _ h => h) (fun q6 H hP hD hS => ?_)
  have hP : va_P D classes [(h0, .inr (9, [.ref q1, .ref q2, .ref q3, .int 0, .long 0, .ref q4, .ref q5, .null, .null, .null, .int 0, .int 0])), (q1, .inl (ca 0, 8, .inl (fun _ => 0))), (q2, .inl (ca 0, 8, .inl (fun _ => 0))), (q3, .inl (ca 1, 8, .inr (.inl (fun _ => 0)))), (q4, .inl (ca 0, 60, .inl (fun _ => 0))), (q5, .inl (ca 0, 60, .inl (fun _ => 0))), (q6, .inl (ca 0, 60, .inl (fun _ => 0)))] H := hP
  have hD : va_D A [(h0, .inr (9, [.ref q1, .ref q2, .ref q3, .int 0, .long 0, .ref q4, .ref q5, .null, .null, .null, .int 0, .int 0])), (q1, .inl (ca 0, 8, .inl (fun _ => 0))), (q2, .inl (ca 0, 8, .inl (fun _ => 0))), (q3, .inl (ca 1, 8, .inr (.inl (fun _ => 0)))), (q4, .inl (ca 0, 60, .inl (fun _ => 0))), (q5, .inl (ca 0, 60, .inl (fun _ => 0))), (q6, .inl (ca 0, 60, .inl (fun _ => 0)))] := hD
  refine W.widen (k := 6) (n := 204) (Nat.le_of_ble_eq_true rfl) (Nat.le_of_ble_eq_true rfl) ?_
  refine va_putF (D := D) (ci := 9) (v := .ref q6) (ty := .array .int) (C := RX9) (T := TX9) (N := 12) hx hb hts inX9 tyX9 tyX9_ok nmX9 hown hK hP hD hS 0 rfl rfl 7 (by decide) (hts _ kw_283) (fun _ h9 => h9) rfl hin rfl (by decide +kernel) rfl rfl (Nat.le_of_ble_eq_true rfl) dX9_init_59 (fun H locs hP hD hS => ?_)
  have hP : va_P D classes [(h0, .inr (9, [.ref q1, .ref q2, .ref q3, .int 0, .long 0, .ref q4, .ref q5, .ref q6, .null, .null, .int 0, .int 0])), (q1, .inl (ca 0, 8, .inl (fun _ => 0))), (q2, .inl (ca 0, 8, .inl (fun _ => 0))), (q3, .inl (ca 1, 8, .inr (.inl (fun _ => 0)))), (q4, .inl (ca 0, 60, .inl (fun _ => 0))), (q5, .inl (ca 0, 60, .inl (fun _ => 0))), (q6, .inl (ca 0, 60, .inl (fun _ => 0)))] H := hP
  have hD : va_D A [(h0, .inr (9, [.ref q1, .ref q2, .ref q3, .int 0, .long 0, .ref q4, .ref q5, .ref q6, .null, .null, .int 0, .int 0])), (q1, .inl (ca 0, 8, .inl (fun _ => 0))), (q2, .inl (ca 0, 8, .inl (fun _ => 0))), (q3, .inl (ca 1, 8, .inr (.inl (fun _ => 0)))), (q4, .inl (ca 0, 60, .inl (fun _ => 0))), (q5, .inl (ca 0, 60, .inl (fun _ => 0))), (q6, .inl (ca 0, 60, .inl (fun _ => 0)))] := hD
  refine lv_aload_n hx hb dX9_init_62 rfl (lv_at hl 0 rfl) ?_
  refine lv_bipush (v := 60) hx hb dX9_init_63 (by decide) ?_
  refine fw_newa (atype := .long) (ty := .long) (a0 := (60, .inr (.inl (fun _ => 0)))) (N' := 60) hx hb (hts _ kw_224) rfl hK hP hD hS hA (fun _ => rfl) (by decide) rfl (Nat.le_of_ble_eq_true rfl) (Nat.le_of_ble_eq_true rfl) (Nat.le_of_ble_eq_true rfl) dX9_init_65 1 rfl (fun _ h => h) (fun q7 H hP hD hS => ?_)
  have hP : va_P D classes [(h0, .inr (9, [.ref q1, .ref q2, .ref q3, .int 0, .long 0, .ref q4, .ref q5, .ref q6, .null, .null, .int 0, .int 0])), (q1, .inl (ca 0, 8, .inl (fun _ => 0))), (q2, .inl (ca 0, 8, .inl (fun _ => 0))), (q3, .inl (ca 1, 8, .inr (.inl (fun _ => 0)))), (q4, .inl (ca 0, 60, .inl (fun _ => 0))), (q5, .inl (ca 0, 60, .inl (fun _ => 0))), (q6, .inl (ca 0, 60, .inl (fun _ => 0))), (q7, .inl (ca 1, 60, .inr (.inl (fun _ => 0))))] H := hP
  have hD : va_D A [(h0, .inr (9, [.ref q1, .ref q2, .ref q3, .int 0, .long 0, .ref q4, .ref q5, .ref q6, .null, .null, .int 0, .int 0])), (q1, .inl (ca 0, 8, .inl (fun _ => 0))), (q2, .inl (ca 0, 8, .inl (fun _ => 0))), (q3, .inl (ca 1, 8, .inr (.inl (fun _ => 0)))), (q4, .inl (ca 0, 60, .inl (fun _ => 0))), (q5, .inl (ca 0, 60, .inl (fun _ => 0))), (q6, .inl (ca 0, 60, .inl (fun _ => 0))), (q7, .inl (ca 1, 60, .inr (.inl (fun _ => 0))))] := hD
  refine W.widen (k := 7) (n := 264) (Nat.le_of_ble_eq_true rfl) (Nat.le_of_ble_eq_true rfl) ?_
  refine va_putF (D := D) (ci := 9) (v := .ref q7) (ty := .array .long) (C := RX9) (T := TX9) (N := 12) hx hb hts inX9 tyX9 tyX9_ok nmX9 hown hK hP hD hS 0 rfl rfl 8 (by decide) (hts _ kw_284) (fun _ h9 => h9) rfl hin rfl (by decide +kernel) rfl rfl (Nat.le_of_ble_eq_true rfl) dX9_init_67 (fun H locs hP hD hS => ?_)
  have hP : va_P D classes [(h0, .inr (9, [.ref q1, .ref q2, .ref q3, .int 0, .long 0, .ref q4, .ref q5, .ref q6, .ref q7, .null, .int 0, .int 0])), (q1, .inl (ca 0, 8, .inl (fun _ => 0))), (q2, .inl (ca 0, 8, .inl (fun _ => 0))), (q3, .inl (ca 1, 8, .inr (.inl (fun _ => 0)))), (q4, .inl (ca 0, 60, .inl (fun _ => 0))), (q5, .inl (ca 0, 60, .inl (fun _ => 0))), (q6, .inl (ca 0, 60, .inl (fun _ => 0))), (q7, .inl (ca 1, 60, .inr (.inl (fun _ => 0))))] H := hP
  have hD : va_D A [(h0, .inr (9, [.ref q1, .ref q2, .ref q3, .int 0, .long 0, .ref q4, .ref q5, .ref q6, .ref q7, .null, .int 0, .int 0])), (q1, .inl (ca 0, 8, .inl (fun _ => 0))), (q2, .inl (ca 0, 8, .inl (fun _ => 0))), (q3, .inl (ca 1, 8, .inr (.inl (fun _ => 0)))), (q4, .inl (ca 0, 60, .inl (fun _ => 0))), (q5, .inl (ca 0, 60, .inl (fun _ => 0))), (q6, .inl (ca 0, 60, .inl (fun _ => 0))), (q7, .inl (ca 1, 60, .inr (.inl (fun _ => 0))))] := hD
  refine lv_aload_n hx hb dX9_init_70 rfl (lv_at hl 0 rfl) ?_
  refine lv_bipush (v := 60) hx hb dX9_init_71 (by decide) ?_
  refine fw_newa (atype := .long) (ty := .long) (a0 := (60, .inr (.inl (fun _ => 0)))) (N' := 60) hx hb (hts _ kw_224) rfl hK hP hD hS hA (fun _ => rfl) (by decide) rfl (Nat.le_of_ble_eq_true rfl) (Nat.le_of_ble_eq_true rfl) (Nat.le_of_ble_eq_true rfl) dX9_init_73 1 rfl (fun _ h => h) (fun q8 H hP hD hS => ?_)
  have hP : va_P D classes [(h0, .inr (9, [.ref q1, .ref q2, .ref q3, .int 0, .long 0, .ref q4, .ref q5, .ref q6, .ref q7, .null, .int 0, .int 0])), (q1, .inl (ca 0, 8, .inl (fun _ => 0))), (q2, .inl (ca 0, 8, .inl (fun _ => 0))), (q3, .inl (ca 1, 8, .inr (.inl (fun _ => 0)))), (q4, .inl (ca 0, 60, .inl (fun _ => 0))), (q5, .inl (ca 0, 60, .inl (fun _ => 0))), (q6, .inl (ca 0, 60, .inl (fun _ => 0))), (q7, .inl (ca 1, 60, .inr (.inl (fun _ => 0)))), (q8, .inl (ca 1, 60, .inr (.inl (fun _ => 0))))] H := hP
  have hD : va_D A [(h0, .inr (9, [.ref q1, .ref q2, .ref q3, .int 0, .long 0, .ref q4, .ref q5, .ref q6, .ref q7, .null, .int 0, .int 0])), (q1, .inl (ca 0, 8, .inl (fun _ => 0))), (q2, .inl (ca 0, 8, .inl (fun _ => 0))), (q3, .inl (ca 1, 8, .inr (.inl (fun _ => 0)))), (q4, .inl (ca 0, 60, .inl (fun _ => 0))), (q5, .inl (ca 0, 60, .inl (fun _ => 0))), (q6, .inl (ca 0, 60, .inl (fun _ => 0))), (q7, .inl (ca 1, 60, .inr (.inl (fun _ => 0)))), (q8, .inl (ca 1, 60, .inr (.inl (fun _ => 0))))] := hD
  refine W.widen (k := 8) (n := 324) (Nat.le_of_ble_eq_true rfl) (Nat.le_of_ble_eq_true rfl) ?_
  refine va_putF (D := D) (ci := 9) (v := .ref q8) (ty := .array .long) (C := RX9) (T := TX9) (N := 12) hx hb hts inX9 tyX9 tyX9_ok nmX9 hown hK hP hD hS 0 rfl rfl 9 (by decide) (hts _ kw_285) (fun _ h9 => h9) rfl hin rfl (by decide +kernel) rfl rfl (Nat.le_of_ble_eq_true rfl) dX9_init_75 (fun H locs hP hD hS => ?_)
  have hP : va_P D classes [(h0, .inr (9, [.ref q1, .ref q2, .ref q3, .int 0, .long 0, .ref q4, .ref q5, .ref q6, .ref q7, .ref q8, .int 0, .int 0])), (q1, .inl (ca 0, 8, .inl (fun _ => 0))), (q2, .inl (ca 0, 8, .inl (fun _ => 0))), (q3, .inl (ca 1, 8, .inr (.inl (fun _ => 0)))), (q4, .inl (ca 0, 60, .inl (fun _ => 0))), (q5, .inl (ca 0, 60, .inl (fun _ => 0))), (q6, .inl (ca 0, 60, .inl (fun _ => 0))), (q7, .inl (ca 1, 60, .inr (.inl (fun _ => 0)))), (q8, .inl (ca 1, 60, .inr (.inl (fun _ => 0))))] H := hP
  have hD : va_D A [(h0, .inr (9, [.ref q1, .ref q2, .ref q3, .int 0, .long 0, .ref q4, .ref q5, .ref q6, .ref q7, .ref q8, .int 0, .int 0])), (q1, .inl (ca 0, 8, .inl (fun _ => 0))), (q2, .inl (ca 0, 8, .inl (fun _ => 0))), (q3, .inl (ca 1, 8, .inr (.inl (fun _ => 0)))), (q4, .inl (ca 0, 60, .inl (fun _ => 0))), (q5, .inl (ca 0, 60, .inl (fun _ => 0))), (q6, .inl (ca 0, 60, .inl (fun _ => 0))), (q7, .inl (ca 1, 60, .inr (.inl (fun _ => 0)))), (q8, .inl (ca 1, 60, .inr (.inl (fun _ => 0))))] := hD
  refine lv_aload_n hx hb dX9_init_78 rfl (lv_at hl 0 rfl) ?_
  refine lv_iconst (v := 0) hx hb dX9_init_79 (by decide) ?_
  refine va_put (D := D) (ci := 9) (v := .int 0) (ty := .int) (C := RX9) (T := TX9) (N := 12) hx hb hts inX9 tyX9 tyX9_ok nmX9 hown hK hP hD hS 0 rfl rfl 10 (by decide) (hts _ kw_286) (fun _ h9 => h9) rfl (by decide +kernel) rfl rfl (Nat.le_of_ble_eq_true rfl) dX9_init_80 (fun H locs hP hD hS => ?_)
  have hP : va_P D classes [(h0, .inr (9, [.ref q1, .ref q2, .ref q3, .int 0, .long 0, .ref q4, .ref q5, .ref q6, .ref q7, .ref q8, .int 0, .int 0])), (q1, .inl (ca 0, 8, .inl (fun _ => 0))), (q2, .inl (ca 0, 8, .inl (fun _ => 0))), (q3, .inl (ca 1, 8, .inr (.inl (fun _ => 0)))), (q4, .inl (ca 0, 60, .inl (fun _ => 0))), (q5, .inl (ca 0, 60, .inl (fun _ => 0))), (q6, .inl (ca 0, 60, .inl (fun _ => 0))), (q7, .inl (ca 1, 60, .inr (.inl (fun _ => 0)))), (q8, .inl (ca 1, 60, .inr (.inl (fun _ => 0))))] H := hP
  have hD : va_D A [(h0, .inr (9, [.ref q1, .ref q2, .ref q3, .int 0, .long 0, .ref q4, .ref q5, .ref q6, .ref q7, .ref q8, .int 0, .int 0])), (q1, .inl (ca 0, 8, .inl (fun _ => 0))), (q2, .inl (ca 0, 8, .inl (fun _ => 0))), (q3, .inl (ca 1, 8, .inr (.inl (fun _ => 0)))), (q4, .inl (ca 0, 60, .inl (fun _ => 0))), (q5, .inl (ca 0, 60, .inl (fun _ => 0))), (q6, .inl (ca 0, 60, .inl (fun _ => 0))), (q7, .inl (ca 1, 60, .inr (.inl (fun _ => 0)))), (q8, .inl (ca 1, 60, .inr (.inl (fun _ => 0))))] := hD
  refine lv_aload_n hx hb dX9_init_83 rfl (lv_at hl 0 rfl) ?_
  refine lv_iconst (v := 0) hx hb dX9_init_84 (by decide) ?_
  refine va_put (D := D) (ci := 9) (v := .int 0) (ty := .int) (C := RX9) (T := TX9) (N := 12) hx hb hts inX9 tyX9 tyX9_ok nmX9 hown hK hP hD hS 0 rfl rfl 11 (by decide) (hts _ kw_287) (fun _ h9 => h9) rfl (by decide +kernel) rfl rfl (Nat.le_of_ble_eq_true rfl) dX9_init_85 (fun H locs hP hD hS => ?_)
  have hP : va_P D classes [(h0, .inr (9, [.ref q1, .ref q2, .ref q3, .int 0, .long 0, .ref q4, .ref q5, .ref q6, .ref q7, .ref q8, .int 0, .int 0])), (q1, .inl (ca 0, 8, .inl (fun _ => 0))), (q2, .inl (ca 0, 8, .inl (fun _ => 0))), (q3, .inl (ca 1, 8, .inr (.inl (fun _ => 0)))), (q4, .inl (ca 0, 60, .inl (fun _ => 0))), (q5, .inl (ca 0, 60, .inl (fun _ => 0))), (q6, .inl (ca 0, 60, .inl (fun _ => 0))), (q7, .inl (ca 1, 60, .inr (.inl (fun _ => 0)))), (q8, .inl (ca 1, 60, .inr (.inl (fun _ => 0))))] H := hP
  have hD : va_D A [(h0, .inr (9, [.ref q1, .ref q2, .ref q3, .int 0, .long 0, .ref q4, .ref q5, .ref q6, .ref q7, .ref q8, .int 0, .int 0])), (q1, .inl (ca 0, 8, .inl (fun _ => 0))), (q2, .inl (ca 0, 8, .inl (fun _ => 0))), (q3, .inl (ca 1, 8, .inr (.inl (fun _ => 0)))), (q4, .inl (ca 0, 60, .inl (fun _ => 0))), (q5, .inl (ca 0, 60, .inl (fun _ => 0))), (q6, .inl (ca 0, 60, .inl (fun _ => 0))), (q7, .inl (ca 1, 60, .inr (.inl (fun _ => 0)))), (q8, .inl (ca 1, 60, .inr (.inl (fun _ => 0))))] := hD
  have hP9 : va_P D classes (WK9 ca (fun k => ([h0, q1, q2, q3, q4, q5, q6, q7, q8] : List Nat).getD k 0) (t0_9)) H := hP.sub [0, 1, 2, 3, 4, 5, 6, 7, 8] rfl
  have hD9 : va_D A (WK9 ca (fun k => ([h0, q1, q2, q3, q4, q5, q6, q7, q8] : List Nat).getD k 0) (t0_9)) := hD.sub [0, 1, 2, 3, 4, 5, 6, 7, 8] (by decide) rfl
  exact W.vret hx hb hr (fun z hz hW => ⟨⟨rfl, (fun k => ([h0, q1, q2, q3, q4, q5, q6, q7, q8] : List Nat).getD k 0), (t0_9), rfl, rfl, by rw [hz]; exact hP9, hD9⟩, hS.F hz⟩) hS.2.2 dX9_init_88 hlocks
theorem dX3_init_0 : decode prog_5_method_1_code 0 = .ok (.aload_n 0, 1) := by decide +kernel
theorem dX3_init_1 : decode prog_5_method_1_code 1 = .ok (.invokespecial 3, 3) := by decide +kernel
theorem dX3_init_4 : decode prog_5_method_1_code 4 = .ok (.aload_n 0, 1) := by decide +kernel
theorem dX3_init_5 : decode prog_5_method_1_code 5 = .ok (.bipush 80, 2) := by decide +kernel
theorem dX3_init_7 : decode prog_5_method_1_code 7 = .ok (.newarray .int, 2) := by decide +kernel
theorem dX3_init_9 : decode prog_5_method_1_code 9 = .ok (.putfield 11, 3) := by decide +kernel
theorem dX3_init_12 : decode prog_5_method_1_code 12 = .ok (.aload_n 0, 1) := by decide +kernel
theorem dX3_init_13 : decode prog_5_method_1_code 13 = .ok (.iconst 0, 1) := by decide +kernel
theorem dX3_init_14 : decode prog_5_method_1_code 14 = .ok (.putfield 15, 3) := by decide +kernel
theorem dX3_init_17 : decode prog_5_method_1_code 17 = .ok (.return_, 1) := by decide +kernel
def foK3_0 (a : Nat → Nat) (t : fw_S) : List Value := [.ref (a 1), .int (st_I t 0)]
def WK3 (ca : Nat → ClassId) (a : Nat → Nat) (t : fw_S) : va_W := [(a 0, .inr (3, foK3_0 a t)), (a 1, .inl (ca 0, 80, .inl (st_F t 0)))]
theorem okK3 (ca : Nat → ClassId) (a : Nat → Nat) : fw_ok (WK3 ca a) := fun t u => rfl
theorem heK3_0 (ca : Nat → ClassId) (a : Nat → Nat) (t : fw_S) : (WK3 ca a t)[0]? = some (a 0, .inr (3, foK3_0 a t)) := rfl
theorem suK3_0_1 {ca : Nat → ClassId} {a : Nat → Nat} {t : fw_S} {v : Int32} : (WK3 ca a t).set 0 (a 0, .inr (3, (foK3_0 a t).set 1 (.int v))) = WK3 ca a (up_I t 0 v) := rfl
theorem haK3_1 (ca : Nat → ClassId) (a : Nat → Nat) (t : fw_S) : (WK3 ca a t)[1]? = some (a 1, .inl (ca 0, 80, .inl (st_F t 0))) := rfl
theorem saK3_1 {ca : Nat → ClassId} {a : Nat → Nat} {t : fw_S} {f : Nat → Int32} : (WK3 ca a t).set 1 (a 1, .inl (ca 0, 80, .inl (f))) = WK3 ca a (up_F t 0 f) := rfl
def t0_3  : fw_S := (fun n => ([0] : List Int32).getD n 0, fun n => ([] : List Int64).getD n 0, fun n => ([(fun _ => 0)] : List (Nat → Int32)).getD n (fun _ => 0), fun n => ([] : List (Nat → Int64)).getD n (fun _ => 0))
abbrev rm_K3 : Room := { frames := 1, cells := 1, slots := 80, locals := 20 }
def Pr_3 (t : fw_S) : Prop := t = t0_3
set_option maxHeartbeats 4000000 in
set_option maxRecDepth 100000 in
theorem k_3 {l : Launch} {D : va_G} {ca : Nat → ClassId} : KC D ca l yX3_init (.code yX3_init prog_5_method_1_code 1 none :: lw_gd) rm_K3 3 [.null, .int 0] 1 80 (WK3 ca) Pr_3 := by
  intro h0 sz
  refine fw_ofW (cc := prog_5_method_1_code) (maxL := 1) (ret := none) (by decide +kernel) rfl ?_
  intro p e s m args below meth c s₁ B hml hv
  obtain ⟨rfl, hsz, hP, hK, hO, hD0⟩ := hv
  have hx := B.exec
  have hb := B.bytes
  have hr := B.returns
  have hts0 := atoms_spec (ws := .code yX3_init prog_5_method_1_code 1 none :: lw_gd) B.pre
  have hts : ∀ q ∈ lw_gd, q.before _ s = true := fun q hq => hts0 q (List.mem_cons_of_mem _ hq)
  have hown : s.vm.findClass RX3 = some m.cls := findClass_of_methodNamed B.named
  have hlocks := B.notSynchronized
  have hin : meth.name = "<init>" := (name_of_methodNamed B.named B.method).1
  subst hsz
  have hD := hD0.self (sz := s.heap.size)
  generalize hAe : va_A [(h0, .inr (3, [.null, .int 0]))] s.heap.size = A at hD ⊢
  have hA : ∀ q : Nat, s.heap.size ≤ q → A q := fun q h => by rw [← hAe]; exact Or.inr h
  have hS : va_S A s.heap s.heap [] := va_S.rf
  have hP : va_P D classes [(h0, .inr (3, [.null, .int 0]))] s.heap := hP
  have hl := lv_entry ([.ref h0]) (n := 1) (Nat.le_of_ble_eq_true rfl)
  rw [lg_entry_eq]
  generalize (lg_sl ([.ref h0]) ++ List.replicate (1 - (lg_sl ([.ref h0])).length) Slot.unset).toArray = ls at hl ⊢
  have hl : lv_has ls 1 [(0, .ref h0)] := hl
  show W p l e rm_K3 s m #[Value.ref h0] below meth c s.heap [] 0 0 _ _
  refine lv_aload_n hx hb dX3_init_0 rfl (lv_at hl 0 rfl) ?_
  refine W.objInit hx hb hown (hts _ kw_318) (hts _ kw_114) (hts _ kw_115) rfl (by rw [hml]; exact hl.1) rfl dX3_init_1 (Nat.le_of_ble_eq_true rfl) (Nat.le_of_ble_eq_true rfl) ?_
  refine W.eq (g2 := F0 m 4 ls []) rfl ?_
  refine lv_aload_n hx hb dX3_init_4 rfl (lv_at hl 0 rfl) ?_
  refine lv_bipush (v := 80) hx hb dX3_init_5 (by decide) ?_
  refine fw_newa (atype := .int) (ty := .int) (a0 := (80, .inl (fun _ => 0))) (N' := 80) hx hb (hts _ kw_153) rfl hK hP hD hS hA (fun _ => rfl) (by decide) rfl (Nat.le_of_ble_eq_true rfl) (Nat.le_of_ble_eq_true rfl) (Nat.le_of_ble_eq_true rfl) dX3_init_7 0 rfl (fun _ h => h) (fun q1 H hP hD hS => ?_)
  have hP : va_P D classes [(h0, .inr (3, [.null, .int 0])), (q1, .inl (ca 0, 80, .inl (fun _ => 0)))] H := hP
  have hD : va_D A [(h0, .inr (3, [.null, .int 0])), (q1, .inl (ca 0, 80, .inl (fun _ => 0)))] := hD
  refine W.widen (k := 1) (n := 80) (Nat.le_of_ble_eq_true rfl) (Nat.le_of_ble_eq_true rfl) ?_
  refine va_putF (D := D) (ci := 3) (v := .ref q1) (ty := .array .int) (C := RX3) (T := TX3) (N := 2) hx hb hts inX3 tyX3 tyX3_ok nmX3 hown hK hP hD hS 0 rfl rfl 0 (by decide) (hts _ kw_319) (fun _ h9 => h9) rfl hin rfl (by decide +kernel) rfl rfl (Nat.le_of_ble_eq_true rfl) dX3_init_9 (fun H locs hP hD hS => ?_)
  have hP : va_P D classes [(h0, .inr (3, [.ref q1, .int 0])), (q1, .inl (ca 0, 80, .inl (fun _ => 0)))] H := hP
  have hD : va_D A [(h0, .inr (3, [.ref q1, .int 0])), (q1, .inl (ca 0, 80, .inl (fun _ => 0)))] := hD
  refine lv_aload_n hx hb dX3_init_12 rfl (lv_at hl 0 rfl) ?_
  refine lv_iconst (v := 0) hx hb dX3_init_13 (by decide) ?_
  refine va_put (D := D) (ci := 3) (v := .int 0) (ty := .int) (C := RX3) (T := TX3) (N := 2) hx hb hts inX3 tyX3 tyX3_ok nmX3 hown hK hP hD hS 0 rfl rfl 1 (by decide) (hts _ kw_320) (fun _ h9 => h9) rfl (by decide +kernel) rfl rfl (Nat.le_of_ble_eq_true rfl) dX3_init_14 (fun H locs hP hD hS => ?_)
  have hP : va_P D classes [(h0, .inr (3, [.ref q1, .int 0])), (q1, .inl (ca 0, 80, .inl (fun _ => 0)))] H := hP
  have hD : va_D A [(h0, .inr (3, [.ref q1, .int 0])), (q1, .inl (ca 0, 80, .inl (fun _ => 0)))] := hD
  have hP9 : va_P D classes (WK3 ca (fun k => ([h0, q1] : List Nat).getD k 0) (t0_3)) H := hP.sub [0, 1] rfl
  have hD9 : va_D A (WK3 ca (fun k => ([h0, q1] : List Nat).getD k 0) (t0_3)) := hD.sub [0, 1] (by decide) rfl
  exact W.vret hx hb hr (fun z hz hW => ⟨⟨rfl, (fun k => ([h0, q1] : List Nat).getD k 0), (t0_3), rfl, rfl, by rw [hz]; exact hP9, hD9⟩, hS.F hz⟩) hS.2.2 dX3_init_17 hlocks
theorem dX4_init_0 : decode prog_6_method_1_code 0 = .ok (.aload_n 0, 1) := by decide +kernel
theorem dX4_init_1 : decode prog_6_method_1_code 1 = .ok (.invokespecial 3, 3) := by decide +kernel
theorem dX4_init_4 : decode prog_6_method_1_code 4 = .ok (.aload_n 0, 1) := by decide +kernel
theorem dX4_init_5 : decode prog_6_method_1_code 5 = .ok (.sipush 160, 3) := by decide +kernel
theorem dX4_init_8 : decode prog_6_method_1_code 8 = .ok (.newarray .long, 2) := by decide +kernel
theorem dX4_init_10 : decode prog_6_method_1_code 10 = .ok (.putfield 11, 3) := by decide +kernel
theorem dX4_init_13 : decode prog_6_method_1_code 13 = .ok (.aload_n 0, 1) := by decide +kernel
theorem dX4_init_14 : decode prog_6_method_1_code 14 = .ok (.iconst 4, 1) := by decide +kernel
theorem dX4_init_15 : decode prog_6_method_1_code 15 = .ok (.newarray .int, 2) := by decide +kernel
theorem dX4_init_17 : decode prog_6_method_1_code 17 = .ok (.putfield 15, 3) := by decide +kernel
theorem dX4_init_20 : decode prog_6_method_1_code 20 = .ok (.iconst 0, 1) := by decide +kernel
theorem dX4_init_21 : decode prog_6_method_1_code 21 = .ok (.istore_n 1, 1) := by decide +kernel
theorem dX4_init_22 : decode prog_6_method_1_code 22 = .ok (.iload_n 1, 1) := by decide +kernel
theorem dX4_init_23 : decode prog_6_method_1_code 23 = .ok (.iconst 4, 1) := by decide +kernel
theorem dX4_init_24 : decode prog_6_method_1_code 24 = .ok (.if_icmp .ge 16, 3) := by decide +kernel
theorem dX4_init_27 : decode prog_6_method_1_code 27 = .ok (.aload_n 0, 1) := by decide +kernel
theorem dX4_init_28 : decode prog_6_method_1_code 28 = .ok (.getfield 15, 3) := by decide +kernel
theorem dX4_init_31 : decode prog_6_method_1_code 31 = .ok (.iload_n 1, 1) := by decide +kernel
theorem dX4_init_32 : decode prog_6_method_1_code 32 = .ok (.iconst (-1), 1) := by decide +kernel
theorem dX4_init_33 : decode prog_6_method_1_code 33 = .ok (.iastore, 1) := by decide +kernel
theorem dX4_init_34 : decode prog_6_method_1_code 34 = .ok (.iinc 1 1, 3) := by decide +kernel
theorem dX4_init_37 : decode prog_6_method_1_code 37 = .ok (.goto (-15), 3) := by decide +kernel
theorem dX4_init_40 : decode prog_6_method_1_code 40 = .ok (.return_, 1) := by decide +kernel
def foK4_0 (a : Nat → Nat) (t : fw_S) : List Value := [.ref (a 1), .ref (a 2)]
def WK4 (ca : Nat → ClassId) (a : Nat → Nat) (t : fw_S) : va_W := [(a 0, .inr (4, foK4_0 a t)), (a 1, .inl (ca 1, 160, .inr (.inl (st_G t 0)))), (a 2, .inl (ca 0, 4, .inl (st_F t 0)))]
theorem okK4 (ca : Nat → ClassId) (a : Nat → Nat) : fw_ok (WK4 ca a) := fun t u => rfl
theorem heK4_0 (ca : Nat → ClassId) (a : Nat → Nat) (t : fw_S) : (WK4 ca a t)[0]? = some (a 0, .inr (4, foK4_0 a t)) := rfl
theorem haK4_1 (ca : Nat → ClassId) (a : Nat → Nat) (t : fw_S) : (WK4 ca a t)[1]? = some (a 1, .inl (ca 1, 160, .inr (.inl (st_G t 0)))) := rfl
theorem saK4_1 {ca : Nat → ClassId} {a : Nat → Nat} {t : fw_S} {f : Nat → Int64} : (WK4 ca a t).set 1 (a 1, .inl (ca 1, 160, .inr (.inl (f)))) = WK4 ca a (up_G t 0 f) := rfl
theorem haK4_2 (ca : Nat → ClassId) (a : Nat → Nat) (t : fw_S) : (WK4 ca a t)[2]? = some (a 2, .inl (ca 0, 4, .inl (st_F t 0))) := rfl
theorem saK4_2 {ca : Nat → ClassId} {a : Nat → Nat} {t : fw_S} {f : Nat → Int32} : (WK4 ca a t).set 2 (a 2, .inl (ca 0, 4, .inl (f))) = WK4 ca a (up_F t 0 f) := rfl
def t0_4  : fw_S := (fun n => ([] : List Int32).getD n 0, fun n => ([] : List Int64).getD n 0, fun n => ([(fun _ => 0)] : List (Nat → Int32)).getD n (fun _ => 0), fun n => ([(fun _ => 0)] : List (Nat → Int64)).getD n (fun _ => 0))
abbrev rm_K4 : Room := { frames := 1, cells := 2, slots := 164, locals := 20 }
abbrev rm_K4_init : Room := rm_K4
def b_K4_init_40  (t : fw_S)  : Option fw_S := some t
def b_K4_init_27 (k22 : fw_S → Int32 → Option fw_S) (t : fw_S) (x1 : Int32) : Option fw_S := fb_g (¬ (x1 < 0 ∨ 4 ≤ x1.toNatClampNeg)) (fb_l (up_F t 0 (upd (st_F t 0) x1.toNatClampNeg ((-1 : Int32)))) fun t_1 => (k22 t_1 (x1 + 1)))
def b_K4_init_22  : Nat → (fw_S → Int32 → Option fw_S)
  | 0 => fun _ _ => none
  | n + 1 => fun t x1 => if ((4 : Int32)) ≤ x1 then b_K4_init_40 t else b_K4_init_27 (b_K4_init_22 n) t x1
def b_K4_init_20  (t : fw_S)  : Option fw_S := b_K4_init_22 3000 t ((0 : Int32))
set_option maxRecDepth 20000 in
theorem w_K4_init_40 {p : Program} {l : Launch} {e : Env} {s : State} {m : MethodId} {args : Array Value} {below : List Frame} {meth : Method} {c : Code} {A : Nat → Prop} {Q : State → Prop} {D : va_G} {ca : Nat → ClassId} {a : Nat → Nat} {u : fw_S}  (C : CX (WK4 ca a) D (tyv ca) p s m args c A prog_6_method_1_code 2 RX4) (hr : True → RXn 2 164 (WK4 ca a) D p l e rm_K4_init s m args below meth c A prog_6_method_1_code Q .return_ [] u) {t : fw_S}  {H : Heap} {locs : List Loc} {ls : Array Slot} (hf : b_K4_init_40  t  = some u) (hP : va_P D classes (WK4 ca a t) H) (hS : va_S A s.heap H locs) (hl : lv_has ls 2 []) : W p l e rm_K4_init s m args below meth c H locs 2 164 Q (F0 m 40 ls []) := by
  obtain ⟨hx, hb, hml, hown, hts, hN, hK, hD, hA⟩ := id C
  have hf : (some t) = some u := hf
  have e_40 := fb_ev hf
  subst e_40
  exact hr trivial _ _ _ _ hP hS dX4_init_40
set_option maxRecDepth 20000 in
theorem w_K4_init_27 {p : Program} {l : Launch} {e : Env} {s : State} {m : MethodId} {args : Array Value} {below : List Frame} {meth : Method} {c : Code} {A : Nat → Prop} {Q : State → Prop} {D : va_G} {ca : Nat → ClassId} {a : Nat → Nat} {u : fw_S} {k22 : fw_S → Int32 → Option fw_S} (C : CX (WK4 ca a) D (tyv ca) p s m args c A prog_6_method_1_code 2 RX4) (hr : True → RXn 2 164 (WK4 ca a) D p l e rm_K4_init s m args below meth c A prog_6_method_1_code Q .return_ [] u) (hk22 : ∀ (t : fw_S) (x1 : Int32) (H : Heap) (locs : List Loc) (ls : Array Slot), k22 t x1 = some u → va_P D classes (WK4 ca a t) H → va_S A s.heap H locs → lv_has ls 2 [(0, .ref (a 0)), (1, .int x1)] → W p l e rm_K4_init s m args below meth c H locs 2 164 Q (F0 m 22 ls [])) {t : fw_S} {x1 : Int32} {H : Heap} {locs : List Loc} {ls : Array Slot} (hf : b_K4_init_27 k22 t x1 = some u) (hP : va_P D classes (WK4 ca a t) H) (hS : va_S A s.heap H locs) (hl : lv_has ls 2 [(0, .ref (a 0)), (1, .int x1)]) : W p l e rm_K4_init s m args below meth c H locs 2 164 Q (F0 m 27 ls []) := by
  obtain ⟨hx, hb, hml, hown, hts, hN, hK, hD, hA⟩ := id C
  have hf : (fb_g (¬ (x1 < 0 ∨ 4 ≤ x1.toNatClampNeg)) (fb_l (up_F t 0 (upd (st_F t 0) x1.toNatClampNeg ((-1 : Int32)))) fun t_1 => (k22 t_1 (x1 + 1)))) = some u := hf
  refine lv_aload_n hx hb dX4_init_27 rfl (lv_at hl 0 rfl) ?_
  refine va_get (D := D) (ci := 4) (v := .ref (a 2)) (C := RX4) (T := TX4) (N := 2) hx hb hts inX4 hown hK hP 0 (heK4_0 ca a t) rfl 1 (by decide) (hts _ kw_333) (fun _ h9 => h9) rfl dX4_init_28 ?_
  refine lv_iload_n hx hb dX4_init_31 rfl (lv_at hl 1 rfl) ?_
  refine lv_iconst (v := (-1)) hx hb dX4_init_32 (by decide) ?_
  obtain ⟨h_33, hf⟩ := fb_if hf
  refine va_iast hx hb hK hP (hD t) hS 2 0 (haK4_2 ca a t) rfl h_33 dX4_init_33 (fun H locs hP _ hS => ?_)
  rw [saK4_2] at hP
  obtain ⟨t_1, e_33, hf⟩ := fb_ls hf
  rw [← e_33] at hP
  refine lv_iinc (v := x1 + 1) (lv' := [(1, .int (x1 + 1)), (0, .ref (a 0))]) hx hb dX4_init_34 hl (k := 1) rfl rfl (by decide) rfl (fun ls hl => ?_)
  refine lv_goto (tgt := 22) hx hb dX4_init_37 (by decide) ?_
  exact hk22 t_1 (x1 + 1) _ _ _ hf hP hS (lv_sub hl [1, 0] rfl)
set_option maxRecDepth 20000 in
theorem w_K4_init_22 {p : Program} {l : Launch} {e : Env} {s : State} {m : MethodId} {args : Array Value} {below : List Frame} {meth : Method} {c : Code} {A : Nat → Prop} {Q : State → Prop} {D : va_G} {ca : Nat → ClassId} {a : Nat → Nat} {u : fw_S}  (C : CX (WK4 ca a) D (tyv ca) p s m args c A prog_6_method_1_code 2 RX4) (hr : True → RXn 2 164 (WK4 ca a) D p l e rm_K4_init s m args below meth c A prog_6_method_1_code Q .return_ [] u) : ∀ (n : Nat) (t : fw_S) (x1 : Int32) (H : Heap) (locs : List Loc) (ls : Array Slot), b_K4_init_22  n t x1 = some u → va_P D classes (WK4 ca a t) H → va_S A s.heap H locs → lv_has ls 2 [(0, .ref (a 0)), (1, .int x1)] → W p l e rm_K4_init s m args below meth c H locs 2 164 Q (F0 m 22 ls []) := by
  obtain ⟨hx, hb, hml, hown, hts, hN, hK, hD, hA⟩ := id C
  intro n
  induction n with
  | zero => intro t x1 H locs ls hf; cases hf
  | succ n hk22 =>
    intro t x1 H locs ls hf hP hS hl
    have hf : (if ((4 : Int32)) ≤ x1 then b_K4_init_40 t else b_K4_init_27 (b_K4_init_22 n) t x1) = some u := hf
    refine lv_iload_n hx hb dX4_init_22 rfl (lv_at hl 1 rfl) ?_
    refine lv_iconst (v := 4) hx hb dX4_init_23 (by decide) ?_
    refine lv_icmp_ge (tgt := 40) hx hb dX4_init_24 (by decide) (fun h_24 => ?_) (fun h_24 => ?_)
    · have hf := fb_t h_24 hf
      exact w_K4_init_40 C hr hf hP hS (lv_sub hl [] rfl)
    · have hf := fb_f h_24 hf
      exact w_K4_init_27 C hr hk22 hf hP hS (lv_sub hl [0, 1] rfl)
set_option maxRecDepth 20000 in
theorem w_K4_init_20 {p : Program} {l : Launch} {e : Env} {s : State} {m : MethodId} {args : Array Value} {below : List Frame} {meth : Method} {c : Code} {A : Nat → Prop} {Q : State → Prop} {D : va_G} {ca : Nat → ClassId} {a : Nat → Nat} {u : fw_S}  (C : CX (WK4 ca a) D (tyv ca) p s m args c A prog_6_method_1_code 2 RX4) (hr : True → RXn 2 164 (WK4 ca a) D p l e rm_K4_init s m args below meth c A prog_6_method_1_code Q .return_ [] u) {t : fw_S}  {H : Heap} {locs : List Loc} {ls : Array Slot} (hf : b_K4_init_20  t  = some u) (hP : va_P D classes (WK4 ca a t) H) (hS : va_S A s.heap H locs) (hl : lv_has ls 2 [(0, .ref (a 0))]) : W p l e rm_K4_init s m args below meth c H locs 2 164 Q (F0 m 20 ls []) := by
  obtain ⟨hx, hb, hml, hown, hts, hN, hK, hD, hA⟩ := id C
  have hf : (b_K4_init_22 3000 t ((0 : Int32))) = some u := hf
  refine lv_iconst (v := 0) hx hb dX4_init_20 (by decide) ?_
  refine lv_istore_n (lv' := [(1, .int ((0 : Int32))), (0, .ref (a 0))]) hx hb dX4_init_21 rfl hl (by decide) rfl (fun ls hl => ?_)
  exact w_K4_init_22 C hr 3000 t ((0 : Int32)) _ _ _ hf hP hS (lv_sub hl [1, 0] rfl)
def Sz_4 (i : Nat) : fw_S := (fun _ => 0, fun _ => 0, fun k => if k = 0 then (fun j => if j < i then (-1) else 0) else fun _ => 0, fun _ _ => 0)
def Pr_4 (t : fw_S) : Prop := t = Sz_4 4
theorem Sz_4_s (i : Nat) : (up_F (Sz_4 i) 0 (upd (st_F (Sz_4 i) 0) i (-1))) = Sz_4 (i + 1) := by
  have h1 : ∀ j : Nat, j < i + 1 ↔ (j = i ∨ j < i) := fun j => by omega
  simp only [up_F, st_F, Sz_4]
  refine Prod.ext rfl (Prod.ext rfl (Prod.ext (funext fun k => ?_) rfl))
  by_cases k0 : k = 0
  · subst k0; funext j; by_cases hj : j = i <;> simp [upd, h1, hj]
  simp [k0]
theorem Sz_4_0 : t0_4 = Sz_4 0 := by
  refine Prod.ext (funext fun k => ?_) (Prod.ext (funext fun k => ?_) (Prod.ext (funext fun k => ?_) (funext fun k => ?_)))
  · rfl
  · rfl
  · match k with
    | 0 => funext j; simp [t0_4, Sz_4]
    | k + 1 => simp [t0_4, Sz_4]
  · match k with
    | 0 => rfl
    | k + 1 => rfl
theorem ex_4 : ∃ u, b_K4_init_20 t0_4 = some u ∧ Pr_4 u := by
  obtain ⟨⟨t, x⟩, h1, he⟩ := lp_up (fun n (x : fw_S × Int32) => b_K4_init_22 n x.1 x.2) (fun x => some x.1) (fun i x => x = (Sz_4 i, nI i)) 4
    (by
      rintro n i x hi rfl
      refine ⟨(Sz_4 (i + 1), nI (i + 1)), rfl, ?_⟩
      show b_K4_init_22 (n + 1) (Sz_4 i) (nI i) = b_K4_init_22 n _ (nI (i + 1))
      simp only [b_K4_init_22, b_K4_init_27, ni_c (N := 4) (c := 4) rfl hi (by decide), if_false, ni_cl (show i < 2 ^ 31 by omega), ni_n0 (show i < 2 ^ 31 by omega), Nat.not_le.mpr hi, or_self, not_false_eq_true, gb_gt, gb_l, ni_up]
      rw [Sz_4_s])
    (by
      rintro n x rfl
      rfl) 3000 0 (t0_4, 0) (by decide) (by decide) (by rw [Sz_4_0]; rfl)
  refine ⟨t, he, ?_⟩
  exact congrArg Prod.fst h1
set_option maxHeartbeats 4000000 in
set_option maxRecDepth 100000 in
theorem k_4 {l : Launch} {D : va_G} {ca : Nat → ClassId} : KC D ca l yX4_init (.code yX4_init prog_6_method_1_code 2 none :: lw_gd) rm_K4 4 [.null, .null] 2 164 (WK4 ca) Pr_4 := by
  intro h0 sz
  refine fw_ofW (cc := prog_6_method_1_code) (maxL := 2) (ret := none) (by decide +kernel) rfl ?_
  intro p e s m args below meth c s₁ B hml hv
  obtain ⟨rfl, hsz, hP, hK, hO, hD0⟩ := hv
  have hx := B.exec
  have hb := B.bytes
  have hr := B.returns
  have hts0 := atoms_spec (ws := .code yX4_init prog_6_method_1_code 2 none :: lw_gd) B.pre
  have hts : ∀ q ∈ lw_gd, q.before _ s = true := fun q hq => hts0 q (List.mem_cons_of_mem _ hq)
  have hown : s.vm.findClass RX4 = some m.cls := findClass_of_methodNamed B.named
  have hlocks := B.notSynchronized
  have hin : meth.name = "<init>" := (name_of_methodNamed B.named B.method).1
  subst hsz
  have hD := hD0.self (sz := s.heap.size)
  generalize hAe : va_A [(h0, .inr (4, [.null, .null]))] s.heap.size = A at hD ⊢
  have hA : ∀ q : Nat, s.heap.size ≤ q → A q := fun q h => by rw [← hAe]; exact Or.inr h
  have hS : va_S A s.heap s.heap [] := va_S.rf
  have hP : va_P D classes [(h0, .inr (4, [.null, .null]))] s.heap := hP
  have hl := lv_entry ([.ref h0]) (n := 2) (Nat.le_of_ble_eq_true rfl)
  rw [lg_entry_eq]
  generalize (lg_sl ([.ref h0]) ++ List.replicate (2 - (lg_sl ([.ref h0])).length) Slot.unset).toArray = ls at hl ⊢
  have hl : lv_has ls 2 [(0, .ref h0)] := hl
  show W p l e rm_K4 s m #[Value.ref h0] below meth c s.heap [] 0 0 _ _
  refine lv_aload_n hx hb dX4_init_0 rfl (lv_at hl 0 rfl) ?_
  refine W.objInit hx hb hown (hts _ kw_331) (hts _ kw_114) (hts _ kw_115) rfl (by rw [hml]; exact hl.1) rfl dX4_init_1 (Nat.le_of_ble_eq_true rfl) (Nat.le_of_ble_eq_true rfl) ?_
  refine W.eq (g2 := F0 m 4 ls []) rfl ?_
  refine lv_aload_n hx hb dX4_init_4 rfl (lv_at hl 0 rfl) ?_
  refine lv_sipush (v := 160) hx hb dX4_init_5 (by decide) ?_
  refine fw_newa (atype := .long) (ty := .long) (a0 := (160, .inr (.inl (fun _ => 0)))) (N' := 160) hx hb (hts _ kw_224) rfl hK hP hD hS hA (fun _ => rfl) (by decide) rfl (Nat.le_of_ble_eq_true rfl) (Nat.le_of_ble_eq_true rfl) (Nat.le_of_ble_eq_true rfl) dX4_init_8 1 rfl (fun _ h => h) (fun q1 H hP hD hS => ?_)
  have hP : va_P D classes [(h0, .inr (4, [.null, .null])), (q1, .inl (ca 1, 160, .inr (.inl (fun _ => 0))))] H := hP
  have hD : va_D A [(h0, .inr (4, [.null, .null])), (q1, .inl (ca 1, 160, .inr (.inl (fun _ => 0))))] := hD
  refine W.widen (k := 1) (n := 160) (Nat.le_of_ble_eq_true rfl) (Nat.le_of_ble_eq_true rfl) ?_
  refine va_putF (D := D) (ci := 4) (v := .ref q1) (ty := .array .long) (C := RX4) (T := TX4) (N := 2) hx hb hts inX4 tyX4 tyX4_ok nmX4 hown hK hP hD hS 0 rfl rfl 0 (by decide) (hts _ kw_332) (fun _ h9 => h9) rfl hin rfl (by decide +kernel) rfl rfl (Nat.le_of_ble_eq_true rfl) dX4_init_10 (fun H locs hP hD hS => ?_)
  have hP : va_P D classes [(h0, .inr (4, [.ref q1, .null])), (q1, .inl (ca 1, 160, .inr (.inl (fun _ => 0))))] H := hP
  have hD : va_D A [(h0, .inr (4, [.ref q1, .null])), (q1, .inl (ca 1, 160, .inr (.inl (fun _ => 0))))] := hD
  refine lv_aload_n hx hb dX4_init_13 rfl (lv_at hl 0 rfl) ?_
  refine lv_iconst (v := 4) hx hb dX4_init_14 (by decide) ?_
  refine fw_newa (atype := .int) (ty := .int) (a0 := (4, .inl (fun _ => 0))) (N' := 4) hx hb (hts _ kw_153) rfl hK hP hD hS hA (fun _ => rfl) (by decide) rfl (Nat.le_of_ble_eq_true rfl) (Nat.le_of_ble_eq_true rfl) (Nat.le_of_ble_eq_true rfl) dX4_init_15 0 rfl (fun _ h => h) (fun q2 H hP hD hS => ?_)
  have hP : va_P D classes [(h0, .inr (4, [.ref q1, .null])), (q1, .inl (ca 1, 160, .inr (.inl (fun _ => 0)))), (q2, .inl (ca 0, 4, .inl (fun _ => 0)))] H := hP
  have hD : va_D A [(h0, .inr (4, [.ref q1, .null])), (q1, .inl (ca 1, 160, .inr (.inl (fun _ => 0)))), (q2, .inl (ca 0, 4, .inl (fun _ => 0)))] := hD
  refine W.widen (k := 2) (n := 164) (Nat.le_of_ble_eq_true rfl) (Nat.le_of_ble_eq_true rfl) ?_
  refine va_putF (D := D) (ci := 4) (v := .ref q2) (ty := .array .int) (C := RX4) (T := TX4) (N := 2) hx hb hts inX4 tyX4 tyX4_ok nmX4 hown hK hP hD hS 0 rfl rfl 1 (by decide) (hts _ kw_333) (fun _ h9 => h9) rfl hin rfl (by decide +kernel) rfl rfl (Nat.le_of_ble_eq_true rfl) dX4_init_17 (fun H locs hP hD hS => ?_)
  have hP : va_P D classes [(h0, .inr (4, [.ref q1, .ref q2])), (q1, .inl (ca 1, 160, .inr (.inl (fun _ => 0)))), (q2, .inl (ca 0, 4, .inl (fun _ => 0)))] H := hP
  have hD : va_D A [(h0, .inr (4, [.ref q1, .ref q2])), (q1, .inl (ca 1, 160, .inr (.inl (fun _ => 0)))), (q2, .inl (ca 0, 4, .inl (fun _ => 0)))] := hD
  have hP9 : va_P D classes (WK4 ca (fun k => ([h0, q1, q2] : List Nat).getD k 0) (t0_4)) H := hP.sub [0, 1, 2] rfl
  have hD9 : va_D A (WK4 ca (fun k => ([h0, q1, q2] : List Nat).getD k 0) (t0_4)) := hD.sub [0, 1, 2] (by decide) rfl
  obtain ⟨u, hu, hPr⟩ := ex_4
  refine w_K4_init_20 (a := (fun k => ([h0, q1, q2] : List Nat).getD k 0)) (u := u) ⟨hx, hb, hml, hown, hts, hO.1, hK, fun x => fw_D (okK4 ca (fun k => ([h0, q1, q2] : List Nat).getD k 0) (t0_4) x) hD9, hA⟩ (fun _ H locs pc ls hP hS hdg => W.vret hx hb hr (fun z hz hW => ⟨⟨rfl, (fun k => ([h0, q1, q2] : List Nat).getD k 0), u, rfl, hPr, by rw [hz]; exact hP, fw_D (okK4 ca (fun k => ([h0, q1, q2] : List Nat).getD k 0) (t0_4) u) hD9⟩, hS.F hz⟩) hS.2.2 hdg hlocks) hu hP9 hS hl
theorem dX8_init_0 : decode prog_10_method_1_code 0 = .ok (.aload_n 0, 1) := by decide +kernel
theorem dX8_init_1 : decode prog_10_method_1_code 1 = .ok (.invokespecial 3, 3) := by decide +kernel
theorem dX8_init_4 : decode prog_10_method_1_code 4 = .ok (.aload_n 0, 1) := by decide +kernel
theorem dX8_init_5 : decode prog_10_method_1_code 5 = .ok (.bipush 32, 2) := by decide +kernel
theorem dX8_init_7 : decode prog_10_method_1_code 7 = .ok (.newarray .int, 2) := by decide +kernel
theorem dX8_init_9 : decode prog_10_method_1_code 9 = .ok (.putfield 9, 3) := by decide +kernel
theorem dX8_init_12 : decode prog_10_method_1_code 12 = .ok (.aload_n 0, 1) := by decide +kernel
theorem dX8_init_13 : decode prog_10_method_1_code 13 = .ok (.bipush 32, 2) := by decide +kernel
theorem dX8_init_15 : decode prog_10_method_1_code 15 = .ok (.newarray .int, 2) := by decide +kernel
theorem dX8_init_17 : decode prog_10_method_1_code 17 = .ok (.putfield 15, 3) := by decide +kernel
theorem dX8_init_20 : decode prog_10_method_1_code 20 = .ok (.return_, 1) := by decide +kernel
def foK8_0 (a : Nat → Nat) (t : fw_S) : List Value := [.ref (a 1), .ref (a 2)]
def WK8 (ca : Nat → ClassId) (a : Nat → Nat) (t : fw_S) : va_W := [(a 0, .inr (8, foK8_0 a t)), (a 1, .inl (ca 0, 32, .inl (st_F t 0))), (a 2, .inl (ca 0, 32, .inl (st_F t 1)))]
theorem okK8 (ca : Nat → ClassId) (a : Nat → Nat) : fw_ok (WK8 ca a) := fun t u => rfl
theorem heK8_0 (ca : Nat → ClassId) (a : Nat → Nat) (t : fw_S) : (WK8 ca a t)[0]? = some (a 0, .inr (8, foK8_0 a t)) := rfl
theorem haK8_1 (ca : Nat → ClassId) (a : Nat → Nat) (t : fw_S) : (WK8 ca a t)[1]? = some (a 1, .inl (ca 0, 32, .inl (st_F t 0))) := rfl
theorem saK8_1 {ca : Nat → ClassId} {a : Nat → Nat} {t : fw_S} {f : Nat → Int32} : (WK8 ca a t).set 1 (a 1, .inl (ca 0, 32, .inl (f))) = WK8 ca a (up_F t 0 f) := rfl
theorem haK8_2 (ca : Nat → ClassId) (a : Nat → Nat) (t : fw_S) : (WK8 ca a t)[2]? = some (a 2, .inl (ca 0, 32, .inl (st_F t 1))) := rfl
theorem saK8_2 {ca : Nat → ClassId} {a : Nat → Nat} {t : fw_S} {f : Nat → Int32} : (WK8 ca a t).set 2 (a 2, .inl (ca 0, 32, .inl (f))) = WK8 ca a (up_F t 1 f) := rfl
def t0_8  : fw_S := (fun n => ([] : List Int32).getD n 0, fun n => ([] : List Int64).getD n 0, fun n => ([(fun _ => 0), (fun _ => 0)] : List (Nat → Int32)).getD n (fun _ => 0), fun n => ([] : List (Nat → Int64)).getD n (fun _ => 0))
abbrev rm_K8 : Room := { frames := 1, cells := 2, slots := 64, locals := 20 }
def Pr_8 (t : fw_S) : Prop := t = t0_8
set_option maxHeartbeats 4000000 in
set_option maxRecDepth 100000 in
theorem k_8 {l : Launch} {D : va_G} {ca : Nat → ClassId} : KC D ca l yX8_init (.code yX8_init prog_10_method_1_code 1 none :: lw_gd) rm_K8 8 [.null, .null] 2 64 (WK8 ca) Pr_8 := by
  intro h0 sz
  refine fw_ofW (cc := prog_10_method_1_code) (maxL := 1) (ret := none) (by decide +kernel) rfl ?_
  intro p e s m args below meth c s₁ B hml hv
  obtain ⟨rfl, hsz, hP, hK, hO, hD0⟩ := hv
  have hx := B.exec
  have hb := B.bytes
  have hr := B.returns
  have hts0 := atoms_spec (ws := .code yX8_init prog_10_method_1_code 1 none :: lw_gd) B.pre
  have hts : ∀ q ∈ lw_gd, q.before _ s = true := fun q hq => hts0 q (List.mem_cons_of_mem _ hq)
  have hown : s.vm.findClass RX8 = some m.cls := findClass_of_methodNamed B.named
  have hlocks := B.notSynchronized
  have hin : meth.name = "<init>" := (name_of_methodNamed B.named B.method).1
  subst hsz
  have hD := hD0.self (sz := s.heap.size)
  generalize hAe : va_A [(h0, .inr (8, [.null, .null]))] s.heap.size = A at hD ⊢
  have hA : ∀ q : Nat, s.heap.size ≤ q → A q := fun q h => by rw [← hAe]; exact Or.inr h
  have hS : va_S A s.heap s.heap [] := va_S.rf
  have hP : va_P D classes [(h0, .inr (8, [.null, .null]))] s.heap := hP
  have hl := lv_entry ([.ref h0]) (n := 1) (Nat.le_of_ble_eq_true rfl)
  rw [lg_entry_eq]
  generalize (lg_sl ([.ref h0]) ++ List.replicate (1 - (lg_sl ([.ref h0])).length) Slot.unset).toArray = ls at hl ⊢
  have hl : lv_has ls 1 [(0, .ref h0)] := hl
  show W p l e rm_K8 s m #[Value.ref h0] below meth c s.heap [] 0 0 _ _
  refine lv_aload_n hx hb dX8_init_0 rfl (lv_at hl 0 rfl) ?_
  refine W.objInit hx hb hown (hts _ kw_344) (hts _ kw_114) (hts _ kw_115) rfl (by rw [hml]; exact hl.1) rfl dX8_init_1 (Nat.le_of_ble_eq_true rfl) (Nat.le_of_ble_eq_true rfl) ?_
  refine W.eq (g2 := F0 m 4 ls []) rfl ?_
  refine lv_aload_n hx hb dX8_init_4 rfl (lv_at hl 0 rfl) ?_
  refine lv_bipush (v := 32) hx hb dX8_init_5 (by decide) ?_
  refine fw_newa (atype := .int) (ty := .int) (a0 := (32, .inl (fun _ => 0))) (N' := 32) hx hb (hts _ kw_153) rfl hK hP hD hS hA (fun _ => rfl) (by decide) rfl (Nat.le_of_ble_eq_true rfl) (Nat.le_of_ble_eq_true rfl) (Nat.le_of_ble_eq_true rfl) dX8_init_7 0 rfl (fun _ h => h) (fun q1 H hP hD hS => ?_)
  have hP : va_P D classes [(h0, .inr (8, [.null, .null])), (q1, .inl (ca 0, 32, .inl (fun _ => 0)))] H := hP
  have hD : va_D A [(h0, .inr (8, [.null, .null])), (q1, .inl (ca 0, 32, .inl (fun _ => 0)))] := hD
  refine W.widen (k := 1) (n := 32) (Nat.le_of_ble_eq_true rfl) (Nat.le_of_ble_eq_true rfl) ?_
  refine va_putF (D := D) (ci := 8) (v := .ref q1) (ty := .array .int) (C := RX8) (T := TX8) (N := 2) hx hb hts inX8 tyX8 tyX8_ok nmX8 hown hK hP hD hS 0 rfl rfl 0 (by decide) (hts _ kw_345) (fun _ h9 => h9) rfl hin rfl (by decide +kernel) rfl rfl (Nat.le_of_ble_eq_true rfl) dX8_init_9 (fun H locs hP hD hS => ?_)
  have hP : va_P D classes [(h0, .inr (8, [.ref q1, .null])), (q1, .inl (ca 0, 32, .inl (fun _ => 0)))] H := hP
  have hD : va_D A [(h0, .inr (8, [.ref q1, .null])), (q1, .inl (ca 0, 32, .inl (fun _ => 0)))] := hD
  refine lv_aload_n hx hb dX8_init_12 rfl (lv_at hl 0 rfl) ?_
  refine lv_bipush (v := 32) hx hb dX8_init_13 (by decide) ?_
  refine fw_newa (atype := .int) (ty := .int) (a0 := (32, .inl (fun _ => 0))) (N' := 32) hx hb (hts _ kw_153) rfl hK hP hD hS hA (fun _ => rfl) (by decide) rfl (Nat.le_of_ble_eq_true rfl) (Nat.le_of_ble_eq_true rfl) (Nat.le_of_ble_eq_true rfl) dX8_init_15 0 rfl (fun _ h => h) (fun q2 H hP hD hS => ?_)
  have hP : va_P D classes [(h0, .inr (8, [.ref q1, .null])), (q1, .inl (ca 0, 32, .inl (fun _ => 0))), (q2, .inl (ca 0, 32, .inl (fun _ => 0)))] H := hP
  have hD : va_D A [(h0, .inr (8, [.ref q1, .null])), (q1, .inl (ca 0, 32, .inl (fun _ => 0))), (q2, .inl (ca 0, 32, .inl (fun _ => 0)))] := hD
  refine W.widen (k := 2) (n := 64) (Nat.le_of_ble_eq_true rfl) (Nat.le_of_ble_eq_true rfl) ?_
  refine va_putF (D := D) (ci := 8) (v := .ref q2) (ty := .array .int) (C := RX8) (T := TX8) (N := 2) hx hb hts inX8 tyX8 tyX8_ok nmX8 hown hK hP hD hS 0 rfl rfl 1 (by decide) (hts _ kw_346) (fun _ h9 => h9) rfl hin rfl (by decide +kernel) rfl rfl (Nat.le_of_ble_eq_true rfl) dX8_init_17 (fun H locs hP hD hS => ?_)
  have hP : va_P D classes [(h0, .inr (8, [.ref q1, .ref q2])), (q1, .inl (ca 0, 32, .inl (fun _ => 0))), (q2, .inl (ca 0, 32, .inl (fun _ => 0)))] H := hP
  have hD : va_D A [(h0, .inr (8, [.ref q1, .ref q2])), (q1, .inl (ca 0, 32, .inl (fun _ => 0))), (q2, .inl (ca 0, 32, .inl (fun _ => 0)))] := hD
  have hP9 : va_P D classes (WK8 ca (fun k => ([h0, q1, q2] : List Nat).getD k 0) (t0_8)) H := hP.sub [0, 1, 2] rfl
  have hD9 : va_D A (WK8 ca (fun k => ([h0, q1, q2] : List Nat).getD k 0) (t0_8)) := hD.sub [0, 1, 2] (by decide) rfl
  exact W.vret hx hb hr (fun z hz hW => ⟨⟨rfl, (fun k => ([h0, q1, q2] : List Nat).getD k 0), (t0_8), rfl, rfl, by rw [hz]; exact hP9, hD9⟩, hS.F hz⟩) hS.2.2 dX8_init_20 hlocks
