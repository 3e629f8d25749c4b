set_option maxRecDepth 20000 in
theorem law_c12 {p : Program} {e : Env} {s : State} {m : MethodId} {below : List Frame} {meth : Method} {c : Code} (l : Launch) {b : Nat} {xs : Nat → Int32} (C0 : lw_At p s m meth c b 8 xs) {D : va_G} {ca : Nat → ClassId} {a a2 : Nat → Nat} (hK : va_K D classes (tyv ca) s) (hN : lw_Nz s) {H : Heap} {locs : List Loc} {ls : Array Slot} (hP1 : va_P D classes (WX ca a X0) H) (hP2 : va_P D classes (WM ca a2 M0) H) (hap : ap_L ((WX ca a X0).map Prod.fst) ((WM ca a2 M0).map Prod.fst)) (hD1 : va_D (fun q : Nat => s.heap.size ≤ q) (WX ca a X0)) (hD2 : va_D (fun q : Nat => s.heap.size ≤ q) (WM ca a2 M0)) (hS : va_S (fun q : Nat => s.heap.size ≤ q) s.heap H locs) (hl : lv_has ls 4 [(0, .ref b), (1, .ref (a 0)), (2, .ref (a2 0)), (3, .int 0)]) (kk : ∀ (H : Heap) (locs : List Loc), va_S (fun q : Nat => s.heap.size ≤ q) s.heap H locs → W p l e room_1 s m #[Value.ref b] below meth c H locs 600000 7302250 (lw_Z below #[Value.ref b] s) (F0 m 1510 ls [])) : W p l e room_1 s m #[Value.ref b] below meth c H locs 600000 7302250 (lw_Z below #[Value.ref b] s) (F0 m 489 ls []) := by
  obtain ⟨hx, hb, hr, hml, hown, hts, hX, hbl, hlocks, hgv⟩ := C0
  have hA : ∀ q : Nat, s.heap.size ≤ q → (fun q : Nat => s.heap.size ≤ q) q := fun _ h => h
  have hbA : ¬ (fun q : Nat => s.heap.size ≤ q) b := Nat.not_le.mpr hbl
  have hgd : ∀ q ∈ lw_gd, q.before #[Value.ref b] s = true := fun q hq => hts q (List.mem_filter.mp hq).1
  refine lv_aload_n hx hb dL_489 rfl (lv_at hl 1 rfl) ?_
  refine lv_aload_n hx hb dL_490 rfl (lv_at hl 0 rfl) ?_
  refine lv_iload_n hx hb dL_491 rfl (lv_at hl 3 rfl) ?_
  refine lv_iconst (v := 1) hx hb dL_492 (by decide) ?_
  refine lv_iadd hx hb dL_493 ?_
  refine va_sld hx hb hX hbl hbA hS lw_in1 dL_494 ?_
  refine lv_topi (fun v1 ev1 => ?_)
  refine lv_aload_n hx hb dL_495 rfl (lv_at hl 0 rfl) ?_
  refine lv_iload_n hx hb dL_496 rfl (lv_at hl 3 rfl) ?_
  refine lv_iconst (v := 2) hx hb dL_497 (by decide) ?_
  refine lv_iadd hx hb dL_498 ?_
  refine va_sld hx hb hX hbl hbA hS lw_in2 dL_499 ?_
  refine lv_topi (fun v2 ev2 => ?_)
  obtain ⟨r, h1, h2⟩ := a_reads v1 v2
  obtain ⟨u1, h1⟩ := lw_mf h1
  obtain ⟨u2, h2⟩ := lw_mf h2
  refine fw_LV (As := [.int v1, .int v2]) (rest := []) (n := 2) (q0 := 0) (W2 := WM ca a2 M0) hx hb hml hown hgd hN hK (c_X_X10_reads__0 (l := l) (D := D) (ca := ca) (a := a) h1) kl_886 kl_887 kl_92 kl_889 kl_888 hP1 hP2 hap hD1 hS hA hl (heX_0 ca a X0) rfl rfl rfl lw_c600 (by decide +kernel) ⟨Nat.le_of_ble_eq_true rfl, Nat.le_of_ble_eq_true rfl⟩ rfl rfl (Nat.le_of_ble_eq_true rfl) dL_500 (fun H locs hP1 hP2 hS => ?_)
  refine lv_aload_n hx hb dL_503 rfl (lv_at hl 2 rfl) ?_
  refine lv_aload_n hx hb dL_504 rfl (lv_at hl 0 rfl) ?_
  refine lv_iload_n hx hb dL_505 rfl (lv_at hl 3 rfl) ?_
  refine lv_iconst (v := 1) hx hb dL_506 (by decide) ?_
  refine lv_iadd hx hb dL_507 ?_
  refine va_sld hx hb hX hbl hbA hS lw_in1 dL_508 ?_
  refine lv_topi (fun v3 ev3 => ?_)
  obtain rfl : v1 = v3 := ev1.trans ev3.symm
  refine lv_aload_n hx hb dL_509 rfl (lv_at hl 0 rfl) ?_
  refine lv_iload_n hx hb dL_510 rfl (lv_at hl 3 rfl) ?_
  refine lv_iconst (v := 2) hx hb dL_511 (by decide) ?_
  refine lv_iadd hx hb dL_512 ?_
  refine va_sld hx hb hX hbl hbA hS lw_in2 dL_513 ?_
  refine lv_topi (fun v4 ev4 => ?_)
  obtain rfl : v2 = v4 := ev2.trans ev4.symm
  refine fw_LV (As := [.int v1, .int v2]) (rest := [.int r]) (n := 2) (q0 := 0) (W2 := []) hx hb hml hown hgd hN hK (c_M_X11_reads___0 (l := l) (D := D) (ca := ca) (a := a2) h2) kl_1653 kl_1654 kl_102 kl_1656 kl_1655 hP2 lw_Pn lw_apn hD2 hS hA hl (heM_0 ca a2 M0) rfl rfl rfl lw_c600 (by decide +kernel) ⟨Nat.le_of_ble_eq_true rfl, Nat.le_of_ble_eq_true rfl⟩ rfl rfl (Nat.le_of_ble_eq_true rfl) dL_514 (fun H locs hP1 hP2 hS => ?_)
  refine lv_icmp_eq (tgt := 1510) hx hb dL_517 (by decide) (fun _ => ?_) (fun h => absurd rfl h)
  exact kk H locs hS
set_option maxRecDepth 20000 in
theorem law_c13 {p : Program} {e : Env} {s : State} {m : MethodId} {below : List Frame} {meth : Method} {c : Code} (l : Launch) {b : Nat} {xs : Nat → Int32} (C0 : lw_At p s m meth c b 8 xs) {D : va_G} {ca : Nat → ClassId} {a a2 : Nat → Nat} (hK : va_K D classes (tyv ca) s) (hN : lw_Nz s) {H : Heap} {locs : List Loc} {ls : Array Slot} (hP1 : va_P D classes (WX ca a X0) H) (hP2 : va_P D classes (WM ca a2 M0) H) (hap : ap_L ((WX ca a X0).map Prod.fst) ((WM ca a2 M0).map Prod.fst)) (hD1 : va_D (fun q : Nat => s.heap.size ≤ q) (WX ca a X0)) (hD2 : va_D (fun q : Nat => s.heap.size ≤ q) (WM ca a2 M0)) (hS : va_S (fun q : Nat => s.heap.size ≤ q) s.heap H locs) (hl : lv_has ls 4 [(0, .ref b), (1, .ref (a 0)), (2, .ref (a2 0)), (3, .int 0)]) (kk : ∀ (H : Heap) (locs : List Loc), va_S (fun q : Nat => s.heap.size ≤ q) s.heap H locs → W p l e room_1 s m #[Value.ref b] below meth c H locs 600000 7302250 (lw_Z below #[Value.ref b] s) (F0 m 1510 ls [])) : W p l e room_1 s m #[Value.ref b] below meth c H locs 600000 7302250 (lw_Z below #[Value.ref b] s) (F0 m 522 ls []) := by
  obtain ⟨hx, hb, hr, hml, hown, hts, hX, hbl, hlocks, hgv⟩ := C0
  have hA : ∀ q : Nat, s.heap.size ≤ q → (fun q : Nat => s.heap.size ≤ q) q := fun _ h => h
  have hbA : ¬ (fun q : Nat => s.heap.size ≤ q) b := Nat.not_le.mpr hbl
  have hgd : ∀ q ∈ lw_gd, q.before #[Value.ref b] s = true := fun q hq => hts q (List.mem_filter.mp hq).1
  refine lv_aload_n hx hb dL_522 rfl (lv_at hl 1 rfl) ?_
  refine lv_aload_n hx hb dL_523 rfl (lv_at hl 0 rfl) ?_
  refine lv_iload_n hx hb dL_524 rfl (lv_at hl 3 rfl) ?_
  refine lv_iconst (v := 1) hx hb dL_525 (by decide) ?_
  refine lv_iadd hx hb dL_526 ?_
  refine va_sld hx hb hX hbl hbA hS lw_in1 dL_527 ?_
  refine lv_topi (fun v1 ev1 => ?_)
  obtain ⟨r, h1, h2⟩ := a_readers v1
  obtain ⟨u1, h1⟩ := lw_mf h1
  obtain ⟨u2, h2⟩ := lw_mf h2
  refine fw_LV (As := [.int v1]) (rest := []) (n := 1) (q0 := 0) (W2 := WM ca a2 M0) hx hb hml hown hgd hN hK (c_X_X10_readers__0 (l := l) (D := D) (ca := ca) (a := a) h1) kl_891 kl_892 kl_92 kl_894 kl_893 hP1 hP2 hap hD1 hS hA hl (heX_0 ca a X0) rfl rfl rfl lw_c600 (by decide +kernel) ⟨Nat.le_of_ble_eq_true rfl, Nat.le_of_ble_eq_true rfl⟩ rfl rfl (Nat.le_of_ble_eq_true rfl) dL_528 (fun H locs hP1 hP2 hS => ?_)
  refine lv_aload_n hx hb dL_531 rfl (lv_at hl 2 rfl) ?_
  refine lv_aload_n hx hb dL_532 rfl (lv_at hl 0 rfl) ?_
  refine lv_iload_n hx hb dL_533 rfl (lv_at hl 3 rfl) ?_
  refine lv_iconst (v := 1) hx hb dL_534 (by decide) ?_
  refine lv_iadd hx hb dL_535 ?_
  refine va_sld hx hb hX hbl hbA hS lw_in1 dL_536 ?_
  refine lv_topi (fun v2 ev2 => ?_)
  obtain rfl : v1 = v2 := ev1.trans ev2.symm
  refine fw_LV (As := [.int v1]) (rest := [.long r]) (n := 1) (q0 := 0) (W2 := []) hx hb hml hown hgd hN hK (c_M_X11_readers__0 (l := l) (D := D) (ca := ca) (a := a2) h2) kl_1628 kl_1629 kl_102 kl_1631 kl_1630 hP2 lw_Pn lw_apn hD2 hS hA hl (heM_0 ca a2 M0) rfl rfl rfl lw_c600 (by decide +kernel) ⟨Nat.le_of_ble_eq_true rfl, Nat.le_of_ble_eq_true rfl⟩ rfl rfl (Nat.le_of_ble_eq_true rfl) dL_537 (fun H locs hP1 hP2 hS => ?_)
  refine W.lcmp hx hb dL_540 ?_
  refine lv_if_eq (tgt := 1510) hx hb dL_541 (by decide) (fun _ => ?_) (fun h => absurd (lw_cmp0 _) h)
  exact kk H locs hS
set_option maxRecDepth 20000 in
theorem law_c14 {p : Program} {e : Env} {s : State} {m : MethodId} {below : List Frame} {meth : Method} {c : Code} (l : Launch) {b : Nat} {xs : Nat → Int32} (C0 : lw_At p s m meth c b 8 xs) {D : va_G} {ca : Nat → ClassId} {a a2 : Nat → Nat} (hK : va_K D classes (tyv ca) s) (hN : lw_Nz s) {H : Heap} {locs : List Loc} {ls : Array Slot} (hP1 : va_P D classes (WX ca a X0) H) (hP2 : va_P D classes (WM ca a2 M0) H) (hap : ap_L ((WX ca a X0).map Prod.fst) ((WM ca a2 M0).map Prod.fst)) (hD1 : va_D (fun q : Nat => s.heap.size ≤ q) (WX ca a X0)) (hD2 : va_D (fun q : Nat => s.heap.size ≤ q) (WM ca a2 M0)) (hS : va_S (fun q : Nat => s.heap.size ≤ q) s.heap H locs) (hl : lv_has ls 4 [(0, .ref b), (1, .ref (a 0)), (2, .ref (a2 0)), (3, .int 0)]) (kk : ∀ (H : Heap) (locs : List Loc), va_S (fun q : Nat => s.heap.size ≤ q) s.heap H locs → W p l e room_1 s m #[Value.ref b] below meth c H locs 600000 7302250 (lw_Z below #[Value.ref b] s) (F0 m 1510 ls [])) : W p l e room_1 s m #[Value.ref b] below meth c H locs 600000 7302250 (lw_Z below #[Value.ref b] s) (F0 m 546 ls []) := by
  obtain ⟨hx, hb, hr, hml, hown, hts, hX, hbl, hlocks, hgv⟩ := C0
  have hA : ∀ q : Nat, s.heap.size ≤ q → (fun q : Nat => s.heap.size ≤ q) q := fun _ h => h
  have hbA : ¬ (fun q : Nat => s.heap.size ≤ q) b := Nat.not_le.mpr hbl
  have hgd : ∀ q ∈ lw_gd, q.before #[Value.ref b] s = true := fun q hq => hts q (List.mem_filter.mp hq).1
  refine lv_aload_n hx hb dL_546 rfl (lv_at hl 1 rfl) ?_
  refine lv_aload_n hx hb dL_547 rfl (lv_at hl 0 rfl) ?_
  refine lv_iload_n hx hb dL_548 rfl (lv_at hl 3 rfl) ?_
  refine lv_iconst (v := 1) hx hb dL_549 (by decide) ?_
  refine lv_iadd hx hb dL_550 ?_
  refine va_sld hx hb hX hbl hbA hS lw_in1 dL_551 ?_
  refine lv_topi (fun v1 ev1 => ?_)
  obtain ⟨r, h1, h2⟩ := a_order v1
  obtain ⟨u1, h1⟩ := lw_mf h1
  obtain ⟨u2, h2⟩ := lw_mf h2
  refine fw_LV (As := [.int v1]) (rest := []) (n := 1) (q0 := 0) (W2 := WM ca a2 M0) hx hb hml hown hgd hN hK (c_X_X10_order__0 (l := l) (D := D) (ca := ca) (a := a) h1) kl_896 kl_897 kl_92 kl_899 kl_898 hP1 hP2 hap hD1 hS hA hl (heX_0 ca a X0) rfl rfl rfl lw_c600 (by decide +kernel) ⟨Nat.le_of_ble_eq_true rfl, Nat.le_of_ble_eq_true rfl⟩ rfl rfl (Nat.le_of_ble_eq_true rfl) dL_552 (fun H locs hP1 hP2 hS => ?_)
  refine lv_aload_n hx hb dL_555 rfl (lv_at hl 2 rfl) ?_
  refine lv_aload_n hx hb dL_556 rfl (lv_at hl 0 rfl) ?_
  refine lv_iload_n hx hb dL_557 rfl (lv_at hl 3 rfl) ?_
  refine lv_iconst (v := 1) hx hb dL_558 (by decide) ?_
  refine lv_iadd hx hb dL_559 ?_
  refine va_sld hx hb hX hbl hbA hS lw_in1 dL_560 ?_
  refine lv_topi (fun v2 ev2 => ?_)
  obtain rfl : v1 = v2 := ev1.trans ev2.symm
  refine fw_LV (As := [.int v1]) (rest := [.int r]) (n := 1) (q0 := 0) (W2 := []) hx hb hml hown hgd hN hK (c_M_X11_order__0 (l := l) (D := D) (ca := ca) (a := a2) h2) kl_1657 kl_1658 kl_102 kl_1660 kl_1659 hP2 lw_Pn lw_apn hD2 hS hA hl (heM_0 ca a2 M0) rfl rfl rfl lw_c600 (by decide +kernel) ⟨Nat.le_of_ble_eq_true rfl, Nat.le_of_ble_eq_true rfl⟩ rfl rfl (Nat.le_of_ble_eq_true rfl) dL_561 (fun H locs hP1 hP2 hS => ?_)
  refine lv_icmp_eq (tgt := 1510) hx hb dL_564 (by decide) (fun _ => ?_) (fun h => absurd rfl h)
  exact kk H locs hS
set_option maxRecDepth 20000 in
theorem law_c15 {p : Program} {e : Env} {s : State} {m : MethodId} {below : List Frame} {meth : Method} {c : Code} (l : Launch) {b : Nat} {xs : Nat → Int32} (C0 : lw_At p s m meth c b 8 xs) {D : va_G} {ca : Nat → ClassId} {a a2 : Nat → Nat} (hK : va_K D classes (tyv ca) s) (hN : lw_Nz s) {H : Heap} {locs : List Loc} {ls : Array Slot} (hP1 : va_P D classes (WX ca a X0) H) (hP2 : va_P D classes (WM ca a2 M0) H) (hap : ap_L ((WX ca a X0).map Prod.fst) ((WM ca a2 M0).map Prod.fst)) (hD1 : va_D (fun q : Nat => s.heap.size ≤ q) (WX ca a X0)) (hD2 : va_D (fun q : Nat => s.heap.size ≤ q) (WM ca a2 M0)) (hS : va_S (fun q : Nat => s.heap.size ≤ q) s.heap H locs) (hl : lv_has ls 4 [(0, .ref b), (1, .ref (a 0)), (2, .ref (a2 0)), (3, .int 0)]) (kk : ∀ (H : Heap) (locs : List Loc), va_S (fun q : Nat => s.heap.size ≤ q) s.heap H locs → W p l e room_1 s m #[Value.ref b] below meth c H locs 600000 7302250 (lw_Z below #[Value.ref b] s) (F0 m 1510 ls [])) : W p l e room_1 s m #[Value.ref b] below meth c H locs 600000 7302250 (lw_Z below #[Value.ref b] s) (F0 m 569 ls []) := by
  obtain ⟨hx, hb, hr, hml, hown, hts, hX, hbl, hlocks, hgv⟩ := C0
  have hA : ∀ q : Nat, s.heap.size ≤ q → (fun q : Nat => s.heap.size ≤ q) q := fun _ h => h
  have hbA : ¬ (fun q : Nat => s.heap.size ≤ q) b := Nat.not_le.mpr hbl
  have hgd : ∀ q ∈ lw_gd, q.before #[Value.ref b] s = true := fun q hq => hts q (List.mem_filter.mp hq).1
  refine lv_aload_n hx hb dL_569 rfl (lv_at hl 1 rfl) ?_
  refine lv_aload_n hx hb dL_570 rfl (lv_at hl 0 rfl) ?_
  refine lv_iload_n hx hb dL_571 rfl (lv_at hl 3 rfl) ?_
  refine lv_iconst (v := 1) hx hb dL_572 (by decide) ?_
  refine lv_iadd hx hb dL_573 ?_
  refine va_sld hx hb hX hbl hbA hS lw_in1 dL_574 ?_
  refine lv_topi (fun v1 ev1 => ?_)
  refine lv_aload_n hx hb dL_575 rfl (lv_at hl 0 rfl) ?_
  refine lv_iload_n hx hb dL_576 rfl (lv_at hl 3 rfl) ?_
  refine lv_iconst (v := 2) hx hb dL_577 (by decide) ?_
  refine lv_iadd hx hb dL_578 ?_
  refine va_sld hx hb hX hbl hbA hS lw_in2 dL_579 ?_
  refine lv_topi (fun v2 ev2 => ?_)
  obtain ⟨r, h1, h2⟩ := a_why v1 v2
  obtain ⟨u1, h1⟩ := lw_mf h1
  obtain ⟨u2, h2⟩ := lw_mf h2
  refine fw_LV (As := [.int v1, .int v2]) (rest := []) (n := 2) (q0 := 0) (W2 := WM ca a2 M0) hx hb hml hown hgd hN hK (c_X_X10_why__0 (l := l) (D := D) (ca := ca) (a := a) h1) kl_912 kl_913 kl_92 kl_915 kl_914 hP1 hP2 hap hD1 hS hA hl (heX_0 ca a X0) rfl rfl rfl lw_c600 (by decide +kernel) ⟨Nat.le_of_ble_eq_true rfl, Nat.le_of_ble_eq_true rfl⟩ rfl rfl (Nat.le_of_ble_eq_true rfl) dL_580 (fun H locs hP1 hP2 hS => ?_)
  refine lv_aload_n hx hb dL_583 rfl (lv_at hl 2 rfl) ?_
  refine lv_aload_n hx hb dL_584 rfl (lv_at hl 0 rfl) ?_
  refine lv_iload_n hx hb dL_585 rfl (lv_at hl 3 rfl) ?_
  refine lv_iconst (v := 1) hx hb dL_586 (by decide) ?_
  refine lv_iadd hx hb dL_587 ?_
  refine va_sld hx hb hX hbl hbA hS lw_in1 dL_588 ?_
  refine lv_topi (fun v3 ev3 => ?_)
  obtain rfl : v1 = v3 := ev1.trans ev3.symm
  refine lv_aload_n hx hb dL_589 rfl (lv_at hl 0 rfl) ?_
  refine lv_iload_n hx hb dL_590 rfl (lv_at hl 3 rfl) ?_
  refine lv_iconst (v := 2) hx hb dL_591 (by decide) ?_
  refine lv_iadd hx hb dL_592 ?_
  refine va_sld hx hb hX hbl hbA hS lw_in2 dL_593 ?_
  refine lv_topi (fun v4 ev4 => ?_)
  obtain rfl : v2 = v4 := ev2.trans ev4.symm
  refine fw_LV (As := [.int v1, .int v2]) (rest := [.int r]) (n := 2) (q0 := 0) (W2 := []) hx hb hml hown hgd hN hK (c_M_X11_why__0 (l := l) (D := D) (ca := ca) (a := a2) h2) kl_1661 kl_1662 kl_102 kl_1664 kl_1663 hP2 lw_Pn lw_apn hD2 hS hA hl (heM_0 ca a2 M0) rfl rfl rfl lw_c600 (by decide +kernel) ⟨Nat.le_of_ble_eq_true rfl, Nat.le_of_ble_eq_true rfl⟩ rfl rfl (Nat.le_of_ble_eq_true rfl) dL_594 (fun H locs hP1 hP2 hS => ?_)
  refine lv_icmp_eq (tgt := 1510) hx hb dL_597 (by decide) (fun _ => ?_) (fun h => absurd rfl h)
  exact kk H locs hS
set_option maxRecDepth 20000 in
theorem law_c16 {p : Program} {e : Env} {s : State} {m : MethodId} {below : List Frame} {meth : Method} {c : Code} (l : Launch) {b : Nat} {xs : Nat → Int32} (C0 : lw_At p s m meth c b 8 xs) {D : va_G} {ca : Nat → ClassId} {a a2 : Nat → Nat} (hK : va_K D classes (tyv ca) s) (hN : lw_Nz s) {H : Heap} {locs : List Loc} {ls : Array Slot} (hP1 : va_P D classes (WX ca a X0) H) (hP2 : va_P D classes (WM ca a2 M0) H) (hap : ap_L ((WX ca a X0).map Prod.fst) ((WM ca a2 M0).map Prod.fst)) (hD1 : va_D (fun q : Nat => s.heap.size ≤ q) (WX ca a X0)) (hD2 : va_D (fun q : Nat => s.heap.size ≤ q) (WM ca a2 M0)) (hS : va_S (fun q : Nat => s.heap.size ≤ q) s.heap H locs) (hl : lv_has ls 4 [(0, .ref b), (1, .ref (a 0)), (2, .ref (a2 0)), (3, .int 0)]) (kk : ∀ (H : Heap) (locs : List Loc), va_S (fun q : Nat => s.heap.size ≤ q) s.heap H locs → W p l e room_1 s m #[Value.ref b] below meth c H locs 600000 7302250 (lw_Z below #[Value.ref b] s) (F0 m 1510 ls [])) : W p l e room_1 s m #[Value.ref b] below meth c H locs 600000 7302250 (lw_Z below #[Value.ref b] s) (F0 m 602 ls []) := by
  obtain ⟨hx, hb, hr, hml, hown, hts, hX, hbl, hlocks, hgv⟩ := C0
  have hA : ∀ q : Nat, s.heap.size ≤ q → (fun q : Nat => s.heap.size ≤ q) q := fun _ h => h
  have hbA : ¬ (fun q : Nat => s.heap.size ≤ q) b := Nat.not_le.mpr hbl
  have hgd : ∀ q ∈ lw_gd, q.before #[Value.ref b] s = true := fun q hq => hts q (List.mem_filter.mp hq).1
  refine lv_aload_n hx hb dL_602 rfl (lv_at hl 1 rfl) ?_
  refine lv_aload_n hx hb dL_603 rfl (lv_at hl 0 rfl) ?_
  refine lv_iload_n hx hb dL_604 rfl (lv_at hl 3 rfl) ?_
  refine lv_iconst (v := 1) hx hb dL_605 (by decide) ?_
  refine lv_iadd hx hb dL_606 ?_
  refine va_sld hx hb hX hbl hbA hS lw_in1 dL_607 ?_
  refine lv_topi (fun v1 ev1 => ?_)
  refine lv_aload_n hx hb dL_608 rfl (lv_at hl 0 rfl) ?_
  refine lv_iload_n hx hb dL_609 rfl (lv_at hl 3 rfl) ?_
  refine lv_iconst (v := 2) hx hb dL_610 (by decide) ?_
  refine lv_iadd hx hb dL_611 ?_
  refine va_sld hx hb hX hbl hbA hS lw_in2 dL_612 ?_
  refine lv_topi (fun v2 ev2 => ?_)
  refine lv_aload_n hx hb dL_613 rfl (lv_at hl 0 rfl) ?_
  refine lv_iload_n hx hb dL_614 rfl (lv_at hl 3 rfl) ?_
  refine lv_iconst (v := 3) hx hb dL_615 (by decide) ?_
  refine lv_iadd hx hb dL_616 ?_
  refine va_sld hx hb hX hbl hbA hS lw_in3 dL_617 ?_
  refine lv_topi (fun v3 ev3 => ?_)
  obtain ⟨r, h1, h2⟩ := a_way v1 v2 v3
  obtain ⟨u1, h1⟩ := lw_mf h1
  obtain ⟨u2, h2⟩ := lw_mf h2
  refine fw_LV (As := [.int v1, .int v2, .int v3]) (rest := []) (n := 3) (q0 := 0) (W2 := WM ca a2 M0) hx hb hml hown hgd hN hK (c_X_X10_way__0 (l := l) (D := D) (ca := ca) (a := a) h1) kl_921 kl_922 kl_92 kl_924 kl_923 hP1 hP2 hap hD1 hS hA hl (heX_0 ca a X0) rfl rfl rfl lw_c600 (by decide +kernel) ⟨Nat.le_of_ble_eq_true rfl, Nat.le_of_ble_eq_true rfl⟩ rfl rfl (Nat.le_of_ble_eq_true rfl) dL_618 (fun H locs hP1 hP2 hS => ?_)
  refine lv_aload_n hx hb dL_621 rfl (lv_at hl 2 rfl) ?_
  refine lv_aload_n hx hb dL_622 rfl (lv_at hl 0 rfl) ?_
  refine lv_iload_n hx hb dL_623 rfl (lv_at hl 3 rfl) ?_
  refine lv_iconst (v := 1) hx hb dL_624 (by decide) ?_
  refine lv_iadd hx hb dL_625 ?_
  refine va_sld hx hb hX hbl hbA hS lw_in1 dL_626 ?_
  refine lv_topi (fun v4 ev4 => ?_)
  obtain rfl : v1 = v4 := ev1.trans ev4.symm
  refine lv_aload_n hx hb dL_627 rfl (lv_at hl 0 rfl) ?_
  refine lv_iload_n hx hb dL_628 rfl (lv_at hl 3 rfl) ?_
  refine lv_iconst (v := 2) hx hb dL_629 (by decide) ?_
  refine lv_iadd hx hb dL_630 ?_
  refine va_sld hx hb hX hbl hbA hS lw_in2 dL_631 ?_
  refine lv_topi (fun v5 ev5 => ?_)
  obtain rfl : v2 = v5 := ev2.trans ev5.symm
  refine lv_aload_n hx hb dL_632 rfl (lv_at hl 0 rfl) ?_
  refine lv_iload_n hx hb dL_633 rfl (lv_at hl 3 rfl) ?_
  refine lv_iconst (v := 3) hx hb dL_634 (by decide) ?_
  refine lv_iadd hx hb dL_635 ?_
  refine va_sld hx hb hX hbl hbA hS lw_in3 dL_636 ?_
  refine lv_topi (fun v6 ev6 => ?_)
  obtain rfl : v3 = v6 := ev3.trans ev6.symm
  refine fw_LV (As := [.int v1, .int v2, .int v3]) (rest := [.int r]) (n := 3) (q0 := 0) (W2 := []) hx hb hml hown hgd hN hK (c_M_X11_way__0 (l := l) (D := D) (ca := ca) (a := a2) h2) kl_1665 kl_1666 kl_102 kl_1668 kl_1667 hP2 lw_Pn lw_apn hD2 hS hA hl (heM_0 ca a2 M0) rfl rfl rfl lw_c600 (by decide +kernel) ⟨Nat.le_of_ble_eq_true rfl, Nat.le_of_ble_eq_true rfl⟩ rfl rfl (Nat.le_of_ble_eq_true rfl) dL_637 (fun H locs hP1 hP2 hS => ?_)
  refine lv_icmp_eq (tgt := 1510) hx hb dL_640 (by decide) (fun _ => ?_) (fun h => absurd rfl h)
  exact kk H locs hS
set_option maxRecDepth 20000 in
theorem law_c17 {p : Program} {e : Env} {s : State} {m : MethodId} {below : List Frame} {meth : Method} {c : Code} (l : Launch) {b : Nat} {xs : Nat → Int32} (C0 : lw_At p s m meth c b 8 xs) {D : va_G} {ca : Nat → ClassId} {a a2 : Nat → Nat} (hK : va_K D classes (tyv ca) s) (hN : lw_Nz s) {H : Heap} {locs : List Loc} {ls : Array Slot} (hP1 : va_P D classes (WX ca a X0) H) (hP2 : va_P D classes (WM ca a2 M0) H) (hap : ap_L ((WX ca a X0).map Prod.fst) ((WM ca a2 M0).map Prod.fst)) (hD1 : va_D (fun q : Nat => s.heap.size ≤ q) (WX ca a X0)) (hD2 : va_D (fun q : Nat => s.heap.size ≤ q) (WM ca a2 M0)) (hS : va_S (fun q : Nat => s.heap.size ≤ q) s.heap H locs) (hl : lv_has ls 4 [(0, .ref b), (1, .ref (a 0)), (2, .ref (a2 0)), (3, .int 0)]) (kk : ∀ (H : Heap) (locs : List Loc), va_S (fun q : Nat => s.heap.size ≤ q) s.heap H locs → W p l e room_1 s m #[Value.ref b] below meth c H locs 600000 7302250 (lw_Z below #[Value.ref b] s) (F0 m 1510 ls [])) : W p l e room_1 s m #[Value.ref b] below meth c H locs 600000 7302250 (lw_Z below #[Value.ref b] s) (F0 m 645 ls []) := by
  obtain ⟨hx, hb, hr, hml, hown, hts, hX, hbl, hlocks, hgv⟩ := C0
  have hA : ∀ q : Nat, s.heap.size ≤ q → (fun q : Nat => s.heap.size ≤ q) q := fun _ h => h
  have hbA : ¬ (fun q : Nat => s.heap.size ≤ q) b := Nat.not_le.mpr hbl
  have hgd : ∀ q ∈ lw_gd, q.before #[Value.ref b] s = true := fun q hq => hts q (List.mem_filter.mp hq).1
  refine lv_aload_n hx hb dL_645 rfl (lv_at hl 1 rfl) ?_
  refine lv_aload_n hx hb dL_646 rfl (lv_at hl 0 rfl) ?_
  refine lv_iload_n hx hb dL_647 rfl (lv_at hl 3 rfl) ?_
  refine lv_iconst (v := 1) hx hb dL_648 (by decide) ?_
  refine lv_iadd hx hb dL_649 ?_
  refine va_sld hx hb hX hbl hbA hS lw_in1 dL_650 ?_
  refine lv_topi (fun v1 ev1 => ?_)
  refine lv_aload_n hx hb dL_651 rfl (lv_at hl 0 rfl) ?_
  refine lv_iload_n hx hb dL_652 rfl (lv_at hl 3 rfl) ?_
  refine lv_iconst (v := 2) hx hb dL_653 (by decide) ?_
  refine lv_iadd hx hb dL_654 ?_
  refine va_sld hx hb hX hbl hbA hS lw_in2 dL_655 ?_
  refine lv_topi (fun v2 ev2 => ?_)
  refine lv_i2l hx hb dL_656 rfl ?_
  refine lv_bipush (v := 32) hx hb dL_657 (by decide) ?_
  refine lv_lshl hx hb dL_659 rfl ?_
  refine lv_aload_n hx hb dL_660 rfl (lv_at hl 0 rfl) ?_
  refine lv_iload_n hx hb dL_661 rfl (lv_at hl 3 rfl) ?_
  refine lv_iconst (v := 3) hx hb dL_662 (by decide) ?_
  refine lv_iadd hx hb dL_663 ?_
  refine va_sld hx hb hX hbl hbA hS lw_in3 dL_664 ?_
  refine lv_topi (fun v3 ev3 => ?_)
  refine lv_i2l hx hb dL_665 rfl ?_
  refine lv_ldc2 (v := 4294967295) hx hb hown (hts _ (List.mem_filter.mp kl_1791).1) dL_666 ?_
  refine lv_land hx hb dL_669 ?_
  refine lv_lor hx hb dL_670 ?_
  refine lv_topl (fun v4 ev4 => ?_)
  refine lv_aload_n hx hb dL_671 rfl (lv_at hl 0 rfl) ?_
  refine lv_iload_n hx hb dL_672 rfl (lv_at hl 3 rfl) ?_
  refine lv_iconst (v := 4) hx hb dL_673 (by decide) ?_
  refine lv_iadd hx hb dL_674 ?_
  refine va_sld hx hb hX hbl hbA hS lw_in4 dL_675 ?_
  refine lv_topi (fun v5 ev5 => ?_)
  obtain ⟨r, h1, h2⟩ := a_whatIf v1 v4 v5
  obtain ⟨u1, h1⟩ := lw_mf h1
  obtain ⟨u2, h2⟩ := lw_mf h2
  refine fw_LV (As := [.int v1, .long v4, .int v5]) (rest := []) (n := 3) (q0 := 0) (W2 := WM ca a2 M0) hx hb hml hown hgd hN hK (c_X_X10_whatIf__0 (l := l) (D := D) (ca := ca) (a := a) h1) kl_946 kl_947 kl_92 kl_949 kl_948 hP1 hP2 hap hD1 hS hA hl (heX_0 ca a X0) rfl rfl rfl lw_c600 (by decide +kernel) ⟨Nat.le_of_ble_eq_true rfl, Nat.le_of_ble_eq_true rfl⟩ rfl rfl (Nat.le_of_ble_eq_true rfl) dL_676 (fun H locs hP1 hP2 hS => ?_)
  refine lv_aload_n hx hb dL_679 rfl (lv_at hl 2 rfl) ?_
  refine lv_aload_n hx hb dL_680 rfl (lv_at hl 0 rfl) ?_
  refine lv_iload_n hx hb dL_681 rfl (lv_at hl 3 rfl) ?_
  refine lv_iconst (v := 1) hx hb dL_682 (by decide) ?_
  refine lv_iadd hx hb dL_683 ?_
  refine va_sld hx hb hX hbl hbA hS lw_in1 dL_684 ?_
  refine lv_topi (fun v6 ev6 => ?_)
  obtain rfl : v1 = v6 := ev1.trans ev6.symm
  refine lv_aload_n hx hb dL_685 rfl (lv_at hl 0 rfl) ?_
  refine lv_iload_n hx hb dL_686 rfl (lv_at hl 3 rfl) ?_
  refine lv_iconst (v := 2) hx hb dL_687 (by decide) ?_
  refine lv_iadd hx hb dL_688 ?_
  refine va_sld hx hb hX hbl hbA hS lw_in2 dL_689 ?_
  refine lv_topi (fun v7 ev7 => ?_)
  obtain rfl : v2 = v7 := ev2.trans ev7.symm
  refine lv_i2l hx hb dL_690 rfl ?_
  refine lv_bipush (v := 32) hx hb dL_691 (by decide) ?_
  refine lv_lshl hx hb dL_693 rfl ?_
  refine lv_aload_n hx hb dL_694 rfl (lv_at hl 0 rfl) ?_
  refine lv_iload_n hx hb dL_695 rfl (lv_at hl 3 rfl) ?_
  refine lv_iconst (v := 3) hx hb dL_696 (by decide) ?_
  refine lv_iadd hx hb dL_697 ?_
  refine va_sld hx hb hX hbl hbA hS lw_in3 dL_698 ?_
  refine lv_topi (fun v8 ev8 => ?_)
  obtain rfl : v3 = v8 := ev3.trans ev8.symm
  refine lv_i2l hx hb dL_699 rfl ?_
  refine lv_ldc2 (v := 4294967295) hx hb hown (hts _ (List.mem_filter.mp kl_1791).1) dL_700 ?_
  refine lv_land hx hb dL_703 ?_
  refine lv_lor hx hb dL_704 ?_
  refine lv_topl (fun v9 ev9 => ?_)
  obtain rfl : v4 = v9 := ev4.trans ev9.symm
  refine lv_aload_n hx hb dL_705 rfl (lv_at hl 0 rfl) ?_
  refine lv_iload_n hx hb dL_706 rfl (lv_at hl 3 rfl) ?_
  refine lv_iconst (v := 4) hx hb dL_707 (by decide) ?_
  refine lv_iadd hx hb dL_708 ?_
  refine va_sld hx hb hX hbl hbA hS lw_in4 dL_709 ?_
  refine lv_topi (fun v10 ev10 => ?_)
  obtain rfl : v5 = v10 := ev5.trans ev10.symm
  refine fw_LV (As := [.int v1, .long v4, .int v5]) (rest := [.long r]) (n := 3) (q0 := 0) (W2 := []) hx hb hml hown hgd hN hK (c_M_X11_whatIf__0 (l := l) (D := D) (ca := ca) (a := a2) h2) kl_1669 kl_1670 kl_102 kl_1672 kl_1671 hP2 lw_Pn lw_apn hD2 hS hA hl (heM_0 ca a2 M0) rfl rfl rfl lw_c600 (by decide +kernel) ⟨Nat.le_of_ble_eq_true rfl, Nat.le_of_ble_eq_true rfl⟩ rfl rfl (Nat.le_of_ble_eq_true rfl) dL_710 (fun H locs hP1 hP2 hS => ?_)
  refine W.lcmp hx hb dL_713 ?_
  refine lv_if_eq (tgt := 1510) hx hb dL_714 (by decide) (fun _ => ?_) (fun h => absurd (lw_cmp0 _) h)
  exact kk H locs hS
set_option maxRecDepth 20000 in
theorem law_c18 {p : Program} {e : Env} {s : State} {m : MethodId} {below : List Frame} {meth : Method} {c : Code} (l : Launch) {b : Nat} {xs : Nat → Int32} (C0 : lw_At p s m meth c b 8 xs) {D : va_G} {ca : Nat → ClassId} {a a2 : Nat → Nat} (hK : va_K D classes (tyv ca) s) (hN : lw_Nz s) {H : Heap} {locs : List Loc} {ls : Array Slot} (hP1 : va_P D classes (WX ca a X0) H) (hP2 : va_P D classes (WM ca a2 M0) H) (hap : ap_L ((WX ca a X0).map Prod.fst) ((WM ca a2 M0).map Prod.fst)) (hD1 : va_D (fun q : Nat => s.heap.size ≤ q) (WX ca a X0)) (hD2 : va_D (fun q : Nat => s.heap.size ≤ q) (WM ca a2 M0)) (hS : va_S (fun q : Nat => s.heap.size ≤ q) s.heap H locs) (hl : lv_has ls 4 [(0, .ref b), (1, .ref (a 0)), (2, .ref (a2 0)), (3, .int 0)]) (kk : ∀ (H : Heap) (locs : List Loc), va_S (fun q : Nat => s.heap.size ≤ q) s.heap H locs → W p l e room_1 s m #[Value.ref b] below meth c H locs 600000 7302250 (lw_Z below #[Value.ref b] s) (F0 m 1510 ls [])) : W p l e room_1 s m #[Value.ref b] below meth c H locs 600000 7302250 (lw_Z below #[Value.ref b] s) (F0 m 719 ls []) := by
  obtain ⟨hx, hb, hr, hml, hown, hts, hX, hbl, hlocks, hgv⟩ := C0
  have hA : ∀ q : Nat, s.heap.size ≤ q → (fun q : Nat => s.heap.size ≤ q) q := fun _ h => h
  have hbA : ¬ (fun q : Nat => s.heap.size ≤ q) b := Nat.not_le.mpr hbl
  have hgd : ∀ q ∈ lw_gd, q.before #[Value.ref b] s = true := fun q hq => hts q (List.mem_filter.mp hq).1
  refine lv_aload_n hx hb dL_719 rfl (lv_at hl 1 rfl) ?_
  refine lv_aload_n hx hb dL_720 rfl (lv_at hl 0 rfl) ?_
  refine lv_iload_n hx hb dL_721 rfl (lv_at hl 3 rfl) ?_
  refine lv_iconst (v := 1) hx hb dL_722 (by decide) ?_
  refine lv_iadd hx hb dL_723 ?_
  refine va_sld hx hb hX hbl hbA hS lw_in1 dL_724 ?_
  refine lv_topi (fun v1 ev1 => ?_)
  refine lv_aload_n hx hb dL_725 rfl (lv_at hl 0 rfl) ?_
  refine lv_iload_n hx hb dL_726 rfl (lv_at hl 3 rfl) ?_
  refine lv_iconst (v := 2) hx hb dL_727 (by decide) ?_
  refine lv_iadd hx hb dL_728 ?_
  refine va_sld hx hb hX hbl hbA hS lw_in2 dL_729 ?_
  refine lv_topi (fun v2 ev2 => ?_)
  refine lv_i2l hx hb dL_730 rfl ?_
  refine lv_bipush (v := 32) hx hb dL_731 (by decide) ?_
  refine lv_lshl hx hb dL_733 rfl ?_
  refine lv_aload_n hx hb dL_734 rfl (lv_at hl 0 rfl) ?_
  refine lv_iload_n hx hb dL_735 rfl (lv_at hl 3 rfl) ?_
  refine lv_iconst (v := 3) hx hb dL_736 (by decide) ?_
  refine lv_iadd hx hb dL_737 ?_
  refine va_sld hx hb hX hbl hbA hS lw_in3 dL_738 ?_
  refine lv_topi (fun v3 ev3 => ?_)
  refine lv_i2l hx hb dL_739 rfl ?_
  refine lv_ldc2 (v := 4294967295) hx hb hown (hts _ (List.mem_filter.mp kl_1791).1) dL_740 ?_
  refine lv_land hx hb dL_743 ?_
  refine lv_lor hx hb dL_744 ?_
  refine lv_topl (fun v4 ev4 => ?_)
  obtain ⟨r, h1, h2⟩ := a_would v1 v4
  obtain ⟨u1, h1⟩ := lw_mf h1
  obtain ⟨u2, h2⟩ := lw_mf h2
  refine fw_LV (As := [.int v1, .long v4]) (rest := []) (n := 2) (q0 := 0) (W2 := WM ca a2 M0) hx hb hml hown hgd hN hK (c_X_X10_would__0 (l := l) (D := D) (ca := ca) (a := a) h1) kl_955 kl_956 kl_92 kl_958 kl_957 hP1 hP2 hap hD1 hS hA hl (heX_0 ca a X0) rfl rfl rfl lw_c600 (by decide +kernel) ⟨Nat.le_of_ble_eq_true rfl, Nat.le_of_ble_eq_true rfl⟩ rfl rfl (Nat.le_of_ble_eq_true rfl) dL_745 (fun H locs hP1 hP2 hS => ?_)
  refine lv_aload_n hx hb dL_748 rfl (lv_at hl 2 rfl) ?_
  refine lv_aload_n hx hb dL_749 rfl (lv_at hl 0 rfl) ?_
  refine lv_iload_n hx hb dL_750 rfl (lv_at hl 3 rfl) ?_
  refine lv_iconst (v := 1) hx hb dL_751 (by decide) ?_
  refine lv_iadd hx hb dL_752 ?_
  refine va_sld hx hb hX hbl hbA hS lw_in1 dL_753 ?_
  refine lv_topi (fun v5 ev5 => ?_)
  obtain rfl : v1 = v5 := ev1.trans ev5.symm
  refine lv_aload_n hx hb dL_754 rfl (lv_at hl 0 rfl) ?_
  refine lv_iload_n hx hb dL_755 rfl (lv_at hl 3 rfl) ?_
  refine lv_iconst (v := 2) hx hb dL_756 (by decide) ?_
  refine lv_iadd hx hb dL_757 ?_
  refine va_sld hx hb hX hbl hbA hS lw_in2 dL_758 ?_
  refine lv_topi (fun v6 ev6 => ?_)
  obtain rfl : v2 = v6 := ev2.trans ev6.symm
  refine lv_i2l hx hb dL_759 rfl ?_
  refine lv_bipush (v := 32) hx hb dL_760 (by decide) ?_
  refine lv_lshl hx hb dL_762 rfl ?_
  refine lv_aload_n hx hb dL_763 rfl (lv_at hl 0 rfl) ?_
  refine lv_iload_n hx hb dL_764 rfl (lv_at hl 3 rfl) ?_
  refine lv_iconst (v := 3) hx hb dL_765 (by decide) ?_
  refine lv_iadd hx hb dL_766 ?_
  refine va_sld hx hb hX hbl hbA hS lw_in3 dL_767 ?_
  refine lv_topi (fun v7 ev7 => ?_)
  obtain rfl : v3 = v7 := ev3.trans ev7.symm
  refine lv_i2l hx hb dL_768 rfl ?_
  refine lv_ldc2 (v := 4294967295) hx hb hown (hts _ (List.mem_filter.mp kl_1791).1) dL_769 ?_
  refine lv_land hx hb dL_772 ?_
  refine lv_lor hx hb dL_773 ?_
  refine lv_topl (fun v8 ev8 => ?_)
  obtain rfl : v4 = v8 := ev4.trans ev8.symm
  refine fw_LV (As := [.int v1, .long v4]) (rest := [.int r]) (n := 2) (q0 := 0) (W2 := []) hx hb hml hown hgd hN hK (c_M_X11_would__0 (l := l) (D := D) (ca := ca) (a := a2) h2) kl_1677 kl_1678 kl_102 kl_1680 kl_1679 hP2 lw_Pn lw_apn hD2 hS hA hl (heM_0 ca a2 M0) rfl rfl rfl lw_c600 (by decide +kernel) ⟨Nat.le_of_ble_eq_true rfl, Nat.le_of_ble_eq_true rfl⟩ rfl rfl (Nat.le_of_ble_eq_true rfl) dL_774 (fun H locs hP1 hP2 hS => ?_)
  refine lv_icmp_eq (tgt := 1510) hx hb dL_777 (by decide) (fun _ => ?_) (fun h => absurd rfl h)
  exact kk H locs hS
set_option maxRecDepth 20000 in
theorem law_c19 {p : Program} {e : Env} {s : State} {m : MethodId} {below : List Frame} {meth : Method} {c : Code} (l : Launch) {b : Nat} {xs : Nat → Int32} (C0 : lw_At p s m meth c b 8 xs) {D : va_G} {ca : Nat → ClassId} {a a2 : Nat → Nat} (hK : va_K D classes (tyv ca) s) (hN : lw_Nz s) {H : Heap} {locs : List Loc} {ls : Array Slot} (hP1 : va_P D classes (WX ca a X0) H) (hP2 : va_P D classes (WM ca a2 M0) H) (hap : ap_L ((WX ca a X0).map Prod.fst) ((WM ca a2 M0).map Prod.fst)) (hD1 : va_D (fun q : Nat => s.heap.size ≤ q) (WX ca a X0)) (hD2 : va_D (fun q : Nat => s.heap.size ≤ q) (WM ca a2 M0)) (hS : va_S (fun q : Nat => s.heap.size ≤ q) s.heap H locs) (hl : lv_has ls 4 [(0, .ref b), (1, .ref (a 0)), (2, .ref (a2 0)), (3, .int 0)]) (kk : ∀ (H : Heap) (locs : List Loc), va_S (fun q : Nat => s.heap.size ≤ q) s.heap H locs → W p l e room_1 s m #[Value.ref b] below meth c H locs 600000 7302250 (lw_Z below #[Value.ref b] s) (F0 m 1510 ls [])) : W p l e room_1 s m #[Value.ref b] below meth c H locs 600000 7302250 (lw_Z below #[Value.ref b] s) (F0 m 782 ls []) := by
  obtain ⟨hx, hb, hr, hml, hown, hts, hX, hbl, hlocks, hgv⟩ := C0
  have hA : ∀ q : Nat, s.heap.size ≤ q → (fun q : Nat => s.heap.size ≤ q) q := fun _ h => h
  have hbA : ¬ (fun q : Nat => s.heap.size ≤ q) b := Nat.not_le.mpr hbl
  have hgd : ∀ q ∈ lw_gd, q.before #[Value.ref b] s = true := fun q hq => hts q (List.mem_filter.mp hq).1
  refine lv_aload_n hx hb dL_782 rfl (lv_at hl 1 rfl) ?_
  refine lv_aload_n hx hb dL_783 rfl (lv_at hl 0 rfl) ?_
  refine lv_iload_n hx hb dL_784 rfl (lv_at hl 3 rfl) ?_
  refine lv_iconst (v := 1) hx hb dL_785 (by decide) ?_
  refine lv_iadd hx hb dL_786 ?_
  refine va_sld hx hb hX hbl hbA hS lw_in1 dL_787 ?_
  refine lv_topi (fun v1 ev1 => ?_)
  refine lv_aload_n hx hb dL_788 rfl (lv_at hl 0 rfl) ?_
  refine lv_iload_n hx hb dL_789 rfl (lv_at hl 3 rfl) ?_
  refine lv_iconst (v := 2) hx hb dL_790 (by decide) ?_
  refine lv_iadd hx hb dL_791 ?_
  refine va_sld hx hb hX hbl hbA hS lw_in2 dL_792 ?_
  refine lv_topi (fun v2 ev2 => ?_)
  refine lv_i2l hx hb dL_793 rfl ?_
  refine lv_bipush (v := 32) hx hb dL_794 (by decide) ?_
  refine lv_lshl hx hb dL_796 rfl ?_
  refine lv_aload_n hx hb dL_797 rfl (lv_at hl 0 rfl) ?_
  refine lv_iload_n hx hb dL_798 rfl (lv_at hl 3 rfl) ?_
  refine lv_iconst (v := 3) hx hb dL_799 (by decide) ?_
  refine lv_iadd hx hb dL_800 ?_
  refine va_sld hx hb hX hbl hbA hS lw_in3 dL_801 ?_
  refine lv_topi (fun v3 ev3 => ?_)
  refine lv_i2l hx hb dL_802 rfl ?_
  refine lv_ldc2 (v := 4294967295) hx hb hown (hts _ (List.mem_filter.mp kl_1791).1) dL_803 ?_
  refine lv_land hx hb dL_806 ?_
  refine lv_lor hx hb dL_807 ?_
  refine lv_topl (fun v4 ev4 => ?_)
  refine lv_aload_n hx hb dL_808 rfl (lv_at hl 0 rfl) ?_
  refine lv_iload_n hx hb dL_809 rfl (lv_at hl 3 rfl) ?_
  refine lv_iconst (v := 4) hx hb dL_810 (by decide) ?_
  refine lv_iadd hx hb dL_811 ?_
  refine va_sld hx hb hX hbl hbA hS lw_in4 dL_812 ?_
  refine lv_topi (fun v5 ev5 => ?_)
  refine lv_aload_n hx hb dL_813 rfl (lv_at hl 0 rfl) ?_
  refine lv_iload_n hx hb dL_814 rfl (lv_at hl 3 rfl) ?_
  refine lv_iconst (v := 5) hx hb dL_815 (by decide) ?_
  refine lv_iadd hx hb dL_816 ?_
  refine va_sld hx hb hX hbl hbA hS lw_in5 dL_817 ?_
  refine lv_topi (fun v6 ev6 => ?_)
  refine lv_aload_n hx hb dL_818 rfl (lv_at hl 0 rfl) ?_
  refine lv_iload_n hx hb dL_819 rfl (lv_at hl 3 rfl) ?_
  refine lv_bipush (v := 6) hx hb dL_820 (by decide) ?_
  refine lv_iadd hx hb dL_822 ?_
  refine va_sld hx hb hX hbl hbA hS lw_in6 dL_823 ?_
  refine lv_topi (fun v7 ev7 => ?_)
  refine lv_i2l hx hb dL_824 rfl ?_
  refine lv_bipush (v := 32) hx hb dL_825 (by decide) ?_
  refine lv_lshl hx hb dL_827 rfl ?_
  refine lv_aload_n hx hb dL_828 rfl (lv_at hl 0 rfl) ?_
  refine lv_iload_n hx hb dL_829 rfl (lv_at hl 3 rfl) ?_
  refine lv_bipush (v := 7) hx hb dL_830 (by decide) ?_
  refine lv_iadd hx hb dL_832 ?_
  refine va_sld hx hb hX hbl hbA hS lw_in7 dL_833 ?_
  refine lv_topi (fun v8 ev8 => ?_)
  refine lv_i2l hx hb dL_834 rfl ?_
  refine lv_ldc2 (v := 4294967295) hx hb hown (hts _ (List.mem_filter.mp kl_1791).1) dL_835 ?_
  refine lv_land hx hb dL_838 ?_
  refine lv_lor hx hb dL_839 ?_
  refine lv_topl (fun v9 ev9 => ?_)
  obtain ⟨r, h1, h2⟩ := a_seek v1 v4 v5 v6 v9
  obtain ⟨u1, h1⟩ := lw_mf h1
  obtain ⟨u2, h2⟩ := lw_mf h2
  refine fw_LV (As := [.int v1, .long v4, .int v5, .int v6, .long v9]) (rest := []) (n := 5) (q0 := 0) (W2 := WM ca a2 M0) hx hb hml hown hgd hN hK (c_X_X10_seek__0 (l := l) (D := D) (ca := ca) (a := a) h1) kl_959 kl_960 kl_92 kl_962 kl_961 hP1 hP2 hap hD1 hS hA hl (heX_0 ca a X0) rfl rfl rfl lw_c600 (by decide +kernel) ⟨Nat.le_of_ble_eq_true rfl, Nat.le_of_ble_eq_true rfl⟩ rfl rfl (Nat.le_of_ble_eq_true rfl) dL_840 (fun H locs hP1 hP2 hS => ?_)
  refine lv_aload_n hx hb dL_843 rfl (lv_at hl 2 rfl) ?_
  refine lv_aload_n hx hb dL_844 rfl (lv_at hl 0 rfl) ?_
  refine lv_iload_n hx hb dL_845 rfl (lv_at hl 3 rfl) ?_
  refine lv_iconst (v := 1) hx hb dL_846 (by decide) ?_
  refine lv_iadd hx hb dL_847 ?_
  refine va_sld hx hb hX hbl hbA hS lw_in1 dL_848 ?_
  refine lv_topi (fun v10 ev10 => ?_)
  obtain rfl : v1 = v10 := ev1.trans ev10.symm
  refine lv_aload_n hx hb dL_849 rfl (lv_at hl 0 rfl) ?_
  refine lv_iload_n hx hb dL_850 rfl (lv_at hl 3 rfl) ?_
  refine lv_iconst (v := 2) hx hb dL_851 (by decide) ?_
  refine lv_iadd hx hb dL_852 ?_
  refine va_sld hx hb hX hbl hbA hS lw_in2 dL_853 ?_
  refine lv_topi (fun v11 ev11 => ?_)
  obtain rfl : v2 = v11 := ev2.trans ev11.symm
  refine lv_i2l hx hb dL_854 rfl ?_
  refine lv_bipush (v := 32) hx hb dL_855 (by decide) ?_
  refine lv_lshl hx hb dL_857 rfl ?_
  refine lv_aload_n hx hb dL_858 rfl (lv_at hl 0 rfl) ?_
  refine lv_iload_n hx hb dL_859 rfl (lv_at hl 3 rfl) ?_
  refine lv_iconst (v := 3) hx hb dL_860 (by decide) ?_
  refine lv_iadd hx hb dL_861 ?_
  refine va_sld hx hb hX hbl hbA hS lw_in3 dL_862 ?_
  refine lv_topi (fun v12 ev12 => ?_)
  obtain rfl : v3 = v12 := ev3.trans ev12.symm
  refine lv_i2l hx hb dL_863 rfl ?_
  refine lv_ldc2 (v := 4294967295) hx hb hown (hts _ (List.mem_filter.mp kl_1791).1) dL_864 ?_
  refine lv_land hx hb dL_867 ?_
  refine lv_lor hx hb dL_868 ?_
  refine lv_topl (fun v13 ev13 => ?_)
  obtain rfl : v4 = v13 := ev4.trans ev13.symm
  refine lv_aload_n hx hb dL_869 rfl (lv_at hl 0 rfl) ?_
  refine lv_iload_n hx hb dL_870 rfl (lv_at hl 3 rfl) ?_
  refine lv_iconst (v := 4) hx hb dL_871 (by decide) ?_
  refine lv_iadd hx hb dL_872 ?_
  refine va_sld hx hb hX hbl hbA hS lw_in4 dL_873 ?_
  refine lv_topi (fun v14 ev14 => ?_)
  obtain rfl : v5 = v14 := ev5.trans ev14.symm
  refine lv_aload_n hx hb dL_874 rfl (lv_at hl 0 rfl) ?_
  refine lv_iload_n hx hb dL_875 rfl (lv_at hl 3 rfl) ?_
  refine lv_iconst (v := 5) hx hb dL_876 (by decide) ?_
  refine lv_iadd hx hb dL_877 ?_
  refine va_sld hx hb hX hbl hbA hS lw_in5 dL_878 ?_
  refine lv_topi (fun v15 ev15 => ?_)
  obtain rfl : v6 = v15 := ev6.trans ev15.symm
  refine lv_aload_n hx hb dL_879 rfl (lv_at hl 0 rfl) ?_
  refine lv_iload_n hx hb dL_880 rfl (lv_at hl 3 rfl) ?_
  refine lv_bipush (v := 6) hx hb dL_881 (by decide) ?_
  refine lv_iadd hx hb dL_883 ?_
  refine va_sld hx hb hX hbl hbA hS lw_in6 dL_884 ?_
  refine lv_topi (fun v16 ev16 => ?_)
  obtain rfl : v7 = v16 := ev7.trans ev16.symm
  refine lv_i2l hx hb dL_885 rfl ?_
  refine lv_bipush (v := 32) hx hb dL_886 (by decide) ?_
  refine lv_lshl hx hb dL_888 rfl ?_
  refine lv_aload_n hx hb dL_889 rfl (lv_at hl 0 rfl) ?_
  refine lv_iload_n hx hb dL_890 rfl (lv_at hl 3 rfl) ?_
  refine lv_bipush (v := 7) hx hb dL_891 (by decide) ?_
  refine lv_iadd hx hb dL_893 ?_
  refine va_sld hx hb hX hbl hbA hS lw_in7 dL_894 ?_
  refine lv_topi (fun v17 ev17 => ?_)
  obtain rfl : v8 = v17 := ev8.trans ev17.symm
  refine lv_i2l hx hb dL_895 rfl ?_
  refine lv_ldc2 (v := 4294967295) hx hb hown (hts _ (List.mem_filter.mp kl_1791).1) dL_896 ?_
  refine lv_land hx hb dL_899 ?_
  refine lv_lor hx hb dL_900 ?_
  refine lv_topl (fun v18 ev18 => ?_)
  obtain rfl : v9 = v18 := ev9.trans ev18.symm
  refine fw_LV (As := [.int v1, .long v4, .int v5, .int v6, .long v9]) (rest := [.long r]) (n := 5) (q0 := 0) (W2 := []) hx hb hml hown hgd hN hK (c_M_X11_seek__0 (l := l) (D := D) (ca := ca) (a := a2) h2) kl_1681 kl_1682 kl_102 kl_1684 kl_1683 hP2 lw_Pn lw_apn hD2 hS hA hl (heM_0 ca a2 M0) rfl rfl rfl lw_c600 (by decide +kernel) ⟨Nat.le_of_ble_eq_true rfl, Nat.le_of_ble_eq_true rfl⟩ rfl rfl (Nat.le_of_ble_eq_true rfl) dL_901 (fun H locs hP1 hP2 hS => ?_)
  refine W.lcmp hx hb dL_904 ?_
  refine lv_if_eq (tgt := 1510) hx hb dL_905 (by decide) (fun _ => ?_) (fun h => absurd (lw_cmp0 _) h)
  exact kk H locs hS
set_option maxRecDepth 20000 in
theorem law_c20 {p : Program} {e : Env} {s : State} {m : MethodId} {below : List Frame} {meth : Method} {c : Code} (l : Launch) {b : Nat} {xs : Nat → Int32} (C0 : lw_At p s m meth c b 8 xs) {D : va_G} {ca : Nat → ClassId} {a a2 : Nat → Nat} (hK : va_K D classes (tyv ca) s) (hN : lw_Nz s) {H : Heap} {locs : List Loc} {ls : Array Slot} (hP1 : va_P D classes (WX ca a X0) H) (hP2 : va_P D classes (WM ca a2 M0) H) (hap : ap_L ((WX ca a X0).map Prod.fst) ((WM ca a2 M0).map Prod.fst)) (hD1 : va_D (fun q : Nat => s.heap.size ≤ q) (WX ca a X0)) (hD2 : va_D (fun q : Nat => s.heap.size ≤ q) (WM ca a2 M0)) (hS : va_S (fun q : Nat => s.heap.size ≤ q) s.heap H locs) (hl : lv_has ls 4 [(0, .ref b), (1, .ref (a 0)), (2, .ref (a2 0)), (3, .int 0)]) (kk : ∀ (H : Heap) (locs : List Loc), va_S (fun q : Nat => s.heap.size ≤ q) s.heap H locs → W p l e room_1 s m #[Value.ref b] below meth c H locs 600000 7302250 (lw_Z below #[Value.ref b] s) (F0 m 1510 ls [])) : W p l e room_1 s m #[Value.ref b] below meth c H locs 600000 7302250 (lw_Z below #[Value.ref b] s) (F0 m 910 ls []) := by
  obtain ⟨hx, hb, hr, hml, hown, hts, hX, hbl, hlocks, hgv⟩ := C0
  have hA : ∀ q : Nat, s.heap.size ≤ q → (fun q : Nat => s.heap.size ≤ q) q := fun _ h => h
  have hbA : ¬ (fun q : Nat => s.heap.size ≤ q) b := Nat.not_le.mpr hbl
  have hgd : ∀ q ∈ lw_gd, q.before #[Value.ref b] s = true := fun q hq => hts q (List.mem_filter.mp hq).1
  refine lv_aload_n hx hb dL_910 rfl (lv_at hl 1 rfl) ?_
  refine lv_aload_n hx hb dL_911 rfl (lv_at hl 0 rfl) ?_
  refine lv_iload_n hx hb dL_912 rfl (lv_at hl 3 rfl) ?_
  refine lv_iconst (v := 1) hx hb dL_913 (by decide) ?_
  refine lv_iadd hx hb dL_914 ?_
  refine va_sld hx hb hX hbl hbA hS lw_in1 dL_915 ?_
  refine lv_topi (fun v1 ev1 => ?_)
  obtain ⟨r, h1, h2⟩ := a_spell v1
  obtain ⟨u1, h1⟩ := lw_mf h1
  obtain ⟨u2, h2⟩ := lw_mf h2
  refine fw_LV (As := [.int v1]) (rest := []) (n := 1) (q0 := 0) (W2 := WM ca a2 M0) hx hb hml hown hgd hN hK (c_X_X10_spell__0 (l := l) (D := D) (ca := ca) (a := a) h1) kl_968 kl_969 kl_92 kl_971 kl_970 hP1 hP2 hap hD1 hS hA hl (heX_0 ca a X0) rfl rfl rfl lw_c600 (by decide +kernel) ⟨Nat.le_of_ble_eq_true rfl, Nat.le_of_ble_eq_true rfl⟩ rfl rfl (Nat.le_of_ble_eq_true rfl) dL_916 (fun H locs hP1 hP2 hS => ?_)
  refine lv_aload_n hx hb dL_919 rfl (lv_at hl 2 rfl) ?_
  refine lv_aload_n hx hb dL_920 rfl (lv_at hl 0 rfl) ?_
  refine lv_iload_n hx hb dL_921 rfl (lv_at hl 3 rfl) ?_
  refine lv_iconst (v := 1) hx hb dL_922 (by decide) ?_
  refine lv_iadd hx hb dL_923 ?_
  refine va_sld hx hb hX hbl hbA hS lw_in1 dL_924 ?_
  refine lv_topi (fun v2 ev2 => ?_)
  obtain rfl : v1 = v2 := ev1.trans ev2.symm
  refine fw_LV (As := [.int v1]) (rest := [.int r]) (n := 1) (q0 := 0) (W2 := []) hx hb hml hown hgd hN hK (c_M_X11_spell__0 (l := l) (D := D) (ca := ca) (a := a2) h2) kl_1686 kl_1687 kl_102 kl_1689 kl_1688 hP2 lw_Pn lw_apn hD2 hS hA hl (heM_0 ca a2 M0) rfl rfl rfl lw_c600 (by decide +kernel) ⟨Nat.le_of_ble_eq_true rfl, Nat.le_of_ble_eq_true rfl⟩ rfl rfl (Nat.le_of_ble_eq_true rfl) dL_925 (fun H locs hP1 hP2 hS => ?_)
  refine lv_icmp_eq (tgt := 1510) hx hb dL_928 (by decide) (fun _ => ?_) (fun h => absurd rfl h)
  exact kk H locs hS
set_option maxRecDepth 20000 in
theorem law_c21 {p : Program} {e : Env} {s : State} {m : MethodId} {below : List Frame} {meth : Method} {c : Code} (l : Launch) {b : Nat} {xs : Nat → Int32} (C0 : lw_At p s m meth c b 8 xs) {D : va_G} {ca : Nat → ClassId} {a a2 : Nat → Nat} (hK : va_K D classes (tyv ca) s) (hN : lw_Nz s) {H : Heap} {locs : List Loc} {ls : Array Slot} (hP1 : va_P D classes (WX ca a X0) H) (hP2 : va_P D classes (WM ca a2 M0) H) (hap : ap_L ((WX ca a X0).map Prod.fst) ((WM ca a2 M0).map Prod.fst)) (hD1 : va_D (fun q : Nat => s.heap.size ≤ q) (WX ca a X0)) (hD2 : va_D (fun q : Nat => s.heap.size ≤ q) (WM ca a2 M0)) (hS : va_S (fun q : Nat => s.heap.size ≤ q) s.heap H locs) (hl : lv_has ls 4 [(0, .ref b), (1, .ref (a 0)), (2, .ref (a2 0)), (3, .int 0)]) (kk : ∀ (H : Heap) (locs : List Loc), va_S (fun q : Nat => s.heap.size ≤ q) s.heap H locs → W p l e room_1 s m #[Value.ref b] below meth c H locs 600000 7302250 (lw_Z below #[Value.ref b] s) (F0 m 1510 ls [])) : W p l e room_1 s m #[Value.ref b] below meth c H locs 600000 7302250 (lw_Z below #[Value.ref b] s) (F0 m 933 ls []) := by
  obtain ⟨hx, hb, hr, hml, hown, hts, hX, hbl, hlocks, hgv⟩ := C0
  have hA : ∀ q : Nat, s.heap.size ≤ q → (fun q : Nat => s.heap.size ≤ q) q := fun _ h => h
  have hbA : ¬ (fun q : Nat => s.heap.size ≤ q) b := Nat.not_le.mpr hbl
  have hgd : ∀ q ∈ lw_gd, q.before #[Value.ref b] s = true := fun q hq => hts q (List.mem_filter.mp hq).1
  refine lv_aload_n hx hb dL_933 rfl (lv_at hl 1 rfl) ?_
  refine lv_aload_n hx hb dL_934 rfl (lv_at hl 0 rfl) ?_
  refine lv_iload_n hx hb dL_935 rfl (lv_at hl 3 rfl) ?_
  refine lv_iconst (v := 1) hx hb dL_936 (by decide) ?_
  refine lv_iadd hx hb dL_937 ?_
  refine va_sld hx hb hX hbl hbA hS lw_in1 dL_938 ?_
  refine lv_topi (fun v1 ev1 => ?_)
  obtain ⟨r, h1, h2⟩ := a_paper v1
  obtain ⟨u1, h1⟩ := lw_mf h1
  obtain ⟨u2, h2⟩ := lw_mf h2
  refine fw_LV (As := [.int v1]) (rest := []) (n := 1) (q0 := 0) (W2 := WM ca a2 M0) hx hb hml hown hgd hN hK (c_X_X10_paper__0 (l := l) (D := D) (ca := ca) (a := a) h1) kl_1017 kl_1018 kl_92 kl_1020 kl_1019 hP1 hP2 hap hD1 hS hA hl (heX_0 ca a X0) rfl rfl rfl lw_c600 (by decide +kernel) ⟨Nat.le_of_ble_eq_true rfl, Nat.le_of_ble_eq_true rfl⟩ rfl rfl (Nat.le_of_ble_eq_true rfl) dL_939 (fun H locs hP1 hP2 hS => ?_)
  refine lv_aload_n hx hb dL_942 rfl (lv_at hl 2 rfl) ?_
  refine lv_aload_n hx hb dL_943 rfl (lv_at hl 0 rfl) ?_
  refine lv_iload_n hx hb dL_944 rfl (lv_at hl 3 rfl) ?_
  refine lv_iconst (v := 1) hx hb dL_945 (by decide) ?_
  refine lv_iadd hx hb dL_946 ?_
  refine va_sld hx hb hX hbl hbA hS lw_in1 dL_947 ?_
  refine lv_topi (fun v2 ev2 => ?_)
  obtain rfl : v1 = v2 := ev1.trans ev2.symm
  refine fw_LV (As := [.int v1]) (rest := [.int r]) (n := 1) (q0 := 0) (W2 := []) hx hb hml hown hgd hN hK (c_M_X11_paper__0 (l := l) (D := D) (ca := ca) (a := a2) h2) kl_1705 kl_1706 kl_102 kl_1708 kl_1707 hP2 lw_Pn lw_apn hD2 hS hA hl (heM_0 ca a2 M0) rfl rfl rfl lw_c600 (by decide +kernel) ⟨Nat.le_of_ble_eq_true rfl, Nat.le_of_ble_eq_true rfl⟩ rfl rfl (Nat.le_of_ble_eq_true rfl) dL_948 (fun H locs hP1 hP2 hS => ?_)
  refine lv_icmp_eq (tgt := 1510) hx hb dL_951 (by decide) (fun _ => ?_) (fun h => absurd rfl h)
  exact kk H locs hS
set_option maxRecDepth 20000 in
theorem law_c22 {p : Program} {e : Env} {s : State} {m : MethodId} {below : List Frame} {meth : Method} {c : Code} (l : Launch) {b : Nat} {xs : Nat → Int32} (C0 : lw_At p s m meth c b 8 xs) {D : va_G} {ca : Nat → ClassId} {a a2 : Nat → Nat} (hK : va_K D classes (tyv ca) s) (hN : lw_Nz s) {H : Heap} {locs : List Loc} {ls : Array Slot} (hP1 : va_P D classes (WX ca a X0) H) (hP2 : va_P D classes (WM ca a2 M0) H) (hap : ap_L ((WX ca a X0).map Prod.fst) ((WM ca a2 M0).map Prod.fst)) (hD1 : va_D (fun q : Nat => s.heap.size ≤ q) (WX ca a X0)) (hD2 : va_D (fun q : Nat => s.heap.size ≤ q) (WM ca a2 M0)) (hS : va_S (fun q : Nat => s.heap.size ≤ q) s.heap H locs) (hl : lv_has ls 4 [(0, .ref b), (1, .ref (a 0)), (2, .ref (a2 0)), (3, .int 0)]) (kk : ∀ (H : Heap) (locs : List Loc), va_S (fun q : Nat => s.heap.size ≤ q) s.heap H locs → W p l e room_1 s m #[Value.ref b] below meth c H locs 600000 7302250 (lw_Z below #[Value.ref b] s) (F0 m 1510 ls [])) : W p l e room_1 s m #[Value.ref b] below meth c H locs 600000 7302250 (lw_Z below #[Value.ref b] s) (F0 m 956 ls []) := by
  obtain ⟨hx, hb, hr, hml, hown, hts, hX, hbl, hlocks, hgv⟩ := C0
  have hA : ∀ q : Nat, s.heap.size ≤ q → (fun q : Nat => s.heap.size ≤ q) q := fun _ h => h
  have hbA : ¬ (fun q : Nat => s.heap.size ≤ q) b := Nat.not_le.mpr hbl
  have hgd : ∀ q ∈ lw_gd, q.before #[Value.ref b] s = true := fun q hq => hts q (List.mem_filter.mp hq).1
  refine lv_aload_n hx hb dL_956 rfl (lv_at hl 1 rfl) ?_
  refine lv_aload_n hx hb dL_957 rfl (lv_at hl 0 rfl) ?_
  refine lv_iload_n hx hb dL_958 rfl (lv_at hl 3 rfl) ?_
  refine lv_iconst (v := 1) hx hb dL_959 (by decide) ?_
  refine lv_iadd hx hb dL_960 ?_
  refine va_sld hx hb hX hbl hbA hS lw_in1 dL_961 ?_
  refine lv_topi (fun v1 ev1 => ?_)
  refine lv_aload_n hx hb dL_962 rfl (lv_at hl 0 rfl) ?_
  refine lv_iload_n hx hb dL_963 rfl (lv_at hl 3 rfl) ?_
  refine lv_iconst (v := 2) hx hb dL_964 (by decide) ?_
  refine lv_iadd hx hb dL_965 ?_
  refine va_sld hx hb hX hbl hbA hS lw_in2 dL_966 ?_
  refine lv_topi (fun v2 ev2 => ?_)
  refine lv_aload_n hx hb dL_967 rfl (lv_at hl 0 rfl) ?_
  refine lv_iload_n hx hb dL_968 rfl (lv_at hl 3 rfl) ?_
  refine lv_iconst (v := 3) hx hb dL_969 (by decide) ?_
  refine lv_iadd hx hb dL_970 ?_
  refine va_sld hx hb hX hbl hbA hS lw_in3 dL_971 ?_
  refine lv_topi (fun v3 ev3 => ?_)
  refine lv_i2l hx hb dL_972 rfl ?_
  refine lv_bipush (v := 32) hx hb dL_973 (by decide) ?_
  refine lv_lshl hx hb dL_975 rfl ?_
  refine lv_aload_n hx hb dL_976 rfl (lv_at hl 0 rfl) ?_
  refine lv_iload_n hx hb dL_977 rfl (lv_at hl 3 rfl) ?_
  refine lv_iconst (v := 4) hx hb dL_978 (by decide) ?_
  refine lv_iadd hx hb dL_979 ?_
  refine va_sld hx hb hX hbl hbA hS lw_in4 dL_980 ?_
  refine lv_topi (fun v4 ev4 => ?_)
  refine lv_i2l hx hb dL_981 rfl ?_
  refine lv_ldc2 (v := 4294967295) hx hb hown (hts _ (List.mem_filter.mp kl_1791).1) dL_982 ?_
  refine lv_land hx hb dL_985 ?_
  refine lv_lor hx hb dL_986 ?_
  refine lv_topl (fun v5 ev5 => ?_)
  obtain ⟨r, h1, h2⟩ := a_watch v1 v2 v5
  obtain ⟨u1, h1⟩ := lw_mf h1
  obtain ⟨u2, h2⟩ := lw_mf h2
  refine fw_LV (As := [.int v1, .int v2, .long v5]) (rest := []) (n := 3) (q0 := 0) (W2 := WM ca a2 M0) hx hb hml hown hgd hN hK (c_X_X10_watch__0 (l := l) (D := D) (ca := ca) (a := a) h1) kl_1025 kl_1026 kl_92 kl_1028 kl_1027 hP1 hP2 hap hD1 hS hA hl (heX_0 ca a X0) rfl rfl rfl lw_c600 (by decide +kernel) ⟨Nat.le_of_ble_eq_true rfl, Nat.le_of_ble_eq_true rfl⟩ rfl rfl (Nat.le_of_ble_eq_true rfl) dL_987 (fun H locs hP1 hP2 hS => ?_)
  refine lv_aload_n hx hb dL_990 rfl (lv_at hl 2 rfl) ?_
  refine lv_aload_n hx hb dL_991 rfl (lv_at hl 0 rfl) ?_
  refine lv_iload_n hx hb dL_992 rfl (lv_at hl 3 rfl) ?_
  refine lv_iconst (v := 1) hx hb dL_993 (by decide) ?_
  refine lv_iadd hx hb dL_994 ?_
  refine va_sld hx hb hX hbl hbA hS lw_in1 dL_995 ?_
  refine lv_topi (fun v6 ev6 => ?_)
  obtain rfl : v1 = v6 := ev1.trans ev6.symm
  refine lv_aload_n hx hb dL_996 rfl (lv_at hl 0 rfl) ?_
  refine lv_iload_n hx hb dL_997 rfl (lv_at hl 3 rfl) ?_
  refine lv_iconst (v := 2) hx hb dL_998 (by decide) ?_
  refine lv_iadd hx hb dL_999 ?_
  refine va_sld hx hb hX hbl hbA hS lw_in2 dL_1000 ?_
  refine lv_topi (fun v7 ev7 => ?_)
  obtain rfl : v2 = v7 := ev2.trans ev7.symm
  refine lv_aload_n hx hb dL_1001 rfl (lv_at hl 0 rfl) ?_
  refine lv_iload_n hx hb dL_1002 rfl (lv_at hl 3 rfl) ?_
  refine lv_iconst (v := 3) hx hb dL_1003 (by decide) ?_
  refine lv_iadd hx hb dL_1004 ?_
  refine va_sld hx hb hX hbl hbA hS lw_in3 dL_1005 ?_
  refine lv_topi (fun v8 ev8 => ?_)
  obtain rfl : v3 = v8 := ev3.trans ev8.symm
  refine lv_i2l hx hb dL_1006 rfl ?_
  refine lv_bipush (v := 32) hx hb dL_1007 (by decide) ?_
  refine lv_lshl hx hb dL_1009 rfl ?_
  refine lv_aload_n hx hb dL_1010 rfl (lv_at hl 0 rfl) ?_
  refine lv_iload_n hx hb dL_1011 rfl (lv_at hl 3 rfl) ?_
  refine lv_iconst (v := 4) hx hb dL_1012 (by decide) ?_
  refine lv_iadd hx hb dL_1013 ?_
  refine va_sld hx hb hX hbl hbA hS lw_in4 dL_1014 ?_
  refine lv_topi (fun v9 ev9 => ?_)
  obtain rfl : v4 = v9 := ev4.trans ev9.symm
  refine lv_i2l hx hb dL_1015 rfl ?_
  refine lv_ldc2 (v := 4294967295) hx hb hown (hts _ (List.mem_filter.mp kl_1791).1) dL_1016 ?_
  refine lv_land hx hb dL_1019 ?_
  refine lv_lor hx hb dL_1020 ?_
  refine lv_topl (fun v10 ev10 => ?_)
  obtain rfl : v5 = v10 := ev5.trans ev10.symm
  refine fw_LV (As := [.int v1, .int v2, .long v5]) (rest := [.int r]) (n := 3) (q0 := 0) (W2 := []) hx hb hml hown hgd hN hK (c_M_X11_watch__0 (l := l) (D := D) (ca := ca) (a := a2) h2) kl_1709 kl_1710 kl_102 kl_1712 kl_1711 hP2 lw_Pn lw_apn hD2 hS hA hl (heM_0 ca a2 M0) rfl rfl rfl lw_c600 (by decide +kernel) ⟨Nat.le_of_ble_eq_true rfl, Nat.le_of_ble_eq_true rfl⟩ rfl rfl (Nat.le_of_ble_eq_true rfl) dL_1021 (fun H locs hP1 hP2 hS => ?_)
  refine lv_icmp_eq (tgt := 1510) hx hb dL_1024 (by decide) (fun _ => ?_) (fun h => absurd rfl h)
  exact kk H locs hS
set_option maxRecDepth 20000 in
theorem law_c23 {p : Program} {e : Env} {s : State} {m : MethodId} {below : List Frame} {meth : Method} {c : Code} (l : Launch) {b : Nat} {xs : Nat → Int32} (C0 : lw_At p s m meth c b 8 xs) {D : va_G} {ca : Nat → ClassId} {a a2 : Nat → Nat} (hK : va_K D classes (tyv ca) s) (hN : lw_Nz s) {H : Heap} {locs : List Loc} {ls : Array Slot} (hP1 : va_P D classes (WX ca a X0) H) (hP2 : va_P D classes (WM ca a2 M0) H) (hap : ap_L ((WX ca a X0).map Prod.fst) ((WM ca a2 M0).map Prod.fst)) (hD1 : va_D (fun q : Nat => s.heap.size ≤ q) (WX ca a X0)) (hD2 : va_D (fun q : Nat => s.heap.size ≤ q) (WM ca a2 M0)) (hS : va_S (fun q : Nat => s.heap.size ≤ q) s.heap H locs) (hl : lv_has ls 4 [(0, .ref b), (1, .ref (a 0)), (2, .ref (a2 0)), (3, .int 0)]) (kk : ∀ (H : Heap) (locs : List Loc), va_S (fun q : Nat => s.heap.size ≤ q) s.heap H locs → W p l e room_1 s m #[Value.ref b] below meth c H locs 600000 7302250 (lw_Z below #[Value.ref b] s) (F0 m 1510 ls [])) : W p l e room_1 s m #[Value.ref b] below meth c H locs 600000 7302250 (lw_Z below #[Value.ref b] s) (F0 m 1029 ls []) := by
  obtain ⟨hx, hb, hr, hml, hown, hts, hX, hbl, hlocks, hgv⟩ := C0
  have hA : ∀ q : Nat, s.heap.size ≤ q → (fun q : Nat => s.heap.size ≤ q) q := fun _ h => h
  have hbA : ¬ (fun q : Nat => s.heap.size ≤ q) b := Nat.not_le.mpr hbl
  have hgd : ∀ q ∈ lw_gd, q.before #[Value.ref b] s = true := fun q hq => hts q (List.mem_filter.mp hq).1
  refine lv_aload_n hx hb dL_1029 rfl (lv_at hl 1 rfl) ?_
  refine lv_aload_n hx hb dL_1030 rfl (lv_at hl 0 rfl) ?_
  refine lv_iload_n hx hb dL_1031 rfl (lv_at hl 3 rfl) ?_
  refine lv_iconst (v := 1) hx hb dL_1032 (by decide) ?_
  refine lv_iadd hx hb dL_1033 ?_
  refine va_sld hx hb hX hbl hbA hS lw_in1 dL_1034 ?_
  refine lv_topi (fun v1 ev1 => ?_)
  obtain ⟨r, h1, h2⟩ := a_quit v1
  obtain ⟨u1, h1⟩ := lw_mf h1
  obtain ⟨u2, h2⟩ := lw_mf h2
  refine fw_LV (As := [.int v1]) (rest := []) (n := 1) (q0 := 0) (W2 := WM ca a2 M0) hx hb hml hown hgd hN hK (c_X_X10_quit__0 (l := l) (D := D) (ca := ca) (a := a) h1) kl_1034 kl_1035 kl_92 kl_1037 kl_1036 hP1 hP2 hap hD1 hS hA hl (heX_0 ca a X0) rfl rfl rfl lw_c600 (by decide +kernel) ⟨Nat.le_of_ble_eq_true rfl, Nat.le_of_ble_eq_true rfl⟩ rfl rfl (Nat.le_of_ble_eq_true rfl) dL_1035 (fun H locs hP1 hP2 hS => ?_)
  refine lv_aload_n hx hb dL_1038 rfl (lv_at hl 2 rfl) ?_
  refine lv_aload_n hx hb dL_1039 rfl (lv_at hl 0 rfl) ?_
  refine lv_iload_n hx hb dL_1040 rfl (lv_at hl 3 rfl) ?_
  refine lv_iconst (v := 1) hx hb dL_1041 (by decide) ?_
  refine lv_iadd hx hb dL_1042 ?_
  refine va_sld hx hb hX hbl hbA hS lw_in1 dL_1043 ?_
  refine lv_topi (fun v2 ev2 => ?_)
  obtain rfl : v1 = v2 := ev1.trans ev2.symm
  refine fw_LV (As := [.int v1]) (rest := [.int r]) (n := 1) (q0 := 0) (W2 := []) hx hb hml hown hgd hN hK (c_M_X11_quit__0 (l := l) (D := D) (ca := ca) (a := a2) h2) kl_1713 kl_1714 kl_102 kl_1716 kl_1715 hP2 lw_Pn lw_apn hD2 hS hA hl (heM_0 ca a2 M0) rfl rfl rfl lw_c600 (by decide +kernel) ⟨Nat.le_of_ble_eq_true rfl, Nat.le_of_ble_eq_true rfl⟩ rfl rfl (Nat.le_of_ble_eq_true rfl) dL_1044 (fun H locs hP1 hP2 hS => ?_)
  refine lv_icmp_eq (tgt := 1510) hx hb dL_1047 (by decide) (fun _ => ?_) (fun h => absurd rfl h)
  exact kk H locs hS
