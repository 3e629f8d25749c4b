set_option maxRecDepth 20000 in
theorem lw_D {p : Program} {s : State} {m : MethodId} {meth : Method} {c : Code} {b L : Nat} {xs : Nat → Int32} (C0 : lw_At p s m meth c b L xs) : ∃ (D : va_G) (ca : Nat → ClassId), va_K D classes (tyv ca) s := by
  obtain ⟨hx, hb, hr, hml, hown, hts, hX, hbl, hlocks, hgv⟩ := C0
  have hgd : ∀ q ∈ lw_gd, q.before #[Value.ref b] s = true := fun q hq => hts q (List.mem_filter.mp hq).1
  obtain ⟨c0, i0, g0⟩ := u_known (C := RX0) (T := TX0) (N := 12) (n := 12) hgd inX0 (hgd _ kl_180)
  obtain ⟨c1, i1, g1⟩ := u_known (C := RX1) (T := TX1) (N := 8) (n := 8) hgd inX1 (hgd _ kl_174)
  obtain ⟨c2, i2, g2⟩ := u_known (C := RX2) (T := TX2) (N := 6) (n := 6) hgd inX2 (hgd _ kl_749)
  obtain ⟨c3, i3, g3⟩ := u_known (C := RX3) (T := TX3) (N := 2) (n := 2) hgd inX3 (hgd _ kl_314)
  obtain ⟨c4, i4, g4⟩ := u_known (C := RX4) (T := TX4) (N := 2) (n := 2) hgd inX4 (hgd _ kl_327)
  obtain ⟨c5, i5, g5⟩ := u_known (C := RX5) (T := TX5) (N := 10) (n := 10) hgd inX5 (hgd _ kl_117)
  obtain ⟨c6, i6, g6⟩ := u_known (C := RX6) (T := TX6) (N := 4) (n := 4) hgd inX6 (hgd _ kl_155)
  obtain ⟨c7, i7, g7⟩ := u_known (C := RX7) (T := TX7) (N := 4) (n := 4) hgd inX7 (hgd _ kl_251)
  obtain ⟨c8, i8, g8⟩ := u_known (C := RX8) (T := TX8) (N := 2) (n := 2) hgd inX8 (hgd _ kl_340)
  obtain ⟨c9, i9, g9⟩ := u_known (C := RX9) (T := TX9) (N := 12) (n := 12) hgd inX9 (hgd _ kl_271)
  obtain ⟨c10, i10, g10⟩ := u_known (C := RX10) (T := TX10) (N := 13) (n := 13) hgd inX10 (hgd _ kl_109)
  obtain ⟨c11, i11, g11⟩ := u_known (C := RX11) (T := TX11) (N := 76) (n := 76) hgd inX11 (hgd _ kl_1187)
  obtain ⟨d0, k0, p0, f0, x0, y0⟩ := Cond.arrayClass_spec (hgd _ kl_153)
  obtain ⟨d1, k1, p1, f1, x1, y1⟩ := Cond.arrayClass_spec (hgd _ kl_224)
  obtain ⟨d2, k2, p2, f2, x2, y2⟩ := Cond.arrayClass_spec (hgd _ kl_1421)
  obtain ⟨p3, d3, k3, f3, i3x, x3, y3, n3⟩ := Cond.arrayOver_spec (hts _ kl_186)
  refine ⟨(fun k => if k = 0 then c0 else if k = 1 then c1 else if k = 2 then c2 else if k = 3 then c3 else if k = 4 then c4 else if k = 5 then c5 else if k = 6 then c6 else if k = 7 then c7 else if k = 8 then c8 else if k = 9 then c9 else if k = 10 then c10 else c11, fun k => if k = 0 then i0 else if k = 1 then i1 else if k = 2 then i2 else if k = 3 then i3 else if k = 4 then i4 else if k = 5 then i5 else if k = 6 then i6 else if k = 7 then i7 else if k = 8 then i8 else if k = 9 then i9 else if k = 10 then i10 else i11), fun k => if k = 0 then d0 else if k = 1 then d1 else if k = 2 then d2 else d3, ?_, ?_⟩
  · intro k q hq
    match k, hq with
    | 0, hq => cases hq; exact g0
    | 1, hq => cases hq; exact g1
    | 2, hq => cases hq; exact g2
    | 3, hq => cases hq; exact g3
    | 4, hq => cases hq; exact g4
    | 5, hq => cases hq; exact g5
    | 6, hq => cases hq; exact g6
    | 7, hq => cases hq; exact g7
    | 8, hq => cases hq; exact g8
    | 9, hq => cases hq; exact g9
    | 10, hq => cases hq; exact g10
    | 11, hq => cases hq; exact g11
    | k + 12, hq => simp [classes] at hq
  · intro k q hq
    match k, hq with
    | 0, hq => cases hq; exact ⟨fun n z => ⟨fun k h => (by cases h), k0, x0, p0, y0⟩, f0⟩
    | 1, hq => cases hq; exact ⟨fun n z => ⟨fun k h => (by cases h), k1, x1, p1, y1⟩, f1⟩
    | 2, hq => cases hq; exact ⟨fun n z => ⟨fun k h => (by cases h), k2, x2, p2, y2⟩, f2⟩
    | 3, hq => cases hq; exact ⟨fun n z => ⟨fun k h => (by cases h), k3, x3, p3, y3⟩, k3, p3, x3, y3, f3, n3⟩
    | k + 4, hq => simp [tyv] at hq
set_option maxRecDepth 20000 in
theorem law_9 (l : Launch) {p : Program} {e : Env} {s : State} {m : MethodId} {below : List Frame} {meth : Method} {c : Code} {b L : Nat} {xs : Nat → Int32} (C0 : lw_At p s m meth c b L xs) {H : Heap} {locs : List Loc} {ls : Array Slot} (hS : va_S (fun q : Nat => s.heap.size ≤ q) s.heap H locs) : W p l e room_1 s m #[Value.ref b] below meth c H locs 600000 7302250 (lw_Z below #[Value.ref b] s) (F0 m 1516 ls []) := by
  obtain ⟨hx, hb, hr, hml, hown, hts, hX, hbl, hlocks, hgv⟩ := C0
  refine lv_iconst (v := 1) hx hb dL_1516 (by decide) ?_
  refine va_forget (fun q hq => hS.2.2 q hq) ?_
  exact lw_ret hx hb hr hlocks dL_1517
/-- one call made: the loop ends -/
theorem law_10 (l : Launch) {p : Program} {e : Env} {s : State} {m : MethodId} {below : List Frame} {meth : Method} {c : Code} {b : Nat} {xs : Nat → Int32} (C0 : lw_At p s m meth c b 8 xs) {H : Heap} {locs : List Loc} {ls : Array Slot} {q1 q2 : Nat} (hS : va_S (fun q : Nat => s.heap.size ≤ q) s.heap H locs) (hl : lv_has ls 4 [(0, .ref b), (1, .ref q1), (2, .ref q2), (3, .int 0)]) : W p l e room_1 s m #[Value.ref b] below meth c H locs 600000 7302250 (lw_Z below #[Value.ref b] s) (F0 m 1510 ls []) := by
  obtain ⟨hx, hb, hr, hml, hown, hts, hX, hbl, hlocks, hgv⟩ := id C0
  have hbA : ¬ (fun q : Nat => s.heap.size ≤ q) b := Nat.not_le.mpr hbl
  refine lv_iinc (v := 8) (lv' := [(3, .int 8), (0, .ref b), (1, .ref q1), (2, .ref q2)]) hx hb dL_1510 hl (k := 3) rfl (by decide) (by decide) rfl (fun ls hl => ?_)
  refine lv_goto (tgt := 18) hx hb dL_1513 (by decide) ?_
  refine lv_iload_n hx hb dL_18 rfl (lv_at hl 0 rfl) ?_
  refine lv_aload_n hx hb dL_19 rfl (lv_at hl 1 rfl) ?_
  refine va_slen hx hb hX hbl hbA hS dL_20 ?_
  refine lv_bipush (v := 8) hx hb dL_21 (by decide) ?_
  refine lv_isub hx hb dL_23 ?_
  refine lv_icmp_gt (tgt := 1516) hx hb dL_24 (by decide) (fun _ => ?_) (fun h => absurd (by decide) h)
  exact law_9 l C0 hS
set_option maxRecDepth 20000 in
theorem law_18 {L : Nat} (hL : L ≤ 8) (l : Launch) {p : Program} {e : Env} {s : State} {m : MethodId} {below : List Frame} {meth : Method} {c : Code} {b : Nat} {xs : Nat → Int32} (C0 : lw_At p s m meth c b L xs) {D : va_G} {ca : Nat → ClassId} {a a2 : Nat → Nat} (hK : va_K D classes (tyv ca) s) (hN : lw_Nz s) {H : Heap} {locs : List Loc} {ls : Array Slot} (hP1 : va_P D classes (WX ca a X0) H) (hP2 : va_P D classes (WM ca a2 M0) H) (hap : ap_L ((WX ca a X0).map Prod.fst) ((WM ca a2 M0).map Prod.fst)) (hD1 : va_D (fun q : Nat => s.heap.size ≤ q) (WX ca a X0)) (hD2 : va_D (fun q : Nat => s.heap.size ≤ q) (WM ca a2 M0)) (hS : va_S (fun q : Nat => s.heap.size ≤ q) s.heap H locs) (hl : lv_has ls 4 [(0, .ref b), (1, .ref (a 0)), (2, .ref (a2 0)), (3, .int 0)]) : W p l e room_1 s m #[Value.ref b] below meth c H locs 600000 7302250 (lw_Z below #[Value.ref b] s) (F0 m 18 ls []) := by
  obtain ⟨hx, hb, hr, hml, hown, hts, hX, hbl, hlocks, hgv⟩ := id C0
  have hbA : ¬ (fun q : Nat => s.heap.size ≤ q) b := Nat.not_le.mpr hbl
  refine lv_iload_n hx hb dL_18 rfl (lv_at hl 3 rfl) ?_
  refine lv_aload_n hx hb dL_19 rfl (lv_at hl 0 rfl) ?_
  refine va_slen hx hb hX hbl hbA hS dL_20 ?_
  refine lv_bipush (v := 8) hx hb dL_21 (by decide) ?_
  refine lv_isub hx hb dL_23 ?_
  refine lv_icmp_gt (tgt := 1516) hx hb dL_24 (by decide) (fun _ => ?_) (fun h => ?_)
  · exact law_9 l C0 hS
  obtain rfl : L = 8 := lw_L8 hL h
  refine lv_aload_n hx hb dL_27 rfl (lv_at hl 0 rfl) ?_
  refine lv_iload_n hx hb dL_28 rfl (lv_at hl 3 rfl) ?_
  refine va_sld hx hb hX hbl hbA hS lw_in0 dL_29 ?_
  refine lv_bipush (v := 63) hx hb dL_30 (by decide) ?_
  refine lv_iand hx hb dL_32 ?_
  refine lv_topi (fun z ez => ?_)
  have kk : ∀ (H : Heap) (locs : List Loc), va_S (fun q : Nat => s.heap.size ≤ q) s.heap H locs → W p l e room_1 s m #[Value.ref b] below meth c H locs 600000 7302250 (lw_Z below #[Value.ref b] s) (F0 m 1510 ls []) := fun H locs hS => law_10 l C0 hS hl
  by_cases z1 : z.toInt < 0
  · exact lv_tableOut (tgt := 1510) hx hb dL_33 (Or.inl z1) (by decide) (kk _ _ hS)
  by_cases z2 : 35 < z.toInt
  · exact lv_tableOut (tgt := 1510) hx hb dL_33 (Or.inr z2) (by decide) (kk _ _ hS)
  obtain ⟨n, hn, hz⟩ := lw_36 z1 z2
  match n, hn, hz with
  | 0, _, hz => exact lv_tableIn (off := 159) (tgt := 192) hx hb dL_33 z1 z2 (by rw [hz]; rfl) (by decide) (law_c0 l C0 hK hN hP1 hP2 hap hD1 hD2 hS hl kk)
  | 1, _, hz => exact lv_tableIn (off := 222) (tgt := 255) hx hb dL_33 z1 z2 (by rw [hz]; rfl) (by decide) (law_c1 l C0 hK hN hP1 hP2 hap hD1 hD2 hS hl kk)
  | 2, _, hz => exact lv_tableIn (off := 245) (tgt := 278) hx hb dL_33 z1 z2 (by rw [hz]; rfl) (by decide) (law_c2 l C0 hK hN hP1 hP2 hap hD1 hD2 hS hl kk)
  | 3, _, hz => exact lv_tableIn (off := 268) (tgt := 301) hx hb dL_33 z1 z2 (by rw [hz]; rfl) (by decide) (law_c3 l C0 hK hN hP1 hP2 hap hD1 hD2 hS hl kk)
  | 4, _, hz => exact lv_tableIn (off := 301) (tgt := 334) hx hb dL_33 z1 z2 (by rw [hz]; rfl) (by decide) (law_c4 l C0 hK hN hP1 hP2 hap hD1 hD2 hS hl kk)
  | 5, _, hz => exact lv_tableIn (off := 324) (tgt := 357) hx hb dL_33 z1 z2 (by rw [hz]; rfl) (by decide) (law_c5 l C0 hK hN hP1 hP2 hap hD1 hD2 hS hl kk)
  | 6, _, hz => exact lv_tableIn (off := 337) (tgt := 370) hx hb dL_33 z1 z2 (by rw [hz]; rfl) (by decide) (law_c6 l C0 hK hN hP1 hP2 hap hD1 hD2 hS hl kk)
  | 7, _, hz => exact lv_tableIn (off := 350) (tgt := 383) hx hb dL_33 z1 z2 (by rw [hz]; rfl) (by decide) (law_c7 l C0 hK hN hP1 hP2 hap hD1 hD2 hS hl kk)
  | 8, _, hz => exact lv_tableIn (off := 363) (tgt := 396) hx hb dL_33 z1 z2 (by rw [hz]; rfl) (by decide) (law_c8 l C0 hK hN hP1 hP2 hap hD1 hD2 hS hl kk)
  | 9, _, hz => exact lv_tableIn (off := 386) (tgt := 419) hx hb dL_33 z1 z2 (by rw [hz]; rfl) (by decide) (law_c9 l C0 hK hN hP1 hP2 hap hD1 hD2 hS hl kk)
  | 10, _, hz => exact lv_tableIn (off := 399) (tgt := 432) hx hb dL_33 z1 z2 (by rw [hz]; rfl) (by decide) (law_c10 l C0 hK hN hP1 hP2 hap hD1 hD2 hS hl kk)
  | 11, _, hz => exact lv_tableIn (off := 423) (tgt := 456) hx hb dL_33 z1 z2 (by rw [hz]; rfl) (by decide) (law_c11 l C0 hK hN hP1 hP2 hap hD1 hD2 hS hl kk)
  | 12, _, hz => exact lv_tableIn (off := 456) (tgt := 489) hx hb dL_33 z1 z2 (by rw [hz]; rfl) (by decide) (law_c12 l C0 hK hN hP1 hP2 hap hD1 hD2 hS hl kk)
  | 13, _, hz => exact lv_tableIn (off := 489) (tgt := 522) hx hb dL_33 z1 z2 (by rw [hz]; rfl) (by decide) (law_c13 l C0 hK hN hP1 hP2 hap hD1 hD2 hS hl kk)
  | 14, _, hz => exact lv_tableIn (off := 513) (tgt := 546) hx hb dL_33 z1 z2 (by rw [hz]; rfl) (by decide) (law_c14 l C0 hK hN hP1 hP2 hap hD1 hD2 hS hl kk)
  | 15, _, hz => exact lv_tableIn (off := 536) (tgt := 569) hx hb dL_33 z1 z2 (by rw [hz]; rfl) (by decide) (law_c15 l C0 hK hN hP1 hP2 hap hD1 hD2 hS hl kk)
  | 16, _, hz => exact lv_tableIn (off := 569) (tgt := 602) hx hb dL_33 z1 z2 (by rw [hz]; rfl) (by decide) (law_c16 l C0 hK hN hP1 hP2 hap hD1 hD2 hS hl kk)
  | 17, _, hz => exact lv_tableIn (off := 612) (tgt := 645) hx hb dL_33 z1 z2 (by rw [hz]; rfl) (by decide) (law_c17 l C0 hK hN hP1 hP2 hap hD1 hD2 hS hl kk)
  | 18, _, hz => exact lv_tableIn (off := 686) (tgt := 719) hx hb dL_33 z1 z2 (by rw [hz]; rfl) (by decide) (law_c18 l C0 hK hN hP1 hP2 hap hD1 hD2 hS hl kk)
  | 19, _, hz => exact lv_tableIn (off := 749) (tgt := 782) hx hb dL_33 z1 z2 (by rw [hz]; rfl) (by decide) (law_c19 l C0 hK hN hP1 hP2 hap hD1 hD2 hS hl kk)
  | 20, _, hz => exact lv_tableIn (off := 877) (tgt := 910) hx hb dL_33 z1 z2 (by rw [hz]; rfl) (by decide) (law_c20 l C0 hK hN hP1 hP2 hap hD1 hD2 hS hl kk)
  | 21, _, hz => exact lv_tableIn (off := 900) (tgt := 933) hx hb dL_33 z1 z2 (by rw [hz]; rfl) (by decide) (law_c21 l C0 hK hN hP1 hP2 hap hD1 hD2 hS hl kk)
  | 22, _, hz => exact lv_tableIn (off := 923) (tgt := 956) hx hb dL_33 z1 z2 (by rw [hz]; rfl) (by decide) (law_c22 l C0 hK hN hP1 hP2 hap hD1 hD2 hS hl kk)
  | 23, _, hz => exact lv_tableIn (off := 996) (tgt := 1029) hx hb dL_33 z1 z2 (by rw [hz]; rfl) (by decide) (law_c23 l C0 hK hN hP1 hP2 hap hD1 hD2 hS hl kk)
  | 24, _, hz => exact lv_tableIn (off := 1019) (tgt := 1052) hx hb dL_33 z1 z2 (by rw [hz]; rfl) (by decide) (law_c24 l C0 hK hN hP1 hP2 hap hD1 hD2 hS hl kk)
  | 25, _, hz => exact lv_tableIn (off := 1052) (tgt := 1085) hx hb dL_33 z1 z2 (by rw [hz]; rfl) (by decide) (law_c25 l C0 hK hN hP1 hP2 hap hD1 hD2 hS hl kk)
  | 26, _, hz => exact lv_tableIn (off := 1086) (tgt := 1119) hx hb dL_33 z1 z2 (by rw [hz]; rfl) (by decide) (law_c26 l C0 hK hN hP1 hP2 hap hD1 hD2 hS hl kk)
  | 27, _, hz => exact lv_tableIn (off := 1109) (tgt := 1142) hx hb dL_33 z1 z2 (by rw [hz]; rfl) (by decide) (law_c27 l C0 hK hN hP1 hP2 hap hD1 hD2 hS hl kk)
  | 28, _, hz => exact lv_tableIn (off := 1142) (tgt := 1175) hx hb dL_33 z1 z2 (by rw [hz]; rfl) (by decide) (law_c28 l C0 hK hN hP1 hP2 hap hD1 hD2 hS hl kk)
  | 29, _, hz => exact lv_tableIn (off := 1175) (tgt := 1208) hx hb dL_33 z1 z2 (by rw [hz]; rfl) (by decide) (law_c29 l C0 hK hN hP1 hP2 hap hD1 hD2 hS hl kk)
  | 30, _, hz => exact lv_tableIn (off := 1248) (tgt := 1281) hx hb dL_33 z1 z2 (by rw [hz]; rfl) (by decide) (law_c30 l C0 hK hN hP1 hP2 hap hD1 hD2 hS hl kk)
  | 31, _, hz => exact lv_tableIn (off := 1282) (tgt := 1315) hx hb dL_33 z1 z2 (by rw [hz]; rfl) (by decide) (law_c31 l C0 hK hN hP1 hP2 hap hD1 hD2 hS hl kk)
  | 32, _, hz => exact lv_tableIn (off := 1345) (tgt := 1378) hx hb dL_33 z1 z2 (by rw [hz]; rfl) (by decide) (law_c32 l C0 hK hN hP1 hP2 hap hD1 hD2 hS hl kk)
  | 33, _, hz => exact lv_tableIn (off := 1398) (tgt := 1431) hx hb dL_33 z1 z2 (by rw [hz]; rfl) (by decide) (law_c33 l C0 hK hN hP1 hP2 hap hD1 hD2 hS hl kk)
  | 34, _, hz => exact lv_tableIn (off := 1451) (tgt := 1484) hx hb dL_33 z1 z2 (by rw [hz]; rfl) (by decide) (law_c34 l C0 hK hN hP1 hP2 hap hD1 hD2 hS hl kk)
  | 35, _, hz => exact lv_tableIn (off := 1464) (tgt := 1497) hx hb dL_33 z1 z2 (by rw [hz]; rfl) (by decide) (law_c35 l C0 hK hN hP1 hP2 hap hD1 hD2 hS hl kk)
  | n + 36, hn, _ => exact absurd hn (by omega)
set_option maxHeartbeats 4000000 in
set_option maxRecDepth 20000 in
theorem whole_start {p : Program} {e : Env} {s : State} {m : MethodId} {below : List Frame} {meth : Method} {c : Code} (l : Launch) (hflags : l.flags = flags0) {b L : Nat} {xs : Nat → Int32} (hL : L ≤ 8) (C0 : lw_At p s m meth c b L xs) : W p l e room_1 s m #[Value.ref b] below meth c s.heap [] 0 0 (lw_Z below #[Value.ref b] s) (entryFrame m ([Value.ref b] : List Value).toArray 4) := by
  obtain ⟨hx, hb, hr, hml, hown, hts, hX, hbl, hlocks, hgv⟩ := id C0
  have hgd : ∀ q ∈ lw_gd, q.before #[Value.ref b] s = true := fun q hq => hts q (List.mem_filter.mp hq).1
  have hA : ∀ q : Nat, s.heap.size ≤ q → (fun q : Nat => s.heap.size ≤ q) q := fun _ h => h
  obtain ⟨D, ca, hK⟩ := lw_D C0
  have hN : lw_Nz s := lw_Nn hts
  have hO : lw_Oz s := ⟨hN, va_AO.of (hts _ kl_186)⟩
  have hS : va_S (fun q : Nat => s.heap.size ≤ q) s.heap s.heap [] := va_S.rf
  have hP : va_P D classes [] s.heap := fun k q h => by simp at h
  have hD : va_D (fun q : Nat => s.heap.size ≤ q) [] := ⟨fun i j p q h => by simp at h, fun k q h => by simp at h⟩
  have hl := lv_entry ([.ref b]) (n := 4) (Nat.le_of_ble_eq_true rfl)
  rw [lg_entry_eq]
  generalize (lg_sl ([.ref b]) ++ List.replicate (4 - (lg_sl ([.ref b])).length) Slot.unset).toArray = ls at hl ⊢
  have hl : lv_has ls 4 [(0, .ref b)] := hl
  refine va_new (ci := 10) (fs := [.null, .null, .null, .null, .null, .null, .null, .null, .null, .null, .null, .int 0, .int 0]) (C := RX10) (T := TX10) (N := 13) hx hb hgd inX10 tyX10 tyX10_ok hown (hgd _ kl_108) (hgd _ kl_109) (hgd _ kl_92) hK hP hD hS hA rfl (by decide +kernel) (Nat.le_of_ble_eq_true rfl) (Nat.le_of_ble_eq_true rfl) dL_0 (fun q0 H hP hD hS => ?_)
  have hP : va_P D classes [(q0, .inr (10, [.null, .null, .null, .null, .null, .null, .null, .null, .null, .null, .null, .int 0, .int 0]))] H := hP
  have hD : va_D (fun q : Nat => s.heap.size ≤ q) [(q0, .inr (10, [.null, .null, .null, .null, .null, .null, .null, .null, .null, .null, .null, .int 0, .int 0]))] := hD
  refine W.widen (k := 1) (n := 13) (Nat.le_of_ble_eq_true rfl) (Nat.le_of_ble_eq_true rfl) ?_
  refine lv_dup hx hb dL_3 rfl ?_
  have hFc := va_free (wc := [(q0, .inr (10, [.null, .null, .null, .null, .null, .null, .null, .null, .null, .null, .null, .int 0, .int 0]))]) hD hS hA [0] rfl
  refine fw_K1 (rest := [.ref q0]) hx hb hml hown hgd (k_10 (l := l) (D := D) (ca := ca)) kl_110 kl_111 kl_92 kl_112 hK hO hP hD hFc hS hl.1 rfl rfl ⟨Nat.le_of_ble_eq_true rfl, Nat.le_of_ble_eq_true rfl⟩ rfl (by decide +kernel) ⟨Nat.le_of_ble_eq_true rfl, Nat.le_of_ble_eq_true rfl⟩ (Nat.le_of_ble_eq_true rfl) dL_4 (fun a t H1 locs ha hp hk1 hP1 hD1 hS => ?_)
  obtain rfl := x0_of hp
  subst ha
  have hP1 : va_P D classes (WX ca a X0) H1 := hP1
  have hD1 : va_D (fun q : Nat => s.heap.size ≤ q) (WX ca a X0) := va_D.weaken hD1 (fun _ _ _ h => hFc _ h)
  refine W.widen (k := 80) (n := 12001) (Nat.le_of_ble_eq_true rfl) (Nat.le_of_ble_eq_true rfl) ?_
  refine lv_astore_n (lv' := [(1, .ref (a 0)), (0, .ref b)]) hx hb dL_7 rfl hl (by decide) rfl (fun ls hl => ?_)
  refine va_new (ci := 11) (fs := [.null, .null, .null, .null, .null, .null, .null, .null, .null, .null, .null, .null, .null, .null, .null, .null, .null, .null, .null, .null, .null, .null, .int 0, .null, .null, .null, .null, .null, .null, .null, .null, .null, .null, .null, .int 0, .int 0, .int 0, .int 0, .null, .null, .int 0, .int 0, .int 0, .int 0, .int 0, .int 0, .int 0, .int 0, .int 0, .int 0, .int 0, .int 0, .int 0, .null, .null, .null, .null, .null, .null, .null, .null, .null, .null, .null, .null, .int 0, .null, .null, .int 0, .int 0, .null, .null, .null, .long 0, .int 0, .null]) (C := RX11) (T := TX11) (N := 76) hx hb hgd inX11 tyX11 tyX11_ok hown (hgd _ kl_1186) (hgd _ kl_1187) (hgd _ kl_102) hK hP1 hD1 hS hA rfl (by decide +kernel) (Nat.le_of_ble_eq_true rfl) (Nat.le_of_ble_eq_true rfl) dL_8 (fun q1 H hPb hDb hS => ?_)
  have hPx : va_P D classes (WX ca a X0) H := fw_Pl hPb
  have hPc : va_P D classes [(q1, .inr (11, [.null, .null, .null, .null, .null, .null, .null, .null, .null, .null, .null, .null, .null, .null, .null, .null, .null, .null, .null, .null, .null, .null, .int 0, .null, .null, .null, .null, .null, .null, .null, .null, .null, .null, .null, .int 0, .int 0, .int 0, .int 0, .null, .null, .int 0, .int 0, .int 0, .int 0, .int 0, .int 0, .int 0, .int 0, .int 0, .int 0, .int 0, .int 0, .int 0, .null, .null, .null, .null, .null, .null, .null, .null, .null, .null, .null, .null, .int 0, .null, .null, .int 0, .int 0, .null, .null, .null, .long 0, .int 0, .null]))] H := fw_Pr hPb
  have hDc : va_D (fun q : Nat => s.heap.size ≤ q) [(q1, .inr (11, [.null, .null, .null, .null, .null, .null, .null, .null, .null, .null, .null, .null, .null, .null, .null, .null, .null, .null, .null, .null, .null, .null, .int 0, .null, .null, .null, .null, .null, .null, .null, .null, .null, .null, .null, .int 0, .int 0, .int 0, .int 0, .null, .null, .int 0, .int 0, .int 0, .int 0, .int 0, .int 0, .int 0, .int 0, .int 0, .int 0, .int 0, .int 0, .int 0, .null, .null, .null, .null, .null, .null, .null, .null, .null, .null, .null, .null, .int 0, .null, .null, .int 0, .int 0, .null, .null, .null, .long 0, .int 0, .null]))] := fw_Dr hDb
  have hFc := fw_Fr2 hDb hS hA
  refine W.widen (k := 81) (n := 12077) (Nat.le_of_ble_eq_true rfl) (Nat.le_of_ble_eq_true rfl) ?_
  refine lv_dup hx hb dL_11 rfl ?_
  refine fw_K1 (rest := [.ref q1]) hx hb hml hown hgd (k_11 (l := l) (D := D) (ca := ca)) kl_1188 kl_1189 kl_102 kl_1190 hK hO hPc hDc hFc hS hl.1 rfl rfl ⟨Nat.le_of_ble_eq_true rfl, Nat.le_of_ble_eq_true rfl⟩ rfl (by decide +kernel) ⟨Nat.le_of_ble_eq_true rfl, Nat.le_of_ble_eq_true rfl⟩ (Nat.le_of_ble_eq_true rfl) dL_12 (fun a2 t H1 locs ha hp hk1 hP2 hD2 hS => ?_)
  obtain rfl := m0_of hp
  subst ha
  have hP2 : va_P D classes (WM ca a2 M0) H1 := hP2
  have hD2a : va_D (va_A [(a2 0, .inr (11, [.null, .null, .null, .null, .null, .null, .null, .null, .null, .null, .null, .null, .null, .null, .null, .null, .null, .null, .null, .null, .null, .null, .int 0, .null, .null, .null, .null, .null, .null, .null, .null, .null, .null, .null, .int 0, .int 0, .int 0, .int 0, .null, .null, .int 0, .int 0, .int 0, .int 0, .int 0, .int 0, .int 0, .int 0, .int 0, .int 0, .int 0, .int 0, .int 0, .null, .null, .null, .null, .null, .null, .null, .null, .null, .null, .null, .null, .int 0, .null, .null, .int 0, .int 0, .null, .null, .null, .long 0, .int 0, .null]))] H.size) (WM ca a2 M0) := hD2
  obtain ⟨hP1, hap⟩ := fw_J2 hPx hDb hk1 hD2a
  have hD2 : va_D (fun q : Nat => s.heap.size ≤ q) (WM ca a2 M0) := va_D.weaken hD2a (fun _ _ _ h => hFc _ h)
  refine W.widen (k := 600000) (n := 7302250) (Nat.le_of_ble_eq_true rfl) (Nat.le_of_ble_eq_true rfl) ?_
  refine lv_astore_n (lv' := [(2, .ref (a2 0)), (1, .ref (a 0)), (0, .ref b)]) hx hb dL_15 rfl hl (by decide) rfl (fun ls hl => ?_)
  refine lv_iconst (v := 0) hx hb dL_16 (by decide) ?_
  refine lv_istore_n (lv' := [(3, .int 0), (2, .ref (a2 0)), (1, .ref (a 0)), (0, .ref b)]) hx hb dL_17 rfl hl (by decide) rfl (fun ls hl => ?_)
  exact law_18 hL l C0 hK hN hP1 hP2 hap hD1 hD2 hS (lv_sub hl [3, 2, 1, 0] rfl)
