set_option maxRecDepth 20000 in
theorem law_c24 {p : Program} {e : Env} {s : State} {m : MethodId} {below : List Frame} {meth : Method} {c : Code} (l : Launch) {b : Nat} {xs : Nat → Int32} (C0 : lw_At p s m meth c b 8 xs) {D : va_G} {ca : Nat → ClassId} {a a2 : Nat → Nat} (hK : va_K D classes (tyv ca) s) (hN : lw_Nz s) {H : Heap} {locs : List Loc} {ls : Array Slot} (hP1 : va_P D classes (WX ca a X0) H) (hP2 : va_P D classes (WM ca a2 M0) H) (hap : ap_L ((WX ca a X0).map Prod.fst) ((WM ca a2 M0).map Prod.fst)) (hD1 : va_D (fun q : Nat => s.heap.size ≤ q) (WX ca a X0)) (hD2 : va_D (fun q : Nat => s.heap.size ≤ q) (WM ca a2 M0)) (hS : va_S (fun q : Nat => s.heap.size ≤ q) s.heap H locs) (hl : lv_has ls 4 [(0, .ref b), (1, .ref (a 0)), (2, .ref (a2 0)), (3, .int 0)]) (kk : ∀ (H : Heap) (locs : List Loc), va_S (fun q : Nat => s.heap.size ≤ q) s.heap H locs → W p l e room_1 s m #[Value.ref b] below meth c H locs 600000 7302250 (lw_Z below #[Value.ref b] s) (F0 m 1510 ls [])) : W p l e room_1 s m #[Value.ref b] below meth c H locs 600000 7302250 (lw_Z below #[Value.ref b] s) (F0 m 1052 ls []) := by
  obtain ⟨hx, hb, hr, hml, hown, hts, hX, hbl, hlocks, hgv⟩ := C0
  have hA : ∀ q : Nat, s.heap.size ≤ q → (fun q : Nat => s.heap.size ≤ q) q := fun _ h => h
  have hbA : ¬ (fun q : Nat => s.heap.size ≤ q) b := Nat.not_le.mpr hbl
  have hgd : ∀ q ∈ lw_gd, q.before #[Value.ref b] s = true := fun q hq => hts q (List.mem_filter.mp hq).1
  refine lv_aload_n hx hb dL_1052 rfl (lv_at hl 1 rfl) ?_
  refine lv_aload_n hx hb dL_1053 rfl (lv_at hl 0 rfl) ?_
  refine lv_iload_n hx hb dL_1054 rfl (lv_at hl 3 rfl) ?_
  refine lv_iconst (v := 1) hx hb dL_1055 (by decide) ?_
  refine lv_iadd hx hb dL_1056 ?_
  refine va_sld hx hb hX hbl hbA hS lw_in1 dL_1057 ?_
  refine lv_topi (fun v1 ev1 => ?_)
  refine lv_aload_n hx hb dL_1058 rfl (lv_at hl 0 rfl) ?_
  refine lv_iload_n hx hb dL_1059 rfl (lv_at hl 3 rfl) ?_
  refine lv_iconst (v := 2) hx hb dL_1060 (by decide) ?_
  refine lv_iadd hx hb dL_1061 ?_
  refine va_sld hx hb hX hbl hbA hS lw_in2 dL_1062 ?_
  refine lv_topi (fun v2 ev2 => ?_)
  obtain ⟨r, h1, h2⟩ := a_log v1 v2
  obtain ⟨u1, h1⟩ := lw_mf h1
  obtain ⟨u2, h2⟩ := lw_mf h2
  refine fw_LV (As := [.int v1, .int v2]) (rest := []) (n := 2) (q0 := 0) (W2 := WM ca a2 M0) hx hb hml hown hgd hN hK (c_X_X10_log__0 (l := l) (D := D) (ca := ca) (a := a) h1) kl_1043 kl_1044 kl_92 kl_1046 kl_1045 hP1 hP2 hap hD1 hS hA hl (heX_0 ca a X0) rfl rfl rfl lw_c600 (by decide +kernel) ⟨Nat.le_of_ble_eq_true rfl, Nat.le_of_ble_eq_true rfl⟩ rfl rfl (Nat.le_of_ble_eq_true rfl) dL_1063 (fun H locs hP1 hP2 hS => ?_)
  refine lv_aload_n hx hb dL_1066 rfl (lv_at hl 2 rfl) ?_
  refine lv_aload_n hx hb dL_1067 rfl (lv_at hl 0 rfl) ?_
  refine lv_iload_n hx hb dL_1068 rfl (lv_at hl 3 rfl) ?_
  refine lv_iconst (v := 1) hx hb dL_1069 (by decide) ?_
  refine lv_iadd hx hb dL_1070 ?_
  refine va_sld hx hb hX hbl hbA hS lw_in1 dL_1071 ?_
  refine lv_topi (fun v3 ev3 => ?_)
  obtain rfl : v1 = v3 := ev1.trans ev3.symm
  refine lv_aload_n hx hb dL_1072 rfl (lv_at hl 0 rfl) ?_
  refine lv_iload_n hx hb dL_1073 rfl (lv_at hl 3 rfl) ?_
  refine lv_iconst (v := 2) hx hb dL_1074 (by decide) ?_
  refine lv_iadd hx hb dL_1075 ?_
  refine va_sld hx hb hX hbl hbA hS lw_in2 dL_1076 ?_
  refine lv_topi (fun v4 ev4 => ?_)
  obtain rfl : v2 = v4 := ev2.trans ev4.symm
  refine fw_LV (As := [.int v1, .int v2]) (rest := [.int r]) (n := 2) (q0 := 0) (W2 := []) hx hb hml hown hgd hN hK (c_M_X11_log___0 (l := l) (D := D) (ca := ca) (a := a2) h2) kl_1717 kl_1718 kl_102 kl_1720 kl_1719 hP2 lw_Pn lw_apn hD2 hS hA hl (heM_0 ca a2 M0) rfl rfl rfl lw_c600 (by decide +kernel) ⟨Nat.le_of_ble_eq_true rfl, Nat.le_of_ble_eq_true rfl⟩ rfl rfl (Nat.le_of_ble_eq_true rfl) dL_1077 (fun H locs hP1 hP2 hS => ?_)
  refine lv_icmp_eq (tgt := 1510) hx hb dL_1080 (by decide) (fun _ => ?_) (fun h => absurd rfl h)
  exact kk H locs hS
set_option maxRecDepth 20000 in
theorem law_c25 {p : Program} {e : Env} {s : State} {m : MethodId} {below : List Frame} {meth : Method} {c : Code} (l : Launch) {b : Nat} {xs : Nat → Int32} (C0 : lw_At p s m meth c b 8 xs) {D : va_G} {ca : Nat → ClassId} {a a2 : Nat → Nat} (hK : va_K D classes (tyv ca) s) (hN : lw_Nz s) {H : Heap} {locs : List Loc} {ls : Array Slot} (hP1 : va_P D classes (WX ca a X0) H) (hP2 : va_P D classes (WM ca a2 M0) H) (hap : ap_L ((WX ca a X0).map Prod.fst) ((WM ca a2 M0).map Prod.fst)) (hD1 : va_D (fun q : Nat => s.heap.size ≤ q) (WX ca a X0)) (hD2 : va_D (fun q : Nat => s.heap.size ≤ q) (WM ca a2 M0)) (hS : va_S (fun q : Nat => s.heap.size ≤ q) s.heap H locs) (hl : lv_has ls 4 [(0, .ref b), (1, .ref (a 0)), (2, .ref (a2 0)), (3, .int 0)]) (kk : ∀ (H : Heap) (locs : List Loc), va_S (fun q : Nat => s.heap.size ≤ q) s.heap H locs → W p l e room_1 s m #[Value.ref b] below meth c H locs 600000 7302250 (lw_Z below #[Value.ref b] s) (F0 m 1510 ls [])) : W p l e room_1 s m #[Value.ref b] below meth c H locs 600000 7302250 (lw_Z below #[Value.ref b] s) (F0 m 1085 ls []) := by
  obtain ⟨hx, hb, hr, hml, hown, hts, hX, hbl, hlocks, hgv⟩ := C0
  have hA : ∀ q : Nat, s.heap.size ≤ q → (fun q : Nat => s.heap.size ≤ q) q := fun _ h => h
  have hbA : ¬ (fun q : Nat => s.heap.size ≤ q) b := Nat.not_le.mpr hbl
  have hgd : ∀ q ∈ lw_gd, q.before #[Value.ref b] s = true := fun q hq => hts q (List.mem_filter.mp hq).1
  refine lv_aload_n hx hb dL_1085 rfl (lv_at hl 1 rfl) ?_
  refine lv_aload_n hx hb dL_1086 rfl (lv_at hl 0 rfl) ?_
  refine lv_iload_n hx hb dL_1087 rfl (lv_at hl 3 rfl) ?_
  refine lv_iconst (v := 1) hx hb dL_1088 (by decide) ?_
  refine lv_iadd hx hb dL_1089 ?_
  refine va_sld hx hb hX hbl hbA hS lw_in1 dL_1090 ?_
  refine lv_topi (fun v1 ev1 => ?_)
  refine lv_aload_n hx hb dL_1091 rfl (lv_at hl 0 rfl) ?_
  refine lv_iload_n hx hb dL_1092 rfl (lv_at hl 3 rfl) ?_
  refine lv_iconst (v := 2) hx hb dL_1093 (by decide) ?_
  refine lv_iadd hx hb dL_1094 ?_
  refine va_sld hx hb hX hbl hbA hS lw_in2 dL_1095 ?_
  refine lv_topi (fun v2 ev2 => ?_)
  obtain ⟨r, h1, h2⟩ := a_logged v1 v2
  obtain ⟨u1, h1⟩ := lw_mf h1
  obtain ⟨u2, h2⟩ := lw_mf h2
  refine fw_LV (As := [.int v1, .int v2]) (rest := []) (n := 2) (q0 := 0) (W2 := WM ca a2 M0) hx hb hml hown hgd hN hK (c_X_X10_logged__0 (l := l) (D := D) (ca := ca) (a := a) h1) kl_1056 kl_1057 kl_92 kl_1059 kl_1058 hP1 hP2 hap hD1 hS hA hl (heX_0 ca a X0) rfl rfl rfl lw_c600 (by decide +kernel) ⟨Nat.le_of_ble_eq_true rfl, Nat.le_of_ble_eq_true rfl⟩ rfl rfl (Nat.le_of_ble_eq_true rfl) dL_1096 (fun H locs hP1 hP2 hS => ?_)
  refine lv_aload_n hx hb dL_1099 rfl (lv_at hl 2 rfl) ?_
  refine lv_aload_n hx hb dL_1100 rfl (lv_at hl 0 rfl) ?_
  refine lv_iload_n hx hb dL_1101 rfl (lv_at hl 3 rfl) ?_
  refine lv_iconst (v := 1) hx hb dL_1102 (by decide) ?_
  refine lv_iadd hx hb dL_1103 ?_
  refine va_sld hx hb hX hbl hbA hS lw_in1 dL_1104 ?_
  refine lv_topi (fun v3 ev3 => ?_)
  obtain rfl : v1 = v3 := ev1.trans ev3.symm
  refine lv_aload_n hx hb dL_1105 rfl (lv_at hl 0 rfl) ?_
  refine lv_iload_n hx hb dL_1106 rfl (lv_at hl 3 rfl) ?_
  refine lv_iconst (v := 2) hx hb dL_1107 (by decide) ?_
  refine lv_iadd hx hb dL_1108 ?_
  refine va_sld hx hb hX hbl hbA hS lw_in2 dL_1109 ?_
  refine lv_topi (fun v4 ev4 => ?_)
  obtain rfl : v2 = v4 := ev2.trans ev4.symm
  refine fw_LV (As := [.int v1, .int v2]) (rest := [.long r]) (n := 2) (q0 := 0) (W2 := []) hx hb hml hown hgd hN hK (c_M_X11_logged__0 (l := l) (D := D) (ca := ca) (a := a2) h2) kl_1721 kl_1722 kl_102 kl_1724 kl_1723 hP2 lw_Pn lw_apn hD2 hS hA hl (heM_0 ca a2 M0) rfl rfl rfl lw_c600 (by decide +kernel) ⟨Nat.le_of_ble_eq_true rfl, Nat.le_of_ble_eq_true rfl⟩ rfl rfl (Nat.le_of_ble_eq_true rfl) dL_1110 (fun H locs hP1 hP2 hS => ?_)
  refine W.lcmp hx hb dL_1113 ?_
  refine lv_if_eq (tgt := 1510) hx hb dL_1114 (by decide) (fun _ => ?_) (fun h => absurd (lw_cmp0 _) h)
  exact kk H locs hS
set_option maxRecDepth 20000 in
theorem law_c26 {p : Program} {e : Env} {s : State} {m : MethodId} {below : List Frame} {meth : Method} {c : Code} (l : Launch) {b : Nat} {xs : Nat → Int32} (C0 : lw_At p s m meth c b 8 xs) {D : va_G} {ca : Nat → ClassId} {a a2 : Nat → Nat} (hK : va_K D classes (tyv ca) s) (hN : lw_Nz s) {H : Heap} {locs : List Loc} {ls : Array Slot} (hP1 : va_P D classes (WX ca a X0) H) (hP2 : va_P D classes (WM ca a2 M0) H) (hap : ap_L ((WX ca a X0).map Prod.fst) ((WM ca a2 M0).map Prod.fst)) (hD1 : va_D (fun q : Nat => s.heap.size ≤ q) (WX ca a X0)) (hD2 : va_D (fun q : Nat => s.heap.size ≤ q) (WM ca a2 M0)) (hS : va_S (fun q : Nat => s.heap.size ≤ q) s.heap H locs) (hl : lv_has ls 4 [(0, .ref b), (1, .ref (a 0)), (2, .ref (a2 0)), (3, .int 0)]) (kk : ∀ (H : Heap) (locs : List Loc), va_S (fun q : Nat => s.heap.size ≤ q) s.heap H locs → W p l e room_1 s m #[Value.ref b] below meth c H locs 600000 7302250 (lw_Z below #[Value.ref b] s) (F0 m 1510 ls [])) : W p l e room_1 s m #[Value.ref b] below meth c H locs 600000 7302250 (lw_Z below #[Value.ref b] s) (F0 m 1119 ls []) := by
  obtain ⟨hx, hb, hr, hml, hown, hts, hX, hbl, hlocks, hgv⟩ := C0
  have hA : ∀ q : Nat, s.heap.size ≤ q → (fun q : Nat => s.heap.size ≤ q) q := fun _ h => h
  have hbA : ¬ (fun q : Nat => s.heap.size ≤ q) b := Nat.not_le.mpr hbl
  have hgd : ∀ q ∈ lw_gd, q.before #[Value.ref b] s = true := fun q hq => hts q (List.mem_filter.mp hq).1
  refine lv_aload_n hx hb dL_1119 rfl (lv_at hl 1 rfl) ?_
  refine lv_aload_n hx hb dL_1120 rfl (lv_at hl 0 rfl) ?_
  refine lv_iload_n hx hb dL_1121 rfl (lv_at hl 3 rfl) ?_
  refine lv_iconst (v := 1) hx hb dL_1122 (by decide) ?_
  refine lv_iadd hx hb dL_1123 ?_
  refine va_sld hx hb hX hbl hbA hS lw_in1 dL_1124 ?_
  refine lv_topi (fun v1 ev1 => ?_)
  obtain ⟨r, h1, h2⟩ := a_told v1
  obtain ⟨u1, h1⟩ := lw_mf h1
  obtain ⟨u2, h2⟩ := lw_mf h2
  refine fw_LV (As := [.int v1]) (rest := []) (n := 1) (q0 := 0) (W2 := WM ca a2 M0) hx hb hml hown hgd hN hK (c_X_X10_told__0 (l := l) (D := D) (ca := ca) (a := a) h1) kl_1065 kl_1066 kl_92 kl_1068 kl_1067 hP1 hP2 hap hD1 hS hA hl (heX_0 ca a X0) rfl rfl rfl lw_c600 (by decide +kernel) ⟨Nat.le_of_ble_eq_true rfl, Nat.le_of_ble_eq_true rfl⟩ rfl rfl (Nat.le_of_ble_eq_true rfl) dL_1125 (fun H locs hP1 hP2 hS => ?_)
  refine lv_aload_n hx hb dL_1128 rfl (lv_at hl 2 rfl) ?_
  refine lv_aload_n hx hb dL_1129 rfl (lv_at hl 0 rfl) ?_
  refine lv_iload_n hx hb dL_1130 rfl (lv_at hl 3 rfl) ?_
  refine lv_iconst (v := 1) hx hb dL_1131 (by decide) ?_
  refine lv_iadd hx hb dL_1132 ?_
  refine va_sld hx hb hX hbl hbA hS lw_in1 dL_1133 ?_
  refine lv_topi (fun v2 ev2 => ?_)
  obtain rfl : v1 = v2 := ev1.trans ev2.symm
  refine fw_LV (As := [.int v1]) (rest := [.int r]) (n := 1) (q0 := 0) (W2 := []) hx hb hml hown hgd hN hK (c_M_X11_told___0 (l := l) (D := D) (ca := ca) (a := a2) h2) kl_1725 kl_1726 kl_102 kl_1728 kl_1727 hP2 lw_Pn lw_apn hD2 hS hA hl (heM_0 ca a2 M0) rfl rfl rfl lw_c600 (by decide +kernel) ⟨Nat.le_of_ble_eq_true rfl, Nat.le_of_ble_eq_true rfl⟩ rfl rfl (Nat.le_of_ble_eq_true rfl) dL_1134 (fun H locs hP1 hP2 hS => ?_)
  refine lv_icmp_eq (tgt := 1510) hx hb dL_1137 (by decide) (fun _ => ?_) (fun h => absurd rfl h)
  exact kk H locs hS
set_option maxRecDepth 20000 in
theorem law_c27 {p : Program} {e : Env} {s : State} {m : MethodId} {below : List Frame} {meth : Method} {c : Code} (l : Launch) {b : Nat} {xs : Nat → Int32} (C0 : lw_At p s m meth c b 8 xs) {D : va_G} {ca : Nat → ClassId} {a a2 : Nat → Nat} (hK : va_K D classes (tyv ca) s) (hN : lw_Nz s) {H : Heap} {locs : List Loc} {ls : Array Slot} (hP1 : va_P D classes (WX ca a X0) H) (hP2 : va_P D classes (WM ca a2 M0) H) (hap : ap_L ((WX ca a X0).map Prod.fst) ((WM ca a2 M0).map Prod.fst)) (hD1 : va_D (fun q : Nat => s.heap.size ≤ q) (WX ca a X0)) (hD2 : va_D (fun q : Nat => s.heap.size ≤ q) (WM ca a2 M0)) (hS : va_S (fun q : Nat => s.heap.size ≤ q) s.heap H locs) (hl : lv_has ls 4 [(0, .ref b), (1, .ref (a 0)), (2, .ref (a2 0)), (3, .int 0)]) (kk : ∀ (H : Heap) (locs : List Loc), va_S (fun q : Nat => s.heap.size ≤ q) s.heap H locs → W p l e room_1 s m #[Value.ref b] below meth c H locs 600000 7302250 (lw_Z below #[Value.ref b] s) (F0 m 1510 ls [])) : W p l e room_1 s m #[Value.ref b] below meth c H locs 600000 7302250 (lw_Z below #[Value.ref b] s) (F0 m 1142 ls []) := by
  obtain ⟨hx, hb, hr, hml, hown, hts, hX, hbl, hlocks, hgv⟩ := C0
  have hA : ∀ q : Nat, s.heap.size ≤ q → (fun q : Nat => s.heap.size ≤ q) q := fun _ h => h
  have hbA : ¬ (fun q : Nat => s.heap.size ≤ q) b := Nat.not_le.mpr hbl
  have hgd : ∀ q ∈ lw_gd, q.before #[Value.ref b] s = true := fun q hq => hts q (List.mem_filter.mp hq).1
  refine lv_aload_n hx hb dL_1142 rfl (lv_at hl 1 rfl) ?_
  refine lv_aload_n hx hb dL_1143 rfl (lv_at hl 0 rfl) ?_
  refine lv_iload_n hx hb dL_1144 rfl (lv_at hl 3 rfl) ?_
  refine lv_iconst (v := 1) hx hb dL_1145 (by decide) ?_
  refine lv_iadd hx hb dL_1146 ?_
  refine va_sld hx hb hX hbl hbA hS lw_in1 dL_1147 ?_
  refine lv_topi (fun v1 ev1 => ?_)
  refine lv_aload_n hx hb dL_1148 rfl (lv_at hl 0 rfl) ?_
  refine lv_iload_n hx hb dL_1149 rfl (lv_at hl 3 rfl) ?_
  refine lv_iconst (v := 2) hx hb dL_1150 (by decide) ?_
  refine lv_iadd hx hb dL_1151 ?_
  refine va_sld hx hb hX hbl hbA hS lw_in2 dL_1152 ?_
  refine lv_topi (fun v2 ev2 => ?_)
  obtain ⟨r, h1, h2⟩ := a_past v1 v2
  obtain ⟨u1, h1⟩ := lw_mf h1
  obtain ⟨u2, h2⟩ := lw_mf h2
  refine fw_LV (As := [.int v1, .int v2]) (rest := []) (n := 2) (q0 := 0) (W2 := WM ca a2 M0) hx hb hml hown hgd hN hK (c_X_X10_past__0 (l := l) (D := D) (ca := ca) (a := a) h1) kl_1091 kl_1092 kl_92 kl_1094 kl_1093 hP1 hP2 hap hD1 hS hA hl (heX_0 ca a X0) rfl rfl rfl lw_c600 (by decide +kernel) ⟨Nat.le_of_ble_eq_true rfl, Nat.le_of_ble_eq_true rfl⟩ rfl rfl (Nat.le_of_ble_eq_true rfl) dL_1153 (fun H locs hP1 hP2 hS => ?_)
  refine lv_aload_n hx hb dL_1156 rfl (lv_at hl 2 rfl) ?_
  refine lv_aload_n hx hb dL_1157 rfl (lv_at hl 0 rfl) ?_
  refine lv_iload_n hx hb dL_1158 rfl (lv_at hl 3 rfl) ?_
  refine lv_iconst (v := 1) hx hb dL_1159 (by decide) ?_
  refine lv_iadd hx hb dL_1160 ?_
  refine va_sld hx hb hX hbl hbA hS lw_in1 dL_1161 ?_
  refine lv_topi (fun v3 ev3 => ?_)
  obtain rfl : v1 = v3 := ev1.trans ev3.symm
  refine lv_aload_n hx hb dL_1162 rfl (lv_at hl 0 rfl) ?_
  refine lv_iload_n hx hb dL_1163 rfl (lv_at hl 3 rfl) ?_
  refine lv_iconst (v := 2) hx hb dL_1164 (by decide) ?_
  refine lv_iadd hx hb dL_1165 ?_
  refine va_sld hx hb hX hbl hbA hS lw_in2 dL_1166 ?_
  refine lv_topi (fun v4 ev4 => ?_)
  obtain rfl : v2 = v4 := ev2.trans ev4.symm
  refine fw_LV (As := [.int v1, .int v2]) (rest := [.int r]) (n := 2) (q0 := 0) (W2 := []) hx hb hml hown hgd hN hK (c_M_X11_past__0 (l := l) (D := D) (ca := ca) (a := a2) h2) kl_1729 kl_1730 kl_102 kl_1732 kl_1731 hP2 lw_Pn lw_apn hD2 hS hA hl (heM_0 ca a2 M0) rfl rfl rfl lw_c600 (by decide +kernel) ⟨Nat.le_of_ble_eq_true rfl, Nat.le_of_ble_eq_true rfl⟩ rfl rfl (Nat.le_of_ble_eq_true rfl) dL_1167 (fun H locs hP1 hP2 hS => ?_)
  refine lv_icmp_eq (tgt := 1510) hx hb dL_1170 (by decide) (fun _ => ?_) (fun h => absurd rfl h)
  exact kk H locs hS
set_option maxRecDepth 20000 in
theorem law_c28 {p : Program} {e : Env} {s : State} {m : MethodId} {below : List Frame} {meth : Method} {c : Code} (l : Launch) {b : Nat} {xs : Nat → Int32} (C0 : lw_At p s m meth c b 8 xs) {D : va_G} {ca : Nat → ClassId} {a a2 : Nat → Nat} (hK : va_K D classes (tyv ca) s) (hN : lw_Nz s) {H : Heap} {locs : List Loc} {ls : Array Slot} (hP1 : va_P D classes (WX ca a X0) H) (hP2 : va_P D classes (WM ca a2 M0) H) (hap : ap_L ((WX ca a X0).map Prod.fst) ((WM ca a2 M0).map Prod.fst)) (hD1 : va_D (fun q : Nat => s.heap.size ≤ q) (WX ca a X0)) (hD2 : va_D (fun q : Nat => s.heap.size ≤ q) (WM ca a2 M0)) (hS : va_S (fun q : Nat => s.heap.size ≤ q) s.heap H locs) (hl : lv_has ls 4 [(0, .ref b), (1, .ref (a 0)), (2, .ref (a2 0)), (3, .int 0)]) (kk : ∀ (H : Heap) (locs : List Loc), va_S (fun q : Nat => s.heap.size ≤ q) s.heap H locs → W p l e room_1 s m #[Value.ref b] below meth c H locs 600000 7302250 (lw_Z below #[Value.ref b] s) (F0 m 1510 ls [])) : W p l e room_1 s m #[Value.ref b] below meth c H locs 600000 7302250 (lw_Z below #[Value.ref b] s) (F0 m 1175 ls []) := by
  obtain ⟨hx, hb, hr, hml, hown, hts, hX, hbl, hlocks, hgv⟩ := C0
  have hA : ∀ q : Nat, s.heap.size ≤ q → (fun q : Nat => s.heap.size ≤ q) q := fun _ h => h
  have hbA : ¬ (fun q : Nat => s.heap.size ≤ q) b := Nat.not_le.mpr hbl
  have hgd : ∀ q ∈ lw_gd, q.before #[Value.ref b] s = true := fun q hq => hts q (List.mem_filter.mp hq).1
  refine lv_aload_n hx hb dL_1175 rfl (lv_at hl 1 rfl) ?_
  refine lv_aload_n hx hb dL_1176 rfl (lv_at hl 0 rfl) ?_
  refine lv_iload_n hx hb dL_1177 rfl (lv_at hl 3 rfl) ?_
  refine lv_iconst (v := 1) hx hb dL_1178 (by decide) ?_
  refine lv_iadd hx hb dL_1179 ?_
  refine va_sld hx hb hX hbl hbA hS lw_in1 dL_1180 ?_
  refine lv_topi (fun v1 ev1 => ?_)
  refine lv_aload_n hx hb dL_1181 rfl (lv_at hl 0 rfl) ?_
  refine lv_iload_n hx hb dL_1182 rfl (lv_at hl 3 rfl) ?_
  refine lv_iconst (v := 2) hx hb dL_1183 (by decide) ?_
  refine lv_iadd hx hb dL_1184 ?_
  refine va_sld hx hb hX hbl hbA hS lw_in2 dL_1185 ?_
  refine lv_topi (fun v2 ev2 => ?_)
  obtain ⟨r, h1, h2⟩ := a_list v1 v2
  obtain ⟨u1, h1⟩ := lw_mf h1
  obtain ⟨u2, h2⟩ := lw_mf h2
  refine fw_LV (As := [.int v1, .int v2]) (rest := []) (n := 2) (q0 := 0) (W2 := WM ca a2 M0) hx hb hml hown hgd hN hK (c_X_X10_list__0 (l := l) (D := D) (ca := ca) (a := a) h1) kl_1099 kl_1100 kl_92 kl_1102 kl_1101 hP1 hP2 hap hD1 hS hA hl (heX_0 ca a X0) rfl rfl rfl lw_c600 (by decide +kernel) ⟨Nat.le_of_ble_eq_true rfl, Nat.le_of_ble_eq_true rfl⟩ rfl rfl (Nat.le_of_ble_eq_true rfl) dL_1186 (fun H locs hP1 hP2 hS => ?_)
  refine lv_aload_n hx hb dL_1189 rfl (lv_at hl 2 rfl) ?_
  refine lv_aload_n hx hb dL_1190 rfl (lv_at hl 0 rfl) ?_
  refine lv_iload_n hx hb dL_1191 rfl (lv_at hl 3 rfl) ?_
  refine lv_iconst (v := 1) hx hb dL_1192 (by decide) ?_
  refine lv_iadd hx hb dL_1193 ?_
  refine va_sld hx hb hX hbl hbA hS lw_in1 dL_1194 ?_
  refine lv_topi (fun v3 ev3 => ?_)
  obtain rfl : v1 = v3 := ev1.trans ev3.symm
  refine lv_aload_n hx hb dL_1195 rfl (lv_at hl 0 rfl) ?_
  refine lv_iload_n hx hb dL_1196 rfl (lv_at hl 3 rfl) ?_
  refine lv_iconst (v := 2) hx hb dL_1197 (by decide) ?_
  refine lv_iadd hx hb dL_1198 ?_
  refine va_sld hx hb hX hbl hbA hS lw_in2 dL_1199 ?_
  refine lv_topi (fun v4 ev4 => ?_)
  obtain rfl : v2 = v4 := ev2.trans ev4.symm
  refine fw_LV (As := [.int v1, .int v2]) (rest := [.int r]) (n := 2) (q0 := 0) (W2 := []) hx hb hml hown hgd hN hK (c_M_X11_list__0 (l := l) (D := D) (ca := ca) (a := a2) h2) kl_1733 kl_1734 kl_102 kl_1736 kl_1735 hP2 lw_Pn lw_apn hD2 hS hA hl (heM_0 ca a2 M0) rfl rfl rfl lw_c600 (by decide +kernel) ⟨Nat.le_of_ble_eq_true rfl, Nat.le_of_ble_eq_true rfl⟩ rfl rfl (Nat.le_of_ble_eq_true rfl) dL_1200 (fun H locs hP1 hP2 hS => ?_)
  refine lv_icmp_eq (tgt := 1510) hx hb dL_1203 (by decide) (fun _ => ?_) (fun h => absurd rfl h)
  exact kk H locs hS
set_option maxRecDepth 20000 in
theorem law_c29 {p : Program} {e : Env} {s : State} {m : MethodId} {below : List Frame} {meth : Method} {c : Code} (l : Launch) {b : Nat} {xs : Nat → Int32} (C0 : lw_At p s m meth c b 8 xs) {D : va_G} {ca : Nat → ClassId} {a a2 : Nat → Nat} (hK : va_K D classes (tyv ca) s) (hN : lw_Nz s) {H : Heap} {locs : List Loc} {ls : Array Slot} (hP1 : va_P D classes (WX ca a X0) H) (hP2 : va_P D classes (WM ca a2 M0) H) (hap : ap_L ((WX ca a X0).map Prod.fst) ((WM ca a2 M0).map Prod.fst)) (hD1 : va_D (fun q : Nat => s.heap.size ≤ q) (WX ca a X0)) (hD2 : va_D (fun q : Nat => s.heap.size ≤ q) (WM ca a2 M0)) (hS : va_S (fun q : Nat => s.heap.size ≤ q) s.heap H locs) (hl : lv_has ls 4 [(0, .ref b), (1, .ref (a 0)), (2, .ref (a2 0)), (3, .int 0)]) (kk : ∀ (H : Heap) (locs : List Loc), va_S (fun q : Nat => s.heap.size ≤ q) s.heap H locs → W p l e room_1 s m #[Value.ref b] below meth c H locs 600000 7302250 (lw_Z below #[Value.ref b] s) (F0 m 1510 ls [])) : W p l e room_1 s m #[Value.ref b] below meth c H locs 600000 7302250 (lw_Z below #[Value.ref b] s) (F0 m 1208 ls []) := by
  obtain ⟨hx, hb, hr, hml, hown, hts, hX, hbl, hlocks, hgv⟩ := C0
  have hA : ∀ q : Nat, s.heap.size ≤ q → (fun q : Nat => s.heap.size ≤ q) q := fun _ h => h
  have hbA : ¬ (fun q : Nat => s.heap.size ≤ q) b := Nat.not_le.mpr hbl
  have hgd : ∀ q ∈ lw_gd, q.before #[Value.ref b] s = true := fun q hq => hts q (List.mem_filter.mp hq).1
  refine lv_aload_n hx hb dL_1208 rfl (lv_at hl 1 rfl) ?_
  refine lv_aload_n hx hb dL_1209 rfl (lv_at hl 0 rfl) ?_
  refine lv_iload_n hx hb dL_1210 rfl (lv_at hl 3 rfl) ?_
  refine lv_iconst (v := 1) hx hb dL_1211 (by decide) ?_
  refine lv_iadd hx hb dL_1212 ?_
  refine va_sld hx hb hX hbl hbA hS lw_in1 dL_1213 ?_
  refine lv_topi (fun v1 ev1 => ?_)
  refine lv_aload_n hx hb dL_1214 rfl (lv_at hl 0 rfl) ?_
  refine lv_iload_n hx hb dL_1215 rfl (lv_at hl 3 rfl) ?_
  refine lv_iconst (v := 2) hx hb dL_1216 (by decide) ?_
  refine lv_iadd hx hb dL_1217 ?_
  refine va_sld hx hb hX hbl hbA hS lw_in2 dL_1218 ?_
  refine lv_topi (fun v2 ev2 => ?_)
  refine lv_aload_n hx hb dL_1219 rfl (lv_at hl 0 rfl) ?_
  refine lv_iload_n hx hb dL_1220 rfl (lv_at hl 3 rfl) ?_
  refine lv_iconst (v := 3) hx hb dL_1221 (by decide) ?_
  refine lv_iadd hx hb dL_1222 ?_
  refine va_sld hx hb hX hbl hbA hS lw_in3 dL_1223 ?_
  refine lv_topi (fun v3 ev3 => ?_)
  refine lv_i2l hx hb dL_1224 rfl ?_
  refine lv_bipush (v := 32) hx hb dL_1225 (by decide) ?_
  refine lv_lshl hx hb dL_1227 rfl ?_
  refine lv_aload_n hx hb dL_1228 rfl (lv_at hl 0 rfl) ?_
  refine lv_iload_n hx hb dL_1229 rfl (lv_at hl 3 rfl) ?_
  refine lv_iconst (v := 4) hx hb dL_1230 (by decide) ?_
  refine lv_iadd hx hb dL_1231 ?_
  refine va_sld hx hb hX hbl hbA hS lw_in4 dL_1232 ?_
  refine lv_topi (fun v4 ev4 => ?_)
  refine lv_i2l hx hb dL_1233 rfl ?_
  refine lv_ldc2 (v := 4294967295) hx hb hown (hts _ (List.mem_filter.mp kl_1791).1) dL_1234 ?_
  refine lv_land hx hb dL_1237 ?_
  refine lv_lor hx hb dL_1238 ?_
  refine lv_topl (fun v5 ev5 => ?_)
  obtain ⟨r, h1, h2⟩ := a_set v1 v2 v5
  obtain ⟨u1, h1⟩ := lw_mf h1
  obtain ⟨u2, h2⟩ := lw_mf h2
  refine fw_LV (As := [.int v1, .int v2, .long v5]) (rest := []) (n := 3) (q0 := 0) (W2 := WM ca a2 M0) hx hb hml hown hgd hN hK (c_X_X10_set__0 (l := l) (D := D) (ca := ca) (a := a) h1) kl_1118 kl_1119 kl_92 kl_1121 kl_1120 hP1 hP2 hap hD1 hS hA hl (heX_0 ca a X0) rfl rfl rfl lw_c600 (by decide +kernel) ⟨Nat.le_of_ble_eq_true rfl, Nat.le_of_ble_eq_true rfl⟩ rfl rfl (Nat.le_of_ble_eq_true rfl) dL_1239 (fun H locs hP1 hP2 hS => ?_)
  refine lv_aload_n hx hb dL_1242 rfl (lv_at hl 2 rfl) ?_
  refine lv_aload_n hx hb dL_1243 rfl (lv_at hl 0 rfl) ?_
  refine lv_iload_n hx hb dL_1244 rfl (lv_at hl 3 rfl) ?_
  refine lv_iconst (v := 1) hx hb dL_1245 (by decide) ?_
  refine lv_iadd hx hb dL_1246 ?_
  refine va_sld hx hb hX hbl hbA hS lw_in1 dL_1247 ?_
  refine lv_topi (fun v6 ev6 => ?_)
  obtain rfl : v1 = v6 := ev1.trans ev6.symm
  refine lv_aload_n hx hb dL_1248 rfl (lv_at hl 0 rfl) ?_
  refine lv_iload_n hx hb dL_1249 rfl (lv_at hl 3 rfl) ?_
  refine lv_iconst (v := 2) hx hb dL_1250 (by decide) ?_
  refine lv_iadd hx hb dL_1251 ?_
  refine va_sld hx hb hX hbl hbA hS lw_in2 dL_1252 ?_
  refine lv_topi (fun v7 ev7 => ?_)
  obtain rfl : v2 = v7 := ev2.trans ev7.symm
  refine lv_aload_n hx hb dL_1253 rfl (lv_at hl 0 rfl) ?_
  refine lv_iload_n hx hb dL_1254 rfl (lv_at hl 3 rfl) ?_
  refine lv_iconst (v := 3) hx hb dL_1255 (by decide) ?_
  refine lv_iadd hx hb dL_1256 ?_
  refine va_sld hx hb hX hbl hbA hS lw_in3 dL_1257 ?_
  refine lv_topi (fun v8 ev8 => ?_)
  obtain rfl : v3 = v8 := ev3.trans ev8.symm
  refine lv_i2l hx hb dL_1258 rfl ?_
  refine lv_bipush (v := 32) hx hb dL_1259 (by decide) ?_
  refine lv_lshl hx hb dL_1261 rfl ?_
  refine lv_aload_n hx hb dL_1262 rfl (lv_at hl 0 rfl) ?_
  refine lv_iload_n hx hb dL_1263 rfl (lv_at hl 3 rfl) ?_
  refine lv_iconst (v := 4) hx hb dL_1264 (by decide) ?_
  refine lv_iadd hx hb dL_1265 ?_
  refine va_sld hx hb hX hbl hbA hS lw_in4 dL_1266 ?_
  refine lv_topi (fun v9 ev9 => ?_)
  obtain rfl : v4 = v9 := ev4.trans ev9.symm
  refine lv_i2l hx hb dL_1267 rfl ?_
  refine lv_ldc2 (v := 4294967295) hx hb hown (hts _ (List.mem_filter.mp kl_1791).1) dL_1268 ?_
  refine lv_land hx hb dL_1271 ?_
  refine lv_lor hx hb dL_1272 ?_
  refine lv_topl (fun v10 ev10 => ?_)
  obtain rfl : v5 = v10 := ev5.trans ev10.symm
  refine fw_LV (As := [.int v1, .int v2, .long v5]) (rest := [.int r]) (n := 3) (q0 := 0) (W2 := []) hx hb hml hown hgd hN hK (c_M_X11_set__0 (l := l) (D := D) (ca := ca) (a := a2) h2) kl_1740 kl_1741 kl_102 kl_1743 kl_1742 hP2 lw_Pn lw_apn hD2 hS hA hl (heM_0 ca a2 M0) rfl rfl rfl lw_c600 (by decide +kernel) ⟨Nat.le_of_ble_eq_true rfl, Nat.le_of_ble_eq_true rfl⟩ rfl rfl (Nat.le_of_ble_eq_true rfl) dL_1273 (fun H locs hP1 hP2 hS => ?_)
  refine lv_icmp_eq (tgt := 1510) hx hb dL_1276 (by decide) (fun _ => ?_) (fun h => absurd rfl h)
  exact kk H locs hS
set_option maxRecDepth 20000 in
theorem law_c30 {p : Program} {e : Env} {s : State} {m : MethodId} {below : List Frame} {meth : Method} {c : Code} (l : Launch) {b : Nat} {xs : Nat → Int32} (C0 : lw_At p s m meth c b 8 xs) {D : va_G} {ca : Nat → ClassId} {a a2 : Nat → Nat} (hK : va_K D classes (tyv ca) s) (hN : lw_Nz s) {H : Heap} {locs : List Loc} {ls : Array Slot} (hP1 : va_P D classes (WX ca a X0) H) (hP2 : va_P D classes (WM ca a2 M0) H) (hap : ap_L ((WX ca a X0).map Prod.fst) ((WM ca a2 M0).map Prod.fst)) (hD1 : va_D (fun q : Nat => s.heap.size ≤ q) (WX ca a X0)) (hD2 : va_D (fun q : Nat => s.heap.size ≤ q) (WM ca a2 M0)) (hS : va_S (fun q : Nat => s.heap.size ≤ q) s.heap H locs) (hl : lv_has ls 4 [(0, .ref b), (1, .ref (a 0)), (2, .ref (a2 0)), (3, .int 0)]) (kk : ∀ (H : Heap) (locs : List Loc), va_S (fun q : Nat => s.heap.size ≤ q) s.heap H locs → W p l e room_1 s m #[Value.ref b] below meth c H locs 600000 7302250 (lw_Z below #[Value.ref b] s) (F0 m 1510 ls [])) : W p l e room_1 s m #[Value.ref b] below meth c H locs 600000 7302250 (lw_Z below #[Value.ref b] s) (F0 m 1281 ls []) := by
  obtain ⟨hx, hb, hr, hml, hown, hts, hX, hbl, hlocks, hgv⟩ := C0
  have hA : ∀ q : Nat, s.heap.size ≤ q → (fun q : Nat => s.heap.size ≤ q) q := fun _ h => h
  have hbA : ¬ (fun q : Nat => s.heap.size ≤ q) b := Nat.not_le.mpr hbl
  have hgd : ∀ q ∈ lw_gd, q.before #[Value.ref b] s = true := fun q hq => hts q (List.mem_filter.mp hq).1
  refine lv_aload_n hx hb dL_1281 rfl (lv_at hl 1 rfl) ?_
  refine lv_aload_n hx hb dL_1282 rfl (lv_at hl 0 rfl) ?_
  refine lv_iload_n hx hb dL_1283 rfl (lv_at hl 3 rfl) ?_
  refine lv_iconst (v := 1) hx hb dL_1284 (by decide) ?_
  refine lv_iadd hx hb dL_1285 ?_
  refine va_sld hx hb hX hbl hbA hS lw_in1 dL_1286 ?_
  refine lv_topi (fun v1 ev1 => ?_)
  refine lv_aload_n hx hb dL_1287 rfl (lv_at hl 0 rfl) ?_
  refine lv_iload_n hx hb dL_1288 rfl (lv_at hl 3 rfl) ?_
  refine lv_iconst (v := 2) hx hb dL_1289 (by decide) ?_
  refine lv_iadd hx hb dL_1290 ?_
  refine va_sld hx hb hX hbl hbA hS lw_in2 dL_1291 ?_
  refine lv_topi (fun v2 ev2 => ?_)
  obtain ⟨r, h1, h2⟩ := a_get v1 v2
  obtain ⟨u1, h1⟩ := lw_mf h1
  obtain ⟨u2, h2⟩ := lw_mf h2
  refine fw_LV (As := [.int v1, .int v2]) (rest := []) (n := 2) (q0 := 0) (W2 := WM ca a2 M0) hx hb hml hown hgd hN hK (c_X_X10_get__0 (l := l) (D := D) (ca := ca) (a := a) h1) kl_1136 kl_1137 kl_92 kl_1139 kl_1138 hP1 hP2 hap hD1 hS hA hl (heX_0 ca a X0) rfl rfl rfl lw_c600 (by decide +kernel) ⟨Nat.le_of_ble_eq_true rfl, Nat.le_of_ble_eq_true rfl⟩ rfl rfl (Nat.le_of_ble_eq_true rfl) dL_1292 (fun H locs hP1 hP2 hS => ?_)
  refine lv_aload_n hx hb dL_1295 rfl (lv_at hl 2 rfl) ?_
  refine lv_aload_n hx hb dL_1296 rfl (lv_at hl 0 rfl) ?_
  refine lv_iload_n hx hb dL_1297 rfl (lv_at hl 3 rfl) ?_
  refine lv_iconst (v := 1) hx hb dL_1298 (by decide) ?_
  refine lv_iadd hx hb dL_1299 ?_
  refine va_sld hx hb hX hbl hbA hS lw_in1 dL_1300 ?_
  refine lv_topi (fun v3 ev3 => ?_)
  obtain rfl : v1 = v3 := ev1.trans ev3.symm
  refine lv_aload_n hx hb dL_1301 rfl (lv_at hl 0 rfl) ?_
  refine lv_iload_n hx hb dL_1302 rfl (lv_at hl 3 rfl) ?_
  refine lv_iconst (v := 2) hx hb dL_1303 (by decide) ?_
  refine lv_iadd hx hb dL_1304 ?_
  refine va_sld hx hb hX hbl hbA hS lw_in2 dL_1305 ?_
  refine lv_topi (fun v4 ev4 => ?_)
  obtain rfl : v2 = v4 := ev2.trans ev4.symm
  refine fw_LV (As := [.int v1, .int v2]) (rest := [.long r]) (n := 2) (q0 := 0) (W2 := []) hx hb hml hown hgd hN hK (c_M_X11_get__0 (l := l) (D := D) (ca := ca) (a := a2) h2) kl_1744 kl_1745 kl_102 kl_1747 kl_1746 hP2 lw_Pn lw_apn hD2 hS hA hl (heM_0 ca a2 M0) rfl rfl rfl lw_c600 (by decide +kernel) ⟨Nat.le_of_ble_eq_true rfl, Nat.le_of_ble_eq_true rfl⟩ rfl rfl (Nat.le_of_ble_eq_true rfl) dL_1306 (fun H locs hP1 hP2 hS => ?_)
  refine W.lcmp hx hb dL_1309 ?_
  refine lv_if_eq (tgt := 1510) hx hb dL_1310 (by decide) (fun _ => ?_) (fun h => absurd (lw_cmp0 _) h)
  exact kk H locs hS
set_option maxRecDepth 20000 in
theorem law_c31 {p : Program} {e : Env} {s : State} {m : MethodId} {below : List Frame} {meth : Method} {c : Code} (l : Launch) {b : Nat} {xs : Nat → Int32} (C0 : lw_At p s m meth c b 8 xs) {D : va_G} {ca : Nat → ClassId} {a a2 : Nat → Nat} (hK : va_K D classes (tyv ca) s) (hN : lw_Nz s) {H : Heap} {locs : List Loc} {ls : Array Slot} (hP1 : va_P D classes (WX ca a X0) H) (hP2 : va_P D classes (WM ca a2 M0) H) (hap : ap_L ((WX ca a X0).map Prod.fst) ((WM ca a2 M0).map Prod.fst)) (hD1 : va_D (fun q : Nat => s.heap.size ≤ q) (WX ca a X0)) (hD2 : va_D (fun q : Nat => s.heap.size ≤ q) (WM ca a2 M0)) (hS : va_S (fun q : Nat => s.heap.size ≤ q) s.heap H locs) (hl : lv_has ls 4 [(0, .ref b), (1, .ref (a 0)), (2, .ref (a2 0)), (3, .int 0)]) (kk : ∀ (H : Heap) (locs : List Loc), va_S (fun q : Nat => s.heap.size ≤ q) s.heap H locs → W p l e room_1 s m #[Value.ref b] below meth c H locs 600000 7302250 (lw_Z below #[Value.ref b] s) (F0 m 1510 ls [])) : W p l e room_1 s m #[Value.ref b] below meth c H locs 600000 7302250 (lw_Z below #[Value.ref b] s) (F0 m 1315 ls []) := by
  obtain ⟨hx, hb, hr, hml, hown, hts, hX, hbl, hlocks, hgv⟩ := C0
  have hA : ∀ q : Nat, s.heap.size ≤ q → (fun q : Nat => s.heap.size ≤ q) q := fun _ h => h
  have hbA : ¬ (fun q : Nat => s.heap.size ≤ q) b := Nat.not_le.mpr hbl
  have hgd : ∀ q ∈ lw_gd, q.before #[Value.ref b] s = true := fun q hq => hts q (List.mem_filter.mp hq).1
  refine lv_aload_n hx hb dL_1315 rfl (lv_at hl 1 rfl) ?_
  refine lv_aload_n hx hb dL_1316 rfl (lv_at hl 0 rfl) ?_
  refine lv_iload_n hx hb dL_1317 rfl (lv_at hl 3 rfl) ?_
  refine lv_iconst (v := 1) hx hb dL_1318 (by decide) ?_
  refine lv_iadd hx hb dL_1319 ?_
  refine va_sld hx hb hX hbl hbA hS lw_in1 dL_1320 ?_
  refine lv_topi (fun v1 ev1 => ?_)
  refine lv_aload_n hx hb dL_1321 rfl (lv_at hl 0 rfl) ?_
  refine lv_iload_n hx hb dL_1322 rfl (lv_at hl 3 rfl) ?_
  refine lv_iconst (v := 2) hx hb dL_1323 (by decide) ?_
  refine lv_iadd hx hb dL_1324 ?_
  refine va_sld hx hb hX hbl hbA hS lw_in2 dL_1325 ?_
  refine lv_topi (fun v2 ev2 => ?_)
  refine lv_aload_n hx hb dL_1326 rfl (lv_at hl 0 rfl) ?_
  refine lv_iload_n hx hb dL_1327 rfl (lv_at hl 3 rfl) ?_
  refine lv_iconst (v := 3) hx hb dL_1328 (by decide) ?_
  refine lv_iadd hx hb dL_1329 ?_
  refine va_sld hx hb hX hbl hbA hS lw_in3 dL_1330 ?_
  refine lv_topi (fun v3 ev3 => ?_)
  refine lv_aload_n hx hb dL_1331 rfl (lv_at hl 0 rfl) ?_
  refine lv_iload_n hx hb dL_1332 rfl (lv_at hl 3 rfl) ?_
  refine lv_iconst (v := 4) hx hb dL_1333 (by decide) ?_
  refine lv_iadd hx hb dL_1334 ?_
  refine va_sld hx hb hX hbl hbA hS lw_in4 dL_1335 ?_
  refine lv_topi (fun v4 ev4 => ?_)
  refine lv_aload_n hx hb dL_1336 rfl (lv_at hl 0 rfl) ?_
  refine lv_iload_n hx hb dL_1337 rfl (lv_at hl 3 rfl) ?_
  refine lv_iconst (v := 5) hx hb dL_1338 (by decide) ?_
  refine lv_iadd hx hb dL_1339 ?_
  refine va_sld hx hb hX hbl hbA hS lw_in5 dL_1340 ?_
  refine lv_topi (fun v5 ev5 => ?_)
  obtain ⟨r, h1, h2⟩ := a_move v1 v2 v3 v4 v5
  obtain ⟨u1, h1⟩ := lw_mf h1
  obtain ⟨u2, h2⟩ := lw_mf h2
  refine fw_LV (As := [.int v1, .int v2, .int v3, .int v4, .int v5]) (rest := []) (n := 5) (q0 := 0) (W2 := WM ca a2 M0) hx hb hml hown hgd hN hK (c_X_X10_move__0 (l := l) (D := D) (ca := ca) (a := a) h1) kl_1145 kl_1146 kl_92 kl_1148 kl_1147 hP1 hP2 hap hD1 hS hA hl (heX_0 ca a X0) rfl rfl rfl lw_c600 (by decide +kernel) ⟨Nat.le_of_ble_eq_true rfl, Nat.le_of_ble_eq_true rfl⟩ rfl rfl (Nat.le_of_ble_eq_true rfl) dL_1341 (fun H locs hP1 hP2 hS => ?_)
  refine lv_aload_n hx hb dL_1344 rfl (lv_at hl 2 rfl) ?_
  refine lv_aload_n hx hb dL_1345 rfl (lv_at hl 0 rfl) ?_
  refine lv_iload_n hx hb dL_1346 rfl (lv_at hl 3 rfl) ?_
  refine lv_iconst (v := 1) hx hb dL_1347 (by decide) ?_
  refine lv_iadd hx hb dL_1348 ?_
  refine va_sld hx hb hX hbl hbA hS lw_in1 dL_1349 ?_
  refine lv_topi (fun v6 ev6 => ?_)
  obtain rfl : v1 = v6 := ev1.trans ev6.symm
  refine lv_aload_n hx hb dL_1350 rfl (lv_at hl 0 rfl) ?_
  refine lv_iload_n hx hb dL_1351 rfl (lv_at hl 3 rfl) ?_
  refine lv_iconst (v := 2) hx hb dL_1352 (by decide) ?_
  refine lv_iadd hx hb dL_1353 ?_
  refine va_sld hx hb hX hbl hbA hS lw_in2 dL_1354 ?_
  refine lv_topi (fun v7 ev7 => ?_)
  obtain rfl : v2 = v7 := ev2.trans ev7.symm
  refine lv_aload_n hx hb dL_1355 rfl (lv_at hl 0 rfl) ?_
  refine lv_iload_n hx hb dL_1356 rfl (lv_at hl 3 rfl) ?_
  refine lv_iconst (v := 3) hx hb dL_1357 (by decide) ?_
  refine lv_iadd hx hb dL_1358 ?_
  refine va_sld hx hb hX hbl hbA hS lw_in3 dL_1359 ?_
  refine lv_topi (fun v8 ev8 => ?_)
  obtain rfl : v3 = v8 := ev3.trans ev8.symm
  refine lv_aload_n hx hb dL_1360 rfl (lv_at hl 0 rfl) ?_
  refine lv_iload_n hx hb dL_1361 rfl (lv_at hl 3 rfl) ?_
  refine lv_iconst (v := 4) hx hb dL_1362 (by decide) ?_
  refine lv_iadd hx hb dL_1363 ?_
  refine va_sld hx hb hX hbl hbA hS lw_in4 dL_1364 ?_
  refine lv_topi (fun v9 ev9 => ?_)
  obtain rfl : v4 = v9 := ev4.trans ev9.symm
  refine lv_aload_n hx hb dL_1365 rfl (lv_at hl 0 rfl) ?_
  refine lv_iload_n hx hb dL_1366 rfl (lv_at hl 3 rfl) ?_
  refine lv_iconst (v := 5) hx hb dL_1367 (by decide) ?_
  refine lv_iadd hx hb dL_1368 ?_
  refine va_sld hx hb hX hbl hbA hS lw_in5 dL_1369 ?_
  refine lv_topi (fun v10 ev10 => ?_)
  obtain rfl : v5 = v10 := ev5.trans ev10.symm
  refine fw_LV (As := [.int v1, .int v2, .int v3, .int v4, .int v5]) (rest := [.int r]) (n := 5) (q0 := 0) (W2 := []) hx hb hml hown hgd hN hK (c_M_X11_move__0 (l := l) (D := D) (ca := ca) (a := a2) h2) kl_1748 kl_1749 kl_102 kl_1751 kl_1750 hP2 lw_Pn lw_apn hD2 hS hA hl (heM_0 ca a2 M0) rfl rfl rfl lw_c600 (by decide +kernel) ⟨Nat.le_of_ble_eq_true rfl, Nat.le_of_ble_eq_true rfl⟩ rfl rfl (Nat.le_of_ble_eq_true rfl) dL_1370 (fun H locs hP1 hP2 hS => ?_)
  refine lv_icmp_eq (tgt := 1510) hx hb dL_1373 (by decide) (fun _ => ?_) (fun h => absurd rfl h)
  exact kk H locs hS
set_option maxRecDepth 20000 in
theorem law_c32 {p : Program} {e : Env} {s : State} {m : MethodId} {below : List Frame} {meth : Method} {c : Code} (l : Launch) {b : Nat} {xs : Nat → Int32} (C0 : lw_At p s m meth c b 8 xs) {D : va_G} {ca : Nat → ClassId} {a a2 : Nat → Nat} (hK : va_K D classes (tyv ca) s) (hN : lw_Nz s) {H : Heap} {locs : List Loc} {ls : Array Slot} (hP1 : va_P D classes (WX ca a X0) H) (hP2 : va_P D classes (WM ca a2 M0) H) (hap : ap_L ((WX ca a X0).map Prod.fst) ((WM ca a2 M0).map Prod.fst)) (hD1 : va_D (fun q : Nat => s.heap.size ≤ q) (WX ca a X0)) (hD2 : va_D (fun q : Nat => s.heap.size ≤ q) (WM ca a2 M0)) (hS : va_S (fun q : Nat => s.heap.size ≤ q) s.heap H locs) (hl : lv_has ls 4 [(0, .ref b), (1, .ref (a 0)), (2, .ref (a2 0)), (3, .int 0)]) (kk : ∀ (H : Heap) (locs : List Loc), va_S (fun q : Nat => s.heap.size ≤ q) s.heap H locs → W p l e room_1 s m #[Value.ref b] below meth c H locs 600000 7302250 (lw_Z below #[Value.ref b] s) (F0 m 1510 ls [])) : W p l e room_1 s m #[Value.ref b] below meth c H locs 600000 7302250 (lw_Z below #[Value.ref b] s) (F0 m 1378 ls []) := by
  obtain ⟨hx, hb, hr, hml, hown, hts, hX, hbl, hlocks, hgv⟩ := C0
  have hA : ∀ q : Nat, s.heap.size ≤ q → (fun q : Nat => s.heap.size ≤ q) q := fun _ h => h
  have hbA : ¬ (fun q : Nat => s.heap.size ≤ q) b := Nat.not_le.mpr hbl
  have hgd : ∀ q ∈ lw_gd, q.before #[Value.ref b] s = true := fun q hq => hts q (List.mem_filter.mp hq).1
  refine lv_aload_n hx hb dL_1378 rfl (lv_at hl 1 rfl) ?_
  refine lv_aload_n hx hb dL_1379 rfl (lv_at hl 0 rfl) ?_
  refine lv_iload_n hx hb dL_1380 rfl (lv_at hl 3 rfl) ?_
  refine lv_iconst (v := 1) hx hb dL_1381 (by decide) ?_
  refine lv_iadd hx hb dL_1382 ?_
  refine va_sld hx hb hX hbl hbA hS lw_in1 dL_1383 ?_
  refine lv_topi (fun v1 ev1 => ?_)
  refine lv_aload_n hx hb dL_1384 rfl (lv_at hl 0 rfl) ?_
  refine lv_iload_n hx hb dL_1385 rfl (lv_at hl 3 rfl) ?_
  refine lv_iconst (v := 2) hx hb dL_1386 (by decide) ?_
  refine lv_iadd hx hb dL_1387 ?_
  refine va_sld hx hb hX hbl hbA hS lw_in2 dL_1388 ?_
  refine lv_topi (fun v2 ev2 => ?_)
  refine lv_aload_n hx hb dL_1389 rfl (lv_at hl 0 rfl) ?_
  refine lv_iload_n hx hb dL_1390 rfl (lv_at hl 3 rfl) ?_
  refine lv_iconst (v := 3) hx hb dL_1391 (by decide) ?_
  refine lv_iadd hx hb dL_1392 ?_
  refine va_sld hx hb hX hbl hbA hS lw_in3 dL_1393 ?_
  refine lv_topi (fun v3 ev3 => ?_)
  refine lv_aload_n hx hb dL_1394 rfl (lv_at hl 0 rfl) ?_
  refine lv_iload_n hx hb dL_1395 rfl (lv_at hl 3 rfl) ?_
  refine lv_iconst (v := 4) hx hb dL_1396 (by decide) ?_
  refine lv_iadd hx hb dL_1397 ?_
  refine va_sld hx hb hX hbl hbA hS lw_in4 dL_1398 ?_
  refine lv_topi (fun v4 ev4 => ?_)
  obtain ⟨r, h1, h2⟩ := a_fill v1 v2 v3 v4
  obtain ⟨u1, h1⟩ := lw_mf h1
  obtain ⟨u2, h2⟩ := lw_mf h2
  refine fw_LV (As := [.int v1, .int v2, .int v3, .int v4]) (rest := []) (n := 4) (q0 := 0) (W2 := WM ca a2 M0) hx hb hml hown hgd hN hK (c_X_X10_fill__0 (l := l) (D := D) (ca := ca) (a := a) h1) kl_1159 kl_1160 kl_92 kl_1162 kl_1161 hP1 hP2 hap hD1 hS hA hl (heX_0 ca a X0) rfl rfl rfl lw_c600 (by decide +kernel) ⟨Nat.le_of_ble_eq_true rfl, Nat.le_of_ble_eq_true rfl⟩ rfl rfl (Nat.le_of_ble_eq_true rfl) dL_1399 (fun H locs hP1 hP2 hS => ?_)
  refine lv_aload_n hx hb dL_1402 rfl (lv_at hl 2 rfl) ?_
  refine lv_aload_n hx hb dL_1403 rfl (lv_at hl 0 rfl) ?_
  refine lv_iload_n hx hb dL_1404 rfl (lv_at hl 3 rfl) ?_
  refine lv_iconst (v := 1) hx hb dL_1405 (by decide) ?_
  refine lv_iadd hx hb dL_1406 ?_
  refine va_sld hx hb hX hbl hbA hS lw_in1 dL_1407 ?_
  refine lv_topi (fun v5 ev5 => ?_)
  obtain rfl : v1 = v5 := ev1.trans ev5.symm
  refine lv_aload_n hx hb dL_1408 rfl (lv_at hl 0 rfl) ?_
  refine lv_iload_n hx hb dL_1409 rfl (lv_at hl 3 rfl) ?_
  refine lv_iconst (v := 2) hx hb dL_1410 (by decide) ?_
  refine lv_iadd hx hb dL_1411 ?_
  refine va_sld hx hb hX hbl hbA hS lw_in2 dL_1412 ?_
  refine lv_topi (fun v6 ev6 => ?_)
  obtain rfl : v2 = v6 := ev2.trans ev6.symm
  refine lv_aload_n hx hb dL_1413 rfl (lv_at hl 0 rfl) ?_
  refine lv_iload_n hx hb dL_1414 rfl (lv_at hl 3 rfl) ?_
  refine lv_iconst (v := 3) hx hb dL_1415 (by decide) ?_
  refine lv_iadd hx hb dL_1416 ?_
  refine va_sld hx hb hX hbl hbA hS lw_in3 dL_1417 ?_
  refine lv_topi (fun v7 ev7 => ?_)
  obtain rfl : v3 = v7 := ev3.trans ev7.symm
  refine lv_aload_n hx hb dL_1418 rfl (lv_at hl 0 rfl) ?_
  refine lv_iload_n hx hb dL_1419 rfl (lv_at hl 3 rfl) ?_
  refine lv_iconst (v := 4) hx hb dL_1420 (by decide) ?_
  refine lv_iadd hx hb dL_1421 ?_
  refine va_sld hx hb hX hbl hbA hS lw_in4 dL_1422 ?_
  refine lv_topi (fun v8 ev8 => ?_)
  obtain rfl : v4 = v8 := ev4.trans ev8.symm
  refine fw_LV (As := [.int v1, .int v2, .int v3, .int v4]) (rest := [.int r]) (n := 4) (q0 := 0) (W2 := []) hx hb hml hown hgd hN hK (c_M_X11_fill__0 (l := l) (D := D) (ca := ca) (a := a2) h2) kl_1752 kl_1753 kl_102 kl_1755 kl_1754 hP2 lw_Pn lw_apn hD2 hS hA hl (heM_0 ca a2 M0) rfl rfl rfl lw_c600 (by decide +kernel) ⟨Nat.le_of_ble_eq_true rfl, Nat.le_of_ble_eq_true rfl⟩ rfl rfl (Nat.le_of_ble_eq_true rfl) dL_1423 (fun H locs hP1 hP2 hS => ?_)
  refine lv_icmp_eq (tgt := 1510) hx hb dL_1426 (by decide) (fun _ => ?_) (fun h => absurd rfl h)
  exact kk H locs hS
set_option maxRecDepth 20000 in
theorem law_c33 {p : Program} {e : Env} {s : State} {m : MethodId} {below : List Frame} {meth : Method} {c : Code} (l : Launch) {b : Nat} {xs : Nat → Int32} (C0 : lw_At p s m meth c b 8 xs) {D : va_G} {ca : Nat → ClassId} {a a2 : Nat → Nat} (hK : va_K D classes (tyv ca) s) (hN : lw_Nz s) {H : Heap} {locs : List Loc} {ls : Array Slot} (hP1 : va_P D classes (WX ca a X0) H) (hP2 : va_P D classes (WM ca a2 M0) H) (hap : ap_L ((WX ca a X0).map Prod.fst) ((WM ca a2 M0).map Prod.fst)) (hD1 : va_D (fun q : Nat => s.heap.size ≤ q) (WX ca a X0)) (hD2 : va_D (fun q : Nat => s.heap.size ≤ q) (WM ca a2 M0)) (hS : va_S (fun q : Nat => s.heap.size ≤ q) s.heap H locs) (hl : lv_has ls 4 [(0, .ref b), (1, .ref (a 0)), (2, .ref (a2 0)), (3, .int 0)]) (kk : ∀ (H : Heap) (locs : List Loc), va_S (fun q : Nat => s.heap.size ≤ q) s.heap H locs → W p l e room_1 s m #[Value.ref b] below meth c H locs 600000 7302250 (lw_Z below #[Value.ref b] s) (F0 m 1510 ls [])) : W p l e room_1 s m #[Value.ref b] below meth c H locs 600000 7302250 (lw_Z below #[Value.ref b] s) (F0 m 1431 ls []) := by
  obtain ⟨hx, hb, hr, hml, hown, hts, hX, hbl, hlocks, hgv⟩ := C0
  have hA : ∀ q : Nat, s.heap.size ≤ q → (fun q : Nat => s.heap.size ≤ q) q := fun _ h => h
  have hbA : ¬ (fun q : Nat => s.heap.size ≤ q) b := Nat.not_le.mpr hbl
  have hgd : ∀ q ∈ lw_gd, q.before #[Value.ref b] s = true := fun q hq => hts q (List.mem_filter.mp hq).1
  refine lv_aload_n hx hb dL_1431 rfl (lv_at hl 1 rfl) ?_
  refine lv_aload_n hx hb dL_1432 rfl (lv_at hl 0 rfl) ?_
  refine lv_iload_n hx hb dL_1433 rfl (lv_at hl 3 rfl) ?_
  refine lv_iconst (v := 1) hx hb dL_1434 (by decide) ?_
  refine lv_iadd hx hb dL_1435 ?_
  refine va_sld hx hb hX hbl hbA hS lw_in1 dL_1436 ?_
  refine lv_topi (fun v1 ev1 => ?_)
  refine lv_aload_n hx hb dL_1437 rfl (lv_at hl 0 rfl) ?_
  refine lv_iload_n hx hb dL_1438 rfl (lv_at hl 3 rfl) ?_
  refine lv_iconst (v := 2) hx hb dL_1439 (by decide) ?_
  refine lv_iadd hx hb dL_1440 ?_
  refine va_sld hx hb hX hbl hbA hS lw_in2 dL_1441 ?_
  refine lv_topi (fun v2 ev2 => ?_)
  refine lv_aload_n hx hb dL_1442 rfl (lv_at hl 0 rfl) ?_
  refine lv_iload_n hx hb dL_1443 rfl (lv_at hl 3 rfl) ?_
  refine lv_iconst (v := 3) hx hb dL_1444 (by decide) ?_
  refine lv_iadd hx hb dL_1445 ?_
  refine va_sld hx hb hX hbl hbA hS lw_in3 dL_1446 ?_
  refine lv_topi (fun v3 ev3 => ?_)
  refine lv_aload_n hx hb dL_1447 rfl (lv_at hl 0 rfl) ?_
  refine lv_iload_n hx hb dL_1448 rfl (lv_at hl 3 rfl) ?_
  refine lv_iconst (v := 4) hx hb dL_1449 (by decide) ?_
  refine lv_iadd hx hb dL_1450 ?_
  refine va_sld hx hb hX hbl hbA hS lw_in4 dL_1451 ?_
  refine lv_topi (fun v4 ev4 => ?_)
  obtain ⟨r, h1, h2⟩ := a_pour v1 v2 v3 v4
  obtain ⟨u1, h1⟩ := lw_mf h1
  obtain ⟨u2, h2⟩ := lw_mf h2
  refine fw_LV (As := [.int v1, .int v2, .int v3, .int v4]) (rest := []) (n := 4) (q0 := 0) (W2 := WM ca a2 M0) hx hb hml hown hgd hN hK (c_X_X10_pour__0 (l := l) (D := D) (ca := ca) (a := a) h1) kl_1167 kl_1168 kl_92 kl_1170 kl_1169 hP1 hP2 hap hD1 hS hA hl (heX_0 ca a X0) rfl rfl rfl lw_c600 (by decide +kernel) ⟨Nat.le_of_ble_eq_true rfl, Nat.le_of_ble_eq_true rfl⟩ rfl rfl (Nat.le_of_ble_eq_true rfl) dL_1452 (fun H locs hP1 hP2 hS => ?_)
  refine lv_aload_n hx hb dL_1455 rfl (lv_at hl 2 rfl) ?_
  refine lv_aload_n hx hb dL_1456 rfl (lv_at hl 0 rfl) ?_
  refine lv_iload_n hx hb dL_1457 rfl (lv_at hl 3 rfl) ?_
  refine lv_iconst (v := 1) hx hb dL_1458 (by decide) ?_
  refine lv_iadd hx hb dL_1459 ?_
  refine va_sld hx hb hX hbl hbA hS lw_in1 dL_1460 ?_
  refine lv_topi (fun v5 ev5 => ?_)
  obtain rfl : v1 = v5 := ev1.trans ev5.symm
  refine lv_aload_n hx hb dL_1461 rfl (lv_at hl 0 rfl) ?_
  refine lv_iload_n hx hb dL_1462 rfl (lv_at hl 3 rfl) ?_
  refine lv_iconst (v := 2) hx hb dL_1463 (by decide) ?_
  refine lv_iadd hx hb dL_1464 ?_
  refine va_sld hx hb hX hbl hbA hS lw_in2 dL_1465 ?_
  refine lv_topi (fun v6 ev6 => ?_)
  obtain rfl : v2 = v6 := ev2.trans ev6.symm
  refine lv_aload_n hx hb dL_1466 rfl (lv_at hl 0 rfl) ?_
  refine lv_iload_n hx hb dL_1467 rfl (lv_at hl 3 rfl) ?_
  refine lv_iconst (v := 3) hx hb dL_1468 (by decide) ?_
  refine lv_iadd hx hb dL_1469 ?_
  refine va_sld hx hb hX hbl hbA hS lw_in3 dL_1470 ?_
  refine lv_topi (fun v7 ev7 => ?_)
  obtain rfl : v3 = v7 := ev3.trans ev7.symm
  refine lv_aload_n hx hb dL_1471 rfl (lv_at hl 0 rfl) ?_
  refine lv_iload_n hx hb dL_1472 rfl (lv_at hl 3 rfl) ?_
  refine lv_iconst (v := 4) hx hb dL_1473 (by decide) ?_
  refine lv_iadd hx hb dL_1474 ?_
  refine va_sld hx hb hX hbl hbA hS lw_in4 dL_1475 ?_
  refine lv_topi (fun v8 ev8 => ?_)
  obtain rfl : v4 = v8 := ev4.trans ev8.symm
  refine fw_LV (As := [.int v1, .int v2, .int v3, .int v4]) (rest := [.int r]) (n := 4) (q0 := 0) (W2 := []) hx hb hml hown hgd hN hK (c_M_X11_pour__0 (l := l) (D := D) (ca := ca) (a := a2) h2) kl_1756 kl_1757 kl_102 kl_1759 kl_1758 hP2 lw_Pn lw_apn hD2 hS hA hl (heM_0 ca a2 M0) rfl rfl rfl lw_c600 (by decide +kernel) ⟨Nat.le_of_ble_eq_true rfl, Nat.le_of_ble_eq_true rfl⟩ rfl rfl (Nat.le_of_ble_eq_true rfl) dL_1476 (fun H locs hP1 hP2 hS => ?_)
  refine lv_icmp_eq (tgt := 1510) hx hb dL_1479 (by decide) (fun _ => ?_) (fun h => absurd rfl h)
  exact kk H locs hS
set_option maxRecDepth 20000 in
theorem law_c34 {p : Program} {e : Env} {s : State} {m : MethodId} {below : List Frame} {meth : Method} {c : Code} (l : Launch) {b : Nat} {xs : Nat → Int32} (C0 : lw_At p s m meth c b 8 xs) {D : va_G} {ca : Nat → ClassId} {a a2 : Nat → Nat} (hK : va_K D classes (tyv ca) s) (hN : lw_Nz s) {H : Heap} {locs : List Loc} {ls : Array Slot} (hP1 : va_P D classes (WX ca a X0) H) (hP2 : va_P D classes (WM ca a2 M0) H) (hap : ap_L ((WX ca a X0).map Prod.fst) ((WM ca a2 M0).map Prod.fst)) (hD1 : va_D (fun q : Nat => s.heap.size ≤ q) (WX ca a X0)) (hD2 : va_D (fun q : Nat => s.heap.size ≤ q) (WM ca a2 M0)) (hS : va_S (fun q : Nat => s.heap.size ≤ q) s.heap H locs) (hl : lv_has ls 4 [(0, .ref b), (1, .ref (a 0)), (2, .ref (a2 0)), (3, .int 0)]) (kk : ∀ (H : Heap) (locs : List Loc), va_S (fun q : Nat => s.heap.size ≤ q) s.heap H locs → W p l e room_1 s m #[Value.ref b] below meth c H locs 600000 7302250 (lw_Z below #[Value.ref b] s) (F0 m 1510 ls [])) : W p l e room_1 s m #[Value.ref b] below meth c H locs 600000 7302250 (lw_Z below #[Value.ref b] s) (F0 m 1484 ls []) := by
  obtain ⟨hx, hb, hr, hml, hown, hts, hX, hbl, hlocks, hgv⟩ := C0
  have hA : ∀ q : Nat, s.heap.size ≤ q → (fun q : Nat => s.heap.size ≤ q) q := fun _ h => h
  have hbA : ¬ (fun q : Nat => s.heap.size ≤ q) b := Nat.not_le.mpr hbl
  have hgd : ∀ q ∈ lw_gd, q.before #[Value.ref b] s = true := fun q hq => hts q (List.mem_filter.mp hq).1
  refine lv_aload_n hx hb dL_1484 rfl (lv_at hl 1 rfl) ?_
  obtain ⟨r, h1, h2⟩ := a_image
  obtain ⟨u1, h1⟩ := lw_mf h1
  obtain ⟨u2, h2⟩ := lw_mf h2
  refine fw_LV (As := []) (rest := []) (n := 0) (q0 := 0) (W2 := WM ca a2 M0) hx hb hml hown hgd hN hK (c_X_X10_image__0 (l := l) (D := D) (ca := ca) (a := a) h1) kl_1171 kl_1172 kl_92 kl_1174 kl_1173 hP1 hP2 hap hD1 hS hA hl (heX_0 ca a X0) rfl rfl rfl lw_c600 (by decide +kernel) ⟨Nat.le_of_ble_eq_true rfl, Nat.le_of_ble_eq_true rfl⟩ rfl rfl (Nat.le_of_ble_eq_true rfl) dL_1485 (fun H locs hP1 hP2 hS => ?_)
  refine lv_aload_n hx hb dL_1488 rfl (lv_at hl 2 rfl) ?_
  refine fw_LV (As := []) (rest := [.int r]) (n := 0) (q0 := 0) (W2 := []) hx hb hml hown hgd hN hK (c_M_X11_image__0 (l := l) (D := D) (ca := ca) (a := a2) h2) kl_1760 kl_1761 kl_102 kl_1763 kl_1762 hP2 lw_Pn lw_apn hD2 hS hA hl (heM_0 ca a2 M0) rfl rfl rfl lw_c600 (by decide +kernel) ⟨Nat.le_of_ble_eq_true rfl, Nat.le_of_ble_eq_true rfl⟩ rfl rfl (Nat.le_of_ble_eq_true rfl) dL_1489 (fun H locs hP1 hP2 hS => ?_)
  refine lv_icmp_eq (tgt := 1510) hx hb dL_1492 (by decide) (fun _ => ?_) (fun h => absurd rfl h)
  exact kk H locs hS
set_option maxRecDepth 20000 in
theorem law_c35 {p : Program} {e : Env} {s : State} {m : MethodId} {below : List Frame} {meth : Method} {c : Code} (l : Launch) {b : Nat} {xs : Nat → Int32} (C0 : lw_At p s m meth c b 8 xs) {D : va_G} {ca : Nat → ClassId} {a a2 : Nat → Nat} (hK : va_K D classes (tyv ca) s) (hN : lw_Nz s) {H : Heap} {locs : List Loc} {ls : Array Slot} (hP1 : va_P D classes (WX ca a X0) H) (hP2 : va_P D classes (WM ca a2 M0) H) (hap : ap_L ((WX ca a X0).map Prod.fst) ((WM ca a2 M0).map Prod.fst)) (hD1 : va_D (fun q : Nat => s.heap.size ≤ q) (WX ca a X0)) (hD2 : va_D (fun q : Nat => s.heap.size ≤ q) (WM ca a2 M0)) (hS : va_S (fun q : Nat => s.heap.size ≤ q) s.heap H locs) (hl : lv_has ls 4 [(0, .ref b), (1, .ref (a 0)), (2, .ref (a2 0)), (3, .int 0)]) (kk : ∀ (H : Heap) (locs : List Loc), va_S (fun q : Nat => s.heap.size ≤ q) s.heap H locs → W p l e room_1 s m #[Value.ref b] below meth c H locs 600000 7302250 (lw_Z below #[Value.ref b] s) (F0 m 1510 ls [])) : W p l e room_1 s m #[Value.ref b] below meth c H locs 600000 7302250 (lw_Z below #[Value.ref b] s) (F0 m 1497 ls []) := by
  obtain ⟨hx, hb, hr, hml, hown, hts, hX, hbl, hlocks, hgv⟩ := C0
  have hA : ∀ q : Nat, s.heap.size ≤ q → (fun q : Nat => s.heap.size ≤ q) q := fun _ h => h
  have hbA : ¬ (fun q : Nat => s.heap.size ≤ q) b := Nat.not_le.mpr hbl
  have hgd : ∀ q ∈ lw_gd, q.before #[Value.ref b] s = true := fun q hq => hts q (List.mem_filter.mp hq).1
  refine lv_aload_n hx hb dL_1497 rfl (lv_at hl 1 rfl) ?_
  obtain ⟨r, h1, h2⟩ := a_undo
  obtain ⟨u1, h1⟩ := lw_mf h1
  obtain ⟨u2, h2⟩ := lw_mf h2
  refine fw_LV (As := []) (rest := []) (n := 0) (q0 := 0) (W2 := WM ca a2 M0) hx hb hml hown hgd hN hK (c_X_X10_undo__0 (l := l) (D := D) (ca := ca) (a := a) h1) kl_1182 kl_1183 kl_92 kl_1185 kl_1184 hP1 hP2 hap hD1 hS hA hl (heX_0 ca a X0) rfl rfl rfl lw_c600 (by decide +kernel) ⟨Nat.le_of_ble_eq_true rfl, Nat.le_of_ble_eq_true rfl⟩ rfl rfl (Nat.le_of_ble_eq_true rfl) dL_1498 (fun H locs hP1 hP2 hS => ?_)
  refine lv_aload_n hx hb dL_1501 rfl (lv_at hl 2 rfl) ?_
  refine fw_LV (As := []) (rest := [.int r]) (n := 0) (q0 := 0) (W2 := []) hx hb hml hown hgd hN hK (c_M_X11_undo__0 (l := l) (D := D) (ca := ca) (a := a2) h2) kl_1787 kl_1788 kl_102 kl_1790 kl_1789 hP2 lw_Pn lw_apn hD2 hS hA hl (heM_0 ca a2 M0) rfl rfl rfl lw_c600 (by decide +kernel) ⟨Nat.le_of_ble_eq_true rfl, Nat.le_of_ble_eq_true rfl⟩ rfl rfl (Nat.le_of_ble_eq_true rfl) dL_1502 (fun H locs hP1 hP2 hS => ?_)
  refine lv_icmp_eq (tgt := 1510) hx hb dL_1505 (by decide) (fun _ => ?_) (fun h => absurd rfl h)
  exact kk H locs hS
