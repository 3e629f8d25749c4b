set_option maxRecDepth 20000 in
theorem law_c0 {p : Program} {e : Env} {s : State} {m : MethodId} {below : List Frame} {meth : Method} {c : Code} (l : Launch) {b : Nat} {xs : Nat → Int32} (C0 : lw_At p s m meth c b 8 xs) {D : va_G} {ca : Nat → ClassId} {a a2 : Nat → Nat} (hK : va_K D classes (tyv ca) s) (hN : lw_Nz s) {H : Heap} {locs : List Loc} {ls : Array Slot} (hP1 : va_P D classes (WX ca a X0) H) (hP2 : va_P D classes (WM ca a2 M0) H) (hap : ap_L ((WX ca a X0).map Prod.fst) ((WM ca a2 M0).map Prod.fst)) (hD1 : va_D (fun q : Nat => s.heap.size ≤ q) (WX ca a X0)) (hD2 : va_D (fun q : Nat => s.heap.size ≤ q) (WM ca a2 M0)) (hS : va_S (fun q : Nat => s.heap.size ≤ q) s.heap H locs) (hl : lv_has ls 4 [(0, .ref b), (1, .ref (a 0)), (2, .ref (a2 0)), (3, .int 0)]) (kk : ∀ (H : Heap) (locs : List Loc), va_S (fun q : Nat => s.heap.size ≤ q) s.heap H locs → W p l e room_1 s m #[Value.ref b] below meth c H locs 600000 7302250 (lw_Z below #[Value.ref b] s) (F0 m 1510 ls [])) : W p l e room_1 s m #[Value.ref b] below meth c H locs 600000 7302250 (lw_Z below #[Value.ref b] s) (F0 m 192 ls []) := by
  obtain ⟨hx, hb, hr, hml, hown, hts, hX, hbl, hlocks, hgv⟩ := C0
  have hA : ∀ q : Nat, s.heap.size ≤ q → (fun q : Nat => s.heap.size ≤ q) q := fun _ h => h
  have hbA : ¬ (fun q : Nat => s.heap.size ≤ q) b := Nat.not_le.mpr hbl
  have hgd : ∀ q ∈ lw_gd, q.before #[Value.ref b] s = true := fun q hq => hts q (List.mem_filter.mp hq).1
  refine lv_aload_n hx hb dL_192 rfl (lv_at hl 1 rfl) ?_
  refine lv_aload_n hx hb dL_193 rfl (lv_at hl 0 rfl) ?_
  refine lv_iload_n hx hb dL_194 rfl (lv_at hl 3 rfl) ?_
  refine lv_iconst (v := 1) hx hb dL_195 (by decide) ?_
  refine lv_iadd hx hb dL_196 ?_
  refine va_sld hx hb hX hbl hbA hS lw_in1 dL_197 ?_
  refine lv_topi (fun v1 ev1 => ?_)
  refine lv_aload_n hx hb dL_198 rfl (lv_at hl 0 rfl) ?_
  refine lv_iload_n hx hb dL_199 rfl (lv_at hl 3 rfl) ?_
  refine lv_iconst (v := 2) hx hb dL_200 (by decide) ?_
  refine lv_iadd hx hb dL_201 ?_
  refine va_sld hx hb hX hbl hbA hS lw_in2 dL_202 ?_
  refine lv_topi (fun v2 ev2 => ?_)
  refine lv_i2l hx hb dL_203 rfl ?_
  refine lv_bipush (v := 32) hx hb dL_204 (by decide) ?_
  refine lv_lshl hx hb dL_206 rfl ?_
  refine lv_aload_n hx hb dL_207 rfl (lv_at hl 0 rfl) ?_
  refine lv_iload_n hx hb dL_208 rfl (lv_at hl 3 rfl) ?_
  refine lv_iconst (v := 3) hx hb dL_209 (by decide) ?_
  refine lv_iadd hx hb dL_210 ?_
  refine va_sld hx hb hX hbl hbA hS lw_in3 dL_211 ?_
  refine lv_topi (fun v3 ev3 => ?_)
  refine lv_i2l hx hb dL_212 rfl ?_
  refine lv_ldc2 (v := 4294967295) hx hb hown (hts _ (List.mem_filter.mp kl_1791).1) dL_213 ?_
  refine lv_land hx hb dL_216 ?_
  refine lv_lor hx hb dL_217 ?_
  refine lv_topl (fun v4 ev4 => ?_)
  obtain ⟨r, h1, h2⟩ := a_input v1 v4
  obtain ⟨u1, h1⟩ := lw_mf h1
  obtain ⟨u2, h2⟩ := lw_mf h2
  refine fw_LV (As := [.int v1, .long v4]) (rest := []) (n := 2) (q0 := 0) (W2 := WM ca a2 M0) hx hb hml hown hgd hN hK (c_X_X10_input__0 (l := l) (D := D) (ca := ca) (a := a) h1) kl_394 kl_395 kl_92 kl_397 kl_396 hP1 hP2 hap hD1 hS hA hl (heX_0 ca a X0) rfl rfl rfl lw_c600 (by decide +kernel) ⟨Nat.le_of_ble_eq_true rfl, Nat.le_of_ble_eq_true rfl⟩ rfl rfl (Nat.le_of_ble_eq_true rfl) dL_218 (fun H locs hP1 hP2 hS => ?_)
  refine lv_aload_n hx hb dL_221 rfl (lv_at hl 2 rfl) ?_
  refine lv_aload_n hx hb dL_222 rfl (lv_at hl 0 rfl) ?_
  refine lv_iload_n hx hb dL_223 rfl (lv_at hl 3 rfl) ?_
  refine lv_iconst (v := 1) hx hb dL_224 (by decide) ?_
  refine lv_iadd hx hb dL_225 ?_
  refine va_sld hx hb hX hbl hbA hS lw_in1 dL_226 ?_
  refine lv_topi (fun v5 ev5 => ?_)
  obtain rfl : v1 = v5 := ev1.trans ev5.symm
  refine lv_aload_n hx hb dL_227 rfl (lv_at hl 0 rfl) ?_
  refine lv_iload_n hx hb dL_228 rfl (lv_at hl 3 rfl) ?_
  refine lv_iconst (v := 2) hx hb dL_229 (by decide) ?_
  refine lv_iadd hx hb dL_230 ?_
  refine va_sld hx hb hX hbl hbA hS lw_in2 dL_231 ?_
  refine lv_topi (fun v6 ev6 => ?_)
  obtain rfl : v2 = v6 := ev2.trans ev6.symm
  refine lv_i2l hx hb dL_232 rfl ?_
  refine lv_bipush (v := 32) hx hb dL_233 (by decide) ?_
  refine lv_lshl hx hb dL_235 rfl ?_
  refine lv_aload_n hx hb dL_236 rfl (lv_at hl 0 rfl) ?_
  refine lv_iload_n hx hb dL_237 rfl (lv_at hl 3 rfl) ?_
  refine lv_iconst (v := 3) hx hb dL_238 (by decide) ?_
  refine lv_iadd hx hb dL_239 ?_
  refine va_sld hx hb hX hbl hbA hS lw_in3 dL_240 ?_
  refine lv_topi (fun v7 ev7 => ?_)
  obtain rfl : v3 = v7 := ev3.trans ev7.symm
  refine lv_i2l hx hb dL_241 rfl ?_
  refine lv_ldc2 (v := 4294967295) hx hb hown (hts _ (List.mem_filter.mp kl_1791).1) dL_242 ?_
  refine lv_land hx hb dL_245 ?_
  refine lv_lor hx hb dL_246 ?_
  refine lv_topl (fun v8 ev8 => ?_)
  obtain rfl : v4 = v8 := ev4.trans ev8.symm
  refine fw_LV (As := [.int v1, .long v4]) (rest := [.int r]) (n := 2) (q0 := 0) (W2 := []) hx hb hml hown hgd hN hK (c_M_X11_input__0 (l := l) (D := D) (ca := ca) (a := a2) h2) kl_1433 kl_1434 kl_102 kl_1436 kl_1435 hP2 lw_Pn lw_apn hD2 hS hA hl (heM_0 ca a2 M0) rfl rfl rfl lw_c600 (by decide +kernel) ⟨Nat.le_of_ble_eq_true rfl, Nat.le_of_ble_eq_true rfl⟩ rfl rfl (Nat.le_of_ble_eq_true rfl) dL_247 (fun H locs hP1 hP2 hS => ?_)
  refine lv_icmp_eq (tgt := 1510) hx hb dL_250 (by decide) (fun _ => ?_) (fun h => absurd rfl h)
  exact kk H locs hS
set_option maxRecDepth 20000 in
theorem law_c1 {p : Program} {e : Env} {s : State} {m : MethodId} {below : List Frame} {meth : Method} {c : Code} (l : Launch) {b : Nat} {xs : Nat → Int32} (C0 : lw_At p s m meth c b 8 xs) {D : va_G} {ca : Nat → ClassId} {a a2 : Nat → Nat} (hK : va_K D classes (tyv ca) s) (hN : lw_Nz s) {H : Heap} {locs : List Loc} {ls : Array Slot} (hP1 : va_P D classes (WX ca a X0) H) (hP2 : va_P D classes (WM ca a2 M0) H) (hap : ap_L ((WX ca a X0).map Prod.fst) ((WM ca a2 M0).map Prod.fst)) (hD1 : va_D (fun q : Nat => s.heap.size ≤ q) (WX ca a X0)) (hD2 : va_D (fun q : Nat => s.heap.size ≤ q) (WM ca a2 M0)) (hS : va_S (fun q : Nat => s.heap.size ≤ q) s.heap H locs) (hl : lv_has ls 4 [(0, .ref b), (1, .ref (a 0)), (2, .ref (a2 0)), (3, .int 0)]) (kk : ∀ (H : Heap) (locs : List Loc), va_S (fun q : Nat => s.heap.size ≤ q) s.heap H locs → W p l e room_1 s m #[Value.ref b] below meth c H locs 600000 7302250 (lw_Z below #[Value.ref b] s) (F0 m 1510 ls [])) : W p l e room_1 s m #[Value.ref b] below meth c H locs 600000 7302250 (lw_Z below #[Value.ref b] s) (F0 m 255 ls []) := by
  obtain ⟨hx, hb, hr, hml, hown, hts, hX, hbl, hlocks, hgv⟩ := C0
  have hA : ∀ q : Nat, s.heap.size ≤ q → (fun q : Nat => s.heap.size ≤ q) q := fun _ h => h
  have hbA : ¬ (fun q : Nat => s.heap.size ≤ q) b := Nat.not_le.mpr hbl
  have hgd : ∀ q ∈ lw_gd, q.before #[Value.ref b] s = true := fun q hq => hts q (List.mem_filter.mp hq).1
  refine lv_aload_n hx hb dL_255 rfl (lv_at hl 1 rfl) ?_
  refine lv_aload_n hx hb dL_256 rfl (lv_at hl 0 rfl) ?_
  refine lv_iload_n hx hb dL_257 rfl (lv_at hl 3 rfl) ?_
  refine lv_iconst (v := 1) hx hb dL_258 (by decide) ?_
  refine lv_iadd hx hb dL_259 ?_
  refine va_sld hx hb hX hbl hbA hS lw_in1 dL_260 ?_
  refine lv_topi (fun v1 ev1 => ?_)
  obtain ⟨r, h1, h2⟩ := a_define v1
  obtain ⟨u1, h1⟩ := lw_mf h1
  obtain ⟨u2, h2⟩ := lw_mf h2
  refine fw_LV (As := [.int v1]) (rest := []) (n := 1) (q0 := 0) (W2 := WM ca a2 M0) hx hb hml hown hgd hN hK (c_X_X10_define__0 (l := l) (D := D) (ca := ca) (a := a) h1) kl_673 kl_674 kl_92 kl_676 kl_675 hP1 hP2 hap hD1 hS hA hl (heX_0 ca a X0) rfl rfl rfl lw_c600 (by decide +kernel) ⟨Nat.le_of_ble_eq_true rfl, Nat.le_of_ble_eq_true rfl⟩ rfl rfl (Nat.le_of_ble_eq_true rfl) dL_261 (fun H locs hP1 hP2 hS => ?_)
  refine lv_aload_n hx hb dL_264 rfl (lv_at hl 2 rfl) ?_
  refine lv_aload_n hx hb dL_265 rfl (lv_at hl 0 rfl) ?_
  refine lv_iload_n hx hb dL_266 rfl (lv_at hl 3 rfl) ?_
  refine lv_iconst (v := 1) hx hb dL_267 (by decide) ?_
  refine lv_iadd hx hb dL_268 ?_
  refine va_sld hx hb hX hbl hbA hS lw_in1 dL_269 ?_
  refine lv_topi (fun v2 ev2 => ?_)
  obtain rfl : v1 = v2 := ev1.trans ev2.symm
  refine fw_LV (As := [.int v1]) (rest := [.int r]) (n := 1) (q0 := 0) (W2 := []) hx hb hml hown hgd hN hK (c_M_X11_define__0 (l := l) (D := D) (ca := ca) (a := a2) h2) kl_1539 kl_1540 kl_102 kl_1542 kl_1541 hP2 lw_Pn lw_apn hD2 hS hA hl (heM_0 ca a2 M0) rfl rfl rfl lw_c600 (by decide +kernel) ⟨Nat.le_of_ble_eq_true rfl, Nat.le_of_ble_eq_true rfl⟩ rfl rfl (Nat.le_of_ble_eq_true rfl) dL_270 (fun H locs hP1 hP2 hS => ?_)
  refine lv_icmp_eq (tgt := 1510) hx hb dL_273 (by decide) (fun _ => ?_) (fun h => absurd rfl h)
  exact kk H locs hS
set_option maxRecDepth 20000 in
theorem law_c2 {p : Program} {e : Env} {s : State} {m : MethodId} {below : List Frame} {meth : Method} {c : Code} (l : Launch) {b : Nat} {xs : Nat → Int32} (C0 : lw_At p s m meth c b 8 xs) {D : va_G} {ca : Nat → ClassId} {a a2 : Nat → Nat} (hK : va_K D classes (tyv ca) s) (hN : lw_Nz s) {H : Heap} {locs : List Loc} {ls : Array Slot} (hP1 : va_P D classes (WX ca a X0) H) (hP2 : va_P D classes (WM ca a2 M0) H) (hap : ap_L ((WX ca a X0).map Prod.fst) ((WM ca a2 M0).map Prod.fst)) (hD1 : va_D (fun q : Nat => s.heap.size ≤ q) (WX ca a X0)) (hD2 : va_D (fun q : Nat => s.heap.size ≤ q) (WM ca a2 M0)) (hS : va_S (fun q : Nat => s.heap.size ≤ q) s.heap H locs) (hl : lv_has ls 4 [(0, .ref b), (1, .ref (a 0)), (2, .ref (a2 0)), (3, .int 0)]) (kk : ∀ (H : Heap) (locs : List Loc), va_S (fun q : Nat => s.heap.size ≤ q) s.heap H locs → W p l e room_1 s m #[Value.ref b] below meth c H locs 600000 7302250 (lw_Z below #[Value.ref b] s) (F0 m 1510 ls [])) : W p l e room_1 s m #[Value.ref b] below meth c H locs 600000 7302250 (lw_Z below #[Value.ref b] s) (F0 m 278 ls []) := by
  obtain ⟨hx, hb, hr, hml, hown, hts, hX, hbl, hlocks, hgv⟩ := C0
  have hA : ∀ q : Nat, s.heap.size ≤ q → (fun q : Nat => s.heap.size ≤ q) q := fun _ h => h
  have hbA : ¬ (fun q : Nat => s.heap.size ≤ q) b := Nat.not_le.mpr hbl
  have hgd : ∀ q ∈ lw_gd, q.before #[Value.ref b] s = true := fun q hq => hts q (List.mem_filter.mp hq).1
  refine lv_aload_n hx hb dL_278 rfl (lv_at hl 1 rfl) ?_
  refine lv_aload_n hx hb dL_279 rfl (lv_at hl 0 rfl) ?_
  refine lv_iload_n hx hb dL_280 rfl (lv_at hl 3 rfl) ?_
  refine lv_iconst (v := 1) hx hb dL_281 (by decide) ?_
  refine lv_iadd hx hb dL_282 ?_
  refine va_sld hx hb hX hbl hbA hS lw_in1 dL_283 ?_
  refine lv_topi (fun v1 ev1 => ?_)
  obtain ⟨r, h1, h2⟩ := a_drop v1
  obtain ⟨u1, h1⟩ := lw_mf h1
  obtain ⟨u2, h2⟩ := lw_mf h2
  refine fw_LV (As := [.int v1]) (rest := []) (n := 1) (q0 := 0) (W2 := WM ca a2 M0) hx hb hml hown hgd hN hK (c_X_X10_drop__0 (l := l) (D := D) (ca := ca) (a := a) h1) kl_791 kl_792 kl_92 kl_794 kl_793 hP1 hP2 hap hD1 hS hA hl (heX_0 ca a X0) rfl rfl rfl lw_c600 (by decide +kernel) ⟨Nat.le_of_ble_eq_true rfl, Nat.le_of_ble_eq_true rfl⟩ rfl rfl (Nat.le_of_ble_eq_true rfl) dL_284 (fun H locs hP1 hP2 hS => ?_)
  refine lv_aload_n hx hb dL_287 rfl (lv_at hl 2 rfl) ?_
  refine lv_aload_n hx hb dL_288 rfl (lv_at hl 0 rfl) ?_
  refine lv_iload_n hx hb dL_289 rfl (lv_at hl 3 rfl) ?_
  refine lv_iconst (v := 1) hx hb dL_290 (by decide) ?_
  refine lv_iadd hx hb dL_291 ?_
  refine va_sld hx hb hX hbl hbA hS lw_in1 dL_292 ?_
  refine lv_topi (fun v2 ev2 => ?_)
  obtain rfl : v1 = v2 := ev1.trans ev2.symm
  refine fw_LV (As := [.int v1]) (rest := [.int r]) (n := 1) (q0 := 0) (W2 := []) hx hb hml hown hgd hN hK (c_M_X11_drop__0 (l := l) (D := D) (ca := ca) (a := a2) h2) kl_1592 kl_1593 kl_102 kl_1595 kl_1594 hP2 lw_Pn lw_apn hD2 hS hA hl (heM_0 ca a2 M0) rfl rfl rfl lw_c600 (by decide +kernel) ⟨Nat.le_of_ble_eq_true rfl, Nat.le_of_ble_eq_true rfl⟩ rfl rfl (Nat.le_of_ble_eq_true rfl) dL_293 (fun H locs hP1 hP2 hS => ?_)
  refine lv_icmp_eq (tgt := 1510) hx hb dL_296 (by decide) (fun _ => ?_) (fun h => absurd rfl h)
  exact kk H locs hS
set_option maxRecDepth 20000 in
theorem law_c3 {p : Program} {e : Env} {s : State} {m : MethodId} {below : List Frame} {meth : Method} {c : Code} (l : Launch) {b : Nat} {xs : Nat → Int32} (C0 : lw_At p s m meth c b 8 xs) {D : va_G} {ca : Nat → ClassId} {a a2 : Nat → Nat} (hK : va_K D classes (tyv ca) s) (hN : lw_Nz s) {H : Heap} {locs : List Loc} {ls : Array Slot} (hP1 : va_P D classes (WX ca a X0) H) (hP2 : va_P D classes (WM ca a2 M0) H) (hap : ap_L ((WX ca a X0).map Prod.fst) ((WM ca a2 M0).map Prod.fst)) (hD1 : va_D (fun q : Nat => s.heap.size ≤ q) (WX ca a X0)) (hD2 : va_D (fun q : Nat => s.heap.size ≤ q) (WM ca a2 M0)) (hS : va_S (fun q : Nat => s.heap.size ≤ q) s.heap H locs) (hl : lv_has ls 4 [(0, .ref b), (1, .ref (a 0)), (2, .ref (a2 0)), (3, .int 0)]) (kk : ∀ (H : Heap) (locs : List Loc), va_S (fun q : Nat => s.heap.size ≤ q) s.heap H locs → W p l e room_1 s m #[Value.ref b] below meth c H locs 600000 7302250 (lw_Z below #[Value.ref b] s) (F0 m 1510 ls [])) : W p l e room_1 s m #[Value.ref b] below meth c H locs 600000 7302250 (lw_Z below #[Value.ref b] s) (F0 m 301 ls []) := by
  obtain ⟨hx, hb, hr, hml, hown, hts, hX, hbl, hlocks, hgv⟩ := C0
  have hA : ∀ q : Nat, s.heap.size ≤ q → (fun q : Nat => s.heap.size ≤ q) q := fun _ h => h
  have hbA : ¬ (fun q : Nat => s.heap.size ≤ q) b := Nat.not_le.mpr hbl
  have hgd : ∀ q ∈ lw_gd, q.before #[Value.ref b] s = true := fun q hq => hts q (List.mem_filter.mp hq).1
  refine lv_aload_n hx hb dL_301 rfl (lv_at hl 1 rfl) ?_
  refine lv_aload_n hx hb dL_302 rfl (lv_at hl 0 rfl) ?_
  refine lv_iload_n hx hb dL_303 rfl (lv_at hl 3 rfl) ?_
  refine lv_iconst (v := 1) hx hb dL_304 (by decide) ?_
  refine lv_iadd hx hb dL_305 ?_
  refine va_sld hx hb hX hbl hbA hS lw_in1 dL_306 ?_
  refine lv_topi (fun v1 ev1 => ?_)
  refine lv_aload_n hx hb dL_307 rfl (lv_at hl 0 rfl) ?_
  refine lv_iload_n hx hb dL_308 rfl (lv_at hl 3 rfl) ?_
  refine lv_iconst (v := 2) hx hb dL_309 (by decide) ?_
  refine lv_iadd hx hb dL_310 ?_
  refine va_sld hx hb hX hbl hbA hS lw_in2 dL_311 ?_
  refine lv_topi (fun v2 ev2 => ?_)
  obtain ⟨r, h1, h2⟩ := a_copy v1 v2
  obtain ⟨u1, h1⟩ := lw_mf h1
  obtain ⟨u2, h2⟩ := lw_mf h2
  refine fw_LV (As := [.int v1, .int v2]) (rest := []) (n := 2) (q0 := 0) (W2 := WM ca a2 M0) hx hb hml hown hgd hN hK (c_X_X10_copy__0 (l := l) (D := D) (ca := ca) (a := a) h1) kl_795 kl_796 kl_92 kl_798 kl_797 hP1 hP2 hap hD1 hS hA hl (heX_0 ca a X0) rfl rfl rfl lw_c600 (by decide +kernel) ⟨Nat.le_of_ble_eq_true rfl, Nat.le_of_ble_eq_true rfl⟩ rfl rfl (Nat.le_of_ble_eq_true rfl) dL_312 (fun H locs hP1 hP2 hS => ?_)
  refine lv_aload_n hx hb dL_315 rfl (lv_at hl 2 rfl) ?_
  refine lv_aload_n hx hb dL_316 rfl (lv_at hl 0 rfl) ?_
  refine lv_iload_n hx hb dL_317 rfl (lv_at hl 3 rfl) ?_
  refine lv_iconst (v := 1) hx hb dL_318 (by decide) ?_
  refine lv_iadd hx hb dL_319 ?_
  refine va_sld hx hb hX hbl hbA hS lw_in1 dL_320 ?_
  refine lv_topi (fun v3 ev3 => ?_)
  obtain rfl : v1 = v3 := ev1.trans ev3.symm
  refine lv_aload_n hx hb dL_321 rfl (lv_at hl 0 rfl) ?_
  refine lv_iload_n hx hb dL_322 rfl (lv_at hl 3 rfl) ?_
  refine lv_iconst (v := 2) hx hb dL_323 (by decide) ?_
  refine lv_iadd hx hb dL_324 ?_
  refine va_sld hx hb hX hbl hbA hS lw_in2 dL_325 ?_
  refine lv_topi (fun v4 ev4 => ?_)
  obtain rfl : v2 = v4 := ev2.trans ev4.symm
  refine fw_LV (As := [.int v1, .int v2]) (rest := [.int r]) (n := 2) (q0 := 0) (W2 := []) hx hb hml hown hgd hN hK (c_M_X11_copy__0 (l := l) (D := D) (ca := ca) (a := a2) h2) kl_1596 kl_1597 kl_102 kl_1599 kl_1598 hP2 lw_Pn lw_apn hD2 hS hA hl (heM_0 ca a2 M0) rfl rfl rfl lw_c600 (by decide +kernel) ⟨Nat.le_of_ble_eq_true rfl, Nat.le_of_ble_eq_true rfl⟩ rfl rfl (Nat.le_of_ble_eq_true rfl) dL_326 (fun H locs hP1 hP2 hS => ?_)
  refine lv_icmp_eq (tgt := 1510) hx hb dL_329 (by decide) (fun _ => ?_) (fun h => absurd rfl h)
  exact kk H locs hS
set_option maxRecDepth 20000 in
theorem law_c4 {p : Program} {e : Env} {s : State} {m : MethodId} {below : List Frame} {meth : Method} {c : Code} (l : Launch) {b : Nat} {xs : Nat → Int32} (C0 : lw_At p s m meth c b 8 xs) {D : va_G} {ca : Nat → ClassId} {a a2 : Nat → Nat} (hK : va_K D classes (tyv ca) s) (hN : lw_Nz s) {H : Heap} {locs : List Loc} {ls : Array Slot} (hP1 : va_P D classes (WX ca a X0) H) (hP2 : va_P D classes (WM ca a2 M0) H) (hap : ap_L ((WX ca a X0).map Prod.fst) ((WM ca a2 M0).map Prod.fst)) (hD1 : va_D (fun q : Nat => s.heap.size ≤ q) (WX ca a X0)) (hD2 : va_D (fun q : Nat => s.heap.size ≤ q) (WM ca a2 M0)) (hS : va_S (fun q : Nat => s.heap.size ≤ q) s.heap H locs) (hl : lv_has ls 4 [(0, .ref b), (1, .ref (a 0)), (2, .ref (a2 0)), (3, .int 0)]) (kk : ∀ (H : Heap) (locs : List Loc), va_S (fun q : Nat => s.heap.size ≤ q) s.heap H locs → W p l e room_1 s m #[Value.ref b] below meth c H locs 600000 7302250 (lw_Z below #[Value.ref b] s) (F0 m 1510 ls [])) : W p l e room_1 s m #[Value.ref b] below meth c H locs 600000 7302250 (lw_Z below #[Value.ref b] s) (F0 m 334 ls []) := by
  obtain ⟨hx, hb, hr, hml, hown, hts, hX, hbl, hlocks, hgv⟩ := C0
  have hA : ∀ q : Nat, s.heap.size ≤ q → (fun q : Nat => s.heap.size ≤ q) q := fun _ h => h
  have hbA : ¬ (fun q : Nat => s.heap.size ≤ q) b := Nat.not_le.mpr hbl
  have hgd : ∀ q ∈ lw_gd, q.before #[Value.ref b] s = true := fun q hq => hts q (List.mem_filter.mp hq).1
  refine lv_aload_n hx hb dL_334 rfl (lv_at hl 1 rfl) ?_
  refine lv_aload_n hx hb dL_335 rfl (lv_at hl 0 rfl) ?_
  refine lv_iload_n hx hb dL_336 rfl (lv_at hl 3 rfl) ?_
  refine lv_iconst (v := 1) hx hb dL_337 (by decide) ?_
  refine lv_iadd hx hb dL_338 ?_
  refine va_sld hx hb hX hbl hbA hS lw_in1 dL_339 ?_
  refine lv_topi (fun v1 ev1 => ?_)
  obtain ⟨r, h1, h2⟩ := a_freeze v1
  obtain ⟨u1, h1⟩ := lw_mf h1
  obtain ⟨u2, h2⟩ := lw_mf h2
  refine fw_LV (As := [.int v1]) (rest := []) (n := 1) (q0 := 0) (W2 := WM ca a2 M0) hx hb hml hown hgd hN hK (c_X_X10_freeze__0 (l := l) (D := D) (ca := ca) (a := a) h1) kl_810 kl_811 kl_92 kl_813 kl_812 hP1 hP2 hap hD1 hS hA hl (heX_0 ca a X0) rfl rfl rfl lw_c600 (by decide +kernel) ⟨Nat.le_of_ble_eq_true rfl, Nat.le_of_ble_eq_true rfl⟩ rfl rfl (Nat.le_of_ble_eq_true rfl) dL_340 (fun H locs hP1 hP2 hS => ?_)
  refine lv_aload_n hx hb dL_343 rfl (lv_at hl 2 rfl) ?_
  refine lv_aload_n hx hb dL_344 rfl (lv_at hl 0 rfl) ?_
  refine lv_iload_n hx hb dL_345 rfl (lv_at hl 3 rfl) ?_
  refine lv_iconst (v := 1) hx hb dL_346 (by decide) ?_
  refine lv_iadd hx hb dL_347 ?_
  refine va_sld hx hb hX hbl hbA hS lw_in1 dL_348 ?_
  refine lv_topi (fun v2 ev2 => ?_)
  obtain rfl : v1 = v2 := ev1.trans ev2.symm
  refine fw_LV (As := [.int v1]) (rest := [.int r]) (n := 1) (q0 := 0) (W2 := []) hx hb hml hown hgd hN hK (c_M_X11_freeze__0 (l := l) (D := D) (ca := ca) (a := a2) h2) kl_1604 kl_1605 kl_102 kl_1607 kl_1606 hP2 lw_Pn lw_apn hD2 hS hA hl (heM_0 ca a2 M0) rfl rfl rfl lw_c600 (by decide +kernel) ⟨Nat.le_of_ble_eq_true rfl, Nat.le_of_ble_eq_true rfl⟩ rfl rfl (Nat.le_of_ble_eq_true rfl) dL_349 (fun H locs hP1 hP2 hS => ?_)
  refine lv_icmp_eq (tgt := 1510) hx hb dL_352 (by decide) (fun _ => ?_) (fun h => absurd rfl h)
  exact kk H locs hS
set_option maxRecDepth 20000 in
theorem law_c5 {p : Program} {e : Env} {s : State} {m : MethodId} {below : List Frame} {meth : Method} {c : Code} (l : Launch) {b : Nat} {xs : Nat → Int32} (C0 : lw_At p s m meth c b 8 xs) {D : va_G} {ca : Nat → ClassId} {a a2 : Nat → Nat} (hK : va_K D classes (tyv ca) s) (hN : lw_Nz s) {H : Heap} {locs : List Loc} {ls : Array Slot} (hP1 : va_P D classes (WX ca a X0) H) (hP2 : va_P D classes (WM ca a2 M0) H) (hap : ap_L ((WX ca a X0).map Prod.fst) ((WM ca a2 M0).map Prod.fst)) (hD1 : va_D (fun q : Nat => s.heap.size ≤ q) (WX ca a X0)) (hD2 : va_D (fun q : Nat => s.heap.size ≤ q) (WM ca a2 M0)) (hS : va_S (fun q : Nat => s.heap.size ≤ q) s.heap H locs) (hl : lv_has ls 4 [(0, .ref b), (1, .ref (a 0)), (2, .ref (a2 0)), (3, .int 0)]) (kk : ∀ (H : Heap) (locs : List Loc), va_S (fun q : Nat => s.heap.size ≤ q) s.heap H locs → W p l e room_1 s m #[Value.ref b] below meth c H locs 600000 7302250 (lw_Z below #[Value.ref b] s) (F0 m 1510 ls [])) : W p l e room_1 s m #[Value.ref b] below meth c H locs 600000 7302250 (lw_Z below #[Value.ref b] s) (F0 m 357 ls []) := by
  obtain ⟨hx, hb, hr, hml, hown, hts, hX, hbl, hlocks, hgv⟩ := C0
  have hA : ∀ q : Nat, s.heap.size ≤ q → (fun q : Nat => s.heap.size ≤ q) q := fun _ h => h
  have hbA : ¬ (fun q : Nat => s.heap.size ≤ q) b := Nat.not_le.mpr hbl
  have hgd : ∀ q ∈ lw_gd, q.before #[Value.ref b] s = true := fun q hq => hts q (List.mem_filter.mp hq).1
  refine lv_aload_n hx hb dL_357 rfl (lv_at hl 1 rfl) ?_
  obtain ⟨r, h1, h2⟩ := a_begin
  obtain ⟨u1, h1⟩ := lw_mf h1
  obtain ⟨u2, h2⟩ := lw_mf h2
  refine fw_LV (As := []) (rest := []) (n := 0) (q0 := 0) (W2 := WM ca a2 M0) hx hb hml hown hgd hN hK (c_X_X10_begin__0 (l := l) (D := D) (ca := ca) (a := a) h1) kl_820 kl_821 kl_92 kl_823 kl_822 hP1 hP2 hap hD1 hS hA hl (heX_0 ca a X0) rfl rfl rfl lw_c600 (by decide +kernel) ⟨Nat.le_of_ble_eq_true rfl, Nat.le_of_ble_eq_true rfl⟩ rfl rfl (Nat.le_of_ble_eq_true rfl) dL_358 (fun H locs hP1 hP2 hS => ?_)
  refine lv_aload_n hx hb dL_361 rfl (lv_at hl 2 rfl) ?_
  refine fw_LV (As := []) (rest := [.int r]) (n := 0) (q0 := 0) (W2 := []) hx hb hml hown hgd hN hK (c_M_X11_begin__0 (l := l) (D := D) (ca := ca) (a := a2) h2) kl_1608 kl_1609 kl_102 kl_1611 kl_1610 hP2 lw_Pn lw_apn hD2 hS hA hl (heM_0 ca a2 M0) rfl rfl rfl lw_c600 (by decide +kernel) ⟨Nat.le_of_ble_eq_true rfl, Nat.le_of_ble_eq_true rfl⟩ rfl rfl (Nat.le_of_ble_eq_true rfl) dL_362 (fun H locs hP1 hP2 hS => ?_)
  refine lv_icmp_eq (tgt := 1510) hx hb dL_365 (by decide) (fun _ => ?_) (fun h => absurd rfl h)
  exact kk H locs hS
set_option maxRecDepth 20000 in
theorem law_c6 {p : Program} {e : Env} {s : State} {m : MethodId} {below : List Frame} {meth : Method} {c : Code} (l : Launch) {b : Nat} {xs : Nat → Int32} (C0 : lw_At p s m meth c b 8 xs) {D : va_G} {ca : Nat → ClassId} {a a2 : Nat → Nat} (hK : va_K D classes (tyv ca) s) (hN : lw_Nz s) {H : Heap} {locs : List Loc} {ls : Array Slot} (hP1 : va_P D classes (WX ca a X0) H) (hP2 : va_P D classes (WM ca a2 M0) H) (hap : ap_L ((WX ca a X0).map Prod.fst) ((WM ca a2 M0).map Prod.fst)) (hD1 : va_D (fun q : Nat => s.heap.size ≤ q) (WX ca a X0)) (hD2 : va_D (fun q : Nat => s.heap.size ≤ q) (WM ca a2 M0)) (hS : va_S (fun q : Nat => s.heap.size ≤ q) s.heap H locs) (hl : lv_has ls 4 [(0, .ref b), (1, .ref (a 0)), (2, .ref (a2 0)), (3, .int 0)]) (kk : ∀ (H : Heap) (locs : List Loc), va_S (fun q : Nat => s.heap.size ≤ q) s.heap H locs → W p l e room_1 s m #[Value.ref b] below meth c H locs 600000 7302250 (lw_Z below #[Value.ref b] s) (F0 m 1510 ls [])) : W p l e room_1 s m #[Value.ref b] below meth c H locs 600000 7302250 (lw_Z below #[Value.ref b] s) (F0 m 370 ls []) := by
  obtain ⟨hx, hb, hr, hml, hown, hts, hX, hbl, hlocks, hgv⟩ := C0
  have hA : ∀ q : Nat, s.heap.size ≤ q → (fun q : Nat => s.heap.size ≤ q) q := fun _ h => h
  have hbA : ¬ (fun q : Nat => s.heap.size ≤ q) b := Nat.not_le.mpr hbl
  have hgd : ∀ q ∈ lw_gd, q.before #[Value.ref b] s = true := fun q hq => hts q (List.mem_filter.mp hq).1
  refine lv_aload_n hx hb dL_370 rfl (lv_at hl 1 rfl) ?_
  obtain ⟨r, h1, h2⟩ := a_end
  obtain ⟨u1, h1⟩ := lw_mf h1
  obtain ⟨u2, h2⟩ := lw_mf h2
  refine fw_LV (As := []) (rest := []) (n := 0) (q0 := 0) (W2 := WM ca a2 M0) hx hb hml hown hgd hN hK (c_X_X10_end__0 (l := l) (D := D) (ca := ca) (a := a) h1) kl_824 kl_825 kl_92 kl_827 kl_826 hP1 hP2 hap hD1 hS hA hl (heX_0 ca a X0) rfl rfl rfl lw_c600 (by decide +kernel) ⟨Nat.le_of_ble_eq_true rfl, Nat.le_of_ble_eq_true rfl⟩ rfl rfl (Nat.le_of_ble_eq_true rfl) dL_371 (fun H locs hP1 hP2 hS => ?_)
  refine lv_aload_n hx hb dL_374 rfl (lv_at hl 2 rfl) ?_
  refine fw_LV (As := []) (rest := [.int r]) (n := 0) (q0 := 0) (W2 := []) hx hb hml hown hgd hN hK (c_M_X11_end__0 (l := l) (D := D) (ca := ca) (a := a2) h2) kl_1612 kl_1613 kl_102 kl_1615 kl_1614 hP2 lw_Pn lw_apn hD2 hS hA hl (heM_0 ca a2 M0) rfl rfl rfl lw_c600 (by decide +kernel) ⟨Nat.le_of_ble_eq_true rfl, Nat.le_of_ble_eq_true rfl⟩ rfl rfl (Nat.le_of_ble_eq_true rfl) dL_375 (fun H locs hP1 hP2 hS => ?_)
  refine lv_icmp_eq (tgt := 1510) hx hb dL_378 (by decide) (fun _ => ?_) (fun h => absurd rfl h)
  exact kk H locs hS
set_option maxRecDepth 20000 in
theorem law_c7 {p : Program} {e : Env} {s : State} {m : MethodId} {below : List Frame} {meth : Method} {c : Code} (l : Launch) {b : Nat} {xs : Nat → Int32} (C0 : lw_At p s m meth c b 8 xs) {D : va_G} {ca : Nat → ClassId} {a a2 : Nat → Nat} (hK : va_K D classes (tyv ca) s) (hN : lw_Nz s) {H : Heap} {locs : List Loc} {ls : Array Slot} (hP1 : va_P D classes (WX ca a X0) H) (hP2 : va_P D classes (WM ca a2 M0) H) (hap : ap_L ((WX ca a X0).map Prod.fst) ((WM ca a2 M0).map Prod.fst)) (hD1 : va_D (fun q : Nat => s.heap.size ≤ q) (WX ca a X0)) (hD2 : va_D (fun q : Nat => s.heap.size ≤ q) (WM ca a2 M0)) (hS : va_S (fun q : Nat => s.heap.size ≤ q) s.heap H locs) (hl : lv_has ls 4 [(0, .ref b), (1, .ref (a 0)), (2, .ref (a2 0)), (3, .int 0)]) (kk : ∀ (H : Heap) (locs : List Loc), va_S (fun q : Nat => s.heap.size ≤ q) s.heap H locs → W p l e room_1 s m #[Value.ref b] below meth c H locs 600000 7302250 (lw_Z below #[Value.ref b] s) (F0 m 1510 ls [])) : W p l e room_1 s m #[Value.ref b] below meth c H locs 600000 7302250 (lw_Z below #[Value.ref b] s) (F0 m 383 ls []) := by
  obtain ⟨hx, hb, hr, hml, hown, hts, hX, hbl, hlocks, hgv⟩ := C0
  have hA : ∀ q : Nat, s.heap.size ≤ q → (fun q : Nat => s.heap.size ≤ q) q := fun _ h => h
  have hbA : ¬ (fun q : Nat => s.heap.size ≤ q) b := Nat.not_le.mpr hbl
  have hgd : ∀ q ∈ lw_gd, q.before #[Value.ref b] s = true := fun q hq => hts q (List.mem_filter.mp hq).1
  refine lv_aload_n hx hb dL_383 rfl (lv_at hl 1 rfl) ?_
  obtain ⟨r, h1, h2⟩ := a_cancel
  obtain ⟨u1, h1⟩ := lw_mf h1
  obtain ⟨u2, h2⟩ := lw_mf h2
  refine fw_LV (As := []) (rest := []) (n := 0) (q0 := 0) (W2 := WM ca a2 M0) hx hb hml hown hgd hN hK (c_X_X10_cancel__0 (l := l) (D := D) (ca := ca) (a := a) h1) kl_828 kl_829 kl_92 kl_831 kl_830 hP1 hP2 hap hD1 hS hA hl (heX_0 ca a X0) rfl rfl rfl lw_c600 (by decide +kernel) ⟨Nat.le_of_ble_eq_true rfl, Nat.le_of_ble_eq_true rfl⟩ rfl rfl (Nat.le_of_ble_eq_true rfl) dL_384 (fun H locs hP1 hP2 hS => ?_)
  refine lv_aload_n hx hb dL_387 rfl (lv_at hl 2 rfl) ?_
  refine fw_LV (As := []) (rest := [.int r]) (n := 0) (q0 := 0) (W2 := []) hx hb hml hown hgd hN hK (c_M_X11_cancel__0 (l := l) (D := D) (ca := ca) (a := a2) h2) kl_1616 kl_1617 kl_102 kl_1619 kl_1618 hP2 lw_Pn lw_apn hD2 hS hA hl (heM_0 ca a2 M0) rfl rfl rfl lw_c600 (by decide +kernel) ⟨Nat.le_of_ble_eq_true rfl, Nat.le_of_ble_eq_true rfl⟩ rfl rfl (Nat.le_of_ble_eq_true rfl) dL_388 (fun H locs hP1 hP2 hS => ?_)
  refine lv_icmp_eq (tgt := 1510) hx hb dL_391 (by decide) (fun _ => ?_) (fun h => absurd rfl h)
  exact kk H locs hS
set_option maxRecDepth 20000 in
theorem law_c8 {p : Program} {e : Env} {s : State} {m : MethodId} {below : List Frame} {meth : Method} {c : Code} (l : Launch) {b : Nat} {xs : Nat → Int32} (C0 : lw_At p s m meth c b 8 xs) {D : va_G} {ca : Nat → ClassId} {a a2 : Nat → Nat} (hK : va_K D classes (tyv ca) s) (hN : lw_Nz s) {H : Heap} {locs : List Loc} {ls : Array Slot} (hP1 : va_P D classes (WX ca a X0) H) (hP2 : va_P D classes (WM ca a2 M0) H) (hap : ap_L ((WX ca a X0).map Prod.fst) ((WM ca a2 M0).map Prod.fst)) (hD1 : va_D (fun q : Nat => s.heap.size ≤ q) (WX ca a X0)) (hD2 : va_D (fun q : Nat => s.heap.size ≤ q) (WM ca a2 M0)) (hS : va_S (fun q : Nat => s.heap.size ≤ q) s.heap H locs) (hl : lv_has ls 4 [(0, .ref b), (1, .ref (a 0)), (2, .ref (a2 0)), (3, .int 0)]) (kk : ∀ (H : Heap) (locs : List Loc), va_S (fun q : Nat => s.heap.size ≤ q) s.heap H locs → W p l e room_1 s m #[Value.ref b] below meth c H locs 600000 7302250 (lw_Z below #[Value.ref b] s) (F0 m 1510 ls [])) : W p l e room_1 s m #[Value.ref b] below meth c H locs 600000 7302250 (lw_Z below #[Value.ref b] s) (F0 m 396 ls []) := by
  obtain ⟨hx, hb, hr, hml, hown, hts, hX, hbl, hlocks, hgv⟩ := C0
  have hA : ∀ q : Nat, s.heap.size ≤ q → (fun q : Nat => s.heap.size ≤ q) q := fun _ h => h
  have hbA : ¬ (fun q : Nat => s.heap.size ≤ q) b := Nat.not_le.mpr hbl
  have hgd : ∀ q ∈ lw_gd, q.before #[Value.ref b] s = true := fun q hq => hts q (List.mem_filter.mp hq).1
  refine lv_aload_n hx hb dL_396 rfl (lv_at hl 1 rfl) ?_
  refine lv_aload_n hx hb dL_397 rfl (lv_at hl 0 rfl) ?_
  refine lv_iload_n hx hb dL_398 rfl (lv_at hl 3 rfl) ?_
  refine lv_iconst (v := 1) hx hb dL_399 (by decide) ?_
  refine lv_iadd hx hb dL_400 ?_
  refine va_sld hx hb hX hbl hbA hS lw_in1 dL_401 ?_
  refine lv_topi (fun v1 ev1 => ?_)
  obtain ⟨r, h1, h2⟩ := a_feed v1
  obtain ⟨u1, h1⟩ := lw_mf h1
  obtain ⟨u2, h2⟩ := lw_mf h2
  refine fw_LV (As := [.int v1]) (rest := []) (n := 1) (q0 := 0) (W2 := WM ca a2 M0) hx hb hml hown hgd hN hK (c_X_X10_feed__0 (l := l) (D := D) (ca := ca) (a := a) h1) kl_832 kl_833 kl_92 kl_835 kl_834 hP1 hP2 hap hD1 hS hA hl (heX_0 ca a X0) rfl rfl rfl lw_c600 (by decide +kernel) ⟨Nat.le_of_ble_eq_true rfl, Nat.le_of_ble_eq_true rfl⟩ rfl rfl (Nat.le_of_ble_eq_true rfl) dL_402 (fun H locs hP1 hP2 hS => ?_)
  refine lv_aload_n hx hb dL_405 rfl (lv_at hl 2 rfl) ?_
  refine lv_aload_n hx hb dL_406 rfl (lv_at hl 0 rfl) ?_
  refine lv_iload_n hx hb dL_407 rfl (lv_at hl 3 rfl) ?_
  refine lv_iconst (v := 1) hx hb dL_408 (by decide) ?_
  refine lv_iadd hx hb dL_409 ?_
  refine va_sld hx hb hX hbl hbA hS lw_in1 dL_410 ?_
  refine lv_topi (fun v2 ev2 => ?_)
  obtain rfl : v1 = v2 := ev1.trans ev2.symm
  refine fw_LV (As := [.int v1]) (rest := [.int r]) (n := 1) (q0 := 0) (W2 := []) hx hb hml hown hgd hN hK (c_M_X11_feed__0 (l := l) (D := D) (ca := ca) (a := a2) h2) kl_1422 kl_1423 kl_102 kl_1425 kl_1424 hP2 lw_Pn lw_apn hD2 hS hA hl (heM_0 ca a2 M0) rfl rfl rfl lw_c600 (by decide +kernel) ⟨Nat.le_of_ble_eq_true rfl, Nat.le_of_ble_eq_true rfl⟩ rfl rfl (Nat.le_of_ble_eq_true rfl) dL_411 (fun H locs hP1 hP2 hS => ?_)
  refine lv_icmp_eq (tgt := 1510) hx hb dL_414 (by decide) (fun _ => ?_) (fun h => absurd rfl h)
  exact kk H locs hS
set_option maxRecDepth 20000 in
theorem law_c9 {p : Program} {e : Env} {s : State} {m : MethodId} {below : List Frame} {meth : Method} {c : Code} (l : Launch) {b : Nat} {xs : Nat → Int32} (C0 : lw_At p s m meth c b 8 xs) {D : va_G} {ca : Nat → ClassId} {a a2 : Nat → Nat} (hK : va_K D classes (tyv ca) s) (hN : lw_Nz s) {H : Heap} {locs : List Loc} {ls : Array Slot} (hP1 : va_P D classes (WX ca a X0) H) (hP2 : va_P D classes (WM ca a2 M0) H) (hap : ap_L ((WX ca a X0).map Prod.fst) ((WM ca a2 M0).map Prod.fst)) (hD1 : va_D (fun q : Nat => s.heap.size ≤ q) (WX ca a X0)) (hD2 : va_D (fun q : Nat => s.heap.size ≤ q) (WM ca a2 M0)) (hS : va_S (fun q : Nat => s.heap.size ≤ q) s.heap H locs) (hl : lv_has ls 4 [(0, .ref b), (1, .ref (a 0)), (2, .ref (a2 0)), (3, .int 0)]) (kk : ∀ (H : Heap) (locs : List Loc), va_S (fun q : Nat => s.heap.size ≤ q) s.heap H locs → W p l e room_1 s m #[Value.ref b] below meth c H locs 600000 7302250 (lw_Z below #[Value.ref b] s) (F0 m 1510 ls [])) : W p l e room_1 s m #[Value.ref b] below meth c H locs 600000 7302250 (lw_Z below #[Value.ref b] s) (F0 m 419 ls []) := by
  obtain ⟨hx, hb, hr, hml, hown, hts, hX, hbl, hlocks, hgv⟩ := C0
  have hA : ∀ q : Nat, s.heap.size ≤ q → (fun q : Nat => s.heap.size ≤ q) q := fun _ h => h
  have hbA : ¬ (fun q : Nat => s.heap.size ≤ q) b := Nat.not_le.mpr hbl
  have hgd : ∀ q ∈ lw_gd, q.before #[Value.ref b] s = true := fun q hq => hts q (List.mem_filter.mp hq).1
  refine lv_aload_n hx hb dL_419 rfl (lv_at hl 1 rfl) ?_
  obtain ⟨r, h1, h2⟩ := a_clear
  obtain ⟨u1, h1⟩ := lw_mf h1
  obtain ⟨u2, h2⟩ := lw_mf h2
  refine fw_LV (As := []) (rest := []) (n := 0) (q0 := 0) (W2 := WM ca a2 M0) hx hb hml hown hgd hN hK (c_X_X10_clear__0 (l := l) (D := D) (ca := ca) (a := a) h1) kl_844 kl_845 kl_92 kl_847 kl_846 hP1 hP2 hap hD1 hS hA hl (heX_0 ca a X0) rfl rfl rfl lw_c600 (by decide +kernel) ⟨Nat.le_of_ble_eq_true rfl, Nat.le_of_ble_eq_true rfl⟩ rfl rfl (Nat.le_of_ble_eq_true rfl) dL_420 (fun H locs hP1 hP2 hS => ?_)
  refine lv_aload_n hx hb dL_423 rfl (lv_at hl 2 rfl) ?_
  refine fw_LV (As := []) (rest := [.int r]) (n := 0) (q0 := 0) (W2 := []) hx hb hml hown hgd hN hK (c_M_X11_clear__0 (l := l) (D := D) (ca := ca) (a := a2) h2) kl_1429 kl_1430 kl_102 kl_1432 kl_1431 hP2 lw_Pn lw_apn hD2 hS hA hl (heM_0 ca a2 M0) rfl rfl rfl lw_c600 (by decide +kernel) ⟨Nat.le_of_ble_eq_true rfl, Nat.le_of_ble_eq_true rfl⟩ rfl rfl (Nat.le_of_ble_eq_true rfl) dL_424 (fun H locs hP1 hP2 hS => ?_)
  refine lv_icmp_eq (tgt := 1510) hx hb dL_427 (by decide) (fun _ => ?_) (fun h => absurd rfl h)
  exact kk H locs hS
set_option maxRecDepth 20000 in
theorem law_c10 {p : Program} {e : Env} {s : State} {m : MethodId} {below : List Frame} {meth : Method} {c : Code} (l : Launch) {b : Nat} {xs : Nat → Int32} (C0 : lw_At p s m meth c b 8 xs) {D : va_G} {ca : Nat → ClassId} {a a2 : Nat → Nat} (hK : va_K D classes (tyv ca) s) (hN : lw_Nz s) {H : Heap} {locs : List Loc} {ls : Array Slot} (hP1 : va_P D classes (WX ca a X0) H) (hP2 : va_P D classes (WM ca a2 M0) H) (hap : ap_L ((WX ca a X0).map Prod.fst) ((WM ca a2 M0).map Prod.fst)) (hD1 : va_D (fun q : Nat => s.heap.size ≤ q) (WX ca a X0)) (hD2 : va_D (fun q : Nat => s.heap.size ≤ q) (WM ca a2 M0)) (hS : va_S (fun q : Nat => s.heap.size ≤ q) s.heap H locs) (hl : lv_has ls 4 [(0, .ref b), (1, .ref (a 0)), (2, .ref (a2 0)), (3, .int 0)]) (kk : ∀ (H : Heap) (locs : List Loc), va_S (fun q : Nat => s.heap.size ≤ q) s.heap H locs → W p l e room_1 s m #[Value.ref b] below meth c H locs 600000 7302250 (lw_Z below #[Value.ref b] s) (F0 m 1510 ls [])) : W p l e room_1 s m #[Value.ref b] below meth c H locs 600000 7302250 (lw_Z below #[Value.ref b] s) (F0 m 432 ls []) := by
  obtain ⟨hx, hb, hr, hml, hown, hts, hX, hbl, hlocks, hgv⟩ := C0
  have hA : ∀ q : Nat, s.heap.size ≤ q → (fun q : Nat => s.heap.size ≤ q) q := fun _ h => h
  have hbA : ¬ (fun q : Nat => s.heap.size ≤ q) b := Nat.not_le.mpr hbl
  have hgd : ∀ q ∈ lw_gd, q.before #[Value.ref b] s = true := fun q hq => hts q (List.mem_filter.mp hq).1
  refine lv_aload_n hx hb dL_432 rfl (lv_at hl 1 rfl) ?_
  refine lv_aload_n hx hb dL_433 rfl (lv_at hl 0 rfl) ?_
  refine lv_iload_n hx hb dL_434 rfl (lv_at hl 3 rfl) ?_
  refine lv_iconst (v := 1) hx hb dL_435 (by decide) ?_
  refine lv_iadd hx hb dL_436 ?_
  refine va_sld hx hb hX hbl hbA hS lw_in1 dL_437 ?_
  refine lv_topi (fun v1 ev1 => ?_)
  obtain ⟨r, h1, h2⟩ := a_value v1
  obtain ⟨u1, h1⟩ := lw_mf h1
  obtain ⟨u2, h2⟩ := lw_mf h2
  refine fw_LV (As := [.int v1]) (rest := []) (n := 1) (q0 := 0) (W2 := WM ca a2 M0) hx hb hml hown hgd hN hK (c_X_X10_value__0 (l := l) (D := D) (ca := ca) (a := a) h1) kl_852 kl_853 kl_92 kl_855 kl_854 hP1 hP2 hap hD1 hS hA hl (heX_0 ca a X0) rfl rfl rfl lw_c600 (by decide +kernel) ⟨Nat.le_of_ble_eq_true rfl, Nat.le_of_ble_eq_true rfl⟩ rfl rfl (Nat.le_of_ble_eq_true rfl) dL_438 (fun H locs hP1 hP2 hS => ?_)
  refine lv_aload_n hx hb dL_441 rfl (lv_at hl 2 rfl) ?_
  refine lv_aload_n hx hb dL_442 rfl (lv_at hl 0 rfl) ?_
  refine lv_iload_n hx hb dL_443 rfl (lv_at hl 3 rfl) ?_
  refine lv_iconst (v := 1) hx hb dL_444 (by decide) ?_
  refine lv_iadd hx hb dL_445 ?_
  refine va_sld hx hb hX hbl hbA hS lw_in1 dL_446 ?_
  refine lv_topi (fun v2 ev2 => ?_)
  obtain rfl : v1 = v2 := ev1.trans ev2.symm
  refine fw_LV (As := [.int v1]) (rest := [.long r]) (n := 1) (q0 := 0) (W2 := []) hx hb hml hown hgd hN hK (c_M_X11_value__0 (l := l) (D := D) (ca := ca) (a := a2) h2) kl_1624 kl_1625 kl_102 kl_1627 kl_1626 hP2 lw_Pn lw_apn hD2 hS hA hl (heM_0 ca a2 M0) rfl rfl rfl lw_c600 (by decide +kernel) ⟨Nat.le_of_ble_eq_true rfl, Nat.le_of_ble_eq_true rfl⟩ rfl rfl (Nat.le_of_ble_eq_true rfl) dL_447 (fun H locs hP1 hP2 hS => ?_)
  refine W.lcmp hx hb dL_450 ?_
  refine lv_if_eq (tgt := 1510) hx hb dL_451 (by decide) (fun _ => ?_) (fun h => absurd (lw_cmp0 _) h)
  exact kk H locs hS
set_option maxRecDepth 20000 in
theorem law_c11 {p : Program} {e : Env} {s : State} {m : MethodId} {below : List Frame} {meth : Method} {c : Code} (l : Launch) {b : Nat} {xs : Nat → Int32} (C0 : lw_At p s m meth c b 8 xs) {D : va_G} {ca : Nat → ClassId} {a a2 : Nat → Nat} (hK : va_K D classes (tyv ca) s) (hN : lw_Nz s) {H : Heap} {locs : List Loc} {ls : Array Slot} (hP1 : va_P D classes (WX ca a X0) H) (hP2 : va_P D classes (WM ca a2 M0) H) (hap : ap_L ((WX ca a X0).map Prod.fst) ((WM ca a2 M0).map Prod.fst)) (hD1 : va_D (fun q : Nat => s.heap.size ≤ q) (WX ca a X0)) (hD2 : va_D (fun q : Nat => s.heap.size ≤ q) (WM ca a2 M0)) (hS : va_S (fun q : Nat => s.heap.size ≤ q) s.heap H locs) (hl : lv_has ls 4 [(0, .ref b), (1, .ref (a 0)), (2, .ref (a2 0)), (3, .int 0)]) (kk : ∀ (H : Heap) (locs : List Loc), va_S (fun q : Nat => s.heap.size ≤ q) s.heap H locs → W p l e room_1 s m #[Value.ref b] below meth c H locs 600000 7302250 (lw_Z below #[Value.ref b] s) (F0 m 1510 ls [])) : W p l e room_1 s m #[Value.ref b] below meth c H locs 600000 7302250 (lw_Z below #[Value.ref b] s) (F0 m 456 ls []) := by
  obtain ⟨hx, hb, hr, hml, hown, hts, hX, hbl, hlocks, hgv⟩ := C0
  have hA : ∀ q : Nat, s.heap.size ≤ q → (fun q : Nat => s.heap.size ≤ q) q := fun _ h => h
  have hbA : ¬ (fun q : Nat => s.heap.size ≤ q) b := Nat.not_le.mpr hbl
  have hgd : ∀ q ∈ lw_gd, q.before #[Value.ref b] s = true := fun q hq => hts q (List.mem_filter.mp hq).1
  refine lv_aload_n hx hb dL_456 rfl (lv_at hl 1 rfl) ?_
  refine lv_aload_n hx hb dL_457 rfl (lv_at hl 0 rfl) ?_
  refine lv_iload_n hx hb dL_458 rfl (lv_at hl 3 rfl) ?_
  refine lv_iconst (v := 1) hx hb dL_459 (by decide) ?_
  refine lv_iadd hx hb dL_460 ?_
  refine va_sld hx hb hX hbl hbA hS lw_in1 dL_461 ?_
  refine lv_topi (fun v1 ev1 => ?_)
  refine lv_aload_n hx hb dL_462 rfl (lv_at hl 0 rfl) ?_
  refine lv_iload_n hx hb dL_463 rfl (lv_at hl 3 rfl) ?_
  refine lv_iconst (v := 2) hx hb dL_464 (by decide) ?_
  refine lv_iadd hx hb dL_465 ?_
  refine va_sld hx hb hX hbl hbA hS lw_in2 dL_466 ?_
  refine lv_topi (fun v2 ev2 => ?_)
  obtain ⟨r, h1, h2⟩ := a_of v1 v2
  obtain ⟨u1, h1⟩ := lw_mf h1
  obtain ⟨u2, h2⟩ := lw_mf h2
  refine fw_LV (As := [.int v1, .int v2]) (rest := []) (n := 2) (q0 := 0) (W2 := WM ca a2 M0) hx hb hml hown hgd hN hK (c_X_X10_of__0 (l := l) (D := D) (ca := ca) (a := a) h1) kl_857 kl_858 kl_92 kl_860 kl_859 hP1 hP2 hap hD1 hS hA hl (heX_0 ca a X0) rfl rfl rfl lw_c600 (by decide +kernel) ⟨Nat.le_of_ble_eq_true rfl, Nat.le_of_ble_eq_true rfl⟩ rfl rfl (Nat.le_of_ble_eq_true rfl) dL_467 (fun H locs hP1 hP2 hS => ?_)
  refine lv_aload_n hx hb dL_470 rfl (lv_at hl 2 rfl) ?_
  refine lv_aload_n hx hb dL_471 rfl (lv_at hl 0 rfl) ?_
  refine lv_iload_n hx hb dL_472 rfl (lv_at hl 3 rfl) ?_
  refine lv_iconst (v := 1) hx hb dL_473 (by decide) ?_
  refine lv_iadd hx hb dL_474 ?_
  refine va_sld hx hb hX hbl hbA hS lw_in1 dL_475 ?_
  refine lv_topi (fun v3 ev3 => ?_)
  obtain rfl : v1 = v3 := ev1.trans ev3.symm
  refine lv_aload_n hx hb dL_476 rfl (lv_at hl 0 rfl) ?_
  refine lv_iload_n hx hb dL_477 rfl (lv_at hl 3 rfl) ?_
  refine lv_iconst (v := 2) hx hb dL_478 (by decide) ?_
  refine lv_iadd hx hb dL_479 ?_
  refine va_sld hx hb hX hbl hbA hS lw_in2 dL_480 ?_
  refine lv_topi (fun v4 ev4 => ?_)
  obtain rfl : v2 = v4 := ev2.trans ev4.symm
  refine fw_LV (As := [.int v1, .int v2]) (rest := [.int r]) (n := 2) (q0 := 0) (W2 := []) hx hb hml hown hgd hN hK (c_M_X11_of__0 (l := l) (D := D) (ca := ca) (a := a2) h2) kl_1632 kl_1633 kl_102 kl_1635 kl_1634 hP2 lw_Pn lw_apn hD2 hS hA hl (heM_0 ca a2 M0) rfl rfl rfl lw_c600 (by decide +kernel) ⟨Nat.le_of_ble_eq_true rfl, Nat.le_of_ble_eq_true rfl⟩ rfl rfl (Nat.le_of_ble_eq_true rfl) dL_481 (fun H locs hP1 hP2 hS => ?_)
  refine lv_icmp_eq (tgt := 1510) hx hb dL_484 (by decide) (fun _ => ?_) (fun h => absurd rfl h)
  exact kk H locs hS
