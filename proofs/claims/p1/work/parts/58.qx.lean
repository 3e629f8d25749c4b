/-! THE CLASS OVER A SHEET WHERE NOTHING STANDS -/
def xb (i : Nat) : Int64 := (1 : Int64) <<< ((nI i).toInt64 &&& 63)
def xh (y : Int64) (c : Nat) : Int32 := if lg_cmp ((y >>> ((nI c).toInt64 &&& 63)) &&& (1 : Int64)) (0 : Int64) = 0 then 0 else 1
theorem x_bit (t : fw_S) (i : Nat) : f_X_X10_bit t (nI i) = some (xb i, t) := rfl
theorem x_has (t : fw_S) (y : Int64) (c : Nat) : f_X_X10_has t y (nI c) = some (xh y c, t) := by
  unfold xh
  by_cases h : lg_cmp ((y >>> ((nI c).toInt64 &&& 63)) &&& (1 : Int64)) (0 : Int64) = 0
  · simp only [f_X_X10_has, b_X_X10_has_0, if_pos h, b_X_X10_has_14, b_X_X10_has_15, fb_g, true_or, if_true]
  · simp only [f_X_X10_has, b_X_X10_has_0, if_neg h, b_X_X10_has_10, b_X_X10_has_15, fb_g, or_true, if_true]
theorem xh_one : ∀ i, i < 32 → ∀ c, c < 32 → xh ((0 : Int64) ||| xb i) c = if c = i then 1 else 0 := by decide +kernel
/-- bits of the first cells -/
def xp : Nat → Int64
  | 0 => 0
  | k + 1 => xp k ||| xb k
theorem xh_all : ∀ c, c < 32 → xh (xp 32) c = 1 := by decide +kernel
theorem x_plain_n (t : fw_S) (h : ∀ c, c < 32 → ¬ st_F t 8 c = 2) : ∀ (r c n : Nat), c + r = 32 → r < n → b_X_X0_plain__4_4 n t (xp c) (nI c) = some (xp 32, t) := by
  intro r
  induction r with
  | zero =>
    intro c n hc hn
    obtain ⟨n, rfl⟩ : ∃ n', n = n' + 1 := ⟨n - 1, by omega⟩
    have e : c = 32 := by omega
    subst e
    simp only [b_X_X0_plain__4_4, b_X_X0_plain__4_33, ni_d (N := 32) (c := 32) rfl (Nat.le_refl 32) (by decide), if_true]
  | succ r ih =>
    intro c n hc hn
    obtain ⟨n, rfl⟩ : ∃ n', n = n' + 1 := ⟨n - 1, by omega⟩
    have hc' : c < 32 := by omega
    have h2 := h c hc'
    have g : ¬ (32 : Int32) ≤ nI c := ni_c (N := 32) rfl hc' (by decide)
    rw [← ih (c + 1) n (by omega) (by omega)]
    generalize hb : b_X_X0_plain__4_4 n = B
    simp only [b_X_X0_plain__4_4, hb, if_neg g, b_X_X0_plain__4_10, b_X_X0_plain__4_20, b_X_X0_plain__4_27, x_bit, gb_b, if_neg h2, ni_cl (show c < 2 ^ 31 by omega), ni_n0 (show c < 2 ^ 31 by omega), Nat.not_le.mpr hc', or_self, not_false_eq_true, gb_gt, ni_up, xp]
theorem un_plain (t : fw_S) : f_X_X0_plain__4 t = b_X_X0_plain__4_4 3000 t 0 0 := by
  delta f_X_X0_plain__4 b_X_X0_plain__4_0
  generalize b_X_X0_plain__4_4 3000 = B
  rfl
theorem x_plain (t : fw_S) (h : ∀ c, c < 32 → ¬ st_F t 8 c = 2) : f_X_X0_plain__4 t = some (xp 32, t) :=
  (un_plain t).trans (x_plain_n t h 32 0 3000 (by omega) (by omega))
theorem x_settle (t : fw_S) (h : st_J t 1 = xp 32) (c : Nat) (hc : c < 32) (d : Int32) : f_X_X1_settle__3 t (nI c) d = some t := by
  have e := x_has t (st_J t 1) c
  rw [h, xh_all c hc] at e
  have z : ¬ (1 : Int32) = 0 := by decide
  by_cases k : st_I t 8 = 0
  · simp only [f_X_X1_settle__3, b_X_X1_settle__3_0, if_pos k, b_X_X1_settle__3_7, h, e, gb_b, if_neg z, b_X_X1_settle__3_18]
  · simp only [f_X_X1_settle__3, b_X_X1_settle__3_0, if_neg k, b_X_X1_settle__3_18]
theorem x_ran (t : fw_S) (h : st_J t 5 = 0) : f_X_X0_ranCount__4 t = some (0, t) := by
  have e : f_X_J13_bitCount_95d88 t 0 = some (0, t) := rfl
  simp only [f_X_X0_ranCount__4, b_X_X0_ranCount__4_0, h, e, gb_b]
theorem x_cmp (t : fw_S) (c : Nat) (hc : c < 32) : ∃ u, f_X_X0_compare__4_5 t (nI c) = some u ∧ Ex [] [] [] [4] t u := by
  have z : ¬ (1 : Int32) = 0 := by decide
  by_cases h : st_F t 9 c = st_F t 16 c
  · by_cases g : lg_cmp (st_G t 0 c) (st_G t 2 c) = 0
    · exact ⟨t, by simp only [f_X_X0_compare__4_5, b_X_X0_compare__4_5_0, xc_1 hc, gb_b, if_neg z, b_X_X0_compare__4_5_8, b_X_X0_compare__4_5_23, b_X_X0_compare__4_5_52, h, g, if_true, ni_cl (show c < 2 ^ 31 by omega), ni_n0 (show c < 2 ^ 31 by omega), Nat.not_le.mpr hc, or_self, not_false_eq_true, gb_gt, ni_up], ex_r⟩
    · exact ⟨up_J t 4 (st_J t 4 ||| xb c), by simp only [f_X_X0_compare__4_5, b_X_X0_compare__4_5_0, xc_1 hc, gb_b, if_neg z, b_X_X0_compare__4_5_8, b_X_X0_compare__4_5_23, b_X_X0_compare__4_5_39, b_X_X0_compare__4_5_52, x_bit, gb_l, h, if_neg g, if_true, ni_cl (show c < 2 ^ 31 by omega), ni_n0 (show c < 2 ^ 31 by omega), Nat.not_le.mpr hc, or_self, not_false_eq_true, gb_gt, ni_up], ex_J ex_r (by decide) _⟩
  · exact ⟨up_J t 4 (st_J t 4 ||| xb c), by simp only [f_X_X0_compare__4_5, b_X_X0_compare__4_5_0, xc_1 hc, gb_b, if_neg z, b_X_X0_compare__4_5_8, b_X_X0_compare__4_5_39, b_X_X0_compare__4_5_52, x_bit, gb_l, if_neg h, ni_cl (show c < 2 ^ 31 by omega), ni_n0 (show c < 2 ^ 31 by omega), Nat.not_le.mpr hc, or_self, not_false_eq_true, gb_gt, ni_up], ex_J ex_r (by decide) _⟩
theorem x_fill (t : fw_S) (v : Int32) : ∃ u, f_X_J7_fill_53178__28 t v = some u ∧ Ex [12] [] [] [] t u := by
  obtain ⟨u, h1, h3⟩ := lp_n 32 3000 (by decide) (fun n t x => b_X_J7_fill_53178__28_5 n t v x 32) (fun t => some t) (fun _ u => Ex [12] [] [] [] t u)
    (by
      intro n c w hc h1
      refine ⟨up_F w 12 (upd (st_F w 12) c v), ex_F h1 (by decide) _, ?_⟩
      simp only [b_X_J7_fill_53178__28_5, b_X_J7_fill_53178__28_10, ni_c (N := 32) (c := 32) rfl hc (by decide), if_false, gb_l, ni_cl (show c < 2 ^ 31 by omega), ni_n0 (show c < 2 ^ 31 by omega), Nat.not_le.mpr hc, or_self, not_false_eq_true, gb_gt, ni_up])
    (by
      intro n w _
      simp only [b_X_J7_fill_53178__28_5, b_X_J7_fill_53178__28_20, ni_d (N := 32) (c := 32) rfl (show 32 ≤ 32 by omega) (by decide), if_true]) t ex_r
  have un : f_X_J7_fill_53178__28 t v = b_X_J7_fill_53178__28_5 3000 t v 0 32 := by
    delta f_X_J7_fill_53178__28 b_X_J7_fill_53178__28_0
    generalize b_X_J7_fill_53178__28_5 3000 = B
    rfl
  have h3 : b_X_J7_fill_53178__28_5 3000 t v 0 32 = some u := h3
  exact ⟨u, un.trans h3, h1⟩
theorem x_start (t : fw_S) : ∃ u, f_X_X0_startWave__4 t = some u ∧ Ex [12] [] [] [4, 5] t u ∧ st_J u 5 = 0 := by
  obtain ⟨u, h1, h2⟩ := x_fill (up_J (up_J t 4 0) 5 0) (-5)
  refine ⟨u, ?_, ex_t (ex_J (ex_J ex_r (by decide) _) (by decide) _) (ex_w h2 (fun _ h => h) (fun _ h => h) (fun _ h => h) (fun _ h => absurd h (by simp))), ?_⟩
  · simp only [f_X_X0_startWave__4, b_X_X0_startWave__4_0, gb_l, h1, gb_v]
  · rw [h2.2.2.2 5 (by decide)]; rfl
def s_put (t : fw_S) (i : Nat) (v : Int64) : fw_S := up_J (up_G (up_F t 23 (upd (st_F t 23) i 1)) 6 (vp_updL (st_G t 6) i v)) 9 (st_J t 9 ||| xb i)
theorem x_put (t : fw_S) (c : Nat) (hc : c < 32) (v : Int64) : f_X_X7_put__7_N t (nI c) 1 v = some (s_put t c v) := by
  have z : ¬ (1 : Int32) = 0 := by decide
  simp only [f_X_X7_put__7_N, b_X_X7_put__7_N_0, xc_1 hc, gb_b, if_neg z, b_X_X7_put__7_N_8, b_X_X7_put__7_N_43, x_bit, gb_l, ni_cl (show c < 2 ^ 31 by omega), ni_n0 (show c < 2 ^ 31 by omega), Nat.not_le.mpr hc, or_self, not_false_eq_true, gb_gt, ni_up]
  rfl
def s_b1 (t : fw_S) (c : Nat) : fw_S := up_F t 8 (upd (st_F t 8) c 1)
def s_b2 (t : fw_S) (c : Nat) : fw_S := up_F (s_b1 t c) 10 (upd (st_F (s_b1 t c) 10) c 0)
def s_b3 (t : fw_S) (c : Nat) : fw_S := up_F (s_b2 t c) 11 (upd (st_F (s_b2 t c) 11) c 0)
def s_b4 (t : fw_S) (c : Nat) : fw_S := up_F (s_b3 t c) 14 (upd (st_F (s_b3 t c) 14) c 0)
def s_b5 (t : fw_S) (c : Nat) : fw_S := up_G (s_b4 t c) 1 (vp_updL (st_G (s_b4 t c) 1) c 0)
def s_b6 (t : fw_S) (c : Nat) (v : Int64) : fw_S := up_G (s_b5 t c) 0 (vp_updL (st_G (s_b5 t c) 0) c v)
def s_b7 (t : fw_S) (c : Nat) (v : Int64) : fw_S := up_F (s_b6 t c v) 9 (upd (st_F (s_b6 t c v) 9) c 0)
theorem x_become (t : fw_S) (c : Nat) (hc : c < 32) (v : Int64) : f_X_X0_become__4_N t (nI c) 1 v = some (s_b7 t c v) := by
  have z : ¬ (1 : Int32) = 0 := by decide
  have d1 : s_b1 t c = up_F t 8 (upd (st_F t 8) c 1) := rfl
  have d2 : s_b2 t c = up_F (s_b1 t c) 10 (upd (st_F (s_b1 t c) 10) c 0) := rfl
  have d3 : s_b3 t c = up_F (s_b2 t c) 11 (upd (st_F (s_b2 t c) 11) c 0) := rfl
  have d4 : s_b4 t c = up_F (s_b3 t c) 14 (upd (st_F (s_b3 t c) 14) c 0) := rfl
  have d5 : s_b5 t c = up_G (s_b4 t c) 1 (vp_updL (st_G (s_b4 t c) 1) c 0) := rfl
  have d6 : s_b6 t c v = up_G (s_b5 t c) 0 (vp_updL (st_G (s_b5 t c) 0) c v) := rfl
  have d7 : s_b7 t c v = up_F (s_b6 t c v) 9 (upd (st_F (s_b6 t c v) 9) c 0) := rfl
  simp only [f_X_X0_become__4_N, b_X_X0_become__4_N_0, xc_1 hc, gb_b, if_neg z, b_X_X0_become__4_N_9, b_X_X0_become__4_N_57, b_X_X0_become__4_N_92, if_true, gb_l, ← d1, ← d2, ← d3, ← d4, ← d5, ← d6, ← d7, ni_cl (show c < 2 ^ 31 by omega), ni_n0 (show c < 2 ^ 31 by omega), Nat.not_le.mpr hc, or_self, not_false_eq_true, gb_gt, ni_up]
theorem x_tell (t : fw_S) (i : Nat) (hi : i < 32) (v : Int64) (h9 : st_J t 9 = (0 : Int64) ||| xb i) (h23 : st_F t 23 i = 1) (h6 : st_G t 6 i = v) : f_X_X7_tell__7_4 t = some (s_b7 t i v) := by
  obtain ⟨u, h1, h3⟩ := lp_n 32 3000 (by decide) (fun n t x => b_X_X7_tell__7_4_2 n t x) (fun t => some t) (fun c u => u = if c ≤ i then t else s_b7 t i v)
    (by
      intro n c w hc hw
      have j9 : st_J w 9 = (0 : Int64) ||| xb i := by
        rw [hw]; split
        · exact h9
        · exact h9
      have e := x_has w (st_J w 9) c
      rw [j9, xh_one i hi c hc] at e
      by_cases k : c = i
      · subst k
        rw [if_pos (Nat.le_refl c)] at hw
        subst hw
        rw [if_pos rfl] at e
        have z : ¬ (1 : Int32) = 0 := by decide
        refine ⟨s_b7 w c v, by rw [if_neg (by omega)], ?_⟩
        simp only [b_X_X7_tell__7_4_2, ni_c (N := 32) (c := 32) rfl hc (by decide), if_false, b_X_X7_tell__7_4_8, h9, e, gb_b, if_neg z, b_X_X7_tell__7_4_19, h23, h6, x_become w c hc v, gb_v, b_X_X7_tell__7_4_42, ni_cl (show c < 2 ^ 31 by omega), ni_n0 (show c < 2 ^ 31 by omega), Nat.not_le.mpr hc, or_self, not_false_eq_true, gb_gt, ni_up]
      · rw [if_neg k] at e
        refine ⟨w, ?_, ?_⟩
        · rw [hw]
          by_cases l : c ≤ i
          · rw [if_pos l, if_pos (by omega)]
          · rw [if_neg l, if_neg (by omega)]
        · simp only [b_X_X7_tell__7_4_2, ni_c (N := 32) (c := 32) rfl hc (by decide), if_false, b_X_X7_tell__7_4_8, j9, e, gb_b, if_true, b_X_X7_tell__7_4_42, ni_cl (show c < 2 ^ 31 by omega), ni_n0 (show c < 2 ^ 31 by omega), Nat.not_le.mpr hc, or_self, not_false_eq_true, gb_gt, ni_up])
    (by
      intro n w _
      simp only [b_X_X7_tell__7_4_2, b_X_X7_tell__7_4_48, ni_d (N := 32) (c := 32) rfl (show 32 ≤ 32 by omega) (by decide), if_true]) t (by rw [if_pos (by omega)])
  rw [if_neg (by omega)] at h1
  subst h1
  have un : f_X_X7_tell__7_4 t = b_X_X7_tell__7_4_2 3000 t 0 := by
    delta f_X_X7_tell__7_4 b_X_X7_tell__7_4_0
    generalize b_X_X7_tell__7_4_2 3000 = B
    rfl
  have h3 : b_X_X7_tell__7_4_2 3000 t 0 = some (s_b7 t i v) := h3
  exact un.trans h3
theorem cz : ((0 : Int32)).toNatClampNeg = 0 := by decide
theorem c32 : ((32 : Int32)).toNatClampNeg = 32 := by decide
theorem va32 {α : Type} (f g : Nat → α) (c : Nat) (hc : c < 32) : va_cpy f g ((0 : Int32)).toNatClampNeg ((0 : Int32)).toNatClampNeg ((32 : Int32)).toNatClampNeg c = f c := by
  rw [cz, c32]
  unfold va_cpy
  rw [if_pos ⟨by omega, by omega⟩]
  congr 1
  omega
theorem gc32 : (¬ ((0 : Int32)) < 0 ∧ ¬ ((0 : Int32)) < 0 ∧ ¬ ((32 : Int32)) < 0 ∧ ((0 : Int32)).toNatClampNeg + ((32 : Int32)).toNatClampNeg ≤ 32 ∧ ((0 : Int32)).toNatClampNeg + ((32 : Int32)).toNatClampNeg ≤ 32) = True := eq_true (by decide)
def s_ta_1 (t : fw_S) (c : Nat) : fw_S := up_F t 15 (va_cpy (st_F t 8) (st_F t 15) ((0 : Int32)).toNatClampNeg ((0 : Int32)).toNatClampNeg ((32 : Int32)).toNatClampNeg)
theorem gl_s_ta_1 {β : Type} (t : fw_S) (c : Nat) (k : fw_S → Option β) : fb_l (up_F t 15 (va_cpy (st_F t 8) (st_F t 15) ((0 : Int32)).toNatClampNeg ((0 : Int32)).toNatClampNeg ((32 : Int32)).toNatClampNeg)) k = k (s_ta_1 t c) := rfl
def s_ta_2 (t : fw_S) (c : Nat) : fw_S := up_G (s_ta_1 t c) 2 (va_cpy (st_G (s_ta_1 t c) 0) (st_G (s_ta_1 t c) 2) ((0 : Int32)).toNatClampNeg ((0 : Int32)).toNatClampNeg ((32 : Int32)).toNatClampNeg)
theorem gl_s_ta_2 {β : Type} (t : fw_S) (c : Nat) (k : fw_S → Option β) : fb_l (up_G (s_ta_1 t c) 2 (va_cpy (st_G (s_ta_1 t c) 0) (st_G (s_ta_1 t c) 2) ((0 : Int32)).toNatClampNeg ((0 : Int32)).toNatClampNeg ((32 : Int32)).toNatClampNeg)) k = k (s_ta_2 t c) := rfl
def s_ta_3 (t : fw_S) (c : Nat) : fw_S := up_F (s_ta_2 t c) 16 (va_cpy (st_F (s_ta_2 t c) 9) (st_F (s_ta_2 t c) 16) ((0 : Int32)).toNatClampNeg ((0 : Int32)).toNatClampNeg ((32 : Int32)).toNatClampNeg)
theorem gl_s_ta_3 {β : Type} (t : fw_S) (c : Nat) (k : fw_S → Option β) : fb_l (up_F (s_ta_2 t c) 16 (va_cpy (st_F (s_ta_2 t c) 9) (st_F (s_ta_2 t c) 16) ((0 : Int32)).toNatClampNeg ((0 : Int32)).toNatClampNeg ((32 : Int32)).toNatClampNeg)) k = k (s_ta_3 t c) := rfl
def s_ta_4 (t : fw_S) (c : Nat) : fw_S := up_F (s_ta_3 t c) 17 (va_cpy (st_F (s_ta_3 t c) 10) (st_F (s_ta_3 t c) 17) ((0 : Int32)).toNatClampNeg ((0 : Int32)).toNatClampNeg ((32 : Int32)).toNatClampNeg)
theorem gl_s_ta_4 {β : Type} (t : fw_S) (c : Nat) (k : fw_S → Option β) : fb_l (up_F (s_ta_3 t c) 17 (va_cpy (st_F (s_ta_3 t c) 10) (st_F (s_ta_3 t c) 17) ((0 : Int32)).toNatClampNeg ((0 : Int32)).toNatClampNeg ((32 : Int32)).toNatClampNeg)) k = k (s_ta_4 t c) := rfl
def s_ta_5 (t : fw_S) (c : Nat) : fw_S := up_F (s_ta_4 t c) 18 (va_cpy (st_F (s_ta_4 t c) 11) (st_F (s_ta_4 t c) 18) ((0 : Int32)).toNatClampNeg ((0 : Int32)).toNatClampNeg ((32 : Int32)).toNatClampNeg)
theorem gl_s_ta_5 {β : Type} (t : fw_S) (c : Nat) (k : fw_S → Option β) : fb_l (up_F (s_ta_4 t c) 18 (va_cpy (st_F (s_ta_4 t c) 11) (st_F (s_ta_4 t c) 18) ((0 : Int32)).toNatClampNeg ((0 : Int32)).toNatClampNeg ((32 : Int32)).toNatClampNeg)) k = k (s_ta_5 t c) := rfl
def s_ta_6 (t : fw_S) (c : Nat) : fw_S := up_F (s_ta_5 t c) 19 (va_cpy (st_F (s_ta_5 t c) 12) (st_F (s_ta_5 t c) 19) ((0 : Int32)).toNatClampNeg ((0 : Int32)).toNatClampNeg ((32 : Int32)).toNatClampNeg)
theorem gl_s_ta_6 {β : Type} (t : fw_S) (c : Nat) (k : fw_S → Option β) : fb_l (up_F (s_ta_5 t c) 19 (va_cpy (st_F (s_ta_5 t c) 12) (st_F (s_ta_5 t c) 19) ((0 : Int32)).toNatClampNeg ((0 : Int32)).toNatClampNeg ((32 : Int32)).toNatClampNeg)) k = k (s_ta_6 t c) := rfl
def s_ta_7 (t : fw_S) (c : Nat) : fw_S := up_F (s_ta_6 t c) 21 (va_cpy (st_F (s_ta_6 t c) 14) (st_F (s_ta_6 t c) 21) ((0 : Int32)).toNatClampNeg ((0 : Int32)).toNatClampNeg ((32 : Int32)).toNatClampNeg)
theorem gl_s_ta_7 {β : Type} (t : fw_S) (c : Nat) (k : fw_S → Option β) : fb_l (up_F (s_ta_6 t c) 21 (va_cpy (st_F (s_ta_6 t c) 14) (st_F (s_ta_6 t c) 21) ((0 : Int32)).toNatClampNeg ((0 : Int32)).toNatClampNeg ((32 : Int32)).toNatClampNeg)) k = k (s_ta_7 t c) := rfl
def s_ta (t : fw_S) (c : Nat) : fw_S := up_G (s_ta_7 t c) 3 (va_cpy (st_G (s_ta_7 t c) 1) (st_G (s_ta_7 t c) 3) ((0 : Int32)).toNatClampNeg ((0 : Int32)).toNatClampNeg ((32 : Int32)).toNatClampNeg)
theorem gl_s_ta {β : Type} (t : fw_S) (c : Nat) (k : fw_S → Option β) : fb_l (up_G (s_ta_7 t c) 3 (va_cpy (st_G (s_ta_7 t c) 1) (st_G (s_ta_7 t c) 3) ((0 : Int32)).toNatClampNeg ((0 : Int32)).toNatClampNeg ((32 : Int32)).toNatClampNeg)) k = k (s_ta t c) := rfl
theorem s_ta_ok (t : fw_S) (h : ∀ c, c < 32 → st_F t 14 c = 0) : ∃ u, f_X_X0_takeFrom__5_4 t = some u ∧ (∀ c, c < 32 → st_F u 15 c = st_F t 8 c ∧ st_F u 16 c = st_F t 9 c ∧ st_F u 21 c = st_F t 14 c) ∧ Ex [15, 16, 17, 18, 19, 20, 21] [2, 3] [] [6, 7] t u := by
  have k1 : f_X_X0_takeFrom__5_4 t = b_X_X0_takeFrom__5_4_122 3000 (s_ta t 0) 0 := by
    delta f_X_X0_takeFrom__5_4 b_X_X0_takeFrom__5_4_0
    generalize b_X_X0_takeFrom__5_4_122 3000 = B
    simp only [gc32, gb_gt, gl_s_ta_1 t 0, gl_s_ta_2 t 0, gl_s_ta_3 t 0, gl_s_ta_4 t 0, gl_s_ta_5 t 0, gl_s_ta_6 t 0, gl_s_ta_7 t 0, gl_s_ta t 0]
  have ht : Ex [15, 16, 17, 18, 19, 20, 21] [2, 3] [] [6, 7] t (s_ta t 0) := (ex_G (ex_F (ex_F (ex_F (ex_F (ex_F (ex_G (ex_F ex_r (by decide) _) (by decide) _) (by decide) _) (by decide) _) (by decide) _) (by decide) _) (by decide) _) (by decide) _)
  have hr : ∀ c, c < 32 → st_F (s_ta t 0) 14 c = 0 := by
    intro c hc
    rw [ht.1 14 (by decide)]; exact h c hc
  have hf : ∀ c, c < 32 → st_F (s_ta t 0) 15 c = st_F t 8 c ∧ st_F (s_ta t 0) 16 c = st_F t 9 c ∧ st_F (s_ta t 0) 21 c = st_F t 14 c := by
    intro c hc
    exact ⟨va32 _ _ c hc, va32 _ _ c hc, va32 _ _ c hc⟩
  generalize s_ta t 0 = w at k1 ht hr hf
  obtain ⟨u, h1, h3⟩ := lp_n 32 3000 (by decide) (fun n t x => b_X_X0_takeFrom__5_4_122 n t x) (fun t => b_X_X0_takeFrom__5_4_182 t) (fun _ u => u = w)
    (by
      intro n c y hc h1
      subst h1
      refine ⟨y, rfl, ?_⟩
      have z : ¬ (1 : Int32) = 0 := by decide
      have e : f_X_X0_readCount__4 y (nI c) = some (0, y) := by
        simp only [f_X_X0_readCount__4, b_X_X0_readCount__4_0, xc_1 hc, gb_b, if_neg z, b_X_X0_readCount__4_8, b_X_X0_readCount__4_18, hr c hc, ni_cl (show c < 2 ^ 31 by omega), ni_n0 (show c < 2 ^ 31 by omega), Nat.not_le.mpr hc, or_self, not_false_eq_true, gb_gt, ni_up]
      have z0 : (0 : Int32) ≤ 0 := by decide
      simp only [b_X_X0_takeFrom__5_4_122, b_X_X0_takeFrom__5_4_128, b_X_X0_takeFrom__5_4_176, e, gb_b, if_pos z0, ni_c (N := 32) (c := 32) rfl hc (by decide), if_false, ni_cl (show c < 2 ^ 31 by omega), ni_n0 (show c < 2 ^ 31 by omega), Nat.not_le.mpr hc, or_self, not_false_eq_true, gb_gt, ni_up])
    (by
      intro n y _
      simp only [b_X_X0_takeFrom__5_4_122, ni_d (N := 32) (c := 32) rfl (show 32 ≤ 32 by omega) (by decide), if_true]) w rfl
  subst h1
  have h3 : b_X_X0_takeFrom__5_4_122 3000 u 0 = b_X_X0_takeFrom__5_4_182 u := h3
  refine ⟨up_J (up_J u 6 (st_J u 4)) 7 (st_J (up_J u 6 (st_J u 4)) 5), (k1.trans h3).trans (by simp only [b_X_X0_takeFrom__5_4_182, gb_l]), hf, ex_J (ex_J ht (by decide) _) (by decide) _⟩
def s_tb_1 (t : fw_S) (c : Nat) : fw_S := up_F t 8 (va_cpy (st_F t 15) (st_F t 8) ((0 : Int32)).toNatClampNeg ((0 : Int32)).toNatClampNeg ((32 : Int32)).toNatClampNeg)
theorem gl_s_tb_1 {β : Type} (t : fw_S) (c : Nat) (k : fw_S → Option β) : fb_l (up_F t 8 (va_cpy (st_F t 15) (st_F t 8) ((0 : Int32)).toNatClampNeg ((0 : Int32)).toNatClampNeg ((32 : Int32)).toNatClampNeg)) k = k (s_tb_1 t c) := rfl
def s_tb_2 (t : fw_S) (c : Nat) : fw_S := up_G (s_tb_1 t c) 0 (va_cpy (st_G (s_tb_1 t c) 2) (st_G (s_tb_1 t c) 0) ((0 : Int32)).toNatClampNeg ((0 : Int32)).toNatClampNeg ((32 : Int32)).toNatClampNeg)
theorem gl_s_tb_2 {β : Type} (t : fw_S) (c : Nat) (k : fw_S → Option β) : fb_l (up_G (s_tb_1 t c) 0 (va_cpy (st_G (s_tb_1 t c) 2) (st_G (s_tb_1 t c) 0) ((0 : Int32)).toNatClampNeg ((0 : Int32)).toNatClampNeg ((32 : Int32)).toNatClampNeg)) k = k (s_tb_2 t c) := rfl
def s_tb_3 (t : fw_S) (c : Nat) : fw_S := up_F (s_tb_2 t c) 9 (va_cpy (st_F (s_tb_2 t c) 16) (st_F (s_tb_2 t c) 9) ((0 : Int32)).toNatClampNeg ((0 : Int32)).toNatClampNeg ((32 : Int32)).toNatClampNeg)
theorem gl_s_tb_3 {β : Type} (t : fw_S) (c : Nat) (k : fw_S → Option β) : fb_l (up_F (s_tb_2 t c) 9 (va_cpy (st_F (s_tb_2 t c) 16) (st_F (s_tb_2 t c) 9) ((0 : Int32)).toNatClampNeg ((0 : Int32)).toNatClampNeg ((32 : Int32)).toNatClampNeg)) k = k (s_tb_3 t c) := rfl
def s_tb_4 (t : fw_S) (c : Nat) : fw_S := up_F (s_tb_3 t c) 10 (va_cpy (st_F (s_tb_3 t c) 17) (st_F (s_tb_3 t c) 10) ((0 : Int32)).toNatClampNeg ((0 : Int32)).toNatClampNeg ((32 : Int32)).toNatClampNeg)
theorem gl_s_tb_4 {β : Type} (t : fw_S) (c : Nat) (k : fw_S → Option β) : fb_l (up_F (s_tb_3 t c) 10 (va_cpy (st_F (s_tb_3 t c) 17) (st_F (s_tb_3 t c) 10) ((0 : Int32)).toNatClampNeg ((0 : Int32)).toNatClampNeg ((32 : Int32)).toNatClampNeg)) k = k (s_tb_4 t c) := rfl
def s_tb_5 (t : fw_S) (c : Nat) : fw_S := up_F (s_tb_4 t c) 11 (va_cpy (st_F (s_tb_4 t c) 18) (st_F (s_tb_4 t c) 11) ((0 : Int32)).toNatClampNeg ((0 : Int32)).toNatClampNeg ((32 : Int32)).toNatClampNeg)
theorem gl_s_tb_5 {β : Type} (t : fw_S) (c : Nat) (k : fw_S → Option β) : fb_l (up_F (s_tb_4 t c) 11 (va_cpy (st_F (s_tb_4 t c) 18) (st_F (s_tb_4 t c) 11) ((0 : Int32)).toNatClampNeg ((0 : Int32)).toNatClampNeg ((32 : Int32)).toNatClampNeg)) k = k (s_tb_5 t c) := rfl
def s_tb_6 (t : fw_S) (c : Nat) : fw_S := up_F (s_tb_5 t c) 12 (va_cpy (st_F (s_tb_5 t c) 19) (st_F (s_tb_5 t c) 12) ((0 : Int32)).toNatClampNeg ((0 : Int32)).toNatClampNeg ((32 : Int32)).toNatClampNeg)
theorem gl_s_tb_6 {β : Type} (t : fw_S) (c : Nat) (k : fw_S → Option β) : fb_l (up_F (s_tb_5 t c) 12 (va_cpy (st_F (s_tb_5 t c) 19) (st_F (s_tb_5 t c) 12) ((0 : Int32)).toNatClampNeg ((0 : Int32)).toNatClampNeg ((32 : Int32)).toNatClampNeg)) k = k (s_tb_6 t c) := rfl
def s_tb_7 (t : fw_S) (c : Nat) : fw_S := up_F (s_tb_6 t c) 14 (va_cpy (st_F (s_tb_6 t c) 21) (st_F (s_tb_6 t c) 14) ((0 : Int32)).toNatClampNeg ((0 : Int32)).toNatClampNeg ((32 : Int32)).toNatClampNeg)
theorem gl_s_tb_7 {β : Type} (t : fw_S) (c : Nat) (k : fw_S → Option β) : fb_l (up_F (s_tb_6 t c) 14 (va_cpy (st_F (s_tb_6 t c) 21) (st_F (s_tb_6 t c) 14) ((0 : Int32)).toNatClampNeg ((0 : Int32)).toNatClampNeg ((32 : Int32)).toNatClampNeg)) k = k (s_tb_7 t c) := rfl
def s_tb (t : fw_S) (c : Nat) : fw_S := up_G (s_tb_7 t c) 1 (va_cpy (st_G (s_tb_7 t c) 3) (st_G (s_tb_7 t c) 1) ((0 : Int32)).toNatClampNeg ((0 : Int32)).toNatClampNeg ((32 : Int32)).toNatClampNeg)
theorem gl_s_tb {β : Type} (t : fw_S) (c : Nat) (k : fw_S → Option β) : fb_l (up_G (s_tb_7 t c) 1 (va_cpy (st_G (s_tb_7 t c) 3) (st_G (s_tb_7 t c) 1) ((0 : Int32)).toNatClampNeg ((0 : Int32)).toNatClampNeg ((32 : Int32)).toNatClampNeg)) k = k (s_tb t c) := rfl
theorem s_tb_ok (t : fw_S) (h : ∀ c, c < 32 → st_F t 21 c = 0) : ∃ u, f_X_X0_takeFrom__4_5 t = some u ∧ (∀ c, c < 32 → st_F u 8 c = st_F t 15 c ∧ st_F u 9 c = st_F t 16 c ∧ st_F u 14 c = st_F t 21 c) ∧ Ex [8, 9, 10, 11, 12, 13, 14] [0, 1] [] [4, 5] t u := by
  have k1 : f_X_X0_takeFrom__4_5 t = b_X_X0_takeFrom__4_5_122 3000 (s_tb t 0) 0 := by
    delta f_X_X0_takeFrom__4_5 b_X_X0_takeFrom__4_5_0
    generalize b_X_X0_takeFrom__4_5_122 3000 = B
    simp only [gc32, gb_gt, gl_s_tb_1 t 0, gl_s_tb_2 t 0, gl_s_tb_3 t 0, gl_s_tb_4 t 0, gl_s_tb_5 t 0, gl_s_tb_6 t 0, gl_s_tb_7 t 0, gl_s_tb t 0]
  have ht : Ex [8, 9, 10, 11, 12, 13, 14] [0, 1] [] [4, 5] t (s_tb t 0) := (ex_G (ex_F (ex_F (ex_F (ex_F (ex_F (ex_G (ex_F ex_r (by decide) _) (by decide) _) (by decide) _) (by decide) _) (by decide) _) (by decide) _) (by decide) _) (by decide) _)
  have hr : ∀ c, c < 32 → st_F (s_tb t 0) 21 c = 0 := by
    intro c hc
    rw [ht.1 21 (by decide)]; exact h c hc
  have hf : ∀ c, c < 32 → st_F (s_tb t 0) 8 c = st_F t 15 c ∧ st_F (s_tb t 0) 9 c = st_F t 16 c ∧ st_F (s_tb t 0) 14 c = st_F t 21 c := by
    intro c hc
    exact ⟨va32 _ _ c hc, va32 _ _ c hc, va32 _ _ c hc⟩
  generalize s_tb t 0 = w at k1 ht hr hf
  obtain ⟨u, h1, h3⟩ := lp_n 32 3000 (by decide) (fun n t x => b_X_X0_takeFrom__4_5_122 n t x) (fun t => b_X_X0_takeFrom__4_5_182 t) (fun _ u => u = w)
    (by
      intro n c y hc h1
      subst h1
      refine ⟨y, rfl, ?_⟩
      have z : ¬ (1 : Int32) = 0 := by decide
      have e : f_X_X0_readCount__5 y (nI c) = some (0, y) := by
        simp only [f_X_X0_readCount__5, b_X_X0_readCount__5_0, xc_1 hc, gb_b, if_neg z, b_X_X0_readCount__5_8, b_X_X0_readCount__5_18, hr c hc, ni_cl (show c < 2 ^ 31 by omega), ni_n0 (show c < 2 ^ 31 by omega), Nat.not_le.mpr hc, or_self, not_false_eq_true, gb_gt, ni_up]
      have z0 : (0 : Int32) ≤ 0 := by decide
      simp only [b_X_X0_takeFrom__4_5_122, b_X_X0_takeFrom__4_5_128, b_X_X0_takeFrom__4_5_176, e, gb_b, if_pos z0, ni_c (N := 32) (c := 32) rfl hc (by decide), if_false, ni_cl (show c < 2 ^ 31 by omega), ni_n0 (show c < 2 ^ 31 by omega), Nat.not_le.mpr hc, or_self, not_false_eq_true, gb_gt, ni_up])
    (by
      intro n y _
      simp only [b_X_X0_takeFrom__4_5_122, ni_d (N := 32) (c := 32) rfl (show 32 ≤ 32 by omega) (by decide), if_true]) w rfl
  subst h1
  have h3 : b_X_X0_takeFrom__4_5_122 3000 u 0 = b_X_X0_takeFrom__4_5_182 u := h3
  refine ⟨up_J (up_J u 4 (st_J u 6)) 5 (st_J (up_J u 4 (st_J u 6)) 7), (k1.trans h3).trans (by simp only [b_X_X0_takeFrom__4_5_182, gb_l]), hf, ex_J (ex_J ht (by decide) _) (by decide) _⟩
/-- where nothing stands, in the class -/
def x_none (t : fw_S) : Prop := ∀ c, c < 32 → st_F t 8 c = 0 ∧ st_F t 9 c = 3 ∧ st_F t 14 c = 0
theorem go_x1 (t t1 t2 t3 t6 : fw_S) (p : Int64) (e1 : f_X_X0_takeFrom__5_4 t = some t1) (e2 : f_X_X0_startWave__4 t1 = some t2) (e3 : f_X_X7_tell__7_4 t2 = some t3) (e4 : up_J t3 0 (st_J t3 9) = t6) (e5 : f_X_X0_plain__4 t6 = some (p, t6)) : f_X_X1_go__3_7 t = b_X_X1_go__3_7_57 3000 (up_I (up_J (up_J t6 1 p) 2 0) 8 0) 0 := by
  delta f_X_X1_go__3_7 b_X_X1_go__3_7_0
  generalize b_X_X1_go__3_7_57 3000 = B
  have c7 : f_X_X7_cells__7 t3 = some (st_J t3 9, t3) := rfl
  rw [e1, gb_v, e2, gb_v, e3, gb_v, c7, gb_b, gb_l, e4, e5, gb_b, gb_l, gb_l, gb_g (Or.inl rfl), gb_l]
theorem go_x2 (w : fw_S) : b_X_X1_go__3_7_92 w = b_X_X1_go__3_7_94 3000 w 0 := by
  delta b_X_X1_go__3_7_92
  generalize b_X_X1_go__3_7_94 3000 = B
  rfl
theorem go_x3 (w : fw_S) (h8 : st_I w 8 = 0) (h5 : st_J w 5 = 0) : b_X_X1_go__3_7_119 w = some (0, w) := by
  simp only [b_X_X1_go__3_7_119, h8, if_true, b_X_X1_go__3_7_133, x_ran w h5, gb_b]
theorem x_go (t : fw_S) (i : Nat) (hi : i < 32) (v : Int64) (ht : x_none t) (h9 : st_J t 9 = (0 : Int64) ||| xb i) (h23 : st_F t 23 i = 1) (h6 : st_G t 6 i = v) : ∃ u, f_X_X1_go__3_7 t = some (0, u) ∧ (∀ c, c < 32 → st_F u 9 c = if c = i then 0 else 3) ∧ st_G u 0 i = v ∧ (∀ c, c < 32 → st_F u 15 c = 0 ∧ st_F u 16 c = 3 ∧ st_F u 21 c = 0) := by
  obtain ⟨t1, e1, f1, x1⟩ := s_ta_ok t (fun c hc => (ht c hc).2.2)
  obtain ⟨t2, e2, x2, j5⟩ := x_start t1
  have e3 := x_tell t2 i hi v (by rw [x2.2.2.2 9 (by decide), x1.2.2.2 9 (by decide)]; exact h9) (by rw [x2.1 23 (by decide), x1.1 23 (by decide)]; exact h23) (by rw [x2.2.1 6 (by decide), x1.2.1 6 (by decide)]; exact h6)
  generalize e4 : up_J (s_b7 t2 i v) 0 (st_J (s_b7 t2 i v) 9) = t6
  have f6 : ∀ k, st_F t6 k = st_F (s_b7 t2 i v) k := by intro k; rw [← e4]; rfl
  have a8 : ∀ c, c < 32 → ¬ st_F t6 8 c = 2 := by
    intro c hc
    rw [f6]
    show ¬ upd (st_F t2 8) i 1 c = 2
    rw [up_s]
    by_cases e : c = i
    · rw [if_pos e]; decide
    · rw [if_neg e, x2.1 8 (by decide), x1.1 8 (by decide), (ht c hc).1]; decide
  have a9 : ∀ c, c < 32 → st_F t6 9 c = if c = i then 0 else 3 := by
    intro c hc
    rw [f6]
    show upd (st_F t2 9) i 0 c = _
    rw [up_s]
    by_cases e : c = i
    · rw [if_pos e, if_pos e]
    · rw [if_neg e, if_neg e, x2.1 9 (by decide), x1.1 9 (by decide), (ht c hc).2.1]
  have aG : st_G t6 0 i = v := by
    rw [← e4]
    show vp_updL (st_G t2 0) i v i = v
    rw [up_l, if_pos rfl]
  have ab : ∀ c, c < 32 → st_F t6 15 c = 0 ∧ st_F t6 16 c = 3 ∧ st_F t6 21 c = 0 := by
    intro c hc
    rw [f6, f6, f6]
    show st_F t2 15 c = 0 ∧ st_F t2 16 c = 3 ∧ st_F t2 21 c = 0
    rw [x2.1 15 (by decide), x2.1 16 (by decide), x2.1 21 (by decide), (f1 c hc).1, (f1 c hc).2.1, (f1 c hc).2.2]
    exact ht c hc
  have a5 : st_J t6 5 = 0 := by rw [← e4]; exact j5
  have g1 := go_x1 t t1 t2 _ t6 _ e1 e2 e3 e4 (x_plain t6 a8)
  generalize hw : up_I (up_J (up_J t6 1 (xp 32)) 2 0) 8 0 = w at g1
  have wF : ∀ k, st_F w k = st_F t6 k := by intro k; rw [← hw]; rfl
  have wG : ∀ k, st_G w k = st_G t6 k := by intro k; rw [← hw]; rfl
  have w1 : st_J w 1 = xp 32 := by rw [← hw]; rfl
  have w5 : st_J w 5 = 0 := by rw [← hw]; exact a5
  have w8 : st_I w 8 = 0 := by rw [← hw]; rfl
  have z : ¬ (1 : Int32) = 0 := by decide
  obtain ⟨u, hu, e5⟩ := lp_n 32 3000 (by decide) (fun n t x => b_X_X1_go__3_7_57 n t x) (fun t => b_X_X1_go__3_7_92 t) (fun _ u => Ex [] [] [] [4] w u)
    (by
      intro n c y hc hy
      obtain ⟨y', c1, c2⟩ := x_cmp y c hc
      refine ⟨y', ex_t hy c2, ?_⟩
      have e := x_has y (st_J y 1) c
      have y1 : st_J y 1 = xp 32 := by rw [hy.2.2.2 1 (by decide)]; exact w1
      rw [y1, xh_all c hc] at e
      simp only [b_X_X1_go__3_7_57, ni_c (N := 32) (c := 32) rfl hc (by decide), if_false, b_X_X1_go__3_7_63, y1, e, gb_b, if_neg z, b_X_X1_go__3_7_74, c1, gb_v, b_X_X1_go__3_7_86, ni_up])
    (by
      intro n y _
      simp only [b_X_X1_go__3_7_57, ni_d (N := 32) (c := 32) rfl (show 32 ≤ 32 by omega) (by decide), if_true]) w ex_r
  have u8 : st_I u 8 = 0 := by rw [hu.2.2.1 8 (by decide)]; exact w8
  have u1 : st_J u 1 = xp 32 := by rw [hu.2.2.2 1 (by decide)]; exact w1
  have u5 : st_J u 5 = 0 := by rw [hu.2.2.2 5 (by decide)]; exact w5
  obtain ⟨u', hu', e6⟩ := lp_n 32 3000 (by decide) (fun n t x => b_X_X1_go__3_7_94 n t x) (fun t => b_X_X1_go__3_7_119 t) (fun _ y => y = u)
    (by
      intro n c y hc hy
      subst hy
      refine ⟨y, rfl, ?_⟩
      simp only [b_X_X1_go__3_7_94, ni_c (N := 32) (c := 32) rfl hc (by decide), if_false, b_X_X1_go__3_7_100, if_pos u8, b_X_X1_go__3_7_107, x_settle y u1 c hc, gb_v, ni_up])
    (by
      intro n y _
      simp only [b_X_X1_go__3_7_94, ni_d (N := 32) (c := 32) rfl (show 32 ≤ 32 by omega) (by decide), if_true]) u rfl
  subst hu'
  have e5 : b_X_X1_go__3_7_57 3000 w 0 = b_X_X1_go__3_7_92 u' := e5
  have e6 : b_X_X1_go__3_7_94 3000 u' 0 = b_X_X1_go__3_7_119 u' := e6
  refine ⟨u', ((g1.trans e5).trans ((go_x2 u').trans e6)).trans (go_x3 u' u8 u5), ?_, ?_, ?_⟩
  · intro c hc
    rw [hu.1 9 (by decide), wF]; exact a9 c hc
  · rw [hu.2.1 0 (by decide), wG]; exact aG
  · intro c hc
    rw [hu.1 15 (by decide), hu.1 16 (by decide), hu.1 21 (by decide), wF, wF, wF]; exact ab c hc
/-- one supposition, and back -/
theorem x_sup (t : fw_S) (ht : x_none t) (i : Nat) (hi : i < 32) (v : Int64) : ∃ u, f_X_X10_supposed__0 t (nI i) v = some (0, u) ∧ (∀ c, c < 32 → st_F u 9 c = if c = i then 0 else 3) ∧ st_G u 0 i = v ∧ ∃ w, f_X_X1_back__3 u = some w ∧ x_none w := by
  obtain ⟨u, g1, g2, g3, g4⟩ := x_go (s_put (up_J t 9 0) i v) i hi v (fun c hc => ht c hc) rfl (by show upd (st_F t 23) i 1 i = 1; rw [up_s, if_pos rfl]) (by show vp_updL (st_G t 6) i v i = v; rw [up_l, if_pos rfl])
  obtain ⟨w, b1, b2, b3⟩ := s_tb_ok u (fun c hc => (g4 c hc).2.2)
  refine ⟨u, ?_, g2, g3, w, ?_, ?_⟩
  · simp only [f_X_X10_supposed__0, b_X_X10_supposed__0_0, f_X_X7_forget__7, b_X_X7_forget__7_0, gb_l, gb_v, x_put (up_J t 9 0) i hi v, g1, gb_b]
  · simp only [f_X_X1_back__3, b_X_X1_back__3_0, b1, gb_v]
  · intro c hc
    rw [(b2 c hc).1, (b2 c hc).2.1, (b2 c hc).2.2]; exact g4 c hc

