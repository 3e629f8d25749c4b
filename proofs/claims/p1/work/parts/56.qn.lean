/-! THE REFERENCE: ONE CELL TOLD -/
def s_tl_1 (t : fw_S) (c : Nat) (x2 : Int32) (y3 : Int64) (x5 : Int32) : fw_S := up_F t 13 (upd (st_F t 13) c (vp_nar .boolean ((1 : Int32))))
theorem gl_s_tl_1 {β : Type} (t : fw_S) (c : Nat) (x2 : Int32) (y3 : Int64) (x5 : Int32) (k : fw_S → Option β) : fb_l (up_F t 13 (upd (st_F t 13) c (vp_nar .boolean ((1 : Int32))))) k = k (s_tl_1 t c x2 y3 x5) := rfl
def s_tl_2 (t : fw_S) (c : Nat) (x2 : Int32) (y3 : Int64) (x5 : Int32) : fw_S := up_F (s_tl_1 t c x2 y3 x5) 15 (upd (st_F (s_tl_1 t c x2 y3 x5) 15) c x2)
theorem gl_s_tl_2 {β : Type} (t : fw_S) (c : Nat) (x2 : Int32) (y3 : Int64) (x5 : Int32) (k : fw_S → Option β) : fb_l (up_F (s_tl_1 t c x2 y3 x5) 15 (upd (st_F (s_tl_1 t c x2 y3 x5) 15) c x2)) k = k (s_tl_2 t c x2 y3 x5) := rfl
def s_tl_3 (t : fw_S) (c : Nat) (x2 : Int32) (y3 : Int64) (x5 : Int32) : fw_S := up_G (s_tl_2 t c x2 y3 x5) 1 (vp_updL (st_G (s_tl_2 t c x2 y3 x5) 1) c y3)
theorem gl_s_tl_3 {β : Type} (t : fw_S) (c : Nat) (x2 : Int32) (y3 : Int64) (x5 : Int32) (k : fw_S → Option β) : fb_l (up_G (s_tl_2 t c x2 y3 x5) 1 (vp_updL (st_G (s_tl_2 t c x2 y3 x5) 1) c y3)) k = k (s_tl_3 t c x2 y3 x5) := rfl
def s_tl (t : fw_S) (c : Nat) (x2 : Int32) (y3 : Int64) (x5 : Int32) : fw_S := up_F (s_tl_3 t c x2 y3 x5) 16 (upd (st_F (s_tl_3 t c x2 y3 x5) 16) c x5)
theorem gl_s_tl {β : Type} (t : fw_S) (c : Nat) (x2 : Int32) (y3 : Int64) (x5 : Int32) (k : fw_S → Option β) : fb_l (up_F (s_tl_3 t c x2 y3 x5) 16 (upd (st_F (s_tl_3 t c x2 y3 x5) 16) c x5)) k = k (s_tl t c x2 y3 x5) := rfl
theorem m_tl (t : fw_S) (i : Nat) (hi : i < 32) (k : Int32) (v : Int64) (r : Int32) : f_M_X11_tell__0 t (nI i) k v r = some (s_tl t i k v r) := by
  simp only [f_M_X11_tell__0, b_M_X11_tell__0_0, ni_cl (show i < 2 ^ 31 by omega), ni_n0 (show i < 2 ^ 31 by omega), Nat.not_le.mpr hi, or_self, not_false_eq_true, gb_gt, gl_s_tl_1 t i k v r, gl_s_tl_2 t i k v r, gl_s_tl_3 t i k v r, gl_s_tl t i k v r]
def s_g0_1 (t : fw_S) (c : Nat) : fw_S := up_F t 7 (upd (st_F t 7) c (vp_nar .boolean ((0 : Int32))))
theorem gl_s_g0_1 {β : Type} (t : fw_S) (c : Nat) (k : fw_S → Option β) : fb_l (up_F t 7 (upd (st_F t 7) c (vp_nar .boolean ((0 : Int32))))) k = k (s_g0_1 t c) := rfl
def s_g0_2 (t : fw_S) (c : Nat) : fw_S := up_F (s_g0_1 t c) 8 (upd (st_F (s_g0_1 t c) 8) c (vp_nar .boolean ((0 : Int32))))
theorem gl_s_g0_2 {β : Type} (t : fw_S) (c : Nat) (k : fw_S → Option β) : fb_l (up_F (s_g0_1 t c) 8 (upd (st_F (s_g0_1 t c) 8) c (vp_nar .boolean ((0 : Int32))))) k = k (s_g0_2 t c) := rfl
def s_g0_3 (t : fw_S) (c : Nat) : fw_S := up_F (s_g0_2 t c) 4 (upd (st_F (s_g0_2 t c) 4) c ((-5 : Int32)))
theorem gl_s_g0_3 {β : Type} (t : fw_S) (c : Nat) (k : fw_S → Option β) : fb_l (up_F (s_g0_2 t c) 4 (upd (st_F (s_g0_2 t c) 4) c ((-5 : Int32)))) k = k (s_g0_3 t c) := rfl
def s_g0 (t : fw_S) (c : Nat) : fw_S := up_F (s_g0_3 t c) 28 (upd (st_F (s_g0_3 t c) 28) c ((0 : Int32)))
theorem gl_s_g0 {β : Type} (t : fw_S) (c : Nat) (k : fw_S → Option β) : fb_l (up_F (s_g0_3 t c) 28 (upd (st_F (s_g0_3 t c) 28) c ((0 : Int32)))) k = k (s_g0 t c) := rfl
def s_g4_1 (t : fw_S) (c : Nat) : fw_S := up_F t 0 (upd (st_F t 0) c (st_F t 15 c))
theorem gl_s_g4_1 {β : Type} (t : fw_S) (c : Nat) (k : fw_S → Option β) : fb_l (up_F t 0 (upd (st_F t 0) c (st_F t 15 c))) k = k (s_g4_1 t c) := rfl
def s_g4_2 (t : fw_S) (c : Nat) : fw_S := up_F (s_g4_1 t c) 5 (upd (st_F (s_g4_1 t c) 5) c (st_F (s_g4_1 t c) 16 c))
theorem gl_s_g4_2 {β : Type} (t : fw_S) (c : Nat) (k : fw_S → Option β) : fb_l (up_F (s_g4_1 t c) 5 (upd (st_F (s_g4_1 t c) 5) c (st_F (s_g4_1 t c) 16 c))) k = k (s_g4_2 t c) := rfl
def s_g4_3 (t : fw_S) (c : Nat) : fw_S := up_F (s_g4_2 t c) 2 (upd (st_F (s_g4_2 t c) 2) c ((0 : Int32)))
theorem gl_s_g4_3 {β : Type} (t : fw_S) (c : Nat) (k : fw_S → Option β) : fb_l (up_F (s_g4_2 t c) 2 (upd (st_F (s_g4_2 t c) 2) c ((0 : Int32)))) k = k (s_g4_3 t c) := rfl
def s_g4 (t : fw_S) (c : Nat) : fw_S := up_F (s_g4_3 t c) 3 (upd (st_F (s_g4_3 t c) 3) c ((0 : Int32)))
theorem gl_s_g4 {β : Type} (t : fw_S) (c : Nat) (k : fw_S → Option β) : fb_l (up_F (s_g4_3 t c) 3 (upd (st_F (s_g4_3 t c) 3) c ((0 : Int32)))) k = k (s_g4 t c) := rfl
def s_g5 (t : fw_S) (c : Nat) : fw_S := up_G (s_g4 t c) 0 (vp_updL (st_G (s_g4 t c) 0) c (st_G (s_g4 t c) 1 c))
def s_g6 (t : fw_S) (c : Nat) : fw_S := up_F (s_g5 t c) 1 (upd (st_F (s_g5 t c) 1) c (0 : Int32))
def s_g7 (t : fw_S) (c : Nat) : fw_S := up_F (s_g6 t c) 7 (upd (st_F (s_g6 t c) 7) c (vp_nar .boolean 1))
def s_g8 (t : fw_S) (c : Nat) : fw_S := up_F (s_g7 t c) 28 (upd (st_F (s_g7 t c) 28) c (2 : Int32))
theorem g_91 (k : fw_S → Int32 → Option (Int32 × fw_S)) (t : fw_S) (c : Nat) (hc : c < 32) (h : st_F t 15 c = 1) : b_M_X11_goes__0_91 k t (nI c) = b_M_X11_goes__0_142 k (s_g4 t c) (nI c) := by
  have e : ¬ st_F (s_g4 t c) 0 c = 2 := by
    show ¬ upd (st_F t 0) c (st_F t 15 c) c = 2
    rw [up_s, if_pos rfl, h]; decide
  have e' : b_M_X11_goes__0_91 k t (nI c) = if st_F (s_g4 t c) 0 c = 2 then b_M_X11_goes__0_139 k (s_g4 t c) (nI c) else b_M_X11_goes__0_142 k (s_g4 t c) (nI c) := by
    simp only [b_M_X11_goes__0_91, ni_cl (show c < 2 ^ 31 by omega), ni_n0 (show c < 2 ^ 31 by omega), Nat.not_le.mpr hc, or_self, not_false_eq_true, gb_gt, ni_up, gl_s_g4_1, gl_s_g4_2, gl_s_g4_3, gl_s_g4]
  rw [e', if_neg e]
theorem g_142 (k : fw_S → Int32 → Option (Int32 × fw_S)) (t : fw_S) (c : Nat) (hc : c < 32) (h : st_F t 15 c = 1) : b_M_X11_goes__0_142 k (s_g4 t c) (nI c) = b_M_X11_goes__0_188 k (s_g5 t c) (nI c) (nI c) 0 := by
  have e : st_F (s_g4 t c) 0 c = 1 := by
    show upd (st_F t 0) c (st_F t 15 c) c = 1
    rw [up_s, if_pos rfl, h]
  unfold s_g5
  generalize s_g4 t c = w at e
  have e2 : st_F (up_G w 0 (vp_updL (st_G w 0) c (st_G w 1 c))) 0 c = 1 := e
  simp only [b_M_X11_goes__0_142, b_M_X11_goes__0_157, b_M_X11_goes__0_167, b_M_X11_goes__0_183, e, e2, if_true, ni_cl (show c < 2 ^ 31 by omega), ni_n0 (show c < 2 ^ 31 by omega), Nat.not_le.mpr hc, or_self, not_false_eq_true, gb_gt, ni_up, gb_l]
theorem g_188 (k : fw_S → Int32 → Option (Int32 × fw_S)) (t : fw_S) (c : Nat) (hc : c < 32) (h : st_F t 20 c = 3) : b_M_X11_goes__0_188 k (s_g5 t c) (nI c) (nI c) 0 = k (s_g8 t c) (nI (c + 1)) := by
  have e : ¬ st_F (s_g6 t c) 1 c = st_F (s_g6 t c) 20 c := by
    have e1 : st_F (s_g6 t c) 1 c = 0 := by
      show upd (st_F (s_g5 t c) 1) c 0 c = 0
      rw [up_s, if_pos rfl]
    have e2 : st_F (s_g6 t c) 20 c = 3 := h
    rw [e1, e2]; decide
  have e3 : f_M_X11_isOther__0 (s_g6 t c) (nI c) = some (1, s_g6 t c) := by
    generalize s_g6 t c = w at e
    simp only [f_M_X11_isOther__0, b_M_X11_isOther__0_0, b_M_X11_isOther__0_40, b_M_X11_isOther__0_45, e, if_false, fb_g, if_true, or_true, ni_cl (show c < 2 ^ 31 by omega), ni_n0 (show c < 2 ^ 31 by omega), Nat.not_le.mpr hc, or_self, not_false_eq_true, gb_gt, ni_up]
  have d6 : s_g6 t c = up_F (s_g5 t c) 1 (upd (st_F (s_g5 t c) 1) c (0 : Int32)) := rfl
  have d7 : s_g7 t c = up_F (s_g6 t c) 7 (upd (st_F (s_g6 t c) 7) c (vp_nar .boolean 1)) := rfl
  have d8 : s_g8 t c = up_F (s_g7 t c) 28 (upd (st_F (s_g7 t c) 28) c (2 : Int32)) := rfl
  simp only [b_M_X11_goes__0_188, b_M_X11_goes__0_207, ni_cl (show c < 2 ^ 31 by omega), ni_n0 (show c < 2 ^ 31 by omega), Nat.not_le.mpr hc, or_self, not_false_eq_true, gb_gt, ni_up, gb_l, ← d6, e3, gb_b, ← d7, ← d8]
theorem g_79 (k : fw_S → Int32 → Option (Int32 × fw_S)) (t : fw_S) (c : Nat) (hc : c < 32) (h0 : ¬ st_F t 13 c = 0) (h : st_F t 15 c = 1) (h2 : st_F t 20 c = 3) : b_M_X11_goes__0_79 k t (nI c) = k (s_g8 t c) (nI (c + 1)) := by
  rw [← g_188 k t c hc h2, ← g_142 k t c hc h, ← g_91 k t c hc h]
  simp only [b_M_X11_goes__0_79, h0, if_false, ni_cl (show c < 2 ^ 31 by omega), ni_n0 (show c < 2 ^ 31 by omega), Nat.not_le.mpr hc, or_self, not_false_eq_true, gb_gt, ni_up]
theorem g_79n (k : fw_S → Int32 → Option (Int32 × fw_S)) (t : fw_S) (c : Nat) (hc : c < 32) (h0 : st_F t 13 c = 0) : b_M_X11_goes__0_79 k t (nI c) = k t (nI (c + 1)) := by
  simp only [b_M_X11_goes__0_79, b_M_X11_goes__0_88, b_M_X11_goes__0_207, h0, if_true, ni_cl (show c < 2 ^ 31 by omega), ni_n0 (show c < 2 ^ 31 by omega), Nat.not_le.mpr hc, or_self, not_false_eq_true, gb_gt, ni_up]
/-- the third loop: nothing is worked out -/
def s_s1 (t : fw_S) (c : Nat) : fw_S := up_F t 28 (upd (st_F t 28) c 1)
def s_s2 (t : fw_S) (c : Nat) : fw_S := up_F (s_s1 t c) 28 (upd (st_F (s_s1 t c) 28) c 2)
theorem m_st (t : fw_S) (c : Nat) (hc : c < 32) (h1 : st_I t 1 = 0) (h0 : ¬ st_F t 0 c = 2) (h28 : ¬ st_F t 28 c = 1) : ∃ u, f_M_X11_settle__0 t (nI c) = some u ∧ (u = t ∨ u = s_s2 t c) := by
  by_cases g : st_F t 28 c = 2
  · exact ⟨t, by simp only [f_M_X11_settle__0, b_M_X11_settle__0_0, b_M_X11_settle__0_7, b_M_X11_settle__0_17, h1, g, if_true, ni_cl (show c < 2 ^ 31 by omega), ni_n0 (show c < 2 ^ 31 by omega), Nat.not_le.mpr hc, or_self, not_false_eq_true, gb_gt, ni_up], Or.inl rfl⟩
  · have e : ¬ st_F (s_s1 t c) 0 c = 2 := h0
    have d1 : s_s1 t c = up_F t 28 (upd (st_F t 28) c 1) := rfl
    have d2 : s_s2 t c = up_F (s_s1 t c) 28 (upd (st_F (s_s1 t c) 28) c 2) := rfl
    refine ⟨_, ?_, Or.inr rfl⟩
    simp only [f_M_X11_settle__0, b_M_X11_settle__0_0, b_M_X11_settle__0_7, b_M_X11_settle__0_18, b_M_X11_settle__0_34, b_M_X11_settle__0_149, h1, g, h28, if_true, if_false, ni_cl (show c < 2 ^ 31 by omega), ni_n0 (show c < 2 ^ 31 by omega), Nat.not_le.mpr hc, or_self, not_false_eq_true, gb_gt, ni_up, gb_l, ← d1, e, ← d2]
theorem go_k1 (t t1 t2 : fw_S) (p1 : f_M_X11_keepsAhead__0 t = some t1) (sw : f_M_X11_swaps__0 t1 = some t1) (ht2 : up_I (up_I (up_I (up_I t1 1 0) 4 0) 2 0) 3 0 = t2) : f_M_X11_goes__0 t = b_M_X11_goes__0_30 3000 t2 0 := by
  delta f_M_X11_goes__0 b_M_X11_goes__0_0
  generalize b_M_X11_goes__0_30 3000 = B
  rw [p1, gb_v, sw, gb_v, gb_g (Or.inl rfl), gb_l, gb_l, gb_l, gb_l, ht2]
theorem go_k2 (w : fw_S) : b_M_X11_goes__0_71 w = b_M_X11_goes__0_73 3000 w 0 := by
  delta b_M_X11_goes__0_71
  generalize b_M_X11_goes__0_73 3000 = B
  rfl
theorem go_k3 (w : fw_S) : b_M_X11_goes__0_213 w = b_M_X11_goes__0_215 3000 w 0 := by
  delta b_M_X11_goes__0_213
  generalize b_M_X11_goes__0_215 3000 = B
  rfl
theorem go_k4 (t5 : fw_S) (j1 : st_I t5 1 = 0) : b_M_X11_goes__0_232 t5 = some (1, t5) := by
  simp only [b_M_X11_goes__0_232, b_M_X11_goes__0_239, b_M_X11_goes__0_244, j1, if_true, fb_g, or_true]
/-- a wave over told cells, one of them -/
theorem m_go (t : fw_S) (i : Nat) (hi : i < 32) (v : Int64) (a13 : ∀ c, c < 32 → st_F t 13 c = if c = i then 1 else 0) (a15 : st_F t 15 i = 1) (aG : st_G t 1 i = v) (a0 : ∀ c, c < 32 → st_F t 0 c = 0) (a1 : ∀ c, c < 32 → st_F t 1 c = 3) : ∃ u, f_M_X11_goes__0 t = some (1, u) ∧ (∀ c, c < 32 → st_F u 1 c = if c = i then 0 else 3) ∧ st_G u 0 i = v ∧ st_I u 3 = 0 ∧ (∀ c, c < 32 → st_F u 19 c = 0 ∧ st_F u 20 c = 3) ∧ st_F u 13 = st_F t 13 ∧ st_F u 15 = st_F t 15 := by
  obtain ⟨t1, p1, p2, p3⟩ := m_ka t
  have q13 : ∀ c, c < 32 → st_F t1 13 c = if c = i then 1 else 0 := by rw [p3.1 13 (by decide)]; exact a13
  have q15 : st_F t1 15 i = 1 := by rw [p3.1 15 (by decide)]; exact a15
  have sw : f_M_X11_swaps__0 t1 = some t1 := m_sw t1 (by
    intro c hc h
    rw [q13 c hc] at h
    by_cases e : c = i
    · subst e; rw [q15]; decide
    · rw [if_neg e] at h; exact absurd rfl h)
  -- the state as the loops begin
  generalize ht2 : up_I (up_I (up_I (up_I t1 1 0) 4 0) 2 0) 3 0 = t2
  have x2 : Ex [19, 20, 21, 22, 23, 24, 25, 26, 27] [3] [1, 4, 2, 3] [] t t2 := by
    rw [← ht2]
    exact ex_I (ex_I (ex_I (ex_I (ex_w p3 (fun _ h => h) (fun _ h => h) (fun _ h => absurd h (by simp)) (fun _ h => h)) (by decide) _) (by decide) _) (by decide) _) (by decide) _
  have f2 : ∀ k, st_F t2 k = st_F t1 k := by intro k; rw [← ht2]; rfl
  have i1 : st_I t2 1 = 0 := by rw [← ht2]; rfl
  have i3 : st_I t2 3 = 0 := by rw [← ht2]; rfl
  -- first loop
  obtain ⟨t3, ⟨y1, y2⟩, e3⟩ := lp_n 32 3000 (by decide) (fun n t x => b_M_X11_goes__0_30 n t x) (fun t => b_M_X11_goes__0_71 t) (fun c u => (∀ j, j < c → st_F u 28 j = 0) ∧ Ex [7, 8, 4, 28] [] [] [] t2 u)
    (by
      intro n c w hc ⟨h1, h2⟩
      refine ⟨s_g0 w c, ⟨lt_cons ?_ ?_, ex_F (ex_F (ex_F (ex_F h2 (by decide) _) (by decide) _) (by decide) _) (by decide) _⟩, ?_⟩
      · intro j hj
        have := h1 j hj
        show upd (st_F w 28) c 0 j = 0
        rw [up_s, if_neg (by omega)]; exact this
      · show upd (st_F w 28) c 0 c = 0
        rw [up_s, if_pos rfl]
      · simp only [b_M_X11_goes__0_30, b_M_X11_goes__0_36, ni_c (N := 32) (c := 32) rfl hc (by decide), if_false, ni_cl (show c < 2 ^ 31 by omega), ni_n0 (show c < 2 ^ 31 by omega), Nat.not_le.mpr hc, or_self, not_false_eq_true, gb_gt, ni_up, gl_s_g0_1, gl_s_g0_2, gl_s_g0_3, gl_s_g0])
    (by
      intro n w _
      simp only [b_M_X11_goes__0_30, ni_d (N := 32) (c := 32) rfl (show 32 ≤ 32 by omega) (by decide), if_true]) t2 ⟨fun j hj => absurd hj (by omega), ex_r⟩
  have r13 : ∀ c, c < 32 → st_F t3 13 c = if c = i then 1 else 0 := by rw [y2.1 13 (by decide), f2]; exact q13
  have r15 : st_F t3 15 i = 1 := by rw [y2.1 15 (by decide), f2]; exact q15
  have r0 : ∀ c, c < 32 → st_F t3 0 c = 0 := by rw [y2.1 0 (by decide), f2, p3.1 0 (by decide)]; exact a0
  have r1 : ∀ c, c < 32 → st_F t3 1 c = 3 := by rw [y2.1 1 (by decide), f2, p3.1 1 (by decide)]; exact a1
  have r19 : ∀ c, c < 32 → st_F t3 19 c = 0 ∧ st_F t3 20 c = 3 := by
    intro c hc
    rw [y2.1 19 (by decide), y2.1 20 (by decide), f2, f2, (p2 c hc).1, (p2 c hc).2]
    exact ⟨a0 c hc, a1 c hc⟩
  have rG : st_G t3 1 i = v := by rw [y2.2.1 1 (by decide), x2.2.1 1 (by decide)]; exact aG
  have rI1 : st_I t3 1 = 0 := by rw [y2.2.2.1 1 (by decide)]; exact i1
  have rI3 : st_I t3 3 = 0 := by rw [y2.2.2.1 3 (by decide)]; exact i3
  -- second loop
  obtain ⟨t4, hI, e4⟩ := lp_n 32 3000 (by decide) (fun n t x => b_M_X11_goes__0_73 n t x) (fun t => b_M_X11_goes__0_213 t) (fun c u => u = if c ≤ i then t3 else s_g8 t3 i)
    (by
      intro n c w hc hw
      by_cases e : c = i
      · subst e
        rw [if_pos (Nat.le_refl c)] at hw
        subst hw
        refine ⟨s_g8 w c, by rw [if_neg (by omega)], ?_⟩
        have g := g_79 (b_M_X11_goes__0_73 n) w c hc (by rw [r13 c hc, if_pos rfl]; decide) r15 (r19 c hc).2
        rw [← g]
        simp only [b_M_X11_goes__0_73, ni_c (N := 32) (c := 32) rfl hc (by decide), if_false]
      · refine ⟨w, ?_, ?_⟩
        · rw [hw]
          by_cases l : c ≤ i
          · rw [if_pos l, if_pos (by omega)]
          · rw [if_neg l, if_neg (by omega)]
        · have g := g_79n (b_M_X11_goes__0_73 n) w c hc (by
            rw [hw]
            by_cases l : c ≤ i
            · rw [if_pos l, r13 c hc, if_neg e]
            · rw [if_neg l]
              show st_F t3 13 c = 0
              rw [r13 c hc, if_neg e])
          rw [← g]
          simp only [b_M_X11_goes__0_73, ni_c (N := 32) (c := 32) rfl hc (by decide), if_false])
    (by
      intro n w _
      simp only [b_M_X11_goes__0_73, ni_d (N := 32) (c := 32) rfl (show 32 ≤ 32 by omega) (by decide), if_true]) t3 (by rw [if_pos (by omega)])
  rw [if_neg (by omega)] at hI
  have z0 : ∀ c, c < 32 → ¬ st_F t4 0 c = 2 := by
    intro c hc
    rw [hI]
    show ¬ upd (st_F t3 0) i (st_F t3 15 i) c = 2
    rw [up_s, r15]
    by_cases e : c = i
    · rw [if_pos e]; decide
    · rw [if_neg e, r0 c hc]; decide
  have z1 : ∀ c, c < 32 → st_F t4 1 c = if c = i then 0 else 3 := by
    intro c hc
    rw [hI]
    show upd (st_F t3 1) i 0 c = _
    rw [up_s]
    by_cases e : c = i
    · rw [if_pos e, if_pos e]
    · rw [if_neg e, if_neg e]; exact r1 c hc
  have z28 : ∀ c, c < 32 → ¬ st_F t4 28 c = 1 := by
    intro c hc
    rw [hI]
    show ¬ upd (st_F t3 28) i 2 c = 1
    rw [up_s]
    by_cases e : c = i
    · rw [if_pos e]; decide
    · rw [if_neg e, y1 c hc]; decide
  have zG : st_G t4 0 i = v := by
    rw [hI]
    show vp_updL (st_G t3 0) i (st_G t3 1 i) i = v
    rw [up_l, if_pos rfl]; exact rG
  have zI1 : st_I t4 1 = 0 := by rw [hI]; exact rI1
  have zI3 : st_I t4 3 = 0 := by rw [hI]; exact rI3
  have z19 : ∀ c, c < 32 → st_F t4 19 c = 0 ∧ st_F t4 20 c = 3 := by intro c hc; rw [hI]; exact r19 c hc
  have z13 : st_F t4 13 = st_F t 13 := by rw [hI]; show st_F t3 13 = _; rw [y2.1 13 (by decide), f2, p3.1 13 (by decide)]
  have z15 : st_F t4 15 = st_F t 15 := by rw [hI]; show st_F t3 15 = _; rw [y2.1 15 (by decide), f2, p3.1 15 (by decide)]
  -- third loop
  obtain ⟨t5, ⟨w28, wE⟩, e5⟩ := lp_n 32 3000 (by decide) (fun n t x => b_M_X11_goes__0_215 n t x) (fun t => b_M_X11_goes__0_232 t) (fun _ u => (∀ c, c < 32 → ¬ st_F u 28 c = 1) ∧ Ex [28] [] [] [] t4 u)
    (by
      intro n c w hc ⟨h1, h2⟩
      obtain ⟨u, g1, g2⟩ := m_st w c hc (by rw [h2.2.2.1 1 (by decide)]; exact zI1) (by rw [h2.1 0 (by decide)]; exact z0 c hc) (h1 c hc)
      refine ⟨u, ?_, ?_⟩
      · rcases g2 with g2 | g2
        · rw [g2]; exact ⟨h1, h2⟩
        · rw [g2]
          refine ⟨?_, ex_F (ex_F h2 (by decide) _) (by decide) _⟩
          intro j hj
          show ¬ upd (upd (st_F w 28) c 1) c 2 j = 1
          rw [up_s]
          by_cases e : j = c
          · rw [if_pos e]; decide
          · rw [if_neg e, up_s, if_neg e]; exact h1 j hj
      · simp only [b_M_X11_goes__0_215, b_M_X11_goes__0_221, ni_c (N := 32) (c := 32) rfl hc (by decide), if_false, g1, gb_v, ni_up])
    (by
      intro n w _
      simp only [b_M_X11_goes__0_215, ni_d (N := 32) (c := 32) rfl (show 32 ≤ 32 by omega) (by decide), if_true]) t4 ⟨z28, ex_r⟩
  refine ⟨t5, ?_, ?_, ?_, ?_, ?_, ?_, ?_⟩
  · have j1 : st_I t5 1 = 0 := by rw [wE.2.2.1 1 (by decide)]; exact zI1
    have e3 : b_M_X11_goes__0_30 3000 t2 0 = b_M_X11_goes__0_71 t3 := e3
    have e4 : b_M_X11_goes__0_73 3000 t3 0 = b_M_X11_goes__0_213 t4 := e4
    have e5 : b_M_X11_goes__0_215 3000 t4 0 = b_M_X11_goes__0_232 t5 := e5
    exact ((((go_k1 t t1 t2 p1 sw ht2).trans e3).trans ((go_k2 t3).trans e4)).trans ((go_k3 t4).trans e5)).trans (go_k4 t5 j1)
  · rw [wE.1 1 (by decide)]; exact z1
  · rw [wE.2.1 0 (by decide)]; exact zG
  · rw [wE.2.2.1 3 (by decide)]; exact zI3
  · rw [wE.1 19 (by decide), wE.1 20 (by decide)]; exact z19
  · rw [wE.1 13 (by decide)]; exact z13
  · rw [wE.1 15 (by decide)]; exact z15
/-- where nothing stands -/
def m_none (t : fw_S) : Prop := ∀ c, c < 32 → st_F t 0 c = 0 ∧ st_F t 1 c = 3
theorem m_as (t : fw_S) (ht : m_none t) (i j : Nat) (hi : i < 32) (hj : j < 32) (v : Int64) : ∃ u, f_M_X11_asIf__0 t (nI i) v (nI j) = some (0, u) ∧ m_none u ∧ st_I u 21 = (if j = i then 0 else 3) ∧ (j = i → st_J u 0 = v) := by
  obtain ⟨t1, p1, p2, p3⟩ := m_tn t
  have p4 := m_tl t1 i hi 1 v 0
  obtain ⟨t3, g1, g2, g3, g4, g5, g6, g7⟩ := m_go (s_tl t1 i 1 v 0) i hi v
    (by
      intro c hc
      show upd (st_F t1 13) i (vp_nar .boolean 1) c = _
      rw [up_s]
      by_cases e : c = i
      · rw [if_pos e, if_pos e]; rfl
      · rw [if_neg e, if_neg e]; exact p2 c hc)
    (by show upd (st_F t1 15) i 1 i = 1; rw [up_s, if_pos rfl])
    (by show vp_updL (st_G t1 1) i v i = v; rw [up_l, if_pos rfl])
    (by intro c hc; show st_F t1 0 c = 0; rw [p3.1 0 (by decide)]; exact (ht c hc).1)
    (by intro c hc; show st_F t1 1 c = 3; rw [p3.1 1 (by decide)]; exact (ht c hc).2)
  generalize hw : up_I (up_J t3 0 (st_G t3 0 j)) 21 (st_F (up_J t3 0 (st_G t3 0 j)) 1 j) = w
  have wF : ∀ k, st_F w k = st_F t3 k := by intro k; rw [← hw]; rfl
  have wI3 : st_I w 3 = 0 := by rw [← hw]; exact g4
  have wI21 : st_I w 21 = st_F t3 1 j := by rw [← hw]; rfl
  have wJ : st_J w 0 = st_G t3 0 j := by rw [← hw]; rfl
  have sw : f_M_X11_swaps__0 w = some w := m_sw w (by
    intro c hc h
    rw [wF, g6] at h
    rw [wF, g7]
    have h : ¬ upd (st_F t1 13) i (vp_nar .boolean 1) c = 0 := h
    by_cases e : c = i
    · subst e
      show ¬ upd (st_F t1 15) c 1 c = 2
      rw [up_s, if_pos rfl]; decide
    · rw [up_s, if_neg e] at h; exact absurd (p2 c hc) h)
  obtain ⟨u, l1, l2, l3⟩ := m_lb w
  have un : f_M_X11_undoes__0 w = some u := by
    simp only [f_M_X11_undoes__0, b_M_X11_undoes__0_0, sw, l1, gb_v]
  refine ⟨u, ?_, ?_, ?_, ?_⟩
  · simp only [f_M_X11_asIf__0, b_M_X11_asIf__0_0, p1, p4, g1, gb_v, gb_b, gb_l, ni_cl (show j < 2 ^ 31 by omega), ni_n0 (show j < 2 ^ 31 by omega), Nat.not_le.mpr hj, or_self, not_false_eq_true, gb_gt, hw, un]
    simp only [show ¬ (1 : Int32) = 0 from by decide, if_false, b_M_X11_asIf__0_55, b_M_X11_asIf__0_62, wI3]
  · intro c hc
    rw [(l2 c hc).1, (l2 c hc).2, wF, wF]
    exact g5 c hc
  · rw [l3.2.2.1 21 (by decide), wI21, g2 j hj]
  · intro e
    subst e
    rw [l3.2.2.2 0 (by decide), wJ]
    exact g3

