/-! WAY -/
theorem way_m158 (t : fw_S) (i j : Nat) (hi : i < 32) (z : Int32) (h1 : i = j → st_F t 42 i = nI i) (h2 : i ≠ j → st_F t 42 i = -1) : (b_M_X11_way__0_158 t (nI i) (nI j) z).map Prod.fst = some (if i = j then (if z = 0 then nI i else if z = -1 then 0 else -1) else -5) := by
  by_cases e : i = j
  · have h := h1 e
    subst e
    have hn : ¬ nI i = -1 := fun k => ni_n0 (show i < 2 ^ 31 by omega) (by rw [k]; decide)
    have e188 : ∀ n (z0 : Int32), b_M_X11_way__0_188 (n + 1) t (nI i) z 0 (nI i) z0 = b_M_X11_way__0_219 t z 0 z0 := by
      intro n z0; simp [b_M_X11_way__0_188]
    have e1 := e188 2999
    by_cases k : z = 0
    · subst k
      simp [b_M_X11_way__0_158, b_M_X11_way__0_171, b_M_X11_way__0_181, b_M_X11_way__0_186, b_M_X11_way__0_219, b_M_X11_way__0_224, b_M_X11_way__0_229, b_M_X11_way__0_231, fb_g, h, hn, e1, ni_cl (show i < 2 ^ 31 by omega), ni_n0 (show i < 2 ^ 31 by omega), hi]
    · by_cases k2 : z = -1
      · subst k2
        simp [b_M_X11_way__0_158, b_M_X11_way__0_171, b_M_X11_way__0_185, b_M_X11_way__0_186, b_M_X11_way__0_219, b_M_X11_way__0_224, b_M_X11_way__0_229, b_M_X11_way__0_231, fb_g, h, hn, e1, ni_cl (show i < 2 ^ 31 by omega), ni_n0 (show i < 2 ^ 31 by omega), hi]
      · simp [b_M_X11_way__0_158, b_M_X11_way__0_171, b_M_X11_way__0_185, b_M_X11_way__0_186, b_M_X11_way__0_219, b_M_X11_way__0_224, b_M_X11_way__0_229, b_M_X11_way__0_231, fb_g, h, hn, e1, k, k2, ni_cl (show i < 2 ^ 31 by omega), ni_n0 (show i < 2 ^ 31 by omega), hi]
  · have h := h2 e
    simp [b_M_X11_way__0_158, b_M_X11_way__0_168, fb_g, h, e, ni_cl (show i < 2 ^ 31 by omega), ni_n0 (show i < 2 ^ 31 by omega), hi]
theorem way_e (i j : Nat) (hi : i < 32) (hj : j < 32) (z : Int32) (hz : -1 ≤ z) (t : fw_S) : f_M_X11_way__0 t (nI i) (nI j) z = b_M_X11_way__0_21 t (nI i) (nI j) z := by
  generalize hb : b_M_X11_way__0_21 = B
  unfold f_M_X11_way__0 b_M_X11_way__0_0
  rw [mc_1 hi t, gb_b]
  unfold b_M_X11_way__0_7
  rw [if_neg (by decide), mc_1 hj t, gb_b]
  unfold b_M_X11_way__0_14
  rw [if_neg (by decide), if_pos hz, hb]
theorem way_e2 (x y z : Int32) (t : fw_S) : b_M_X11_way__0_21 t x y z = b_M_X11_way__0_24 3000 t x y z 0 := by
  delta b_M_X11_way__0_21
  generalize b_M_X11_way__0_24 3000 = B
  rfl
theorem m_way (i j : Nat) (hi : i < 32) (hj : j < 32) (z : Int32) (hz : -1 ≤ z) : (f_M_X11_way__0 M0 (nI i) (nI j) z).map Prod.fst = some (if i = j then (if z = 0 then nI i else if z = -1 then 0 else -1) else -5) := by
  obtain ⟨t, h1, h2, h3⟩ := way_m45 i j hi hj z
  rw [way_e i j hi hj z hz M0, way_e2, h3]
  exact way_m158 t i j hi z h1 h2
theorem x_cellAt (t : fw_S) (i : Nat) : f_X_X8_cellAt__11 t (nI i) 0 = some (nI i, t) := by
  have e : ∀ n, b_X_X8_cellAt__11_5 (n + 1) t 0 (nI i) 0 = some (nI i, t) := by
    intro n; simp [b_X_X8_cellAt__11_5, b_X_X8_cellAt__11_30]
  have e1 := e 2999
  simpa [f_X_X8_cellAt__11, b_X_X8_cellAt__11_0] using e1
theorem i_m1 {z : Int32} (hz : -1 ≤ z) (h : z < 0) : z = -1 := by
  apply Int32.toInt_inj.mp
  rw [Int32.le_iff_toInt_le] at hz
  rw [Int32.lt_iff_toInt_lt] at h
  have e : (0 : Int32).toInt = 0 := by decide
  have e' : (-1 : Int32).toInt = -1 := by decide
  omega
theorem x_way (i j : Nat) (hi : i < 32) (hj : j < 32) (z : Int32) (hz : -1 ≤ z) : (f_X_X10_way__0 X0 (nI i) (nI j) z).map Prod.fst = some (if i = j then (if z = 0 then nI i else if z = -1 then 0 else -1) else -5) := by
  obtain ⟨u, hu⟩ := some_of (x_trace_k i hi j hj)
  by_cases e : i = j
  · subst e
    simp only [if_pos] at hu ⊢
    by_cases h : z < 0
    · have := i_m1 hz h
      subst this
      simp [f_X_X10_way__0, b_X_X10_way__0_21, b_X_X10_way__0_75, b_X_X10_way__0_66, b_X_X10_way__0_62, b_X_X10_way__0_56, b_X_X10_way__0_53, b_X_X10_way__0_49, b_X_X10_way__0_46, b_X_X10_way__0_23, b_X_X10_way__0_16, b_X_X10_way__0_8, b_X_X10_way__0_0, f_X_X1_now__3, b_X_X1_now__3_0, xc_1 hi, gb_b, gb_v, fb_g, hu]
    · rcases iz_cases h with rfl | g
      · simp [f_X_X10_way__0, b_X_X10_way__0_21, b_X_X10_way__0_75, b_X_X10_way__0_66, b_X_X10_way__0_62, b_X_X10_way__0_56, b_X_X10_way__0_53, b_X_X10_way__0_49, b_X_X10_way__0_46, b_X_X10_way__0_23, b_X_X10_way__0_16, b_X_X10_way__0_8, b_X_X10_way__0_0, f_X_X1_now__3, b_X_X1_now__3_0, xc_1 hi, gb_b, gb_v, fb_g, hu, x_cellAt]
      · have n0 : ¬ z = 0 := fun k => g (by rw [k]; decide)
        have n1 : ¬ z = -1 := fun k => h (by rw [k]; decide)
        simp [f_X_X10_way__0, b_X_X10_way__0_21, b_X_X10_way__0_75, b_X_X10_way__0_66, b_X_X10_way__0_62, b_X_X10_way__0_56, b_X_X10_way__0_53, b_X_X10_way__0_49, b_X_X10_way__0_46, b_X_X10_way__0_23, b_X_X10_way__0_16, b_X_X10_way__0_8, b_X_X10_way__0_0, f_X_X1_now__3, b_X_X1_now__3_0, xc_1 hi, gb_b, gb_v, fb_g, hu, h, g, hz, n0, n1, i_ge h]
  · simp only [if_neg e] at hu ⊢
    simp [f_X_X10_way__0, b_X_X10_way__0_21, b_X_X10_way__0_75, b_X_X10_way__0_66, b_X_X10_way__0_62, b_X_X10_way__0_56, b_X_X10_way__0_53, b_X_X10_way__0_49, b_X_X10_way__0_46, b_X_X10_way__0_23, b_X_X10_way__0_16, b_X_X10_way__0_8, b_X_X10_way__0_0, f_X_X1_now__3, b_X_X1_now__3_0, xc_1 hi, xc_1 hj, gb_b, gb_v, fb_g, hu, hz]
theorem a_way (x y z : Int32) : ∃ r, (f_X_X10_way__0 X0 x y z).map Prod.fst = some r ∧ (f_M_X11_way__0 M0 x y z).map Prod.fst = some r := by
  rcases ci_cases x with ⟨i, hi, rfl⟩ | hc
  · rcases ci_cases y with ⟨j, hj, rfl⟩ | hd
    · by_cases hz : -1 ≤ z
      · exact ⟨_, x_way i j hi hj z hz, m_way i j hi hj z hz⟩
      · refine ⟨-1, ?_, ?_⟩
        · simp [f_X_X10_way__0, b_X_X10_way__0_21, b_X_X10_way__0_75, b_X_X10_way__0_66, b_X_X10_way__0_62, b_X_X10_way__0_56, b_X_X10_way__0_53, b_X_X10_way__0_49, b_X_X10_way__0_46, b_X_X10_way__0_23, b_X_X10_way__0_16, b_X_X10_way__0_8, b_X_X10_way__0_0, f_X_X1_now__3, b_X_X1_now__3_0, xc_1 hi, xc_1 hj, gb_b, gb_v, fb_g, hz]
        · simp [f_M_X11_way__0, b_M_X11_way__0_0, b_M_X11_way__0_7, b_M_X11_way__0_14, b_M_X11_way__0_19, mc_1 hi, mc_1 hj, gb_b, hz]
    · refine ⟨-1, ?_, ?_⟩
      · simp [f_X_X10_way__0, b_X_X10_way__0_21, b_X_X10_way__0_75, b_X_X10_way__0_66, b_X_X10_way__0_62, b_X_X10_way__0_56, b_X_X10_way__0_53, b_X_X10_way__0_49, b_X_X10_way__0_46, b_X_X10_way__0_23, b_X_X10_way__0_16, b_X_X10_way__0_8, b_X_X10_way__0_0, f_X_X1_now__3, b_X_X1_now__3_0, xc_1 hi, xc_0 hd, gb_b, gb_v, fb_g]
      · simp [f_M_X11_way__0, b_M_X11_way__0_0, b_M_X11_way__0_7, b_M_X11_way__0_19, mc_1 hi, mc_0 hd, gb_b]
  · refine ⟨-1, ?_, ?_⟩
    · simp [f_X_X10_way__0, b_X_X10_way__0_21, b_X_X10_way__0_75, b_X_X10_way__0_66, b_X_X10_way__0_62, b_X_X10_way__0_56, b_X_X10_way__0_53, b_X_X10_way__0_49, b_X_X10_way__0_46, b_X_X10_way__0_23, b_X_X10_way__0_16, b_X_X10_way__0_8, b_X_X10_way__0_0, f_X_X1_now__3, b_X_X1_now__3_0, xc_0 hc, gb_b, gb_v, fb_g]
    · simp [f_M_X11_way__0, b_M_X11_way__0_0, b_M_X11_way__0_19, mc_0 hc, gb_b]


