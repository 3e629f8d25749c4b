/-! SIMPLE ANSWERS -/
theorem mc_1 {i : Nat} (hi : i < 32) (t : fw_S) : f_M_X11_isCell t (nI i) = some (1, t) := by
  have h1 : ¬ nI i < 0 := ni_n0 (by omega)
  have h2 : ¬ (31 : Int32) < nI i := by rw [show (31 : Int32) = nI 31 from rfl]; exact nI_nlt (by omega) (by decide)
  simp [f_M_X11_isCell, b_M_X11_isCell_0, f_M_X11_isIn, b_M_X11_isIn_15, b_M_X11_isIn_14, b_M_X11_isIn_10, b_M_X11_isIn_5, b_M_X11_isIn_0, h1, h2, gb_b, fb_g]
theorem mc_0 {x : Int32} (h : x < 0 ∨ nI 32 ≤ x) (t : fw_S) : f_M_X11_isCell t x = some (0, t) := by
  by_cases h1 : x < 0
  · simp [f_M_X11_isCell, b_M_X11_isCell_0, f_M_X11_isIn, b_M_X11_isIn_15, b_M_X11_isIn_14, b_M_X11_isIn_10, b_M_X11_isIn_5, b_M_X11_isIn_0, h1, gb_b, fb_g]
  · have h2 : (31 : Int32) < x := by
      rcases h with h | h
      · exact absurd h h1
      · rw [Int32.lt_iff_toInt_lt]
        rw [Int32.le_iff_toInt_le, nI_toInt (by decide)] at h
        have : (31 : Int32).toInt = 31 := by decide
        omega
    simp [f_M_X11_isCell, b_M_X11_isCell_0, f_M_X11_isIn, b_M_X11_isIn_15, b_M_X11_isIn_14, b_M_X11_isIn_10, b_M_X11_isIn_5, b_M_X11_isIn_0, h1, h2, gb_b, fb_g]
theorem xc_1 {i : Nat} (hi : i < 32) (t : fw_S) : f_X_X10_isCell t (nI i).toInt64 = some (1, t) := by
  have h0 : (nI i).toInt64 = lN i := nI_l (by omega)
  have h1 : ¬ lg_cmp (lN i) 0 < 0 := by
    rw [lg_cmp_lt, show (0 : Int64) = lN 0 from rfl, lN_lt (by omega) (by decide)]; omega
  have h2 : ¬ 0 ≤ lg_cmp (lN i) 32 := by
    rw [lg_cmp_ge, show (32 : Int64) = lN 32 from rfl, lN_le (by decide) (by omega)]; omega
  simp [f_X_X10_isCell, b_X_X10_isCell_19, b_X_X10_isCell_18, b_X_X10_isCell_14, b_X_X10_isCell_6, b_X_X10_isCell_0, h0, h1, h2, fb_g]
theorem xc_0 {x : Int32} (h : x < 0 ∨ nI 32 ≤ x) (t : fw_S) : f_X_X10_isCell t x.toInt64 = some (0, t) := by
  by_cases h1 : lg_cmp x.toInt64 0 < 0
  · simp [f_X_X10_isCell, b_X_X10_isCell_19, b_X_X10_isCell_18, b_X_X10_isCell_14, b_X_X10_isCell_6, b_X_X10_isCell_0, h1, fb_g]
  · have h2 : 0 ≤ lg_cmp x.toInt64 32 := by
      rw [lg_cmp_ge, Int64.le_iff_toInt_le, Int32.toInt_toInt64]
      have e : (32 : Int64).toInt = 32 := by decide
      rcases h with h | h
      · exfalso; apply h1
        rw [lg_cmp_lt, Int64.lt_iff_toInt_lt, Int32.toInt_toInt64]
        rw [Int32.lt_iff_toInt_lt] at h
        exact h
      · rw [Int32.le_iff_toInt_le, nI_toInt (by decide)] at h
        omega
    simp [f_X_X10_isCell, b_X_X10_isCell_19, b_X_X10_isCell_18, b_X_X10_isCell_14, b_X_X10_isCell_6, b_X_X10_isCell_0, h1, h2, fb_g]
theorem x_value (x : Int32) : (f_X_X10_value__0 X0 x).map Prod.fst = some (-9223372036854775808) := by
  rcases ci_cases x with ⟨i, hi, rfl⟩ | hc
  · simp [f_X_X10_value__0, b_X_X10_value__0_0, f_X_X1_now__3, b_X_X1_now__3_0, f_X_X0_known__4, b_X_X0_known__4_19, b_X_X0_known__4_16, b_X_X0_known__4_8, b_X_X0_known__4_0, f_X_X0_errorOf__4, b_X_X0_errorOf__4_18, b_X_X0_errorOf__4_17, b_X_X0_errorOf__4_8, b_X_X0_errorOf__4_0, f_X_X0_numberOf__4, b_X_X0_numberOf__4_18, b_X_X0_numberOf__4_17, b_X_X0_numberOf__4_8, b_X_X0_numberOf__4_0, xc_1 hi, gb_b, gb_v, fb_g, ni_cl (show i < 2 ^ 31 by omega), ni_n0 (show i < 2 ^ 31 by omega), st_F, X0, hi]
  · simp [f_X_X10_value__0, b_X_X10_value__0_0, f_X_X1_now__3, b_X_X1_now__3_0, f_X_X0_known__4, b_X_X0_known__4_19, b_X_X0_known__4_16, b_X_X0_known__4_8, b_X_X0_known__4_0, f_X_X0_errorOf__4, b_X_X0_errorOf__4_18, b_X_X0_errorOf__4_17, b_X_X0_errorOf__4_8, b_X_X0_errorOf__4_0, f_X_X0_numberOf__4, b_X_X0_numberOf__4_18, b_X_X0_numberOf__4_17, b_X_X0_numberOf__4_8, b_X_X0_numberOf__4_0, xc_0 hc, gb_b, gb_v, fb_g]
theorem m_value (x : Int32) : (f_M_X11_value__0 M0 x).map Prod.fst = some (-9223372036854775808) := by
  rcases ci_cases x with ⟨i, hi, rfl⟩ | hc
  · simp [f_M_X11_value__0, b_M_X11_value__0_28, b_M_X11_value__0_16, b_M_X11_value__0_22, b_M_X11_value__0_7, b_M_X11_value__0_0, mc_1 hi, gb_b, gb_v, fb_g, ni_cl (show i < 2 ^ 31 by omega), ni_n0 (show i < 2 ^ 31 by omega), st_F, M0, hi]
  · simp [f_M_X11_value__0, b_M_X11_value__0_28, b_M_X11_value__0_16, b_M_X11_value__0_22, b_M_X11_value__0_7, b_M_X11_value__0_0, mc_0 hc, gb_b, gb_v, fb_g]
theorem x_clear : (f_X_X10_clear__0 X0).map Prod.fst = some 0 := by decide +kernel
theorem m_clear : (f_M_X11_clear__0 M0).map Prod.fst = some 0 := by decide +kernel
theorem x_end : (f_X_X10_end__0 X0).map Prod.fst = some (-3) := by decide +kernel
theorem m_end : (f_M_X11_end__0 M0).map Prod.fst = some (-3) := by decide +kernel
theorem m_told12 : (f_M_X11_told___0 M0 12).map Prod.fst = some 0 := by decide +kernel
theorem x_told12 : (f_X_X10_told__0 X0 12).map Prod.fst = some 0 := by decide +kernel
theorem m_of2 : (f_M_X11_of__0 M0 7 2).map Prod.fst = some 0 := by decide +kernel

