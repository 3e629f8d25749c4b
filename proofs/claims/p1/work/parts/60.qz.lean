/-! WHAT IF, WOULD, SEEK: BOTH TOGETHER -/
theorem x0_none : x_none X0 := by
  intro c hc
  refine ⟨rfl, ?_, rfl⟩
  show (if c < 32 then (3 : Int32) else 0) = 3
  rw [if_pos hc]
theorem m0_none : m_none M0 := by
  intro c hc
  refine ⟨rfl, ?_⟩
  show (if c < 32 then (3 : Int32) else 0) = 3
  rw [if_pos hc]
theorem a_would (x : Int32) (v : Int64) : ∃ r, (f_X_X10_would__0 X0 x v).map Prod.fst = some r ∧ (f_M_X11_would__0 M0 x v).map Prod.fst = some r := by
  have z1 : ¬ (1 : Int32) = 0 := by decide
  rcases ci_cases x with ⟨i, hi, rfl⟩ | hc
  · refine ⟨0, ?_, ?_⟩
    · rw [← x_would i hi v X0 x0_none]
      simp only [f_X_X10_would__0, b_X_X10_would__0_0, xc_1 hi, gb_b, if_neg z1]
    · rw [← m_would i hi v M0 m0_none]
      simp only [f_M_X11_would__0, b_M_X11_would__0_0, mc_1 hi, gb_b, if_neg z1]
  · refine ⟨-1, ?_, ?_⟩
    · simp [f_X_X10_would__0, b_X_X10_would__0_32, b_X_X10_would__0_25, b_X_X10_would__0_10, b_X_X10_would__0_8, b_X_X10_would__0_0, xc_0 hc, gb_b]
    · simp [f_M_X11_would__0, b_M_X11_would__0_18, b_M_X11_would__0_11, b_M_X11_would__0_7, b_M_X11_would__0_0, mc_0 hc, gb_b]
theorem a_whatIf (x : Int32) (v : Int64) (y : Int32) : ∃ r, (f_X_X10_whatIf__0 X0 x v y).map Prod.fst = some r ∧ (f_M_X11_whatIf__0 M0 x v y).map Prod.fst = some r := by
  have z1 : ¬ (1 : Int32) = 0 := by decide
  rcases ci_cases x with ⟨i, hi, rfl⟩ | hc
  · rcases ci_cases y with ⟨j, hj, rfl⟩ | hd
    · refine ⟨if j = i then v else -9223372036854775808, ?_, ?_⟩
      · rw [← x_whatIf i j hi hj v X0 x0_none]
        simp only [f_X_X10_whatIf__0, b_X_X10_whatIf__0_0, b_X_X10_whatIf__0_8, xc_1 hi, xc_1 hj, gb_b, if_neg z1]
      · rw [← m_whatIf i j hi hj v M0 m0_none]
        simp only [f_M_X11_whatIf__0, b_M_X11_whatIf__0_0, b_M_X11_whatIf__0_7, mc_1 hi, mc_1 hj, gb_b, if_neg z1]
    · refine ⟨-9223372036854775808, ?_, ?_⟩
      · simp [f_X_X10_whatIf__0, b_X_X10_whatIf__0_28, b_X_X10_whatIf__0_32, b_X_X10_whatIf__0_17, b_X_X10_whatIf__0_8, b_X_X10_whatIf__0_0, xc_1 hi, xc_0 hd, gb_b]
      · simp [f_M_X11_whatIf__0, b_M_X11_whatIf__0_15, b_M_X11_whatIf__0_47, b_M_X11_whatIf__0_37, b_M_X11_whatIf__0_43, b_M_X11_whatIf__0_30, b_M_X11_whatIf__0_19, b_M_X11_whatIf__0_7, b_M_X11_whatIf__0_0, mc_1 hi, mc_0 hd, gb_b]
  · refine ⟨-9223372036854775808, ?_, ?_⟩
    · simp [f_X_X10_whatIf__0, b_X_X10_whatIf__0_28, b_X_X10_whatIf__0_32, b_X_X10_whatIf__0_17, b_X_X10_whatIf__0_8, b_X_X10_whatIf__0_0, xc_0 hc, gb_b]
    · simp [f_M_X11_whatIf__0, b_M_X11_whatIf__0_15, b_M_X11_whatIf__0_47, b_M_X11_whatIf__0_37, b_M_X11_whatIf__0_43, b_M_X11_whatIf__0_30, b_M_X11_whatIf__0_19, b_M_X11_whatIf__0_7, b_M_X11_whatIf__0_0, mc_0 hc, gb_b]
theorem a_seek (x : Int32) (v : Int64) (n y : Int32) (g : Int64) : ∃ r, (f_X_X10_seek__0 X0 x v n y g).map Prod.fst = some r ∧ (f_M_X11_seek__0 M0 x v n y g).map Prod.fst = some r := by
  have z1 : ¬ (1 : Int32) = 0 := by decide
  rcases ci_cases x with ⟨i, hi, rfl⟩ | hc
  · rcases ci_cases y with ⟨j, hj, rfl⟩ | hd
    · rcases pk_ix n (n := 13) (by decide) with h | h | ⟨m, hm, rfl⟩
      · refine ⟨-9223372036854775808, ?_, ?_⟩
        · simp [b_X_X10_seek__0_0, f_X_X10_seek__0, b_X_X10_seek__0_8, b_X_X10_seek__0_17, b_X_X10_seek__0_29, xc_1 hi, xc_1 hj, gb_b, h]
        · simp [b_M_X11_seek__0_0, f_M_X11_seek__0, b_M_X11_seek__0_7, b_M_X11_seek__0_15, b_M_X11_seek__0_26, f_M_X11_isIn, b_M_X11_isIn_15, b_M_X11_isIn_14, b_M_X11_isIn_10, b_M_X11_isIn_5, b_M_X11_isIn_0, mc_1 hi, mc_1 hj, gb_b, fb_g, h]
      · have h0 : ¬ n < 0 := by
          intro k
          rw [Int32.le_iff_toInt_le, nI_toInt (by decide)] at h
          rw [Int32.lt_iff_toInt_lt] at k
          have e : (0 : Int32).toInt = 0 := by decide
          omega
        have h12 : (12 : Int32) < n := by
          rw [Int32.lt_iff_toInt_lt]
          rw [Int32.le_iff_toInt_le, nI_toInt (by decide)] at h
          have e : (12 : Int32).toInt = 12 := by decide
          omega
        refine ⟨-9223372036854775808, ?_, ?_⟩
        · simp [b_X_X10_seek__0_0, f_X_X10_seek__0, b_X_X10_seek__0_8, b_X_X10_seek__0_17, b_X_X10_seek__0_22, b_X_X10_seek__0_29, xc_1 hi, xc_1 hj, gb_b, h0, Int32.not_le.mpr h12]
        · simp [b_M_X11_seek__0_0, f_M_X11_seek__0, b_M_X11_seek__0_7, b_M_X11_seek__0_15, b_M_X11_seek__0_26, f_M_X11_isIn, b_M_X11_isIn_15, b_M_X11_isIn_14, b_M_X11_isIn_10, b_M_X11_isIn_5, b_M_X11_isIn_0, mc_1 hi, mc_1 hj, gb_b, fb_g, h0, h12]
      · have h0 : ¬ nI m < 0 := ni_n0 (by omega)
        have h12 : nI m ≤ (12 : Int32) := ni_le (i := 12) (N := m) (by omega) (by decide)
        refine ⟨sk_ (j = i) g v m 0, ?_, ?_⟩
        · have e := x_sk i j m hi hj (by omega) g v m 0 3000 X0 x0_none (by omega) (by omega)
          rw [← e]
          have k1 : b_X_X10_seek__0_33 X0 (nI i) v (nI m) (nI j) g = b_X_X10_seek__0_36 3000 X0 (nI i) v (nI m) (nI j) g (nI 0) := by
            delta b_X_X10_seek__0_33
            generalize b_X_X10_seek__0_36 3000 = B
            rfl
          rw [← k1]
          simp only [b_X_X10_seek__0_0, f_X_X10_seek__0, b_X_X10_seek__0_8, b_X_X10_seek__0_17, b_X_X10_seek__0_22, xc_1 hi, xc_1 hj, gb_b, if_neg z1, if_neg h0, if_pos h12]
        · have e := m_sk i j m hi hj (by omega) g v m 0 3000 M0 m0_none (by omega) (by omega)
          rw [← e]
          have k1 : b_M_X11_seek__0_30 M0 (nI i) v (nI m) (nI j) g = b_M_X11_seek__0_33 3000 M0 (nI i) v (nI m) (nI j) g (nI 0) := by
            delta b_M_X11_seek__0_30
            generalize b_M_X11_seek__0_33 3000 = B
            rfl
          rw [← k1]
          have k2 : f_M_X11_isIn M0 (nI m) 0 12 = some (1, M0) := by
            simp [f_M_X11_isIn, b_M_X11_isIn_15, b_M_X11_isIn_14, b_M_X11_isIn_10, b_M_X11_isIn_5, b_M_X11_isIn_0, fb_g, h0, Int32.not_lt.mpr h12]
          simp only [b_M_X11_seek__0_0, f_M_X11_seek__0, b_M_X11_seek__0_7, b_M_X11_seek__0_15, mc_1 hi, mc_1 hj, k2, gb_b, if_neg z1]
    · refine ⟨-9223372036854775808, ?_, ?_⟩
      · simp [b_X_X10_seek__0_0, f_X_X10_seek__0, b_X_X10_seek__0_8, b_X_X10_seek__0_29, xc_1 hi, xc_0 hd, gb_b]
      · simp [b_M_X11_seek__0_0, f_M_X11_seek__0, b_M_X11_seek__0_7, b_M_X11_seek__0_26, mc_1 hi, mc_0 hd, gb_b]
  · refine ⟨-9223372036854775808, ?_, ?_⟩
    · simp [b_X_X10_seek__0_0, f_X_X10_seek__0, b_X_X10_seek__0_29, xc_0 hc, gb_b]
    · simp [b_M_X11_seek__0_0, f_M_X11_seek__0, b_M_X11_seek__0_26, mc_0 hc, gb_b]

