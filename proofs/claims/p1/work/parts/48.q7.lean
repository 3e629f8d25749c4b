/-! MORE WITH CASES -/
theorem xc_5 (t : fw_S) : f_X_X10_isCell t (-5) = some (0, t) := by
  have h : lg_cmp (-5) 0 < 0 := by decide
  simp [f_X_X10_isCell, b_X_X10_isCell_19, b_X_X10_isCell_18, b_X_X10_isCell_14, b_X_X10_isCell_6, b_X_X10_isCell_0, h, fb_g]
theorem xc_5' (t : fw_S) : f_X_X10_isCell t (Int32.toInt64 (-5)) = some (0, t) := by
  rw [show Int32.toInt64 (-5) = -5 from by decide]; exact xc_5 t
theorem iz_cases {x : Int32} (h : ¬ x < 0) : x = 0 ∨ ¬ x ≤ 0 := by
  rcases Decidable.em (x = 0) with g | g
  · exact Or.inl g
  · right
    intro k
    apply g
    apply Int32.toInt_inj.mp
    have h := i_ge h
    rw [Int32.le_iff_toInt_le] at h k
    omega
theorem iw_ne {w : Int32} {n : Nat} (hn : n < 2 ^ 31) (h : w < 0 ∨ nI n ≤ w) {k : Nat} (hk : k < n) : ¬ w = nI k := by
  intro e
  subst e
  rcases h with h | h
  · exact ni_n0 (by omega) h
  · exact ni_ge hk hn h
theorem x_cause (i : Nat) (hi : i < 32) : f_X_X0_causeOf__4 X0 (nI i) = some (-5, X0) := by
  have e : st_F X0 12 i = -5 := by simp [st_F, X0, hi]
  simp [f_X_X0_causeOf__4, b_X_X0_causeOf__4_19, b_X_X0_causeOf__4_17, b_X_X0_causeOf__4_8, b_X_X0_causeOf__4_0, xc_1 hi, gb_b, fb_g, e, ni_cl (show i < 2 ^ 31 by omega), ni_n0 (show i < 2 ^ 31 by omega), hi]
theorem x_above_n (n : Nat) (t : fw_S) (y : Int32) : b_X_X0_causeAbove__4_9 (n + 1) t y (-5) 0 = some (-1, t) := by
  by_cases h : y ≤ 0
  · simp [f_X_X0_causeAbove__4, b_X_X0_causeAbove__4_61, b_X_X0_causeAbove__4_60, b_X_X0_causeAbove__4_56, b_X_X0_causeAbove__4_50, b_X_X0_causeAbove__4_42, b_X_X0_causeAbove__4_30, b_X_X0_causeAbove__4_22, b_X_X0_causeAbove__4_15, b_X_X0_causeAbove__4_0, b_X_X0_causeAbove__4_9, gb_b, fb_g, xc_5, xc_5', h]
  · simp [f_X_X0_causeAbove__4, b_X_X0_causeAbove__4_61, b_X_X0_causeAbove__4_60, b_X_X0_causeAbove__4_56, b_X_X0_causeAbove__4_50, b_X_X0_causeAbove__4_42, b_X_X0_causeAbove__4_30, b_X_X0_causeAbove__4_22, b_X_X0_causeAbove__4_15, b_X_X0_causeAbove__4_0, b_X_X0_causeAbove__4_9, gb_b, fb_g, xc_5, xc_5', h]
theorem x_above (i : Nat) (hi : i < 32) (y : Int32) : (f_X_X0_causeAbove__4 X0 (nI i) y).map Prod.fst = some (-1) := by
  have e := x_above_n 2999 X0 y
  simp [f_X_X0_causeAbove__4, b_X_X0_causeAbove__4_0, x_cause i hi, gb_b, e]
theorem m_above_n (n : Nat) (t : fw_S) (y : Int32) : b_M_X11_why__0_23 (n + 1) t y (-5) 0 = some (-1, t) := by
  by_cases h : y ≤ 0
  · simp [f_M_X11_why__0, b_M_X11_why__0_11, b_M_X11_why__0_55, b_M_X11_why__0_54, b_M_X11_why__0_50, b_M_X11_why__0_46, b_M_X11_why__0_33, b_M_X11_why__0_29, b_M_X11_why__0_13, b_M_X11_why__0_7, b_M_X11_why__0_0, b_M_X11_why__0_23, h]
  · simp [f_M_X11_why__0, b_M_X11_why__0_11, b_M_X11_why__0_55, b_M_X11_why__0_54, b_M_X11_why__0_50, b_M_X11_why__0_46, b_M_X11_why__0_33, b_M_X11_why__0_29, b_M_X11_why__0_13, b_M_X11_why__0_7, b_M_X11_why__0_0, b_M_X11_why__0_23, h]
theorem a_why (x y : Int32) : ∃ r, (f_X_X10_why__0 X0 x y).map Prod.fst = some r ∧ (f_M_X11_why__0 M0 x y).map Prod.fst = some r := by
  refine ⟨-1, ?_, ?_⟩
  · rcases ci_cases x with ⟨i, hi, rfl⟩ | hc
    · obtain ⟨u, hu⟩ := some_of (x_above i hi y)
      by_cases h : y < 0
      · simp [f_X_X10_why__0, b_X_X10_why__0_28, b_X_X10_why__0_27, b_X_X10_why__0_12, b_X_X10_why__0_8, b_X_X10_why__0_0, f_X_X1_now__3, b_X_X1_now__3_0, xc_1 hi, gb_b, gb_v, fb_g, h]
      · simp [f_X_X10_why__0, b_X_X10_why__0_28, b_X_X10_why__0_27, b_X_X10_why__0_12, b_X_X10_why__0_8, b_X_X10_why__0_0, f_X_X1_now__3, b_X_X1_now__3_0, xc_1 hi, gb_b, gb_v, fb_g, h, hu]
    · simp [f_X_X10_why__0, b_X_X10_why__0_28, b_X_X10_why__0_27, b_X_X10_why__0_12, b_X_X10_why__0_8, b_X_X10_why__0_0, xc_0 hc, gb_b, gb_v, fb_g]
  · rcases ci_cases x with ⟨i, hi, rfl⟩ | hc
    · have e : st_F M0 4 i = -5 := by simp [st_F, M0, hi]
      by_cases h : y < 0
      · simp [f_M_X11_why__0, b_M_X11_why__0_11, b_M_X11_why__0_55, b_M_X11_why__0_54, b_M_X11_why__0_50, b_M_X11_why__0_46, b_M_X11_why__0_33, b_M_X11_why__0_29, b_M_X11_why__0_13, b_M_X11_why__0_7, b_M_X11_why__0_0, mc_1 hi, gb_b, gb_v, fb_g, h, Int32.not_le.mpr h]
      · have g := m_above_n 2999 M0 y
        simp [f_M_X11_why__0, b_M_X11_why__0_11, b_M_X11_why__0_55, b_M_X11_why__0_54, b_M_X11_why__0_50, b_M_X11_why__0_46, b_M_X11_why__0_33, b_M_X11_why__0_29, b_M_X11_why__0_13, b_M_X11_why__0_7, b_M_X11_why__0_0, mc_1 hi, gb_b, gb_v, fb_g, h, i_ge h, g, e, ni_cl (show i < 2 ^ 31 by omega), ni_n0 (show i < 2 ^ 31 by omega), hi]
    · simp [f_M_X11_why__0, b_M_X11_why__0_11, b_M_X11_why__0_55, b_M_X11_why__0_54, b_M_X11_why__0_50, b_M_X11_why__0_46, b_M_X11_why__0_33, b_M_X11_why__0_29, b_M_X11_why__0_13, b_M_X11_why__0_7, b_M_X11_why__0_0, mc_0 hc, gb_b, gb_v, fb_g]
theorem a_reads (x y : Int32) : ∃ r, (f_X_X10_reads__0 X0 x y).map Prod.fst = some r ∧ (f_M_X11_reads___0 M0 x y).map Prod.fst = some r := by
  refine ⟨-1, ?_, ?_⟩
  · rcases ci_cases x with ⟨i, hi, rfl⟩ | hc
    · have e : st_F X0 14 i = 0 := by simp [st_F, X0]
      by_cases h : y < 0
      · simp [f_X_X10_reads__0, b_X_X10_reads__0_0, f_X_X1_now__3, b_X_X1_now__3_0, f_X_X0_readOf__4, b_X_X0_readOf__4_43, b_X_X0_readOf__4_42, b_X_X0_readOf__4_28, b_X_X0_readOf__4_18, b_X_X0_readOf__4_12, b_X_X0_readOf__4_8, b_X_X0_readOf__4_0, xc_1 hi, gb_b, gb_v, fb_g, h]
      · simp [f_X_X10_reads__0, b_X_X10_reads__0_0, f_X_X1_now__3, b_X_X1_now__3_0, f_X_X0_readOf__4, b_X_X0_readOf__4_43, b_X_X0_readOf__4_42, b_X_X0_readOf__4_28, b_X_X0_readOf__4_18, b_X_X0_readOf__4_12, b_X_X0_readOf__4_8, b_X_X0_readOf__4_0, xc_1 hi, gb_b, gb_v, fb_g, h, e, i_ge h, ni_cl (show i < 2 ^ 31 by omega), ni_n0 (show i < 2 ^ 31 by omega), hi]
    · simp [f_X_X10_reads__0, b_X_X10_reads__0_0, f_X_X1_now__3, b_X_X1_now__3_0, f_X_X0_readOf__4, b_X_X0_readOf__4_43, b_X_X0_readOf__4_42, b_X_X0_readOf__4_28, b_X_X0_readOf__4_18, b_X_X0_readOf__4_12, b_X_X0_readOf__4_8, b_X_X0_readOf__4_0, xc_0 hc, gb_b, gb_v, fb_g]
  · rcases ci_cases x with ⟨i, hi, rfl⟩ | hc
    · have e : st_F M0 3 i = 0 := by simp [st_F, M0]
      by_cases h : y < 0
      · simp [f_M_X11_reads___0, b_M_X11_reads___0_38, b_M_X11_reads___0_23, b_M_X11_reads___0_27, b_M_X11_reads___0_7, b_M_X11_reads___0_0, f_M_X11_isIn, b_M_X11_isIn_15, b_M_X11_isIn_14, b_M_X11_isIn_10, b_M_X11_isIn_5, b_M_X11_isIn_0, mc_1 hi, gb_b, gb_v, fb_g, h, e, ni_cl (show i < 2 ^ 31 by omega), ni_n0 (show i < 2 ^ 31 by omega), hi]
      · simp [f_M_X11_reads___0, b_M_X11_reads___0_38, b_M_X11_reads___0_23, b_M_X11_reads___0_27, b_M_X11_reads___0_7, b_M_X11_reads___0_0, f_M_X11_isIn, b_M_X11_isIn_15, b_M_X11_isIn_14, b_M_X11_isIn_10, b_M_X11_isIn_5, b_M_X11_isIn_0, mc_1 hi, gb_b, gb_v, fb_g, h, e, i_gm h, ni_cl (show i < 2 ^ 31 by omega), ni_n0 (show i < 2 ^ 31 by omega), hi]
    · simp [f_M_X11_reads___0, b_M_X11_reads___0_38, b_M_X11_reads___0_23, b_M_X11_reads___0_27, b_M_X11_reads___0_7, b_M_X11_reads___0_0, f_M_X11_isIn, b_M_X11_isIn_15, b_M_X11_isIn_14, b_M_X11_isIn_10, b_M_X11_isIn_5, b_M_X11_isIn_0, mc_0 hc, gb_b, gb_v, fb_g]
theorem x_watch_k : ∀ v : Int64, ∀ i, i < 32 → ∀ k, k < 4 → (f_X_X10_watch__0 X0 (nI i) (nI k) v).map Prod.fst = some 0 :=
  @ep_all _ ep_nl (fun v => ∀ i, i < 32 → ∀ k, k < 4 → (f_X_X10_watch__0 X0 (nI i) (nI k) v).map Prod.fst = some 0) (by decide +kernel)
theorem m_watch_k : ∀ v : Int64, ∀ i, i < 32 → ∀ k, k < 4 → (f_M_X11_watch__0 M0 (nI i) (nI k) v).map Prod.fst = some 0 :=
  @ep_all _ ep_nl (fun v => ∀ i, i < 32 → ∀ k, k < 4 → (f_M_X11_watch__0 M0 (nI i) (nI k) v).map Prod.fst = some 0) (by decide +kernel)
theorem i3_lt {y : Int32} (h : nI 4 ≤ y) : (3 : Int32) < y := by
  rw [Int32.lt_iff_toInt_lt]
  rw [Int32.le_iff_toInt_le, nI_toInt (by decide)] at h
  have : (3 : Int32).toInt = 3 := by decide
  omega
theorem a_watch (x y : Int32) (v : Int64) : ∃ r, (f_X_X10_watch__0 X0 x y v).map Prod.fst = some r ∧ (f_M_X11_watch__0 M0 x y v).map Prod.fst = some r := by
  rcases ci_cases x with ⟨i, hi, rfl⟩ | hc
  · rcases li_cases y with ⟨k, hk, rfl⟩ | hk
    · exact ⟨0, x_watch_k v i hi k hk, m_watch_k v i hi k hk⟩
    · refine ⟨-1, ?_, ?_⟩
      · by_cases h : y < 0
        · simp [f_X_X10_watch__0, b_X_X10_watch__0_17, b_X_X10_watch__0_19, b_X_X10_watch__0_12, b_X_X10_watch__0_8, b_X_X10_watch__0_0, xc_1 hi, gb_b, fb_g, h]
        · have g := i3_lt (hk.resolve_left h)
          simp [f_X_X10_watch__0, b_X_X10_watch__0_17, b_X_X10_watch__0_19, b_X_X10_watch__0_12, b_X_X10_watch__0_8, b_X_X10_watch__0_0, xc_1 hi, gb_b, fb_g, h, Int32.not_le.mpr g]
      · by_cases h : y < 0
        · simp [f_M_X11_watch__0, b_M_X11_watch__0_16, b_M_X11_watch__0_30, b_M_X11_watch__0_27, b_M_X11_watch__0_18, b_M_X11_watch__0_7, b_M_X11_watch__0_0, f_M_X11_isIn, b_M_X11_isIn_15, b_M_X11_isIn_14, b_M_X11_isIn_10, b_M_X11_isIn_5, b_M_X11_isIn_0, mc_1 hi, gb_b, fb_g, h]
        · have g := i3_lt (hk.resolve_left h)
          simp [f_M_X11_watch__0, b_M_X11_watch__0_16, b_M_X11_watch__0_30, b_M_X11_watch__0_27, b_M_X11_watch__0_18, b_M_X11_watch__0_7, b_M_X11_watch__0_0, f_M_X11_isIn, b_M_X11_isIn_15, b_M_X11_isIn_14, b_M_X11_isIn_10, b_M_X11_isIn_5, b_M_X11_isIn_0, mc_1 hi, gb_b, fb_g, h, g]
  · refine ⟨-1, ?_, ?_⟩
    · simp [f_X_X10_watch__0, b_X_X10_watch__0_17, b_X_X10_watch__0_19, b_X_X10_watch__0_12, b_X_X10_watch__0_8, b_X_X10_watch__0_0, xc_0 hc, gb_b, fb_g]
    · simp [f_M_X11_watch__0, b_M_X11_watch__0_16, b_M_X11_watch__0_30, b_M_X11_watch__0_27, b_M_X11_watch__0_18, b_M_X11_watch__0_7, b_M_X11_watch__0_0, mc_0 hc, gb_b, fb_g]
theorem i9_lt {y : Int32} (h : nI 10 ≤ y) : (9 : Int32) < y := by
  rw [Int32.lt_iff_toInt_lt]
  rw [Int32.le_iff_toInt_le, nI_toInt (by decide)] at h
  have : (9 : Int32).toInt = 9 := by decide
  omega
theorem a_of (x y : Int32) : ∃ r, (f_X_X10_of__0 X0 x y).map Prod.fst = some r ∧ (f_M_X11_of__0 M0 x y).map Prod.fst = some r := by
  rcases ci_cases x with ⟨i, hi, rfl⟩ | hc
  · rcases pk_ix y (n := 10) (by decide) with h | h | ⟨k, hk, rfl⟩
    · refine ⟨-1, ?_, ?_⟩
      · simp [f_X_X10_of__0, b_X_X10_of__0_72, b_X_X10_of__0_78, b_X_X10_of__0_84, b_X_X10_of__0_90, b_X_X10_of__0_96, b_X_X10_of__0_102, b_X_X10_of__0_124, b_X_X10_of__0_123, b_X_X10_of__0_119, b_X_X10_of__0_111, b_X_X10_of__0_138, b_X_X10_of__0_137, b_X_X10_of__0_133, b_X_X10_of__0_125, b_X_X10_of__0_139, b_X_X10_of__0_145, b_X_X10_of__0_154, b_X_X10_of__0_10, b_X_X10_of__0_8, b_X_X10_of__0_0, f_X_X1_now__3, b_X_X1_now__3_0, xc_1 hi, gb_b, gb_v, fb_g, show ¬ y = 0 from iw_ne (n := 10) (by decide) (Or.inl h) (k := 0) (by decide), show ¬ y = 1 from iw_ne (n := 10) (by decide) (Or.inl h) (k := 1) (by decide), show ¬ y = 2 from iw_ne (n := 10) (by decide) (Or.inl h) (k := 2) (by decide), show ¬ y = 3 from iw_ne (n := 10) (by decide) (Or.inl h) (k := 3) (by decide), show ¬ y = 4 from iw_ne (n := 10) (by decide) (Or.inl h) (k := 4) (by decide), show ¬ y = 5 from iw_ne (n := 10) (by decide) (Or.inl h) (k := 5) (by decide), show ¬ y = 6 from iw_ne (n := 10) (by decide) (Or.inl h) (k := 6) (by decide), show ¬ y = 7 from iw_ne (n := 10) (by decide) (Or.inl h) (k := 7) (by decide), show ¬ y = 8 from iw_ne (n := 10) (by decide) (Or.inl h) (k := 8) (by decide), show ¬ y = 9 from iw_ne (n := 10) (by decide) (Or.inl h) (k := 9) (by decide)]
      · simp [f_M_X11_of__0, b_M_X11_of__0_17, b_M_X11_of__0_72, b_M_X11_of__0_79, b_M_X11_of__0_86, b_M_X11_of__0_97, b_M_X11_of__0_104, b_M_X11_of__0_111, b_M_X11_of__0_134, b_M_X11_of__0_133, b_M_X11_of__0_129, b_M_X11_of__0_120, b_M_X11_of__0_149, b_M_X11_of__0_148, b_M_X11_of__0_144, b_M_X11_of__0_135, b_M_X11_of__0_150, b_M_X11_of__0_157, b_M_X11_of__0_19, b_M_X11_of__0_7, b_M_X11_of__0_0, f_M_X11_isIn, b_M_X11_isIn_15, b_M_X11_isIn_14, b_M_X11_isIn_10, b_M_X11_isIn_5, b_M_X11_isIn_0, mc_1 hi, gb_b, fb_g, h]
    · refine ⟨-1, ?_, ?_⟩
      · simp [f_X_X10_of__0, b_X_X10_of__0_72, b_X_X10_of__0_78, b_X_X10_of__0_84, b_X_X10_of__0_90, b_X_X10_of__0_96, b_X_X10_of__0_102, b_X_X10_of__0_124, b_X_X10_of__0_123, b_X_X10_of__0_119, b_X_X10_of__0_111, b_X_X10_of__0_138, b_X_X10_of__0_137, b_X_X10_of__0_133, b_X_X10_of__0_125, b_X_X10_of__0_139, b_X_X10_of__0_145, b_X_X10_of__0_154, b_X_X10_of__0_10, b_X_X10_of__0_8, b_X_X10_of__0_0, f_X_X1_now__3, b_X_X1_now__3_0, xc_1 hi, gb_b, gb_v, fb_g, show ¬ y = 0 from iw_ne (n := 10) (by decide) (Or.inr h) (k := 0) (by decide), show ¬ y = 1 from iw_ne (n := 10) (by decide) (Or.inr h) (k := 1) (by decide), show ¬ y = 2 from iw_ne (n := 10) (by decide) (Or.inr h) (k := 2) (by decide), show ¬ y = 3 from iw_ne (n := 10) (by decide) (Or.inr h) (k := 3) (by decide), show ¬ y = 4 from iw_ne (n := 10) (by decide) (Or.inr h) (k := 4) (by decide), show ¬ y = 5 from iw_ne (n := 10) (by decide) (Or.inr h) (k := 5) (by decide), show ¬ y = 6 from iw_ne (n := 10) (by decide) (Or.inr h) (k := 6) (by decide), show ¬ y = 7 from iw_ne (n := 10) (by decide) (Or.inr h) (k := 7) (by decide), show ¬ y = 8 from iw_ne (n := 10) (by decide) (Or.inr h) (k := 8) (by decide), show ¬ y = 9 from iw_ne (n := 10) (by decide) (Or.inr h) (k := 9) (by decide)]
      · by_cases g : y < 0
        · simp [f_M_X11_of__0, b_M_X11_of__0_17, b_M_X11_of__0_72, b_M_X11_of__0_79, b_M_X11_of__0_86, b_M_X11_of__0_97, b_M_X11_of__0_104, b_M_X11_of__0_111, b_M_X11_of__0_134, b_M_X11_of__0_133, b_M_X11_of__0_129, b_M_X11_of__0_120, b_M_X11_of__0_149, b_M_X11_of__0_148, b_M_X11_of__0_144, b_M_X11_of__0_135, b_M_X11_of__0_150, b_M_X11_of__0_157, b_M_X11_of__0_19, b_M_X11_of__0_7, b_M_X11_of__0_0, f_M_X11_isIn, b_M_X11_isIn_15, b_M_X11_isIn_14, b_M_X11_isIn_10, b_M_X11_isIn_5, b_M_X11_isIn_0, mc_1 hi, gb_b, fb_g, g]
        · simp [f_M_X11_of__0, b_M_X11_of__0_17, b_M_X11_of__0_72, b_M_X11_of__0_79, b_M_X11_of__0_86, b_M_X11_of__0_97, b_M_X11_of__0_104, b_M_X11_of__0_111, b_M_X11_of__0_134, b_M_X11_of__0_133, b_M_X11_of__0_129, b_M_X11_of__0_120, b_M_X11_of__0_149, b_M_X11_of__0_148, b_M_X11_of__0_144, b_M_X11_of__0_135, b_M_X11_of__0_150, b_M_X11_of__0_157, b_M_X11_of__0_19, b_M_X11_of__0_7, b_M_X11_of__0_0, f_M_X11_isIn, b_M_X11_isIn_15, b_M_X11_isIn_14, b_M_X11_isIn_10, b_M_X11_isIn_5, b_M_X11_isIn_0, mc_1 hi, gb_b, fb_g, g, i9_lt h]
    · match k, hk with
      | 0, _ => exact ⟨_, x_of_0 i hi, m_of_0 i hi⟩
      | 1, _ => exact ⟨_, x_of_1 i hi, m_of_1 i hi⟩
      | 2, _ => exact ⟨_, x_of_2 i hi, m_of_2 i hi⟩
      | 3, _ => exact ⟨_, x_of_3 i hi, m_of_3 i hi⟩
      | 4, _ => exact ⟨_, x_of_4 i hi, m_of_4 i hi⟩
      | 5, _ => exact ⟨_, x_of_5 i hi, m_of_5 i hi⟩
      | 6, _ => exact ⟨_, x_of_6 i hi, m_of_6 i hi⟩
      | 7, _ => exact ⟨_, x_of_7 i hi, m_of_7 i hi⟩
      | 8, _ => exact ⟨_, x_of_8 i hi, m_of_8 i hi⟩
      | 9, _ => exact ⟨_, x_of_9 i hi, m_of_9 i hi⟩
  · refine ⟨-1, ?_, ?_⟩
    · simp [f_X_X10_of__0, b_X_X10_of__0_72, b_X_X10_of__0_78, b_X_X10_of__0_84, b_X_X10_of__0_90, b_X_X10_of__0_96, b_X_X10_of__0_102, b_X_X10_of__0_124, b_X_X10_of__0_123, b_X_X10_of__0_119, b_X_X10_of__0_111, b_X_X10_of__0_138, b_X_X10_of__0_137, b_X_X10_of__0_133, b_X_X10_of__0_125, b_X_X10_of__0_139, b_X_X10_of__0_145, b_X_X10_of__0_154, b_X_X10_of__0_10, b_X_X10_of__0_8, b_X_X10_of__0_0, xc_0 hc, gb_b, fb_g]
    · simp [f_M_X11_of__0, b_M_X11_of__0_17, b_M_X11_of__0_72, b_M_X11_of__0_79, b_M_X11_of__0_86, b_M_X11_of__0_97, b_M_X11_of__0_104, b_M_X11_of__0_111, b_M_X11_of__0_134, b_M_X11_of__0_133, b_M_X11_of__0_129, b_M_X11_of__0_120, b_M_X11_of__0_149, b_M_X11_of__0_148, b_M_X11_of__0_144, b_M_X11_of__0_135, b_M_X11_of__0_150, b_M_X11_of__0_157, b_M_X11_of__0_19, b_M_X11_of__0_7, b_M_X11_of__0_0, mc_0 hc, gb_b, fb_g]

theorem a_told (x : Int32) : ∃ r, (f_X_X10_told__0 X0 x).map Prod.fst = some r ∧ (f_M_X11_told___0 M0 x).map Prod.fst = some r := by
  by_cases h0 : x = 0
  · subst h0; exact ⟨_, x_told_0, m_told_0⟩
  by_cases h1 : x = 1
  · subst h1; exact ⟨_, x_told_1, m_told_1⟩
  by_cases h2 : x = 2
  · subst h2; exact ⟨_, x_told_2, m_told_2⟩
  by_cases h3 : x = 3
  · subst h3; exact ⟨_, x_told_3, m_told_3⟩
  by_cases h4 : x = 4
  · subst h4; exact ⟨_, x_told_4, m_told_4⟩
  by_cases h5 : x = 5
  · subst h5; exact ⟨_, x_told_5, m_told_5⟩
  by_cases h6 : x = 6
  · subst h6; exact ⟨_, x_told_6, m_told_6⟩
  by_cases h7 : x = 7
  · subst h7; exact ⟨_, x_told_7, m_told_7⟩
  by_cases h8 : x = 8
  · subst h8; exact ⟨_, x_told_8, m_told_8⟩
  by_cases h9 : x = 9
  · subst h9; exact ⟨_, x_told_9, m_told_9⟩
  by_cases h10 : x = 10
  · subst h10; exact ⟨_, x_told_10, m_told_10⟩
  by_cases h11 : x = 11
  · subst h11; exact ⟨_, x_told_11, m_told_11⟩
  by_cases h12 : x = 12
  · subst h12; exact ⟨_, x_told_12, m_told12⟩
  refine ⟨-1, ?_, ?_⟩
  · simp [f_X_X10_told__0, b_X_X10_told__0_76, b_X_X10_told__0_82, b_X_X10_told__0_88, b_X_X10_told__0_93, b_X_X10_told__0_98, b_X_X10_told__0_103, b_X_X10_told__0_111, b_X_X10_told__0_119, b_X_X10_told__0_139, b_X_X10_told__0_138, b_X_X10_told__0_134, b_X_X10_told__0_127, b_X_X10_told__0_140, b_X_X10_told__0_148, b_X_X10_told__0_156, b_X_X10_told__0_164, b_X_X10_told__0_169, b_X_X10_told__0_0, f_X_X1_now__3, b_X_X1_now__3_0, gb_v, h0, h1, h2, h3, h4, h5, h6, h7, h8, h9, h10, h11, h12]
  · simp [f_M_X11_told___0, b_M_X11_told___0_102, b_M_X11_told___0_94, b_M_X11_told___0_93, b_M_X11_told___0_89, b_M_X11_told___0_76, b_M_X11_told___0_68, b_M_X11_told___0_135, b_M_X11_told___0_127, b_M_X11_told___0_126, b_M_X11_told___0_122, b_M_X11_told___0_112, b_M_X11_told___0_104, b_M_X11_told___0_168, b_M_X11_told___0_160, b_M_X11_told___0_159, b_M_X11_told___0_155, b_M_X11_told___0_145, b_M_X11_told___0_137, b_M_X11_told___0_193, b_M_X11_told___0_178, b_M_X11_told___0_170, b_M_X11_told___0_195, b_M_X11_told___0_200, b_M_X11_told___0_205, b_M_X11_told___0_222, b_M_X11_told___0_221, b_M_X11_told___0_217, b_M_X11_told___0_210, b_M_X11_told___0_223, b_M_X11_told___0_228, b_M_X11_told___0_233, b_M_X11_told___0_267, b_M_X11_told___0_250, b_M_X11_told___0_238, b_M_X11_told___0_269, b_M_X11_told___0_0, h0, h1, h2, h3, h4, h5, h6, h7, h8, h9, h10, h11, h12]

