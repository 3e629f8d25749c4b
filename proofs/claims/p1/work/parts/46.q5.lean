/-! SIMPLE ANSWERS, BOTH TOGETHER -/
theorem i_ge {x : Int32} (h : ¬ x < 0) : (0 : Int32) ≤ x := Int32.not_lt.mp h
theorem i_gm {x : Int32} (h : ¬ x < 0) : (-1 : Int32) < x := by
  have h := i_ge h
  rw [Int32.le_iff_toInt_le] at h
  rw [Int32.lt_iff_toInt_lt]
  have e : (0 : Int32).toInt = 0 := by decide
  have e' : (-1 : Int32).toInt = -1 := by decide
  omega
theorem some_of {α β : Type} {o : Option (α × β)} {r : α} (h : o.map Prod.fst = some r) : ∃ u, o = some (r, u) := by
  cases o with
  | none => simp at h
  | some p => obtain ⟨a, b⟩ := p; simp at h; subst h; exact ⟨b, rfl⟩
theorem x_order (x : Int32) : (f_X_X10_order__0 X0 x).map Prod.fst = some (-1) := by
  obtain ⟨u, hu⟩ := some_of x_present
  by_cases h : x < 0
  · simp [f_X_X10_order__0, b_X_X10_order__0_0, f_X_X1_now__3, b_X_X1_now__3_0, f_X_X0_inOrder__4, b_X_X0_inOrder__4_12, b_X_X0_inOrder__4_78, b_X_X0_inOrder__4_72, b_X_X0_inOrder__4_66, b_X_X0_inOrder__4_63, b_X_X0_inOrder__4_60, b_X_X0_inOrder__4_55, b_X_X0_inOrder__4_44, b_X_X0_inOrder__4_34, b_X_X0_inOrder__4_24, b_X_X0_inOrder__4_14, b_X_X0_inOrder__4_4, b_X_X0_inOrder__4_0, h, gb_b, gb_v, fb_g]
  · simp [f_X_X10_order__0, b_X_X10_order__0_0, f_X_X1_now__3, b_X_X1_now__3_0, f_X_X0_inOrder__4, b_X_X0_inOrder__4_12, b_X_X0_inOrder__4_78, b_X_X0_inOrder__4_72, b_X_X0_inOrder__4_66, b_X_X0_inOrder__4_63, b_X_X0_inOrder__4_60, b_X_X0_inOrder__4_55, b_X_X0_inOrder__4_44, b_X_X0_inOrder__4_34, b_X_X0_inOrder__4_24, b_X_X0_inOrder__4_14, b_X_X0_inOrder__4_4, b_X_X0_inOrder__4_0, h, hu, gb_b, gb_v, fb_g]
theorem a_paper (x : Int32) : ∃ r, (f_X_X10_paper__0 X0 x).map Prod.fst = some r ∧ (f_M_X11_paper__0 M0 x).map Prod.fst = some r := by
  refine ⟨-1, ?_, ?_⟩
  · by_cases h : x < 0
    · simp [f_X_X10_paper__0, b_X_X10_paper__0_0, f_X_X6_letter__2, b_X_X6_letter__2_29, b_X_X6_letter__2_28, b_X_X6_letter__2_19, b_X_X6_letter__2_12, b_X_X6_letter__2_4, b_X_X6_letter__2_0, h, gb_b, gb_v, fb_g, X0, st_I]
    · simp [f_X_X10_paper__0, b_X_X10_paper__0_0, f_X_X6_letter__2, b_X_X6_letter__2_29, b_X_X6_letter__2_28, b_X_X6_letter__2_19, b_X_X6_letter__2_12, b_X_X6_letter__2_4, b_X_X6_letter__2_0, h, i_ge h, gb_b, gb_v, fb_g, X0, st_I]
  · by_cases h : x < 0
    · simp [f_M_X11_paper__0, b_M_X11_paper__0_24, b_M_X11_paper__0_23, b_M_X11_paper__0_14, b_M_X11_paper__0_0, f_M_X11_isIn, b_M_X11_isIn_15, b_M_X11_isIn_14, b_M_X11_isIn_10, b_M_X11_isIn_5, b_M_X11_isIn_0, h, gb_b, gb_v, fb_g, M0, st_I]
    · simp [f_M_X11_paper__0, b_M_X11_paper__0_24, b_M_X11_paper__0_23, b_M_X11_paper__0_14, b_M_X11_paper__0_0, f_M_X11_isIn, b_M_X11_isIn_15, b_M_X11_isIn_14, b_M_X11_isIn_10, b_M_X11_isIn_5, b_M_X11_isIn_0, h, i_gm h, gb_b, gb_v, fb_g, M0, st_I]
theorem a_log (x y : Int32) : ∃ r, (f_X_X10_log__0 X0 x y).map Prod.fst = some r ∧ (f_M_X11_log___0 M0 x y).map Prod.fst = some r := by
  refine ⟨-1, ?_, ?_⟩
  · by_cases h : x < 0
    · simp [f_X_X10_log__0, b_X_X10_log__0_0, f_X_X9_entry__8, b_X_X9_entry__8_40, b_X_X9_entry__8_47, b_X_X9_entry__8_54, b_X_X9_entry__8_61, b_X_X9_entry__8_12, b_X_X9_entry__8_10, b_X_X9_entry__8_0, f_X_X9_placeOf__8, b_X_X9_placeOf__8_27, b_X_X9_placeOf__8_26, b_X_X9_placeOf__8_12, b_X_X9_placeOf__8_4, b_X_X9_placeOf__8_0, f_X_J9_floorMod_7cf53, b_X_J9_floorMod_7cf53_18, b_X_J9_floorMod_7cf53_14, b_X_J9_floorMod_7cf53_10, b_X_J9_floorMod_7cf53_0, h, gb_b, gb_v, fb_g, X0, st_I]
    · simp [f_X_X10_log__0, b_X_X10_log__0_0, f_X_X9_entry__8, b_X_X9_entry__8_40, b_X_X9_entry__8_47, b_X_X9_entry__8_54, b_X_X9_entry__8_61, b_X_X9_entry__8_12, b_X_X9_entry__8_10, b_X_X9_entry__8_0, f_X_X9_placeOf__8, b_X_X9_placeOf__8_27, b_X_X9_placeOf__8_26, b_X_X9_placeOf__8_12, b_X_X9_placeOf__8_4, b_X_X9_placeOf__8_0, f_X_J9_floorMod_7cf53, b_X_J9_floorMod_7cf53_18, b_X_J9_floorMod_7cf53_14, b_X_J9_floorMod_7cf53_10, b_X_J9_floorMod_7cf53_0, h, i_ge h, gb_b, gb_v, fb_g, X0, st_I]
  · by_cases h : x < 0
    · simp [f_M_X11_log___0, b_M_X11_log___0_60, b_M_X11_log___0_23, b_M_X11_log___0_54, b_M_X11_log___0_45, b_M_X11_log___0_40, b_M_X11_log___0_31, b_M_X11_log___0_27, b_M_X11_log___0_14, b_M_X11_log___0_0, f_M_X11_isIn, b_M_X11_isIn_15, b_M_X11_isIn_14, b_M_X11_isIn_10, b_M_X11_isIn_5, b_M_X11_isIn_0, h, gb_b, gb_v, fb_g, M0, st_I]
    · simp [f_M_X11_log___0, b_M_X11_log___0_60, b_M_X11_log___0_23, b_M_X11_log___0_54, b_M_X11_log___0_45, b_M_X11_log___0_40, b_M_X11_log___0_31, b_M_X11_log___0_27, b_M_X11_log___0_14, b_M_X11_log___0_0, f_M_X11_isIn, b_M_X11_isIn_15, b_M_X11_isIn_14, b_M_X11_isIn_10, b_M_X11_isIn_5, b_M_X11_isIn_0, h, i_gm h, gb_b, gb_v, fb_g, M0, st_I]
theorem a_logged (x y : Int32) : ∃ r, (f_X_X10_logged__0 X0 x y).map Prod.fst = some r ∧ (f_M_X11_logged__0 M0 x y).map Prod.fst = some r := by
  refine ⟨-9223372036854775808, ?_, ?_⟩
  · by_cases h : x < 0
    · simp [f_X_X10_logged__0, b_X_X10_logged__0_0, f_X_X9_number__8, b_X_X9_number__8_19, b_X_X9_number__8_42, b_X_X9_number__8_36, b_X_X9_number__8_27, b_X_X9_number__8_23, b_X_X9_number__8_14, b_X_X9_number__8_10, b_X_X9_number__8_0, f_X_X9_placeOf__8, b_X_X9_placeOf__8_27, b_X_X9_placeOf__8_26, b_X_X9_placeOf__8_12, b_X_X9_placeOf__8_4, b_X_X9_placeOf__8_0, f_X_J9_floorMod_7cf53, b_X_J9_floorMod_7cf53_18, b_X_J9_floorMod_7cf53_14, b_X_J9_floorMod_7cf53_10, b_X_J9_floorMod_7cf53_0, h, gb_b, gb_v, fb_g, X0, st_I]
    · simp [f_X_X10_logged__0, b_X_X10_logged__0_0, f_X_X9_number__8, b_X_X9_number__8_19, b_X_X9_number__8_42, b_X_X9_number__8_36, b_X_X9_number__8_27, b_X_X9_number__8_23, b_X_X9_number__8_14, b_X_X9_number__8_10, b_X_X9_number__8_0, f_X_X9_placeOf__8, b_X_X9_placeOf__8_27, b_X_X9_placeOf__8_26, b_X_X9_placeOf__8_12, b_X_X9_placeOf__8_4, b_X_X9_placeOf__8_0, f_X_J9_floorMod_7cf53, b_X_J9_floorMod_7cf53_18, b_X_J9_floorMod_7cf53_14, b_X_J9_floorMod_7cf53_10, b_X_J9_floorMod_7cf53_0, h, i_ge h, gb_b, gb_v, fb_g, X0, st_I]
  · by_cases h : x < 0
    · simp [f_M_X11_logged__0, b_M_X11_logged__0_45, b_M_X11_logged__0_68, b_M_X11_logged__0_62, b_M_X11_logged__0_53, b_M_X11_logged__0_49, b_M_X11_logged__0_42, b_M_X11_logged__0_36, b_M_X11_logged__0_27, b_M_X11_logged__0_23, b_M_X11_logged__0_14, b_M_X11_logged__0_0, f_M_X11_isIn, b_M_X11_isIn_15, b_M_X11_isIn_14, b_M_X11_isIn_10, b_M_X11_isIn_5, b_M_X11_isIn_0, h, gb_b, gb_v, fb_g, M0, st_I]
    · simp [f_M_X11_logged__0, b_M_X11_logged__0_45, b_M_X11_logged__0_68, b_M_X11_logged__0_62, b_M_X11_logged__0_53, b_M_X11_logged__0_49, b_M_X11_logged__0_42, b_M_X11_logged__0_36, b_M_X11_logged__0_27, b_M_X11_logged__0_23, b_M_X11_logged__0_14, b_M_X11_logged__0_0, f_M_X11_isIn, b_M_X11_isIn_15, b_M_X11_isIn_14, b_M_X11_isIn_10, b_M_X11_isIn_5, b_M_X11_isIn_0, h, i_gm h, gb_b, gb_v, fb_g, M0, st_I]
theorem a_past (x y : Int32) : ∃ r, (f_X_X10_past__0 X0 x y).map Prod.fst = some r ∧ (f_M_X11_past__0 M0 x y).map Prod.fst = some r := by
  refine ⟨-1, ?_, ?_⟩
  · by_cases h : x < 0
    · simp [f_X_X10_past__0, b_X_X10_past__0_0, f_X_X3_entry__9, b_X_X3_entry__9_27, b_X_X3_entry__9_29, b_X_X3_entry__9_22, b_X_X3_entry__9_18, b_X_X3_entry__9_10, b_X_X3_entry__9_4, b_X_X3_entry__9_0, f_X_J9_floorMod_7cf53, b_X_J9_floorMod_7cf53_18, b_X_J9_floorMod_7cf53_14, b_X_J9_floorMod_7cf53_10, b_X_J9_floorMod_7cf53_0, h, gb_b, gb_v, fb_g, X0, st_I]
    · simp [f_X_X10_past__0, b_X_X10_past__0_0, f_X_X3_entry__9, b_X_X3_entry__9_27, b_X_X3_entry__9_29, b_X_X3_entry__9_22, b_X_X3_entry__9_18, b_X_X3_entry__9_10, b_X_X3_entry__9_4, b_X_X3_entry__9_0, f_X_J9_floorMod_7cf53, b_X_J9_floorMod_7cf53_18, b_X_J9_floorMod_7cf53_14, b_X_J9_floorMod_7cf53_10, b_X_J9_floorMod_7cf53_0, h, i_ge h, gb_b, gb_v, fb_g, X0, st_I]
  · by_cases h : x < 0
    · simp [f_M_X11_past__0, b_M_X11_past__0_37, b_M_X11_past__0_23, b_M_X11_past__0_27, b_M_X11_past__0_14, b_M_X11_past__0_0, f_M_X11_isIn, b_M_X11_isIn_15, b_M_X11_isIn_14, b_M_X11_isIn_10, b_M_X11_isIn_5, b_M_X11_isIn_0, h, gb_b, gb_v, fb_g, M0, st_I]
    · simp [f_M_X11_past__0, b_M_X11_past__0_37, b_M_X11_past__0_23, b_M_X11_past__0_27, b_M_X11_past__0_14, b_M_X11_past__0_0, f_M_X11_isIn, b_M_X11_isIn_15, b_M_X11_isIn_14, b_M_X11_isIn_10, b_M_X11_isIn_5, b_M_X11_isIn_0, h, i_gm h, gb_b, gb_v, fb_g, M0, st_I]
theorem a_quit (x : Int32) : ∃ r, (f_X_X10_quit__0 X0 x).map Prod.fst = some r ∧ (f_M_X11_quit__0 M0 x).map Prod.fst = some r := by
  refine ⟨-1, ?_, ?_⟩
  · by_cases h : x < 0
    · simp [f_X_X10_quit__0, b_X_X10_quit__0_0, f_X_X9_leave__8, b_X_X9_leave__8_12, b_X_X9_leave__8_30, b_X_X9_leave__8_29, b_X_X9_leave__8_25, b_X_X9_leave__8_14, b_X_X9_leave__8_4, b_X_X9_leave__8_0, f_X_X10_has, b_X_X10_has_15, b_X_X10_has_14, b_X_X10_has_10, b_X_X10_has_0, f_X_X10_bit, b_X_X10_bit_0, h, gb_b, gb_v, fb_g, X0, st_I]
    · simp [f_X_X10_quit__0, b_X_X10_quit__0_0, f_X_X9_leave__8, b_X_X9_leave__8_12, b_X_X9_leave__8_30, b_X_X9_leave__8_29, b_X_X9_leave__8_25, b_X_X9_leave__8_14, b_X_X9_leave__8_4, b_X_X9_leave__8_0, f_X_X10_has, b_X_X10_has_15, b_X_X10_has_14, b_X_X10_has_10, b_X_X10_has_0, f_X_X10_bit, b_X_X10_bit_0, h, i_ge h, gb_b, gb_v, fb_g, X0, st_I]
  · by_cases h : x < 0
    · simp [f_M_X11_quit__0, b_M_X11_quit__0_30, b_M_X11_quit__0_29, b_M_X11_quit__0_25, b_M_X11_quit__0_16, b_M_X11_quit__0_14, b_M_X11_quit__0_0, f_M_X11_isIn, b_M_X11_isIn_15, b_M_X11_isIn_14, b_M_X11_isIn_10, b_M_X11_isIn_5, b_M_X11_isIn_0, h, gb_b, gb_v, fb_g, M0, st_I]
    · simp [f_M_X11_quit__0, b_M_X11_quit__0_30, b_M_X11_quit__0_29, b_M_X11_quit__0_25, b_M_X11_quit__0_16, b_M_X11_quit__0_14, b_M_X11_quit__0_0, f_M_X11_isIn, b_M_X11_isIn_15, b_M_X11_isIn_14, b_M_X11_isIn_10, b_M_X11_isIn_5, b_M_X11_isIn_0, h, i_gm h, gb_b, gb_v, fb_g, M0, st_I]

