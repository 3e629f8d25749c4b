/-! WAVES AND WHAT IS LEFT -/
set_option maxRecDepth 100000
theorem m_image : (f_M_X11_image__0 M0).map Prod.fst = some 0 := by decide +kernel
theorem x_input_k : ∀ v : Int64, ∀ i, i < 32 → (f_X_X10_input__0 X0 (nI i) v).map Prod.fst = some 0 :=
  @ep_all _ ep_nl (fun v => ∀ i, i < 32 → (f_X_X10_input__0 X0 (nI i) v).map Prod.fst = some 0) (by decide +kernel)
theorem a_define (x : Int32) : ∃ r, (f_X_X10_define__0 X0 x).map Prod.fst = some r ∧ (f_M_X11_define__0 M0 x).map Prod.fst = some r := by
  rcases ci_cases x with ⟨i, hi, rfl⟩ | hc
  · exact ⟨_, x_define_k i hi, m_define_k i hi⟩
  · refine ⟨-1, ?_, ?_⟩
    · simp [f_X_X10_define__0, b_X_X10_define__0_22, b_X_X10_define__0_10, b_X_X10_define__0_8, b_X_X10_define__0_0, xc_0 hc, gb_b, gb_v, fb_g]
    · simp [f_M_X11_define__0, b_M_X11_define__0_48, b_M_X11_define__0_40, b_M_X11_define__0_30, b_M_X11_define__0_9, b_M_X11_define__0_7, b_M_X11_define__0_0, mc_0 hc, gb_b, gb_v, fb_g]
theorem a_freeze (x : Int32) : ∃ r, (f_X_X10_freeze__0 X0 x).map Prod.fst = some r ∧ (f_M_X11_freeze__0 M0 x).map Prod.fst = some r := by
  rcases ci_cases x with ⟨i, hi, rfl⟩ | hc
  · exact ⟨_, x_freeze_k i hi, m_freeze_k i hi⟩
  · refine ⟨-1, ?_, ?_⟩
    · simp [f_X_X10_freeze__0, b_X_X10_freeze__0_35, b_X_X10_freeze__0_38, b_X_X10_freeze__0_27, b_X_X10_freeze__0_10, b_X_X10_freeze__0_8, b_X_X10_freeze__0_0, xc_0 hc, gb_b, gb_v, fb_g]
    · simp [f_M_X11_freeze__0, b_M_X11_freeze__0_46, b_M_X11_freeze__0_28, b_M_X11_freeze__0_33, b_M_X11_freeze__0_19, b_M_X11_freeze__0_9, b_M_X11_freeze__0_7, b_M_X11_freeze__0_0, mc_0 hc, gb_b, gb_v, fb_g]
theorem a_spell (x : Int32) : ∃ r, (f_X_X10_spell__0 X0 x).map Prod.fst = some r ∧ (f_M_X11_spell__0 M0 x).map Prod.fst = some r := by
  rcases ci_cases x with ⟨i, hi, rfl⟩ | hc
  · exact ⟨_, x_spell_k i hi, m_spell_k i hi⟩
  · refine ⟨-1, ?_, ?_⟩
    · simp [f_X_X10_spell__0, b_X_X10_spell__0_26, b_X_X10_spell__0_10, b_X_X10_spell__0_8, b_X_X10_spell__0_0, xc_0 hc, gb_b, gb_v, fb_g]
    · simp [f_M_X11_spell__0, b_M_X11_spell__0_22, b_M_X11_spell__0_19, b_M_X11_spell__0_9, b_M_X11_spell__0_7, b_M_X11_spell__0_0, mc_0 hc, gb_b, gb_v, fb_g]
theorem a_readers (x : Int32) : ∃ r, (f_X_X10_readers__0 X0 x).map Prod.fst = some r ∧ (f_M_X11_readers__0 M0 x).map Prod.fst = some r := by
  rcases ci_cases x with ⟨i, hi, rfl⟩ | hc
  · exact ⟨_, x_readers_k i hi, m_readers_k i hi⟩
  · refine ⟨-9223372036854775808, ?_, ?_⟩
    · simp [f_X_X10_readers__0, b_X_X10_readers__0_25, b_X_X10_readers__0_22, b_X_X10_readers__0_8, b_X_X10_readers__0_0, xc_0 hc, gb_b, gb_v, fb_g]
    · simp [f_M_X11_readers__0, b_M_X11_readers__0_74, b_M_X11_readers__0_68, b_M_X11_readers__0_62, b_M_X11_readers__0_55, b_M_X11_readers__0_38, b_M_X11_readers__0_23, b_M_X11_readers__0_11, b_M_X11_readers__0_7, b_M_X11_readers__0_0, mc_0 hc, gb_b, gb_v, fb_g]
theorem a_begin : ∃ r, (f_X_X10_begin__0 X0).map Prod.fst = some r ∧ (f_M_X11_begin__0 M0).map Prod.fst = some r := ⟨_, x_begin, m_begin⟩
theorem a_end : ∃ r, (f_X_X10_end__0 X0).map Prod.fst = some r ∧ (f_M_X11_end__0 M0).map Prod.fst = some r := ⟨_, x_end, m_end⟩
theorem a_cancel : ∃ r, (f_X_X10_cancel__0 X0).map Prod.fst = some r ∧ (f_M_X11_cancel__0 M0).map Prod.fst = some r := ⟨_, x_cancel, m_cancel⟩
theorem a_clear : ∃ r, (f_X_X10_clear__0 X0).map Prod.fst = some r ∧ (f_M_X11_clear__0 M0).map Prod.fst = some r := ⟨_, x_clear, m_clear⟩
theorem a_image : ∃ r, (f_X_X10_image__0 X0).map Prod.fst = some r ∧ (f_M_X11_image__0 M0).map Prod.fst = some r := ⟨_, x_image, m_image⟩
theorem a_undo : ∃ r, (f_X_X10_undo__0 X0).map Prod.fst = some r ∧ (f_M_X11_undo__0 M0).map Prod.fst = some r := ⟨_, x_undo, m_undo⟩
theorem a_value (x : Int32) : ∃ r, (f_X_X10_value__0 X0 x).map Prod.fst = some r ∧ (f_M_X11_value__0 M0 x).map Prod.fst = some r := ⟨_, x_value x, m_value x⟩
theorem a_order (x : Int32) : ∃ r, (f_X_X10_order__0 X0 x).map Prod.fst = some r ∧ (f_M_X11_order__0 M0 x).map Prod.fst = some r := ⟨_, x_order x, m_order x⟩
theorem a_copy (x y : Int32) : ∃ r, (f_X_X10_copy__0 X0 x y).map Prod.fst = some r ∧ (f_M_X11_copy__0 M0 x y).map Prod.fst = some r := by
  rcases ci_cases x with ⟨i, hi, rfl⟩ | hc
  · rcases ci_cases y with ⟨j, hj, rfl⟩ | hd
    · exact ⟨_, x_copy_k i hi j hj, m_copy_k i hi j hj⟩
    · exact ⟨_, x_copy_1 hi hd, m_copy_1 hi hd⟩
  · exact ⟨_, x_copy_0 hc, m_copy_0 hc⟩


