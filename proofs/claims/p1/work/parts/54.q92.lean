/-! DROP AND INPUT, BOTH TOGETHER -/
theorem m_drop_k (i : Nat) (hi : i < 32) : (f_M_X11_drop__0 M0 (nI i)).map Prod.fst = some 0 := by
  by_cases h0 : i = 0
  · subst h0; exact m_drop_c0
  by_cases h1 : i = 1
  · subst h1; exact m_drop_c1
  by_cases h2 : i = 2
  · subst h2; exact m_drop_c2
  by_cases h3 : i = 3
  · subst h3; exact m_drop_c3
  by_cases h4 : i = 4
  · subst h4; exact m_drop_c4
  by_cases h5 : i = 5
  · subst h5; exact m_drop_c5
  by_cases h6 : i = 6
  · subst h6; exact m_drop_c6
  by_cases h7 : i = 7
  · subst h7; exact m_drop_c7
  by_cases h8 : i = 8
  · subst h8; exact m_drop_c8
  by_cases h9 : i = 9
  · subst h9; exact m_drop_c9
  by_cases h10 : i = 10
  · subst h10; exact m_drop_c10
  by_cases h11 : i = 11
  · subst h11; exact m_drop_c11
  by_cases h12 : i = 12
  · subst h12; exact m_drop_c12
  by_cases h13 : i = 13
  · subst h13; exact m_drop_c13
  by_cases h14 : i = 14
  · subst h14; exact m_drop_c14
  by_cases h15 : i = 15
  · subst h15; exact m_drop_c15
  by_cases h16 : i = 16
  · subst h16; exact m_drop_c16
  by_cases h17 : i = 17
  · subst h17; exact m_drop_c17
  by_cases h18 : i = 18
  · subst h18; exact m_drop_c18
  by_cases h19 : i = 19
  · subst h19; exact m_drop_c19
  by_cases h20 : i = 20
  · subst h20; exact m_drop_c20
  by_cases h21 : i = 21
  · subst h21; exact m_drop_c21
  by_cases h22 : i = 22
  · subst h22; exact m_drop_c22
  by_cases h23 : i = 23
  · subst h23; exact m_drop_c23
  by_cases h24 : i = 24
  · subst h24; exact m_drop_c24
  by_cases h25 : i = 25
  · subst h25; exact m_drop_c25
  by_cases h26 : i = 26
  · subst h26; exact m_drop_c26
  by_cases h27 : i = 27
  · subst h27; exact m_drop_c27
  by_cases h28 : i = 28
  · subst h28; exact m_drop_c28
  by_cases h29 : i = 29
  · subst h29; exact m_drop_c29
  by_cases h30 : i = 30
  · subst h30; exact m_drop_c30
  by_cases h31 : i = 31
  · subst h31; exact m_drop_c31
  omega
theorem m_input_k (v : Int64) (i : Nat) (hi : i < 32) : (f_M_X11_input__0 M0 (nI i) v).map Prod.fst = some 0 := by
  by_cases h0 : i = 0
  · subst h0; exact m_input_c0 v
  by_cases h1 : i = 1
  · subst h1; exact m_input_c1 v
  by_cases h2 : i = 2
  · subst h2; exact m_input_c2 v
  by_cases h3 : i = 3
  · subst h3; exact m_input_c3 v
  by_cases h4 : i = 4
  · subst h4; exact m_input_c4 v
  by_cases h5 : i = 5
  · subst h5; exact m_input_c5 v
  by_cases h6 : i = 6
  · subst h6; exact m_input_c6 v
  by_cases h7 : i = 7
  · subst h7; exact m_input_c7 v
  by_cases h8 : i = 8
  · subst h8; exact m_input_c8 v
  by_cases h9 : i = 9
  · subst h9; exact m_input_c9 v
  by_cases h10 : i = 10
  · subst h10; exact m_input_c10 v
  by_cases h11 : i = 11
  · subst h11; exact m_input_c11 v
  by_cases h12 : i = 12
  · subst h12; exact m_input_c12 v
  by_cases h13 : i = 13
  · subst h13; exact m_input_c13 v
  by_cases h14 : i = 14
  · subst h14; exact m_input_c14 v
  by_cases h15 : i = 15
  · subst h15; exact m_input_c15 v
  by_cases h16 : i = 16
  · subst h16; exact m_input_c16 v
  by_cases h17 : i = 17
  · subst h17; exact m_input_c17 v
  by_cases h18 : i = 18
  · subst h18; exact m_input_c18 v
  by_cases h19 : i = 19
  · subst h19; exact m_input_c19 v
  by_cases h20 : i = 20
  · subst h20; exact m_input_c20 v
  by_cases h21 : i = 21
  · subst h21; exact m_input_c21 v
  by_cases h22 : i = 22
  · subst h22; exact m_input_c22 v
  by_cases h23 : i = 23
  · subst h23; exact m_input_c23 v
  by_cases h24 : i = 24
  · subst h24; exact m_input_c24 v
  by_cases h25 : i = 25
  · subst h25; exact m_input_c25 v
  by_cases h26 : i = 26
  · subst h26; exact m_input_c26 v
  by_cases h27 : i = 27
  · subst h27; exact m_input_c27 v
  by_cases h28 : i = 28
  · subst h28; exact m_input_c28 v
  by_cases h29 : i = 29
  · subst h29; exact m_input_c29 v
  by_cases h30 : i = 30
  · subst h30; exact m_input_c30 v
  by_cases h31 : i = 31
  · subst h31; exact m_input_c31 v
  omega
theorem a_drop (x : Int32) : ∃ r, (f_X_X10_drop__0 X0 x).map Prod.fst = some r ∧ (f_M_X11_drop__0 M0 x).map Prod.fst = some r := by
  rcases ci_cases x with ⟨i, hi, rfl⟩ | hc
  · exact ⟨_, x_drop_k i hi, m_drop_k i hi⟩
  · refine ⟨-1, ?_, ?_⟩
    · simp [f_X_X10_drop__0, b_X_X10_drop__0_10, b_X_X10_drop__0_8, b_X_X10_drop__0_0, xc_0 hc, gb_b, gb_v, fb_g]
    · simp [f_M_X11_drop__0, b_M_X11_drop__0_19, b_M_X11_drop__0_11, b_M_X11_drop__0_7, b_M_X11_drop__0_0, mc_0 hc, gb_b, gb_v, fb_g]
theorem a_input (x : Int32) (v : Int64) : ∃ r, (f_X_X10_input__0 X0 x v).map Prod.fst = some r ∧ (f_M_X11_input__0 M0 x v).map Prod.fst = some r := by
  rcases ci_cases x with ⟨i, hi, rfl⟩ | hc
  · exact ⟨_, x_input_k v i hi, m_input_k v i hi⟩
  · refine ⟨-1, ?_, ?_⟩
    · simp [f_X_X10_input__0, b_X_X10_input__0_10, b_X_X10_input__0_8, b_X_X10_input__0_0, xc_0 hc, gb_b, gb_v, fb_g]
    · simp [f_M_X11_input__0, b_M_X11_input__0_19, b_M_X11_input__0_11, b_M_X11_input__0_7, b_M_X11_input__0_0, mc_0 hc, gb_b, gb_v, fb_g]

