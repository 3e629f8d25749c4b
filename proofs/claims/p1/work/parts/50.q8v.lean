/-! WAY -/
theorem way_m24 (i j : Nat) (z : Int32) : ∃ t : fw_S, (∀ c, c < 32 → st_F t 42 c = -1) ∧ (∀ c, c < 32 → st_F t 3 c = 0) ∧ b_M_X11_way__0_24 3000 M0 (nI i) (nI j) z 0 = b_M_X11_way__0_45 t (nI i) (nI j) z := by
  obtain ⟨⟨t, x⟩, ⟨h1, h2, h3⟩, he⟩ := lp_up (fun n (p : fw_S × Int32) => b_M_X11_way__0_24 n p.1 (nI i) (nI j) z p.2) (fun p => b_M_X11_way__0_45 p.1 (nI i) (nI j) z) (fun k p => p.2 = nI k ∧ (∀ c, c < k → st_F p.1 42 c = -1) ∧ ∀ c, c < 32 → st_F p.1 3 c = 0) 32
    (by
      intro n k ⟨t, x⟩ hk ⟨h1, h2, h3⟩
      have h1 : x = nI k := h1
      subst h1
      refine ⟨(up_F t 42 (upd (st_F t 42) k (-1)), nI (k + 1)), ⟨rfl, lt_cons ?_ ?_, ?_⟩, ?_⟩
      · intro c hc
        have := h2 c hc
        simp only [sF_F, up_s]
        rw [if_pos trivial, up_s, if_neg (by omega)]; exact this
      · simp [sF_F, up_s]
      · intro c hc
        have := h3 c hc
        simpa [sF_F] using this
      · have g : ¬ (32 : Int32) ≤ nI k := ni_c (N := 32) rfl hk (by decide)
        simp [b_M_X11_way__0_24, b_M_X11_way__0_31, g, gb_l, fb_g, ni_cl (show k < 2 ^ 31 by omega), ni_n0 (show k < 2 ^ 31 by omega), hk, ni_up])
    (by
      intro n ⟨t, x⟩ ⟨h1, h2, h3⟩
      have h1 : x = nI 32 := h1
      subst h1
      simp [b_M_X11_way__0_24, ni_d (N := 32) (c := 32) rfl (show 32 ≤ 32 by omega) (by decide)]) 3000 0 (M0, 0) (by decide) (by decide) ⟨rfl, fun c hc => absurd hc (by omega), fun c _ => rfl⟩
  exact ⟨t, h2, h3, he⟩
theorem way_m45 (i j : Nat) (hi : i < 32) (hj : j < 32) (z : Int32) : ∃ t : fw_S, (i = j → st_F t 42 i = nI i) ∧ (i ≠ j → st_F t 42 i = -1) ∧ b_M_X11_way__0_24 3000 M0 (nI i) (nI j) z 0 = b_M_X11_way__0_158 t (nI i) (nI j) z := by
  obtain ⟨t, h1, h2, h3⟩ := way_m24 i j z
  refine ⟨up_F (up_F t 41 (upd (st_F t 41) 0 (nI j))) 42 (upd (st_F t 42) j (nI j)), ?_, ?_, ?_⟩
  · intro e; subst e; simp [sF_F, up_s]
  · intro e; simp [sF_F, up_s, e, h1 i hi]
  · rw [h3]
    have e65 : ∀ n (u : fw_S) (a b c : Int32), b_M_X11_way__0_65 (n + 1) u a b c 1 1 = b_M_X11_way__0_158 u a b c := by
      intro n u a b c; simp [b_M_X11_way__0_65]
    have e84 : ∀ k n (u : fw_S) (a b c : Int32), st_F u 3 j = 0 → b_M_X11_way__0_84 k (n + 1) u a b c 1 0 (nI j) 0 = k u a b c 1 1 := by
      intro k n u a b c hu
      simp [b_M_X11_way__0_84, b_M_X11_way__0_152, fb_g, ni_cl (show j < 2 ^ 31 by omega), ni_n0 (show j < 2 ^ 31 by omega), hj, hu]
    have e65' : ∀ n (u : fw_S) (a b c : Int32), st_F u 3 j = 0 → st_F u 41 0 = nI j → b_M_X11_way__0_65 (n + 2) u a b c 1 0 = b_M_X11_way__0_158 u a b c := by
      intro n u a b c h3 h41
      have e := e84 (b_M_X11_way__0_65 (n + 1)) 2999 u a b c h3
      have e1 := e65 n u a b c
      simp [b_M_X11_way__0_65, b_M_X11_way__0_72, fb_g, h41] at e e1 ⊢
      rw [e]
    have e := e65' 2998 (up_F (up_F t 41 (upd (st_F t 41) 0 (nI j))) 42 (upd (st_F t 42) j (nI j))) (nI i) (nI j) z (by simp [sF_F, h2 j hj]) (by simp [sF_F, up_s])
    simp [b_M_X11_way__0_45, fb_g, gb_l, ni_cl (show j < 2 ^ 31 by omega), ni_n0 (show j < 2 ^ 31 by omega), hj, sF_F] at e ⊢
    exact e


