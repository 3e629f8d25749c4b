/-! WHAT IF, WOULD, SEEK: THE CLASS'S STEPS -/
theorem x_known (t : fw_S) (i j : Nat) (hj : j < 32) (v : Int64) (h1 : ∀ c, c < 32 → st_F t 9 c = if c = i then 0 else 3) (h2 : st_G t 0 i = v) : f_X_X0_known__4 t (nI j) = some (if j = i then v else -9223372036854775808, t) := by
  have z : ¬ (1 : Int32) = 0 := by decide
  have z3 : ¬ (3 : Int32) = 0 := by decide
  have e := h1 j hj
  by_cases k : j = i
  · subst k
    rw [if_pos rfl] at e ⊢
    simp [f_X_X0_known__4, b_X_X0_known__4_19, b_X_X0_known__4_16, b_X_X0_known__4_8, b_X_X0_known__4_0, f_X_X0_errorOf__4, b_X_X0_errorOf__4_18, b_X_X0_errorOf__4_17, b_X_X0_errorOf__4_8, b_X_X0_errorOf__4_0, f_X_X0_numberOf__4, b_X_X0_numberOf__4_18, b_X_X0_numberOf__4_17, b_X_X0_numberOf__4_8, b_X_X0_numberOf__4_0, xc_1 hj, gb_b, fb_g, e, h2, ni_cl (show j < 2 ^ 31 by omega), ni_n0 (show j < 2 ^ 31 by omega), hj]
  · rw [if_neg k] at e ⊢
    simp [f_X_X0_known__4, b_X_X0_known__4_19, b_X_X0_known__4_16, b_X_X0_known__4_8, b_X_X0_known__4_0, f_X_X0_errorOf__4, b_X_X0_errorOf__4_18, b_X_X0_errorOf__4_17, b_X_X0_errorOf__4_8, b_X_X0_errorOf__4_0, f_X_X0_numberOf__4, b_X_X0_numberOf__4_18, b_X_X0_numberOf__4_17, b_X_X0_numberOf__4_8, b_X_X0_numberOf__4_0, xc_1 hj, gb_b, fb_g, e, ni_cl (show j < 2 ^ 31 by omega), ni_n0 (show j < 2 ^ 31 by omega), hj]
theorem x_whatIf (i j : Nat) (hi : i < 32) (hj : j < 32) (v : Int64) (t : fw_S) (ht : x_none t) : (b_X_X10_whatIf__0_17 t (nI i) v (nI j)).map Prod.fst = some (if j = i then v else -9223372036854775808) := by
  obtain ⟨u, s1, s2, s3, w, s4, s5⟩ := x_sup t ht i hi v
  have z : ¬ (0 : Int32) = -7 := by decide
  have k := x_known u i j hj v s2 s3
  simp only [b_X_X10_whatIf__0_17, s1, gb_b, if_neg z, b_X_X10_whatIf__0_32, f_X_X1_now__3, b_X_X1_now__3_0, gb_v, k, s4, Option.map]
theorem x_reach (t : fw_S) (i j : Nat) (hj : j < 32) (v g : Int64) (h1 : ∀ c, c < 32 → st_F t 9 c = if c = i then 0 else 3) (h2 : st_G t 0 i = v) : f_X_X0_reaches__4 t (nI j) g = some (if j = i ∧ ¬ lg_cmp v g < 0 then 1 else 0, t) := by
  have e := h1 j hj
  by_cases k : j = i
  · subst k
    rw [if_pos rfl] at e
    by_cases c : lg_cmp v g < 0
    · rw [if_neg (fun h => h.2 c)]
      simp [f_X_X0_reaches__4, b_X_X0_reaches__4_23, b_X_X0_reaches__4_22, b_X_X0_reaches__4_18, b_X_X0_reaches__4_8, b_X_X0_reaches__4_0, f_X_X0_errorOf__4, b_X_X0_errorOf__4_18, b_X_X0_errorOf__4_17, b_X_X0_errorOf__4_8, b_X_X0_errorOf__4_0, f_X_X0_numberOf__4, b_X_X0_numberOf__4_18, b_X_X0_numberOf__4_17, b_X_X0_numberOf__4_8, b_X_X0_numberOf__4_0, xc_1 hj, gb_b, fb_g, e, h2, c, ni_cl (show j < 2 ^ 31 by omega), ni_n0 (show j < 2 ^ 31 by omega), hj]
    · rw [if_pos ⟨rfl, c⟩]
      simp [f_X_X0_reaches__4, b_X_X0_reaches__4_23, b_X_X0_reaches__4_22, b_X_X0_reaches__4_18, b_X_X0_reaches__4_8, b_X_X0_reaches__4_0, f_X_X0_errorOf__4, b_X_X0_errorOf__4_18, b_X_X0_errorOf__4_17, b_X_X0_errorOf__4_8, b_X_X0_errorOf__4_0, f_X_X0_numberOf__4, b_X_X0_numberOf__4_18, b_X_X0_numberOf__4_17, b_X_X0_numberOf__4_8, b_X_X0_numberOf__4_0, xc_1 hj, gb_b, fb_g, e, h2, c, Int32.not_lt.mp c, ni_cl (show j < 2 ^ 31 by omega), ni_n0 (show j < 2 ^ 31 by omega), hj]
  · rw [if_neg k] at e
    rw [if_neg (fun h => k h.1)]
    simp [f_X_X0_reaches__4, b_X_X0_reaches__4_23, b_X_X0_reaches__4_22, b_X_X0_reaches__4_18, b_X_X0_reaches__4_8, b_X_X0_reaches__4_0, f_X_X0_errorOf__4, b_X_X0_errorOf__4_18, b_X_X0_errorOf__4_17, b_X_X0_errorOf__4_8, b_X_X0_errorOf__4_0, f_X_X0_numberOf__4, b_X_X0_numberOf__4_18, b_X_X0_numberOf__4_17, b_X_X0_numberOf__4_8, b_X_X0_numberOf__4_0, xc_1 hj, gb_b, fb_g, e, ni_cl (show j < 2 ^ 31 by omega), ni_n0 (show j < 2 ^ 31 by omega), hj]
theorem x_sk (i j m : Nat) (hi : i < 32) (hj : j < 32) (hm : m ≤ 12) (g v : Int64) : ∀ (r k n : Nat) (t : fw_S), x_none t → k + r = m → r < n → (b_X_X10_seek__0_36 n t (nI i) v (nI m) (nI j) g (nI k)).map Prod.fst = some (sk_ (j = i) g v r k) := by
  intro r
  induction r with
  | zero =>
    intro k n t ht hk hn
    obtain ⟨n, rfl⟩ : ∃ n', n = n' + 1 := ⟨n - 1, by omega⟩
    have e : k = m := by omega
    subst e
    simp only [b_X_X10_seek__0_36, b_X_X10_seek__0_110, sk_, if_pos (ni_le (Nat.le_refl k) (show k < 2 ^ 31 by omega)), Option.map]
  | succ r ih =>
    intro k n t ht hk hn
    obtain ⟨n, rfl⟩ : ∃ n', n = n' + 1 := ⟨n - 1, by omega⟩
    have ih := ih (k + 1) n
    obtain ⟨u, s1, s2, s3, w, s4, s5⟩ := x_sup t ht i hi (v + (nI k).toInt64)
    have rc := x_reach u i j hj (v + (nI k).toInt64) g s2 s3
    have e1 : ¬ nI m ≤ nI k := ni_ge (show k < m by omega) (show m < 2 ^ 31 by omega)
    have ih := ih w s5 (by omega) (by omega)
    have st : b_X_X10_seek__0_36 (n + 1) t (nI i) v (nI m) (nI j) g (nI k) = b_X_X10_seek__0_43 (b_X_X10_seek__0_36 n) t (nI i) v (nI m) (nI j) g (nI k) := by
      simp only [b_X_X10_seek__0_36, if_neg e1]
    rw [st]
    generalize b_X_X10_seek__0_36 n = B at ih
    by_cases h : 0 < lg_cmp v (9223372036854775807 - (nI k).toInt64)
    · simp only [b_X_X10_seek__0_43, if_pos h, b_X_X10_seek__0_110, sk_, Option.map]
    · have z : ¬ (0 : Int32) = -7 := by decide
      have z1 : ¬ (1 : Int32) = 0 := by decide
      by_cases c : j = i ∧ ¬ lg_cmp (v + (nI k).toInt64) g < 0
      · rw [if_pos c] at rc
        simp only [b_X_X10_seek__0_43, if_neg h, b_X_X10_seek__0_55, s1, gb_b, if_neg z, b_X_X10_seek__0_70, f_X_X1_now__3, b_X_X1_now__3_0, gb_v, rc, s4, if_neg z1, b_X_X10_seek__0_98, sk_, if_pos c, Option.map]
      · rw [if_neg c] at rc
        simp only [b_X_X10_seek__0_43, if_neg h, b_X_X10_seek__0_55, s1, gb_b, if_neg z, b_X_X10_seek__0_70, f_X_X1_now__3, b_X_X1_now__3_0, gb_v, rc, s4, if_true, b_X_X10_seek__0_104, ni_up, sk_, if_neg c]
        exact ih
theorem x_would (i : Nat) (hi : i < 32) (v : Int64) (t : fw_S) (ht : x_none t) : (b_X_X10_would__0_10 t (nI i) v).map Prod.fst = some 0 := by
  obtain ⟨u, s1, s2, s3, w, s4, s5⟩ := x_sup t ht i hi v
  have z : ¬ (0 : Int32) = -7 := by decide
  simp [f_X_X10_would__0, b_X_X10_would__0_32, b_X_X10_would__0_25, b_X_X10_would__0_10, b_X_X10_would__0_8, b_X_X10_would__0_0, s1, gb_b, gb_v, s4, z]

