/-! SEEKING, BY STEPS: r STEPS ARE LEFT, k ARE DONE -/
def sk_ (e : Prop) [Decidable e] (g v : Int64) : Nat → Nat → Int64
  | 0, _ => -9223372036854775808
  | r + 1, k => if 0 < lg_cmp v (9223372036854775807 - (nI k).toInt64) then -9223372036854775808
      else if e ∧ ¬ lg_cmp (v + (nI k).toInt64) g < 0 then v + (nI k).toInt64 else sk_ e g v r (k + 1)
theorem m_sk (i j m : Nat) (hi : i < 32) (hj : j < 32) (hm : m ≤ 12) (g v : Int64) : ∀ (r k n : Nat) (t : fw_S), m_none t → k + r = m → r < n → (b_M_X11_seek__0_33 n t (nI i) v (nI m) (nI j) g (nI k)).map Prod.fst = some (sk_ (j = i) g v r k) := by
  intro r
  induction r with
  | zero =>
    intro k n t ht hk hn
    obtain ⟨n, rfl⟩ : ∃ n', n = n' + 1 := ⟨n - 1, by omega⟩
    have e : k = m := by omega
    subst e
    simp only [b_M_X11_seek__0_33, b_M_X11_seek__0_100, sk_, if_pos (ni_le (Nat.le_refl k) (show k < 2 ^ 31 by omega)), Option.map]
  | succ r ih =>
    intro k n t ht hk hn
    obtain ⟨n, rfl⟩ : ∃ n', n = n' + 1 := ⟨n - 1, by omega⟩
    have ih := ih (k + 1) n
    obtain ⟨u, u1, u2, u3, u4⟩ := m_as t ht i j hi hj (v + (nI k).toInt64)
    have e1 : ¬ nI m ≤ nI k := ni_ge (show k < m by omega) (show m < 2 ^ 31 by omega)
    have ih := ih u u2 (by omega) (by omega)
    have st : b_M_X11_seek__0_33 (n + 1) t (nI i) v (nI m) (nI j) g (nI k) = b_M_X11_seek__0_40 (b_M_X11_seek__0_33 n) t (nI i) v (nI m) (nI j) g (nI k) := by
      simp only [b_M_X11_seek__0_33, if_neg e1]
    rw [st]
    generalize b_M_X11_seek__0_33 n = B at ih
    by_cases h : 0 < lg_cmp v (9223372036854775807 - (nI k).toInt64)
    · simp only [b_M_X11_seek__0_40, if_neg (Int32.not_le.mpr h), b_M_X11_seek__0_52, sk_, if_pos h, Option.map]
    · have z : ¬ (0 : Int32) < 0 := by decide
      by_cases e : j = i
      · have u4 := u4 e
        rw [if_pos e] at u3
        by_cases c : lg_cmp (v + (nI k).toInt64) g < 0
        · simp only [b_M_X11_seek__0_40, if_pos (Int32.not_lt.mp h), b_M_X11_seek__0_56, u1, gb_b, if_neg z, b_M_X11_seek__0_71, u3, if_true, b_M_X11_seek__0_78, u4, if_pos c, b_M_X11_seek__0_94, ni_up, sk_, if_neg h, c, not_true, and_false, if_false]
          exact ih
        · simp only [b_M_X11_seek__0_40, if_pos (Int32.not_lt.mp h), b_M_X11_seek__0_56, u1, gb_b, if_neg z, b_M_X11_seek__0_71, u3, if_true, b_M_X11_seek__0_78, u4, if_neg c, b_M_X11_seek__0_88, sk_, if_neg h, if_pos (And.intro e c), Option.map]
      · rw [if_neg e] at u3
        have z3 : ¬ (3 : Int32) = 0 := by decide
        simp only [b_M_X11_seek__0_40, if_pos (Int32.not_lt.mp h), b_M_X11_seek__0_56, u1, gb_b, if_neg z, b_M_X11_seek__0_71, u3, if_neg z3, b_M_X11_seek__0_94, ni_up, sk_, if_neg h, e, false_and, if_false] at ih ⊢
        exact ih
theorem m_whatIf (i j : Nat) (hi : i < 32) (hj : j < 32) (v : Int64) (t : fw_S) (ht : m_none t) : (b_M_X11_whatIf__0_19 t (nI i) v (nI j)).map Prod.fst = some (if j = i then v else -9223372036854775808) := by
  obtain ⟨u, u1, u2, u3, u4⟩ := m_as t ht i j hi hj v
  have z : ¬ (0 : Int32) < 0 := by decide
  by_cases e : j = i
  · have u4 := u4 e
    rw [if_pos e] at u3 ⊢
    simp only [b_M_X11_whatIf__0_19, u1, gb_b, if_neg z, b_M_X11_whatIf__0_30, u3, if_true, b_M_X11_whatIf__0_43, b_M_X11_whatIf__0_47, u4, Option.map]
  · rw [if_neg e] at u3 ⊢
    have z3 : ¬ (3 : Int32) = 0 := by decide
    simp only [b_M_X11_whatIf__0_19, u1, gb_b, if_neg z, b_M_X11_whatIf__0_30, u3, if_neg z3, b_M_X11_whatIf__0_37, b_M_X11_whatIf__0_47, Option.map]
theorem m_would (i : Nat) (hi : i < 32) (v : Int64) (t : fw_S) (ht : m_none t) : (b_M_X11_would__0_11 t (nI i) v).map Prod.fst = some 0 := by
  obtain ⟨u, u1, u2, u3, u4⟩ := m_as t ht i i hi hi v
  simp only [b_M_X11_would__0_11, u1, gb_b, b_M_X11_would__0_18, Option.map]

