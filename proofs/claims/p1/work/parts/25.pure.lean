/-! THE STATE'S LAWS -/
theorem sI_I (t : fw_S) (k j : Nat) (v : Int32) : st_I (up_I t k v) j = if j = k then v else st_I t j := rfl
theorem sI_J (t : fw_S) (k j : Nat) (v : Int64) : st_I (up_J t k v) j = st_I t j := rfl
theorem sI_F (t : fw_S) (k j : Nat) (v : Nat → Int32) : st_I (up_F t k v) j = st_I t j := rfl
theorem sI_G (t : fw_S) (k j : Nat) (v : Nat → Int64) : st_I (up_G t k v) j = st_I t j := rfl
theorem sJ_I (t : fw_S) (k j : Nat) (v : Int32) : st_J (up_I t k v) j = st_J t j := rfl
theorem sJ_J (t : fw_S) (k j : Nat) (v : Int64) : st_J (up_J t k v) j = if j = k then v else st_J t j := rfl
theorem sJ_F (t : fw_S) (k j : Nat) (v : Nat → Int32) : st_J (up_F t k v) j = st_J t j := rfl
theorem sJ_G (t : fw_S) (k j : Nat) (v : Nat → Int64) : st_J (up_G t k v) j = st_J t j := rfl
theorem sF_I (t : fw_S) (k j : Nat) (v : Int32) : st_F (up_I t k v) j = st_F t j := rfl
theorem sF_J (t : fw_S) (k j : Nat) (v : Int64) : st_F (up_J t k v) j = st_F t j := rfl
theorem sF_F (t : fw_S) (k j : Nat) (v : Nat → Int32) : st_F (up_F t k v) j = if j = k then v else st_F t j := rfl
theorem sF_G (t : fw_S) (k j : Nat) (v : Nat → Int64) : st_F (up_G t k v) j = st_F t j := rfl
theorem sG_I (t : fw_S) (k j : Nat) (v : Int32) : st_G (up_I t k v) j = st_G t j := rfl
theorem sG_J (t : fw_S) (k j : Nat) (v : Int64) : st_G (up_J t k v) j = st_G t j := rfl
theorem sG_F (t : fw_S) (k j : Nat) (v : Nat → Int32) : st_G (up_F t k v) j = st_G t j := rfl
theorem sG_G (t : fw_S) (k j : Nat) (v : Nat → Int64) : st_G (up_G t k v) j = if j = k then v else st_G t j := rfl
theorem gb_b {α β : Type} (r : α) (t : fw_S) (k : α → fw_S → Option β) : fb_b (some (r, t)) k = k r t := rfl
theorem gb_v {β : Type} (t : fw_S) (k : fw_S → Option β) : fb_v (some t) k = k t := rfl
theorem gb_l {α β : Type} (v : α) (k : α → Option β) : fb_l v k = k v := rfl
theorem gb_g {β : Type} {p : Prop} [Decidable p] (h : p) (x : Option β) : fb_g p x = x := by unfold fb_g; rw [if_pos h]
theorem gb_gt {β : Type} (x : Option β) : fb_g True x = x := by unfold fb_g; simp
theorem nb_0 : vp_nar .boolean 0 = 0 := rfl
theorem nb_1 : vp_nar .boolean 1 = 1 := rfl
/-- numbers: an index below a bound -/
theorem ni_in {i N : Nat} (h : i < N) (hN : N < 2 ^ 31) : ¬ (nI i < 0 ∨ N ≤ (nI i).toNatClampNeg) := vp_in_nI h hN
theorem ni_cl {i : Nat} (h : i < 2 ^ 31) : (nI i).toNatClampNeg = i := nI_clamp h
theorem ni_up (i : Nat) : nI i + 1 = nI (i + 1) := nI_1 i
theorem ni_ge {i N : Nat} (h : i < N) (hN : N < 2 ^ 31) : ¬ nI N ≤ nI i := nI_ge h hN
theorem ni_le {i N : Nat} (h : N ≤ i) (hN : i < 2 ^ 31) : nI N ≤ nI i := nI_le h hN
theorem ni_32 : (32 : Int32) = nI 32 := rfl
theorem ni_l {i : Nat} (h : i < 2 ^ 31) : (nI i).toInt64 = lN i := nI_l h
/-- a loop that counts up, its end ahead of it: 'x' is all that it carries -/
theorem lp_up {σ β : Type} (f : Nat → σ → Option β) (g : σ → Option β) (I : Nat → σ → Prop) (N : Nat) (hs : ∀ n i x, i < N → I i x → ∃ x', I (i + 1) x' ∧ f (n + 1) x = f n x') (he : ∀ n x, I N x → f (n + 1) x = g x) : ∀ (n i : Nat) (x : σ), i ≤ N → N - i < n → I i x → ∃ x', I N x' ∧ f n x = g x' := by
  intro n
  induction n with
  | zero => intro i x _ h; omega
  | succ n ih =>
    intro i x hi hn hI
    by_cases h : i = N
    · subst h; exact ⟨x, hI, he n x hI⟩
    · obtain ⟨x', h1, h2⟩ := hs n i x (by omega) hI
      obtain ⟨x2, h3, h4⟩ := ih (i + 1) x' (by omega) (by omega) h1
      exact ⟨x2, h3, h2.trans h4⟩
/-- two cells of a row -/
theorem up_s (f : Nat → Int32) (k : Nat) (x : Int32) (j : Nat) : upd f k x j = if j = k then x else f j := by simp [upd]
theorem up_l (f : Nat → Int64) (k : Nat) (x : Int64) (j : Nat) : vp_updL f k x j = if j = k then x else f j := rfl
/-- a cell's number, or none -/
theorem ci_cases (x : Int32) : (∃ i : Nat, i < 32 ∧ x = nI i) ∨ (x < 0 ∨ nI 32 ≤ x) := by
  rcases pk_ix x (n := 32) (by decide) with h | h | h
  · exact Or.inr (Or.inl h)
  · exact Or.inr (Or.inr h)
  · exact Or.inl h
theorem ni_n0 {i : Nat} (h : i < 2 ^ 31) : ¬ nI i < 0 := nI_pos h
theorem ni_c {i N : Nat} {c : Int32} (hc : c = nI N) (h : i < N) (hN : N < 2 ^ 31) : ¬ c ≤ nI i := by rw [hc]; exact nI_ge h hN
theorem ni_d {i N : Nat} {c : Int32} (hc : c = nI N) (h : N ≤ i) (hN : i < 2 ^ 31) : c ≤ nI i := by rw [hc]; exact nI_le h hN
theorem lt_cons {i : Nat} {P : Nat → Prop} (h : ∀ j, j < i → P j) (hi : P i) : ∀ j, j < i + 1 → P j := fun j hj => by
  by_cases h1 : j = i
  · subst h1; exact hi
  · exact h j (by omega)

