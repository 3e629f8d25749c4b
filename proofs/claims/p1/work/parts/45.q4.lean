/-! ANSWERS FOR EVERY ARGUMENT: WHAT HOLDS OF A COUNTEREXAMPLE CHOSEN BLINDLY HOLDS OF ALL -/
theorem ep_all {α : Type} [Nonempty α] (P : α → Prop) (h : P (Classical.epsilon fun x => ¬ P x)) : ∀ x, P x := by
  intro x
  apply Classical.byContradiction
  intro hx
  exact (Classical.epsilon_spec (p := fun x => ¬ P x) ⟨x, hx⟩) h
theorem ep_ni : Nonempty Int32 := ⟨0⟩
theorem ep_nl : Nonempty Int64 := ⟨0⟩
set_option maxRecDepth 100000
theorem m_order : ∀ x : Int32, (f_M_X11_order__0 M0 x).map Prod.fst = some (-1) :=
  @ep_all _ ep_ni (fun x => (f_M_X11_order__0 M0 x).map Prod.fst = some (-1)) (by decide +kernel)
theorem x_input_3 : ∀ v : Int64, (f_X_X10_input__0 X0 3 v).map Prod.fst = some 0 :=
  @ep_all _ ep_nl (fun v => (f_X_X10_input__0 X0 3 v).map Prod.fst = some 0) (by decide +kernel)
theorem m_input_3 : ∀ v : Int64, (f_M_X11_input__0 M0 3 v).map Prod.fst = some 0 :=
  @ep_all _ ep_nl (fun v => (f_M_X11_input__0 M0 3 v).map Prod.fst = some 0) (by decide +kernel)
theorem x_would_3 : ∀ v : Int64, (f_X_X10_would__0 X0 3 v).map Prod.fst = some 0 :=
  @ep_all _ ep_nl (fun v => (f_X_X10_would__0 X0 3 v).map Prod.fst = some 0) (by decide +kernel)
theorem m_would_3 : ∀ v : Int64, (f_M_X11_would__0 M0 3 v).map Prod.fst = some 0 :=
  @ep_all _ ep_nl (fun v => (f_M_X11_would__0 M0 3 v).map Prod.fst = some 0) (by decide +kernel)

