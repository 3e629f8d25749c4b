theorem m_of_2 : ∀ i, i < 32 → (f_M_X11_of__0 M0 (nI i) 2).map Prod.fst = some 0 := by decide +kernel
theorem m_of_9 : ∀ i, i < 32 → (f_M_X11_of__0 M0 (nI i) 9).map Prod.fst = some 0 := by decide +kernel
theorem x_drop_k : ∀ i, i < 32 → (f_X_X10_drop__0 X0 (nI i)).map Prod.fst = some 0 := by decide +kernel
theorem m_drop_7 : (f_M_X11_drop__0 M0 7).map Prod.fst = some 0 := by decide +kernel

