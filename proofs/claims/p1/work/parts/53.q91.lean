/-! INPUT: EACH CELL -/
set_option maxRecDepth 100000
theorem m_input_c0 : ∀ v : Int64, (f_M_X11_input__0 M0 (nI 0) v).map Prod.fst = some 0 :=
  @ep_all _ ep_nl (fun v => (f_M_X11_input__0 M0 (nI 0) v).map Prod.fst = some 0) (by decide +kernel)
theorem m_input_c1 : ∀ v : Int64, (f_M_X11_input__0 M0 (nI 1) v).map Prod.fst = some 0 :=
  @ep_all _ ep_nl (fun v => (f_M_X11_input__0 M0 (nI 1) v).map Prod.fst = some 0) (by decide +kernel)
theorem m_input_c2 : ∀ v : Int64, (f_M_X11_input__0 M0 (nI 2) v).map Prod.fst = some 0 :=
  @ep_all _ ep_nl (fun v => (f_M_X11_input__0 M0 (nI 2) v).map Prod.fst = some 0) (by decide +kernel)
theorem m_input_c3 : ∀ v : Int64, (f_M_X11_input__0 M0 (nI 3) v).map Prod.fst = some 0 :=
  @ep_all _ ep_nl (fun v => (f_M_X11_input__0 M0 (nI 3) v).map Prod.fst = some 0) (by decide +kernel)
theorem m_input_c4 : ∀ v : Int64, (f_M_X11_input__0 M0 (nI 4) v).map Prod.fst = some 0 :=
  @ep_all _ ep_nl (fun v => (f_M_X11_input__0 M0 (nI 4) v).map Prod.fst = some 0) (by decide +kernel)
theorem m_input_c5 : ∀ v : Int64, (f_M_X11_input__0 M0 (nI 5) v).map Prod.fst = some 0 :=
  @ep_all _ ep_nl (fun v => (f_M_X11_input__0 M0 (nI 5) v).map Prod.fst = some 0) (by decide +kernel)
theorem m_input_c6 : ∀ v : Int64, (f_M_X11_input__0 M0 (nI 6) v).map Prod.fst = some 0 :=
  @ep_all _ ep_nl (fun v => (f_M_X11_input__0 M0 (nI 6) v).map Prod.fst = some 0) (by decide +kernel)
theorem m_input_c7 : ∀ v : Int64, (f_M_X11_input__0 M0 (nI 7) v).map Prod.fst = some 0 :=
  @ep_all _ ep_nl (fun v => (f_M_X11_input__0 M0 (nI 7) v).map Prod.fst = some 0) (by decide +kernel)
theorem m_input_c8 : ∀ v : Int64, (f_M_X11_input__0 M0 (nI 8) v).map Prod.fst = some 0 :=
  @ep_all _ ep_nl (fun v => (f_M_X11_input__0 M0 (nI 8) v).map Prod.fst = some 0) (by decide +kernel)
theorem m_input_c9 : ∀ v : Int64, (f_M_X11_input__0 M0 (nI 9) v).map Prod.fst = some 0 :=
  @ep_all _ ep_nl (fun v => (f_M_X11_input__0 M0 (nI 9) v).map Prod.fst = some 0) (by decide +kernel)
theorem m_input_c10 : ∀ v : Int64, (f_M_X11_input__0 M0 (nI 10) v).map Prod.fst = some 0 :=
  @ep_all _ ep_nl (fun v => (f_M_X11_input__0 M0 (nI 10) v).map Prod.fst = some 0) (by decide +kernel)
theorem m_input_c11 : ∀ v : Int64, (f_M_X11_input__0 M0 (nI 11) v).map Prod.fst = some 0 :=
  @ep_all _ ep_nl (fun v => (f_M_X11_input__0 M0 (nI 11) v).map Prod.fst = some 0) (by decide +kernel)
theorem m_input_c12 : ∀ v : Int64, (f_M_X11_input__0 M0 (nI 12) v).map Prod.fst = some 0 :=
  @ep_all _ ep_nl (fun v => (f_M_X11_input__0 M0 (nI 12) v).map Prod.fst = some 0) (by decide +kernel)
theorem m_input_c13 : ∀ v : Int64, (f_M_X11_input__0 M0 (nI 13) v).map Prod.fst = some 0 :=
  @ep_all _ ep_nl (fun v => (f_M_X11_input__0 M0 (nI 13) v).map Prod.fst = some 0) (by decide +kernel)
theorem m_input_c14 : ∀ v : Int64, (f_M_X11_input__0 M0 (nI 14) v).map Prod.fst = some 0 :=
  @ep_all _ ep_nl (fun v => (f_M_X11_input__0 M0 (nI 14) v).map Prod.fst = some 0) (by decide +kernel)
theorem m_input_c15 : ∀ v : Int64, (f_M_X11_input__0 M0 (nI 15) v).map Prod.fst = some 0 :=
  @ep_all _ ep_nl (fun v => (f_M_X11_input__0 M0 (nI 15) v).map Prod.fst = some 0) (by decide +kernel)
theorem m_input_c16 : ∀ v : Int64, (f_M_X11_input__0 M0 (nI 16) v).map Prod.fst = some 0 :=
  @ep_all _ ep_nl (fun v => (f_M_X11_input__0 M0 (nI 16) v).map Prod.fst = some 0) (by decide +kernel)
theorem m_input_c17 : ∀ v : Int64, (f_M_X11_input__0 M0 (nI 17) v).map Prod.fst = some 0 :=
  @ep_all _ ep_nl (fun v => (f_M_X11_input__0 M0 (nI 17) v).map Prod.fst = some 0) (by decide +kernel)
theorem m_input_c18 : ∀ v : Int64, (f_M_X11_input__0 M0 (nI 18) v).map Prod.fst = some 0 :=
  @ep_all _ ep_nl (fun v => (f_M_X11_input__0 M0 (nI 18) v).map Prod.fst = some 0) (by decide +kernel)
theorem m_input_c19 : ∀ v : Int64, (f_M_X11_input__0 M0 (nI 19) v).map Prod.fst = some 0 :=
  @ep_all _ ep_nl (fun v => (f_M_X11_input__0 M0 (nI 19) v).map Prod.fst = some 0) (by decide +kernel)
theorem m_input_c20 : ∀ v : Int64, (f_M_X11_input__0 M0 (nI 20) v).map Prod.fst = some 0 :=
  @ep_all _ ep_nl (fun v => (f_M_X11_input__0 M0 (nI 20) v).map Prod.fst = some 0) (by decide +kernel)
theorem m_input_c21 : ∀ v : Int64, (f_M_X11_input__0 M0 (nI 21) v).map Prod.fst = some 0 :=
  @ep_all _ ep_nl (fun v => (f_M_X11_input__0 M0 (nI 21) v).map Prod.fst = some 0) (by decide +kernel)
theorem m_input_c22 : ∀ v : Int64, (f_M_X11_input__0 M0 (nI 22) v).map Prod.fst = some 0 :=
  @ep_all _ ep_nl (fun v => (f_M_X11_input__0 M0 (nI 22) v).map Prod.fst = some 0) (by decide +kernel)
theorem m_input_c23 : ∀ v : Int64, (f_M_X11_input__0 M0 (nI 23) v).map Prod.fst = some 0 :=
  @ep_all _ ep_nl (fun v => (f_M_X11_input__0 M0 (nI 23) v).map Prod.fst = some 0) (by decide +kernel)
theorem m_input_c24 : ∀ v : Int64, (f_M_X11_input__0 M0 (nI 24) v).map Prod.fst = some 0 :=
  @ep_all _ ep_nl (fun v => (f_M_X11_input__0 M0 (nI 24) v).map Prod.fst = some 0) (by decide +kernel)
theorem m_input_c25 : ∀ v : Int64, (f_M_X11_input__0 M0 (nI 25) v).map Prod.fst = some 0 :=
  @ep_all _ ep_nl (fun v => (f_M_X11_input__0 M0 (nI 25) v).map Prod.fst = some 0) (by decide +kernel)
theorem m_input_c26 : ∀ v : Int64, (f_M_X11_input__0 M0 (nI 26) v).map Prod.fst = some 0 :=
  @ep_all _ ep_nl (fun v => (f_M_X11_input__0 M0 (nI 26) v).map Prod.fst = some 0) (by decide +kernel)
theorem m_input_c27 : ∀ v : Int64, (f_M_X11_input__0 M0 (nI 27) v).map Prod.fst = some 0 :=
  @ep_all _ ep_nl (fun v => (f_M_X11_input__0 M0 (nI 27) v).map Prod.fst = some 0) (by decide +kernel)
theorem m_input_c28 : ∀ v : Int64, (f_M_X11_input__0 M0 (nI 28) v).map Prod.fst = some 0 :=
  @ep_all _ ep_nl (fun v => (f_M_X11_input__0 M0 (nI 28) v).map Prod.fst = some 0) (by decide +kernel)
theorem m_input_c29 : ∀ v : Int64, (f_M_X11_input__0 M0 (nI 29) v).map Prod.fst = some 0 :=
  @ep_all _ ep_nl (fun v => (f_M_X11_input__0 M0 (nI 29) v).map Prod.fst = some 0) (by decide +kernel)
theorem m_input_c30 : ∀ v : Int64, (f_M_X11_input__0 M0 (nI 30) v).map Prod.fst = some 0 :=
  @ep_all _ ep_nl (fun v => (f_M_X11_input__0 M0 (nI 30) v).map Prod.fst = some 0) (by decide +kernel)
theorem m_input_c31 : ∀ v : Int64, (f_M_X11_input__0 M0 (nI 31) v).map Prod.fst = some 0 :=
  @ep_all _ ep_nl (fun v => (f_M_X11_input__0 M0 (nI 31) v).map Prod.fst = some 0) (by decide +kernel)

