/-! DROP: EACH CELL -/
set_option maxRecDepth 100000
theorem m_drop_c0 : (f_M_X11_drop__0 M0 (nI 0)).map Prod.fst = some 0 := by decide +kernel
theorem m_drop_c1 : (f_M_X11_drop__0 M0 (nI 1)).map Prod.fst = some 0 := by decide +kernel
theorem m_drop_c2 : (f_M_X11_drop__0 M0 (nI 2)).map Prod.fst = some 0 := by decide +kernel
theorem m_drop_c3 : (f_M_X11_drop__0 M0 (nI 3)).map Prod.fst = some 0 := by decide +kernel
theorem m_drop_c4 : (f_M_X11_drop__0 M0 (nI 4)).map Prod.fst = some 0 := by decide +kernel
theorem m_drop_c5 : (f_M_X11_drop__0 M0 (nI 5)).map Prod.fst = some 0 := by decide +kernel
theorem m_drop_c6 : (f_M_X11_drop__0 M0 (nI 6)).map Prod.fst = some 0 := by decide +kernel
theorem m_drop_c7 : (f_M_X11_drop__0 M0 (nI 7)).map Prod.fst = some 0 := by decide +kernel
theorem m_drop_c8 : (f_M_X11_drop__0 M0 (nI 8)).map Prod.fst = some 0 := by decide +kernel
theorem m_drop_c9 : (f_M_X11_drop__0 M0 (nI 9)).map Prod.fst = some 0 := by decide +kernel
theorem m_drop_c10 : (f_M_X11_drop__0 M0 (nI 10)).map Prod.fst = some 0 := by decide +kernel
theorem m_drop_c11 : (f_M_X11_drop__0 M0 (nI 11)).map Prod.fst = some 0 := by decide +kernel
theorem m_drop_c12 : (f_M_X11_drop__0 M0 (nI 12)).map Prod.fst = some 0 := by decide +kernel
theorem m_drop_c13 : (f_M_X11_drop__0 M0 (nI 13)).map Prod.fst = some 0 := by decide +kernel
theorem m_drop_c14 : (f_M_X11_drop__0 M0 (nI 14)).map Prod.fst = some 0 := by decide +kernel
theorem m_drop_c15 : (f_M_X11_drop__0 M0 (nI 15)).map Prod.fst = some 0 := by decide +kernel
theorem m_drop_c16 : (f_M_X11_drop__0 M0 (nI 16)).map Prod.fst = some 0 := by decide +kernel
theorem m_drop_c17 : (f_M_X11_drop__0 M0 (nI 17)).map Prod.fst = some 0 := by decide +kernel
theorem m_drop_c18 : (f_M_X11_drop__0 M0 (nI 18)).map Prod.fst = some 0 := by decide +kernel
theorem m_drop_c19 : (f_M_X11_drop__0 M0 (nI 19)).map Prod.fst = some 0 := by decide +kernel
theorem m_drop_c20 : (f_M_X11_drop__0 M0 (nI 20)).map Prod.fst = some 0 := by decide +kernel
theorem m_drop_c21 : (f_M_X11_drop__0 M0 (nI 21)).map Prod.fst = some 0 := by decide +kernel
theorem m_drop_c22 : (f_M_X11_drop__0 M0 (nI 22)).map Prod.fst = some 0 := by decide +kernel
theorem m_drop_c23 : (f_M_X11_drop__0 M0 (nI 23)).map Prod.fst = some 0 := by decide +kernel
theorem m_drop_c24 : (f_M_X11_drop__0 M0 (nI 24)).map Prod.fst = some 0 := by decide +kernel
theorem m_drop_c25 : (f_M_X11_drop__0 M0 (nI 25)).map Prod.fst = some 0 := by decide +kernel
theorem m_drop_c26 : (f_M_X11_drop__0 M0 (nI 26)).map Prod.fst = some 0 := by decide +kernel
theorem m_drop_c27 : (f_M_X11_drop__0 M0 (nI 27)).map Prod.fst = some 0 := by decide +kernel
theorem m_drop_c28 : (f_M_X11_drop__0 M0 (nI 28)).map Prod.fst = some 0 := by decide +kernel
theorem m_drop_c29 : (f_M_X11_drop__0 M0 (nI 29)).map Prod.fst = some 0 := by decide +kernel
theorem m_drop_c30 : (f_M_X11_drop__0 M0 (nI 30)).map Prod.fst = some 0 := by decide +kernel
theorem m_drop_c31 : (f_M_X11_drop__0 M0 (nI 31)).map Prod.fst = some 0 := by decide +kernel

