def X0 : fw_S := (fun k => if k = 4 then -1 else 0, fun _ => 0, fun k => if k = 9 then (fun j => if j < 32 then 3 else 0) else if k = 12 then (fun j => if j < 32 then -5 else 0) else if k = 16 then (fun j => if j < 32 then 3 else 0) else if k = 19 then (fun j => if j < 32 then -5 else 0) else if k = 30 then (fun j => if j < 4 then -1 else 0) else if k = 34 then (fun j => if j < 32 then 3 else 0) else if k = 37 then (fun j => if j < 32 then -5 else 0) else fun _ => 0, fun _ _ => 0)
def M0 : fw_S := (fun k => 0, fun _ => 0, fun k => if k = 1 then (fun j => if j < 32 then 3 else 0) else if k = 4 then (fun j => if j < 32 then -5 else 0) else if k = 38 then (fun j => if j < 4 then -1 else 0) else fun _ => 0, fun _ _ => 0)
set_option maxRecDepth 20000 in
theorem x0_eq : t0_10 t0_5 t0_6 (t0_1 (Sz_0 32) (Sz_0 32)) t0_7 t0_7 t0_9 t0_3 (Sz_4 4) t0_8 (Sz_0 32) t0_9 = X0 := by
  refine Prod.ext ?_ (Prod.ext ?_ (Prod.ext ?_ ?_))
  · funext k
    match k with
    | 0 | 1 | 2 | 3 | 4 | 5 | 6 | 7 | 8 | 9 | 10 | 11 | 12 | 13 | 14 | 15 => rfl
    | k + 16 => first | rfl | simp [X0, t0_10]
  · funext k
    match k with
    | 0 | 1 | 2 | 3 | 4 | 5 | 6 | 7 | 8 | 9 | 10 | 11 | 12 | 13 => rfl
    | k + 14 => first | rfl | simp [X0, t0_10]
  · funext k
    match k with
    | 0 | 1 | 2 | 3 | 4 | 5 | 6 | 7 | 8 | 9 | 10 | 11 | 12 | 13 | 14 | 15 | 16 | 17 | 18 | 19 | 20 | 21 | 22 | 23 | 24 | 25 | 26 | 27 | 28 | 29 | 30 | 31 | 32 | 33 | 34 | 35 | 36 | 37 | 38 | 39 | 40 | 41 | 42 | 43 | 44 => rfl
    | k + 45 => first | rfl | simp [X0, t0_10]
  · funext k
    match k with
    | 0 | 1 | 2 | 3 | 4 | 5 | 6 | 7 | 8 | 9 | 10 | 11 | 12 | 13 | 14 | 15 => rfl
    | k + 16 => first | rfl | simp [X0, t0_10]
theorem x0_of {t : fw_S} (h : Pr_10 t) : t = X0 := by
  obtain ⟨t1, t2, t3, t4, t5, t6, t7, t8, t9, t10, t11, h1, h2, h3, h4, h5, h6, h7, h8, h9, h10, h11, rfl⟩ := h
  have h1 : t1 = t0_5 := h1
  subst h1
  have h2 : t2 = t0_6 := h2
  subst h2
  obtain ⟨s1, s2, g1, g2, rfl⟩ := h3
  have g1 : s1 = Sz_0 32 := g1
  have g2 : s2 = Sz_0 32 := g2
  subst g1; subst g2
  have h4 : t4 = t0_7 := h4
  subst h4
  have h5 : t5 = t0_7 := h5
  subst h5
  have h6 : t6 = t0_9 := h6
  subst h6
  have h7 : t7 = t0_3 := h7
  subst h7
  have h8 : t8 = Sz_4 4 := h8
  subst h8
  have h9 : t9 = t0_8 := h9
  subst h9
  have h10 : t10 = Sz_0 32 := h10
  subst h10
  have h11 : t11 = t0_9 := h11
  subst h11
  exact x0_eq
theorem m0_of {t : fw_S} (h : Pr_11 t) : t = M0 := by
  have h : t = Sz_11 32 := h
  subst h
  refine Prod.ext rfl (Prod.ext rfl (Prod.ext ?_ rfl))
  funext k
  simp only [Sz_11, M0]
