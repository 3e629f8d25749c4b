/-! THE REFERENCE OVER A SHEET WHERE NOTHING STANDS -/
/-- all but some families stand -/
def Ex (F G I J : List Nat) (t u : fw_S) : Prop := (∀ k, k ∉ F → st_F u k = st_F t k) ∧ (∀ k, k ∉ G → st_G u k = st_G t k) ∧ (∀ k, k ∉ I → st_I u k = st_I t k) ∧ (∀ k, k ∉ J → st_J u k = st_J t k)
theorem ex_r {F G I J : List Nat} {t : fw_S} : Ex F G I J t t := ⟨fun _ _ => rfl, fun _ _ => rfl, fun _ _ => rfl, fun _ _ => rfl⟩
theorem ex_F {F G I J : List Nat} {t u : fw_S} (h : Ex F G I J t u) {a : Nat} (ha : a ∈ F) (v : Nat → Int32) : Ex F G I J t (up_F u a v) :=
  ⟨fun k hk => by rw [sF_F, if_neg (fun e : k = a => hk (by rw [e]; exact ha))]; exact h.1 k hk, h.2.1, h.2.2⟩
theorem ex_G {F G I J : List Nat} {t u : fw_S} (h : Ex F G I J t u) {a : Nat} (ha : a ∈ G) (v : Nat → Int64) : Ex F G I J t (up_G u a v) :=
  ⟨h.1, fun k hk => by rw [sG_G, if_neg (fun e : k = a => hk (by rw [e]; exact ha))]; exact h.2.1 k hk, h.2.2⟩
theorem ex_I {F G I J : List Nat} {t u : fw_S} (h : Ex F G I J t u) {a : Nat} (ha : a ∈ I) (v : Int32) : Ex F G I J t (up_I u a v) :=
  ⟨h.1, h.2.1, fun k hk => by rw [sI_I, if_neg (fun e : k = a => hk (by rw [e]; exact ha))]; exact h.2.2.1 k hk, h.2.2.2⟩
theorem ex_J {F G I J : List Nat} {t u : fw_S} (h : Ex F G I J t u) {a : Nat} (ha : a ∈ J) (v : Int64) : Ex F G I J t (up_J u a v) :=
  ⟨h.1, h.2.1, h.2.2.1, fun k hk => by rw [sJ_J, if_neg (fun e : k = a => hk (by rw [e]; exact ha))]; exact h.2.2.2 k hk⟩
theorem ex_t {F G I J : List Nat} {t u w : fw_S} (h : Ex F G I J t u) (g : Ex F G I J u w) : Ex F G I J t w :=
  ⟨fun k hk => (g.1 k hk).trans (h.1 k hk), fun k hk => (g.2.1 k hk).trans (h.2.1 k hk), fun k hk => (g.2.2.1 k hk).trans (h.2.2.1 k hk), fun k hk => (g.2.2.2 k hk).trans (h.2.2.2 k hk)⟩
theorem ex_w {F G I J F' G' I' J' : List Nat} {t u : fw_S} (h : Ex F G I J t u) (hf : ∀ k, k ∈ F → k ∈ F') (hg : ∀ k, k ∈ G → k ∈ G') (hi : ∀ k, k ∈ I → k ∈ I') (hj : ∀ k, k ∈ J → k ∈ J') : Ex F' G' I' J' t u :=
  ⟨fun k hk => h.1 k (fun e => hk (hf k e)), fun k hk => h.2.1 k (fun e => hk (hg k e)), fun k hk => h.2.2.1 k (fun e => hk (hi k e)), fun k hk => h.2.2.2 k (fun e => hk (hj k e))⟩
/-- a loop over 32 cells, over 1024 places -/
theorem lp_n {β : Type} (N M : Nat) (hM : N < M) (f : Nat → fw_S → Int32 → Option β) (g : fw_S → Option β) (I : Nat → fw_S → Prop)
    (hs : ∀ n c t, c < N → I c t → ∃ u, I (c + 1) u ∧ f (n + 1) t (nI c) = f n u (nI (c + 1)))
    (he : ∀ n t, I N t → f (n + 1) t (nI N) = g t) (t : fw_S) (h0 : I 0 t) : ∃ u, I N u ∧ f M t 0 = g u := by
  obtain ⟨⟨u, x⟩, ⟨h1, h2⟩, h3⟩ := lp_up (fun n (p : fw_S × Int32) => f n p.1 p.2) (fun p => g p.1) (fun c p => p.2 = nI c ∧ I c p.1) N
    (by
      intro n c ⟨t, x⟩ hc ⟨h1, h2⟩
      have h1 : x = nI c := h1
      subst h1
      obtain ⟨u, h3, h4⟩ := hs n c t hc h2
      exact ⟨(u, nI (c + 1)), ⟨rfl, h3⟩, h4⟩)
    (by
      intro n ⟨t, x⟩ ⟨h1, h2⟩
      have h1 : x = nI N := h1
      subst h1
      exact he n t h2) M 0 (t, 0) (by omega) (by omega) ⟨rfl, h0⟩
  exact ⟨u, h2, h3⟩
theorem un_M_X11_tellsNothing__0 (t : fw_S) : f_M_X11_tellsNothing__0 t = b_M_X11_tellsNothing__0_2 3000 t 0 := by
  delta f_M_X11_tellsNothing__0 b_M_X11_tellsNothing__0_0
  generalize b_M_X11_tellsNothing__0_2 3000 = B
  rfl
theorem un_M_X11_keepsAhead__0 (t : fw_S) : f_M_X11_keepsAhead__0 t = b_M_X11_keepsAhead__0_2 3000 t 0 := by
  delta f_M_X11_keepsAhead__0 b_M_X11_keepsAhead__0_0
  generalize b_M_X11_keepsAhead__0_2 3000 = B
  rfl
theorem un_M_X11_laysBack__0 (t : fw_S) : f_M_X11_laysBack__0 t = b_M_X11_laysBack__0_2 3000 t 0 := by
  delta f_M_X11_laysBack__0 b_M_X11_laysBack__0_0
  generalize b_M_X11_laysBack__0_2 3000 = B
  rfl
theorem un_M_X11_swaps__0 (t : fw_S) : f_M_X11_swaps__0 t = b_M_X11_swaps__0_2 3000 t 0 := by
  delta f_M_X11_swaps__0 b_M_X11_swaps__0_0
  generalize b_M_X11_swaps__0_2 3000 = B
  rfl
theorem un_M_X11_keepsAhead__0_122 (t : fw_S) : b_M_X11_keepsAhead__0_122 t = b_M_X11_keepsAhead__0_124 3000 t 0 := by
  delta b_M_X11_keepsAhead__0_122
  generalize b_M_X11_keepsAhead__0_124 3000 = B
  rfl
theorem un_M_X11_laysBack__0_122 (t : fw_S) : b_M_X11_laysBack__0_122 t = b_M_X11_laysBack__0_124 3000 t 0 := by
  delta b_M_X11_laysBack__0_122
  generalize b_M_X11_laysBack__0_124 3000 = B
  rfl
def s_tn (t : fw_S) (c : Nat) : fw_S := up_F t 13 (upd (st_F t 13) c (vp_nar .boolean ((0 : Int32))))
theorem gl_s_tn {β : Type} (t : fw_S) (c : Nat) (k : fw_S → Option β) : fb_l (up_F t 13 (upd (st_F t 13) c (vp_nar .boolean ((0 : Int32))))) k = k (s_tn t c) := rfl
theorem m_tn (t : fw_S) : ∃ u, f_M_X11_tellsNothing__0 t = some u ∧ (∀ c, c < 32 → st_F u 13 c = 0) ∧ Ex [13] [] [] [] t u := by
  obtain ⟨u, ⟨h1, h2⟩, h3⟩ := lp_n 32 3000 (by decide) (fun n t x => b_M_X11_tellsNothing__0_2 n t x) (fun t => some t) (fun c u => (∀ j, j < c → st_F u 13 j = 0) ∧ Ex [13] [] [] [] t u)
    (by
      intro n c w hc ⟨h1, h2⟩
      refine ⟨s_tn w c, ⟨lt_cons ?_ ?_, ex_F h2 (by decide) _⟩, ?_⟩
      · intro j hj
        have := h1 j hj
        show upd (st_F w 13) c (vp_nar .boolean 0) j = 0
        rw [up_s, if_neg (by omega)]; exact this
      · show upd (st_F w 13) c (vp_nar .boolean 0) c = 0
        rw [up_s, if_pos rfl]; rfl
      · simp only [b_M_X11_tellsNothing__0_2, b_M_X11_tellsNothing__0_8, ni_c (N := 32) (c := 32) rfl hc (by decide), if_false, ni_cl (show c < 2 ^ 31 by omega), ni_n0 (show c < 2 ^ 31 by omega), Nat.not_le.mpr hc, or_self, not_false_eq_true, gb_gt, ni_up, gl_s_tn])
    (by
      intro n w _
      simp only [b_M_X11_tellsNothing__0_2, b_M_X11_tellsNothing__0_21, ni_d (N := 32) (c := 32) rfl (show 32 ≤ 32 by omega) (by decide), if_true]) t ⟨fun j hj => absurd hj (by omega), ex_r⟩
  have h3 : b_M_X11_tellsNothing__0_2 3000 t 0 = some u := h3
  exact ⟨u, (un_M_X11_tellsNothing__0 t).trans h3, h1, h2⟩
def s_ka_1 (t : fw_S) (c : Nat) : fw_S := up_F t 19 (upd (st_F t 19) c (st_F t 0 c))
theorem gl_s_ka_1 {β : Type} (t : fw_S) (c : Nat) (k : fw_S → Option β) : fb_l (up_F t 19 (upd (st_F t 19) c (st_F t 0 c))) k = k (s_ka_1 t c) := rfl
def s_ka_2 (t : fw_S) (c : Nat) : fw_S := up_F (s_ka_1 t c) 20 (upd (st_F (s_ka_1 t c) 20) c (st_F (s_ka_1 t c) 1 c))
theorem gl_s_ka_2 {β : Type} (t : fw_S) (c : Nat) (k : fw_S → Option β) : fb_l (up_F (s_ka_1 t c) 20 (upd (st_F (s_ka_1 t c) 20) c (st_F (s_ka_1 t c) 1 c))) k = k (s_ka_2 t c) := rfl
def s_ka_3 (t : fw_S) (c : Nat) : fw_S := up_F (s_ka_2 t c) 21 (upd (st_F (s_ka_2 t c) 21) c (st_F (s_ka_2 t c) 2 c))
theorem gl_s_ka_3 {β : Type} (t : fw_S) (c : Nat) (k : fw_S → Option β) : fb_l (up_F (s_ka_2 t c) 21 (upd (st_F (s_ka_2 t c) 21) c (st_F (s_ka_2 t c) 2 c))) k = k (s_ka_3 t c) := rfl
def s_ka_4 (t : fw_S) (c : Nat) : fw_S := up_F (s_ka_3 t c) 22 (upd (st_F (s_ka_3 t c) 22) c (st_F (s_ka_3 t c) 3 c))
theorem gl_s_ka_4 {β : Type} (t : fw_S) (c : Nat) (k : fw_S → Option β) : fb_l (up_F (s_ka_3 t c) 22 (upd (st_F (s_ka_3 t c) 22) c (st_F (s_ka_3 t c) 3 c))) k = k (s_ka_4 t c) := rfl
def s_ka_5 (t : fw_S) (c : Nat) : fw_S := up_F (s_ka_4 t c) 23 (upd (st_F (s_ka_4 t c) 23) c (st_F (s_ka_4 t c) 4 c))
theorem gl_s_ka_5 {β : Type} (t : fw_S) (c : Nat) (k : fw_S → Option β) : fb_l (up_F (s_ka_4 t c) 23 (upd (st_F (s_ka_4 t c) 23) c (st_F (s_ka_4 t c) 4 c))) k = k (s_ka_5 t c) := rfl
def s_ka_6 (t : fw_S) (c : Nat) : fw_S := up_F (s_ka_5 t c) 24 (upd (st_F (s_ka_5 t c) 24) c (st_F (s_ka_5 t c) 5 c))
theorem gl_s_ka_6 {β : Type} (t : fw_S) (c : Nat) (k : fw_S → Option β) : fb_l (up_F (s_ka_5 t c) 24 (upd (st_F (s_ka_5 t c) 24) c (st_F (s_ka_5 t c) 5 c))) k = k (s_ka_6 t c) := rfl
def s_ka_7 (t : fw_S) (c : Nat) : fw_S := up_G (s_ka_6 t c) 3 (vp_updL (st_G (s_ka_6 t c) 3) c (st_G (s_ka_6 t c) 0 c))
theorem gl_s_ka_7 {β : Type} (t : fw_S) (c : Nat) (k : fw_S → Option β) : fb_l (up_G (s_ka_6 t c) 3 (vp_updL (st_G (s_ka_6 t c) 3) c (st_G (s_ka_6 t c) 0 c))) k = k (s_ka_7 t c) := rfl
def s_ka_8 (t : fw_S) (c : Nat) : fw_S := up_F (s_ka_7 t c) 26 (upd (st_F (s_ka_7 t c) 26) c (vp_nar .boolean (st_F (s_ka_7 t c) 7 c)))
theorem gl_s_ka_8 {β : Type} (t : fw_S) (c : Nat) (k : fw_S → Option β) : fb_l (up_F (s_ka_7 t c) 26 (upd (st_F (s_ka_7 t c) 26) c (vp_nar .boolean (st_F (s_ka_7 t c) 7 c)))) k = k (s_ka_8 t c) := rfl
def s_ka (t : fw_S) (c : Nat) : fw_S := up_F (s_ka_8 t c) 27 (upd (st_F (s_ka_8 t c) 27) c (vp_nar .boolean (st_F (s_ka_8 t c) 8 c)))
theorem gl_s_ka {β : Type} (t : fw_S) (c : Nat) (k : fw_S → Option β) : fb_l (up_F (s_ka_8 t c) 27 (upd (st_F (s_ka_8 t c) 27) c (vp_nar .boolean (st_F (s_ka_8 t c) 8 c)))) k = k (s_ka t c) := rfl
def s_kb (t : fw_S) (c : Nat) : fw_S := up_F t 25 (upd (st_F t 25) c (st_F t 6 c))
theorem gl_s_kb {β : Type} (t : fw_S) (c : Nat) (k : fw_S → Option β) : fb_l (up_F t 25 (upd (st_F t 25) c (st_F t 6 c))) k = k (s_kb t c) := rfl
theorem m_ka (t : fw_S) : ∃ u, f_M_X11_keepsAhead__0 t = some u ∧ (∀ c, c < 32 → st_F u 19 c = st_F t 0 c ∧ st_F u 20 c = st_F t 1 c) ∧ Ex [19, 20, 21, 22, 23, 24, 25, 26, 27] [3] [] [] t u := by
  obtain ⟨u, ⟨h1, h2⟩, h3⟩ := lp_n 32 3000 (by decide) (fun n t x => b_M_X11_keepsAhead__0_2 n t x) (fun t => b_M_X11_keepsAhead__0_122 t) (fun c u => (∀ j, j < c → st_F u 19 j = st_F t 0 j ∧ st_F u 20 j = st_F t 1 j) ∧ Ex [19, 20, 21, 22, 23, 24, 25, 26, 27] [3] [] [] t u)
    (by
      intro n c w hc ⟨h1, h2⟩
      refine ⟨s_ka w c, ⟨lt_cons ?_ ?_, ?_⟩, ?_⟩
      · intro j hj
        have := h1 j hj
        show upd (st_F w 19) c (st_F w 0 c) j = _ ∧ upd (st_F w 20) c (st_F w 1 c) j = _
        rw [up_s, up_s, if_neg (by omega), if_neg (by omega)]; exact this
      · show upd (st_F w 19) c (st_F w 0 c) c = _ ∧ upd (st_F w 20) c (st_F w 1 c) c = _
        rw [up_s, up_s, if_pos rfl, if_pos rfl, h2.1 0 (by decide), h2.1 1 (by decide)]; exact ⟨rfl, rfl⟩
      · exact ex_F (ex_F (ex_G (ex_F (ex_F (ex_F (ex_F (ex_F (ex_F h2 (by decide) _) (by decide) _) (by decide) _) (by decide) _) (by decide) _) (by decide) _) (by decide) _) (by decide) _) (by decide) _
      · simp only [b_M_X11_keepsAhead__0_2, b_M_X11_keepsAhead__0_8, ni_c (N := 32) (c := 32) rfl hc (by decide), if_false, ni_cl (show c < 2 ^ 31 by omega), ni_n0 (show c < 2 ^ 31 by omega), Nat.not_le.mpr hc, or_self, not_false_eq_true, gb_gt, ni_up, gl_s_ka_1, gl_s_ka_2, gl_s_ka_3, gl_s_ka_4, gl_s_ka_5, gl_s_ka_6, gl_s_ka_7, gl_s_ka_8, gl_s_ka])
    (by
      intro n w _
      simp only [b_M_X11_keepsAhead__0_2, ni_d (N := 32) (c := 32) rfl (show 32 ≤ 32 by omega) (by decide), if_true]) t ⟨fun j hj => absurd hj (by omega), ex_r⟩
  obtain ⟨u', ⟨h4, h5⟩, h6⟩ := lp_n 1024 3000 (by decide) (fun n t x => b_M_X11_keepsAhead__0_124 n t x) (fun t => some t) (fun c u' => (∀ j, j < 32 → st_F u' 19 j = st_F t 0 j ∧ st_F u' 20 j = st_F t 1 j) ∧ Ex [19, 20, 21, 22, 23, 24, 25, 26, 27] [3] [] [] t u')
    (by
      intro n c w hc ⟨h1, h2⟩
      refine ⟨s_kb w c, ⟨h1, ex_F h2 (by decide) _⟩, ?_⟩
      simp only [b_M_X11_keepsAhead__0_124, b_M_X11_keepsAhead__0_133, ni_c (N := 1024) (c := 1024) rfl hc (by decide), if_false, ni_cl (show c < 2 ^ 31 by omega), ni_n0 (show c < 2 ^ 31 by omega), Nat.not_le.mpr hc, or_self, not_false_eq_true, gb_gt, ni_up, gl_s_kb])
    (by
      intro n w _
      simp only [b_M_X11_keepsAhead__0_124, b_M_X11_keepsAhead__0_151, ni_d (N := 1024) (c := 1024) rfl (show 1024 ≤ 1024 by omega) (by decide), if_true]) u ⟨h1, h2⟩
  have h3 : b_M_X11_keepsAhead__0_2 3000 t 0 = b_M_X11_keepsAhead__0_122 u := h3
  have h6 : b_M_X11_keepsAhead__0_124 3000 u 0 = some u' := h6
  exact ⟨u', ((un_M_X11_keepsAhead__0 t).trans h3).trans ((un_M_X11_keepsAhead__0_122 u).trans h6), h4, h5⟩
def s_la_1 (t : fw_S) (c : Nat) : fw_S := up_F t 0 (upd (st_F t 0) c (st_F t 19 c))
theorem gl_s_la_1 {β : Type} (t : fw_S) (c : Nat) (k : fw_S → Option β) : fb_l (up_F t 0 (upd (st_F t 0) c (st_F t 19 c))) k = k (s_la_1 t c) := rfl
def s_la_2 (t : fw_S) (c : Nat) : fw_S := up_F (s_la_1 t c) 1 (upd (st_F (s_la_1 t c) 1) c (st_F (s_la_1 t c) 20 c))
theorem gl_s_la_2 {β : Type} (t : fw_S) (c : Nat) (k : fw_S → Option β) : fb_l (up_F (s_la_1 t c) 1 (upd (st_F (s_la_1 t c) 1) c (st_F (s_la_1 t c) 20 c))) k = k (s_la_2 t c) := rfl
def s_la_3 (t : fw_S) (c : Nat) : fw_S := up_F (s_la_2 t c) 2 (upd (st_F (s_la_2 t c) 2) c (st_F (s_la_2 t c) 21 c))
theorem gl_s_la_3 {β : Type} (t : fw_S) (c : Nat) (k : fw_S → Option β) : fb_l (up_F (s_la_2 t c) 2 (upd (st_F (s_la_2 t c) 2) c (st_F (s_la_2 t c) 21 c))) k = k (s_la_3 t c) := rfl
def s_la_4 (t : fw_S) (c : Nat) : fw_S := up_F (s_la_3 t c) 3 (upd (st_F (s_la_3 t c) 3) c (st_F (s_la_3 t c) 22 c))
theorem gl_s_la_4 {β : Type} (t : fw_S) (c : Nat) (k : fw_S → Option β) : fb_l (up_F (s_la_3 t c) 3 (upd (st_F (s_la_3 t c) 3) c (st_F (s_la_3 t c) 22 c))) k = k (s_la_4 t c) := rfl
def s_la_5 (t : fw_S) (c : Nat) : fw_S := up_F (s_la_4 t c) 4 (upd (st_F (s_la_4 t c) 4) c (st_F (s_la_4 t c) 23 c))
theorem gl_s_la_5 {β : Type} (t : fw_S) (c : Nat) (k : fw_S → Option β) : fb_l (up_F (s_la_4 t c) 4 (upd (st_F (s_la_4 t c) 4) c (st_F (s_la_4 t c) 23 c))) k = k (s_la_5 t c) := rfl
def s_la_6 (t : fw_S) (c : Nat) : fw_S := up_F (s_la_5 t c) 5 (upd (st_F (s_la_5 t c) 5) c (st_F (s_la_5 t c) 24 c))
theorem gl_s_la_6 {β : Type} (t : fw_S) (c : Nat) (k : fw_S → Option β) : fb_l (up_F (s_la_5 t c) 5 (upd (st_F (s_la_5 t c) 5) c (st_F (s_la_5 t c) 24 c))) k = k (s_la_6 t c) := rfl
def s_la_7 (t : fw_S) (c : Nat) : fw_S := up_G (s_la_6 t c) 0 (vp_updL (st_G (s_la_6 t c) 0) c (st_G (s_la_6 t c) 3 c))
theorem gl_s_la_7 {β : Type} (t : fw_S) (c : Nat) (k : fw_S → Option β) : fb_l (up_G (s_la_6 t c) 0 (vp_updL (st_G (s_la_6 t c) 0) c (st_G (s_la_6 t c) 3 c))) k = k (s_la_7 t c) := rfl
def s_la_8 (t : fw_S) (c : Nat) : fw_S := up_F (s_la_7 t c) 7 (upd (st_F (s_la_7 t c) 7) c (vp_nar .boolean (st_F (s_la_7 t c) 26 c)))
theorem gl_s_la_8 {β : Type} (t : fw_S) (c : Nat) (k : fw_S → Option β) : fb_l (up_F (s_la_7 t c) 7 (upd (st_F (s_la_7 t c) 7) c (vp_nar .boolean (st_F (s_la_7 t c) 26 c)))) k = k (s_la_8 t c) := rfl
def s_la (t : fw_S) (c : Nat) : fw_S := up_F (s_la_8 t c) 8 (upd (st_F (s_la_8 t c) 8) c (vp_nar .boolean (st_F (s_la_8 t c) 27 c)))
theorem gl_s_la {β : Type} (t : fw_S) (c : Nat) (k : fw_S → Option β) : fb_l (up_F (s_la_8 t c) 8 (upd (st_F (s_la_8 t c) 8) c (vp_nar .boolean (st_F (s_la_8 t c) 27 c)))) k = k (s_la t c) := rfl
def s_lb (t : fw_S) (c : Nat) : fw_S := up_F t 6 (upd (st_F t 6) c (st_F t 25 c))
theorem gl_s_lb {β : Type} (t : fw_S) (c : Nat) (k : fw_S → Option β) : fb_l (up_F t 6 (upd (st_F t 6) c (st_F t 25 c))) k = k (s_lb t c) := rfl
theorem m_lb (t : fw_S) : ∃ u, f_M_X11_laysBack__0 t = some u ∧ (∀ c, c < 32 → st_F u 0 c = st_F t 19 c ∧ st_F u 1 c = st_F t 20 c) ∧ Ex [0, 1, 2, 3, 4, 5, 6, 7, 8] [0] [] [] t u := by
  obtain ⟨u, ⟨h1, h2⟩, h3⟩ := lp_n 32 3000 (by decide) (fun n t x => b_M_X11_laysBack__0_2 n t x) (fun t => b_M_X11_laysBack__0_122 t) (fun c u => (∀ j, j < c → st_F u 0 j = st_F t 19 j ∧ st_F u 1 j = st_F t 20 j) ∧ Ex [0, 1, 2, 3, 4, 5, 6, 7, 8] [0] [] [] t u)
    (by
      intro n c w hc ⟨h1, h2⟩
      refine ⟨s_la w c, ⟨lt_cons ?_ ?_, ?_⟩, ?_⟩
      · intro j hj
        have := h1 j hj
        show upd (st_F w 0) c (st_F w 19 c) j = _ ∧ upd (st_F w 1) c (st_F w 20 c) j = _
        rw [up_s, up_s, if_neg (by omega), if_neg (by omega)]; exact this
      · show upd (st_F w 0) c (st_F w 19 c) c = _ ∧ upd (st_F w 1) c (st_F w 20 c) c = _
        rw [up_s, up_s, if_pos rfl, if_pos rfl, h2.1 19 (by decide), h2.1 20 (by decide)]; exact ⟨rfl, rfl⟩
      · exact ex_F (ex_F (ex_G (ex_F (ex_F (ex_F (ex_F (ex_F (ex_F h2 (by decide) _) (by decide) _) (by decide) _) (by decide) _) (by decide) _) (by decide) _) (by decide) _) (by decide) _) (by decide) _
      · simp only [b_M_X11_laysBack__0_2, b_M_X11_laysBack__0_8, ni_c (N := 32) (c := 32) rfl hc (by decide), if_false, ni_cl (show c < 2 ^ 31 by omega), ni_n0 (show c < 2 ^ 31 by omega), Nat.not_le.mpr hc, or_self, not_false_eq_true, gb_gt, ni_up, gl_s_la_1, gl_s_la_2, gl_s_la_3, gl_s_la_4, gl_s_la_5, gl_s_la_6, gl_s_la_7, gl_s_la_8, gl_s_la])
    (by
      intro n w _
      simp only [b_M_X11_laysBack__0_2, ni_d (N := 32) (c := 32) rfl (show 32 ≤ 32 by omega) (by decide), if_true]) t ⟨fun j hj => absurd hj (by omega), ex_r⟩
  obtain ⟨u', ⟨h4, h5⟩, h6⟩ := lp_n 1024 3000 (by decide) (fun n t x => b_M_X11_laysBack__0_124 n t x) (fun t => some t) (fun c u' => (∀ j, j < 32 → st_F u' 0 j = st_F t 19 j ∧ st_F u' 1 j = st_F t 20 j) ∧ Ex [0, 1, 2, 3, 4, 5, 6, 7, 8] [0] [] [] t u')
    (by
      intro n c w hc ⟨h1, h2⟩
      refine ⟨s_lb w c, ⟨h1, ex_F h2 (by decide) _⟩, ?_⟩
      simp only [b_M_X11_laysBack__0_124, b_M_X11_laysBack__0_133, ni_c (N := 1024) (c := 1024) rfl hc (by decide), if_false, ni_cl (show c < 2 ^ 31 by omega), ni_n0 (show c < 2 ^ 31 by omega), Nat.not_le.mpr hc, or_self, not_false_eq_true, gb_gt, ni_up, gl_s_lb])
    (by
      intro n w _
      simp only [b_M_X11_laysBack__0_124, b_M_X11_laysBack__0_151, ni_d (N := 1024) (c := 1024) rfl (show 1024 ≤ 1024 by omega) (by decide), if_true]) u ⟨h1, h2⟩
  have h3 : b_M_X11_laysBack__0_2 3000 t 0 = b_M_X11_laysBack__0_122 u := h3
  have h6 : b_M_X11_laysBack__0_124 3000 u 0 = some u' := h6
  exact ⟨u', ((un_M_X11_laysBack__0 t).trans h3).trans ((un_M_X11_laysBack__0_122 u).trans h6), h4, h5⟩
theorem m_sw (t : fw_S) (h : ∀ c, c < 32 → st_F t 13 c ≠ 0 → st_F t 15 c ≠ 2) : f_M_X11_swaps__0 t = some t := by
  obtain ⟨u, h1, h3⟩ := lp_n 32 3000 (by decide) (fun n t x => b_M_X11_swaps__0_2 n t x) (fun t => some t) (fun _ u => u = t)
    (by
      intro n c w hc h1
      subst h1
      refine ⟨w, rfl, ?_⟩
      by_cases g : st_F w 13 c = 0
      · simp only [b_M_X11_swaps__0_2, b_M_X11_swaps__0_8, b_M_X11_swaps__0_39, g, if_true, ni_c (N := 32) (c := 32) rfl hc (by decide), if_false, ni_cl (show c < 2 ^ 31 by omega), ni_n0 (show c < 2 ^ 31 by omega), Nat.not_le.mpr hc, or_self, not_false_eq_true, gb_gt, ni_up]
      · have g2 := h c hc g
        simp only [b_M_X11_swaps__0_2, b_M_X11_swaps__0_8, b_M_X11_swaps__0_17, b_M_X11_swaps__0_39, g, g2, ni_c (N := 32) (c := 32) rfl hc (by decide), if_false, ni_cl (show c < 2 ^ 31 by omega), ni_n0 (show c < 2 ^ 31 by omega), Nat.not_le.mpr hc, or_self, not_false_eq_true, gb_gt, ni_up])
    (by
      intro n w _
      simp only [b_M_X11_swaps__0_2, b_M_X11_swaps__0_45, ni_d (N := 32) (c := 32) rfl (show 32 ≤ 32 by omega) (by decide), if_true]) t rfl
  subst h1
  have h3 : b_M_X11_swaps__0_2 3000 u 0 = some u := h3
  exact (un_M_X11_swaps__0 u).trans h3

