theorem lg_cmp0 (x : Int64) : lg_cmp x x = 0 := by
  unfold lg_cmp
  simp
/-- refused answers 1, and leaves the yard -/
theorem r_l_refused (g : ch_G) (q : Int32 → ch_M → Prop) (A_ : a_G) (Y_ : ch_B) (R_ : Int32 × Int32 × Int32) (m : ch_M) (h : (a_W A_ Y_ R_ m) ∧ (l_tx g) ∧ ((2 : Int32) ≤ Y_ 0 8) ∧ (∀ (R' : Int32 × Int32 × Int32) (M_ : ch_M), (a_W A_ Y_ R' M_) → q 1 (M_))) : ch_C g m_l_refused [.inr (0, 0, 0)] m (ch_oi q) := by
  obtain ⟨hW, ht, h2, hq⟩ := h
  obtain ⟨n, hn, eN⟩ := vp_in_of (y_i8 hW.1.1) (by decide)
  have eN8 : m (1, 0, 0) 8 = nI n := eN
  have h8 : Y_ 0 8 = nI n := (a_W_8 hW).symm.trans eN8
  have hn2 : 2 ≤ n := by
    rw [h8] at h2
    exact (nI_leI (a := 2) (b := n) (by decide) (by omega)).mp h2
  refine l_refused_of h8 hn2 (by omega) (y_inv_sm hW.1.1 (y_sm_sym hW.2.2.1)) m R_ hW (fun m k x5 o6 hW hk => ?_)
  refine g_l_refused_1326 g _ k (by omega) _ _ _ _ m ⟨A_, Y_, _, hW, rfl, ht, fun M1 h1 h13 m1 e1 => ?_⟩
  subst e1
  refine ⟨fun z => absurd h13 z, fun _ => ?_⟩
  refine g_l_refused_1346 g _ (k + 80) (by omega) _ _ _ _ m1 ⟨A_, Y_, _, h1, rfl, ht, h2, fun M2 h2' m2 e2 => ?_⟩
  subst e2
  refine ⟨A_, Y_, ?_, by decide, ?_⟩
  · rw [← h8]
    exact h2'
  refine g_l_refused_1369 g _ (k + 80 + 84) (by omega) _ _ _ _ m2 ⟨A_, Y_, _, h2', rfl, ht, h2, fun M3 h3 h13' m3 e3 => ?_⟩
  subst e3
  refine ⟨A_, Y_, h3, by decide, fun z => absurd h13' z, fun _ => ?_⟩
  refine ⟨A_, Y_, _, h3, fun M4 h4 m4 e4 => ?_⟩
  subst e4
  rw [lg_cmp0]
  exact ⟨fun z => absurd rfl z, fun _ => ch_oi_iff.mpr (hq _ m4 h4)⟩
