theorem m_chd {n c : Int32} (h : vp_in n 6) (h0 : 0 ≤ c) (h1 : c ≤ n - 1) : vp_in c 5 := by
  obtain ⟨k, hk, rfl⟩ := vp_in_of h (by decide)
  refine ch_vp (n := 5) (by decide) (by grind) ?_
  intro h5
  have h6 : nI k - 1 < nI 5 := by
    obtain rfl | rfl | rfl | rfl | rfl | rfl : k = 0 ∨ k = 1 ∨ k = 2 ∨ k = 3 ∨ k = 4 ∨ k = 5 := by omega
    all_goals decide
  grind
set_option maxHeartbeats 1600000 in
theorem s_m_canHop (g : ch_G) (q : Int32 → ch_M → Prop) (p1 : Int32) (m : ch_M) (h : (vp_in (m (9, 0, 1) 0) 6) ∧ (((0 ≤ p1 ∧ p1 ≤ m (9, 0, 1) 0 - 1) ∧ m (9, 0, 1) (38 + 5 * Int32.toNatClampNeg p1 + 2) = 0) → q 1 m) ∧ ((¬ (0 ≤ p1 ∧ p1 ≤ m (9, 0, 1) 0 - 1)) → q 0 (ch_os m 9 0 (m_refB (ch_ob m 9 0) 3 (m (9, 0, 1) 0)))) ∧ (((0 ≤ p1 ∧ p1 ≤ m (9, 0, 1) 0 - 1) ∧ ¬ m (9, 0, 1) (38 + 5 * Int32.toNatClampNeg p1 + 2) = 0) → q 0 (ch_os m 9 0 (m_refB (ch_ob m 9 0) 7 (m (9, 0, 1) (38 + 5 * Int32.toNatClampNeg p1 + 2)))))) : ch_C g m_m_canHop [.inr (9, 0, 0), .inl (.int p1)] m (ch_oi q) := by
  refine e_m_canHop g _ p1 m ?_
  obtain ⟨h1, ha, hb, hc⟩ := h
  refine g_m_canHop_0 g _ _ _ ?_
  simp only [ch_oi_iff, forall_eq, ch_wr_os, ch_ob_os, ch_os_os]
  exact ⟨fun c => ⟨m_chd h1 c.1 c.2, fun d => ha ⟨c, d⟩, fun d => hc ⟨c, d⟩⟩, fun c => hb c⟩
