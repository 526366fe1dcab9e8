set_option maxHeartbeats 1600000 in
theorem s_m_isChild (g : ch_G) (q : Int32 → ch_M → Prop) (p1 : Int32) (m : ch_M) (h : ((0 ≤ p1 ∧ p1 ≤ m (9, 0, 1) 0 - 1) → q 1 m) ∧ ((¬ (0 ≤ p1 ∧ p1 ≤ m (9, 0, 1) 0 - 1)) → q 0 m)) : ch_C g m_m_isChild [.inr (9, 0, 0), .inl (.int p1)] m (ch_oi q) := by
  refine e_m_isChild g _ p1 m ?_
  refine g_m_isChild_0 g _ _ _ ?_
  simp only [ch_oi_iff]
  exact h
