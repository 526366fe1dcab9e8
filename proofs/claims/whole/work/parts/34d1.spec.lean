set_option maxHeartbeats 1600000 in
theorem s_q_indexOf2 (g : ch_G) (q : Int32 → ch_M → Prop) (p1 : Int32) (p2 : Int32) (m : ch_M) (h : ((p2 : Int32) = 0) ∧ ((d_kd p1) → (∀ (r1_ : Int32), (0 ≤ r1_) → q r1_ m)) ∧ ((¬ d_kd p1) → q (-1) m)) : ch_C g m_q_indexOf2 [.inr (12, 0, 0), .inl (.int p1), .inl (.int p2)] m (ch_oi q) := by
  refine e_q_indexOf2 g _ p1 p2 m ?_
  obtain ⟨h2, ha, hb⟩ := h
  subst h2
  refine g_q_indexOf2_0 g _ _ _ _ ?_
  refine ⟨rfl, by decide, fun d r hr => ch_oi_iff.mpr (ha d r hr), fun d => ch_oi_iff.mpr (hb d)⟩
