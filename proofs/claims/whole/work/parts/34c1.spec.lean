set_option maxHeartbeats 1600000 in
theorem s_q_length (g : ch_G) (q : Int32 → ch_M → Prop)  (m : ch_M) (h : q 8 m) : ch_C g m_q_length [.inr (12, 0, 0)] m (ch_oi q) := by
  refine e_q_length g _  m ?_
  refine g_q_length_0 g _ _ ?_
  exact ch_oi_iff.mpr h
set_option maxHeartbeats 1600000 in
theorem s_k_indexOf (g : ch_G) (q : Int32 → ch_M → Prop) (p1 : Int32) (p2 : Int32) (p3 : Int32) (m : ch_M) (h : ((p2 : Int32) = 0) ∧ ((p3 : Int32) = 8) ∧ ((d_kd p1) → (∀ (r1_ : Int32), (0 ≤ r1_) → q r1_ m)) ∧ ((¬ d_kd p1) → q (-1) m)) : ch_C g m_k_indexOf [.inr (13, 0, 0), .inl (.int p1), .inl (.int p2), .inl (.int p3)] m (ch_oi q) := by
  refine e_k_indexOf g _ p1 p2 p3 m ?_
  obtain ⟨h2, h3, ha, hb⟩ := h
  subst h2 h3
  have nk : ¬ (0 ≤ p1 ∧ p1 ≤ 255) → ¬ d_kd p1 := fun z y => by
    unfold d_kd at y
    rcases y with y | y | y | y | y | y | y | y
    all_goals
      rw [y] at z
      exact z (by decide)
  refine g_k_indexOf_0 g _ _ _ _ _ ⟨fun c => ⟨fun _ => ⟨c, by decide, by decide, fun d r hr => ch_oi_iff.mpr (ha d r hr), fun d => ch_oi_iff.mpr (hb d)⟩, fun z => absurd (by decide) z⟩, fun c => ch_oi_iff.mpr (hb (nk c))⟩
