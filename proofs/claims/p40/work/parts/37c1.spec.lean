set_option maxHeartbeats 1600000 in
theorem s_l_is (g : ch_G) (q : Int32 → ch_M → Prop) (p1 : Int32) (p2 : Int32) (m : ch_M) (h : (¬ m (3, 0, 0) 0 = 0) ∧ q (l_is3 m 0 p1 p2) m) : ch_C g m_l_is [.inr (0, 0, 0), .inl (.int p1), .inl (.int p2)] m (ch_oi q) := by
  refine e_l_is g _ p1 p2 m ?_
  obtain ⟨hw, hq⟩ := h
  refine g_l_is_0 g _ _ _ _ ⟨hw, ?_, ch_oi_iff.mpr hq⟩
  unfold l_is3
  split <;> rfl
