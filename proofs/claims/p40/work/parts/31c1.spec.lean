set_option maxHeartbeats 1600000 in
theorem s_q_length (g : ch_G) (q : Int32 → ch_M → Prop) (j : Nat) (m : ch_M) (h : q (nI (ch_tn g j)) m) : ch_C g m_q_length [.inr (12, j, 0)] m (ch_oi q) := by
  refine e_q_length g _ j m ?_
  refine g_q_length_0 g _ _ _ ?_
  have e : nI (ch_tn g j) >>> ((0 : Int32) &&& (31 : Int32)) = nI (ch_tn g j) := sb_shr0 _
  rw [e]
  exact ch_oi_iff.mpr h
set_option maxHeartbeats 1600000 in
theorem s_q_checkIndex (g : ch_G) (q : ch_M → Prop) (p0 : Int32) (p1 : Int32) (m : ch_M) (h : (¬ p0 < 0) ∧ (p0 < p1) ∧ q m) : ch_C g m_q_checkIndex [.inl (.int p0), .inl (.int p1)] m (ch_ov q) := by
  refine e_q_checkIndex g _ p0 p1 m ?_
  refine g_q_checkIndex_0 g _ _ _ _ ?_
  exact ⟨h.1, h.2.1, ch_ov_iff.mpr h.2.2⟩
