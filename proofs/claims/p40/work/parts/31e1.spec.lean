set_option maxHeartbeats 1600000 in
theorem s_q_charAt (g : ch_G) (q : Int32 → ch_M → Prop) (j : Nat) (p1 : Int32) (m : ch_M) (h : (vp_in p1 (ch_tn g j)) ∧ (ch_tn g j < 2 ^ 31) ∧ q (k_ch (ch_tb g j (Int32.toNatClampNeg p1))) m) : ch_C g m_q_charAt [.inr (12, j, 0), .inl (.int p1)] m (ch_oi q) := by
  refine e_q_charAt g _ j p1 m ?_
  refine g_q_charAt_0 g _ _ _ _ ?_
  exact ⟨h.1, h.2.1, k_nar _, ch_oi_iff.mpr h.2.2⟩
