set_option maxHeartbeats 1600000 in
theorem s_m_pairs (g : ch_G) (q : ch_M → Prop) (p1 : Int32) (p2 : Int32) (p3 : Int32) (m : ch_M) (h : (vp_in (m (9, 0, 0) 8) 78) ∧ q (ch_os m 9 0 (m_sgB (m_sgB (m_sgB (ch_ob m 9 0) (x_c48 p1)) p2) (x_c48 p3)))) : ch_C g m_m_pairs [.inr (9, 0, 0), .inl (.int p1), .inl (.int p2), .inl (.int p3)] m (ch_ov q) := by
  refine e_m_pairs g _ p1 p2 p3 m ?_
  obtain ⟨h1, hq⟩ := h
  obtain ⟨n, hn, en⟩ := vp_in_of h1 (by decide)
  refine g_m_pairs_0 g _ _ _ _ _ ?_
  have e8 : ch_ob m 9 0 0 8 = nI n := en
  have s8 : ∀ (B : ch_B) p, m_sgB B p 0 8 = B 0 8 + 1 := fun B p => by
    unfold m_sgB
    rw [ch_bw_c (by decide), ch_bw_at]
  simp only [forall_eq, ch_ov_iff, ch_ob_os, ch_os_os, ch_os_at, s8, e8, nI_1, en]
  exact ⟨vp_in_nI (by omega) (by decide), vp_in_nI (by omega) (by decide), vp_in_nI (by omega) (by decide), hq⟩
