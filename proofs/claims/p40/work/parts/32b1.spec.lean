set_option maxHeartbeats 1600000 in
theorem s_l_squares (g : ch_G) (q : Int32 → ch_M → Prop) (p1 : Int32) (m : ch_M) (h : ((0 ≤ p1 ∧ p1 < m (1, 0, 0) 8) → q (y_ofS (m (1, 0, 1)) p1 0 12) m) ∧ ((¬ (0 ≤ p1 ∧ p1 < m (1, 0, 0) 8)) → q (-1001) m)) : ch_C g m_l_squares [.inr (0, 0, 0), .inl (.int p1)] m (ch_oi q) := by
  refine e_l_squares g _ p1 m ?_
  refine g_l_squares_0 g _ _ _ ?_
  simp only [forall_eq, ch_oi_iff]
  exact h
set_option maxHeartbeats 1600000 in
theorem s_l_warrantAt (g : ch_G) (q : Int32 → ch_M → Prop) (p1 : Int32) (m : ch_M) (h : (vp_in (m (1, 0, 0) 9) 6) ∧ ((0 ≤ p1 ∧ p1 < m (1, 0, 0) 9) → q (m (1, 0, 8) (Int32.toNatClampNeg p1)) m) ∧ ((¬ (0 ≤ p1 ∧ p1 < m (1, 0, 0) 9)) → q (-1001) m)) : ch_C g m_l_warrantAt [.inr (0, 0, 0), .inl (.int p1)] m (ch_oi q) := by
  refine e_l_warrantAt g _ p1 m ?_
  refine g_l_warrantAt_0 g _ _ _ ?_
  simp only [forall_eq, ch_oi_iff]
  exact h
set_option maxHeartbeats 1600000 in
theorem s_l_fewest (g : ch_G) (q : Int32 → ch_M → Prop) (p1 : Int32) (m : ch_M) (h : ((0 ≤ p1 ∧ p1 < m (1, 0, 0) 8) → q (w_fl (ch_ob m 8 0) (w_l (ch_ob m 1 0) p1) 12 1 0) (ch_os m 8 0 (w_fl (ch_ob m 8 0) (w_l (ch_ob m 1 0) p1) 12))) ∧ ((¬ (0 ≤ p1 ∧ p1 < m (1, 0, 0) 8)) → q (-1001) m)) : ch_C g m_l_fewest [.inr (0, 0, 0), .inl (.int p1)] m (ch_oi q) := by
  refine e_l_fewest g _ p1 m ?_
  refine g_l_fewest_0 g _ _ _ ?_
  simp only [forall_eq, ch_oi_iff]
  exact h
set_option maxHeartbeats 1600000 in
theorem s_l_fewestAgain (g : ch_G) (q : Int32 → ch_M → Prop) (p1 : Int32) (m : ch_M) (h : ((0 ≤ p1 ∧ p1 < m (1, 0, 0) 8) → q ((w_fo (ch_ob m 8 0) (w_l (ch_ob m 1 0) p1) 14).2) (ch_os m 8 0 ((w_fo (ch_ob m 8 0) (w_l (ch_ob m 1 0) p1) 14).1))) ∧ ((¬ (0 ≤ p1 ∧ p1 < m (1, 0, 0) 8)) → q (-1001) m)) : ch_C g m_l_fewestAgain [.inr (0, 0, 0), .inl (.int p1)] m (ch_oi q) := by
  refine e_l_fewestAgain g _ p1 m ?_
  refine g_l_fewestAgain_0 g _ _ _ ?_
  simp only [forall_eq, ch_oi_iff]
  exact h
set_option maxHeartbeats 1600000 in
theorem s_l_step (g : ch_G) (q : Int32 → ch_M → Prop) (p1 : Int32) (p2 : Int32) (m : ch_M) (h : (((0 ≤ p1 ∧ p1 < m (1, 0, 0) 8) ∧ 0 ≤ p2 ∧ p2 < x_sT (ch_ob m 5 1) (x_sW m p1) 0 1) → q (x_sT (ch_ob m 5 1) (x_sW m p1) 1 (Int32.toNatClampNeg p2)) (ch_os (ch_os m 8 0 (x_sW m p1)) 5 1 (x_sT (ch_ob m 5 1) (x_sW m p1)))) ∧ ((¬ (0 ≤ p1 ∧ p1 < m (1, 0, 0) 8)) → q (-1001) m) ∧ (((0 ≤ p1 ∧ p1 < m (1, 0, 0) 8) ∧ ¬ (0 ≤ p2 ∧ p2 < x_sT (ch_ob m 5 1) (x_sW m p1) 0 1)) → q (-1002) (ch_os (ch_os m 8 0 (x_sW m p1)) 5 1 (x_sT (ch_ob m 5 1) (x_sW m p1))))) : ch_C g m_l_step [.inr (0, 0, 0), .inl (.int p1), .inl (.int p2)] m (ch_oi q) := by
  refine e_l_step g _ p1 p2 m ?_
  refine g_l_step_0 g _ _ _ _ ?_
  simp only [forall_eq, ch_oi_iff]
  exact h
set_option maxHeartbeats 1600000 in
theorem s_l_wouldTread (g : ch_G) (q : Int32 → ch_M → Prop) (p1 : Int32) (p2 : Int32) (m : ch_M) (h : (((0 ≤ p1 ∧ p1 < m (1, 0, 0) 8) ∧ x_wtP (s_rfB (ch_ob m 5 1) p2) = true) → q (y_ct (ch_ob m 1 0) p1 (s_rfB (ch_ob m 5 1) p2 1) (Int32.toNatClampNeg (s_rfB (ch_ob m 5 1) p2 0 1))) (ch_os m 5 1 (s_rfB (ch_ob m 5 1) p2))) ∧ ((¬ (0 ≤ p1 ∧ p1 < m (1, 0, 0) 8)) → q (-1001) m) ∧ (((0 ≤ p1 ∧ p1 < m (1, 0, 0) 8) ∧ ¬ x_wtP (s_rfB (ch_ob m 5 1) p2) = true) → q (-1002) (ch_os m 5 1 (s_rfB (ch_ob m 5 1) p2)))) : ch_C g m_l_wouldTread [.inr (0, 0, 0), .inl (.int p1), .inl (.int p2)] m (ch_oi q) := by
  refine e_l_wouldTread g _ p1 p2 m ?_
  refine g_l_wouldTread_0 g _ _ _ _ ?_
  simp only [forall_eq, ch_oi_iff]
  exact h
set_option maxHeartbeats 1600000 in
theorem s_l_longest (g : ch_G) (q : Int32 → ch_M → Prop) (p1 : Int32) (m : ch_M) (h : ((0 ≤ p1 ∧ p1 < m (1, 0, 0) 8) → q ((y_lr (m (1, 0, 1)) p1 12).1) m) ∧ ((¬ (0 ≤ p1 ∧ p1 < m (1, 0, 0) 8)) → q (-1001) m)) : ch_C g m_l_longest [.inr (0, 0, 0), .inl (.int p1)] m (ch_oi q) := by
  refine e_l_longest g _ p1 m ?_
  refine g_l_longest_0 g _ _ _ ?_
  simp only [forall_eq, ch_oi_iff]
  exact h
set_option maxHeartbeats 1600000 in
theorem s_l_wouldEnd (g : ch_G) (q : Int32 → ch_M → Prop) (p1 : Int32) (m : ch_M) (h : (vp_in (m (1, 0, 0) 9) 6) ∧ (∀ i_, i_ < 5 → vp_in (m (1, 0, 8) i_) 5) ∧ ((1 ≤ p1 ∧ p1 ≤ 9) → q (y_washR (y_cp (ch_ob m 1 0) (ch_ob m 1 2)) p1) (ch_os m 1 2 (y_washB (y_cp (ch_ob m 1 0) (ch_ob m 1 2)) p1))) ∧ ((¬ (1 ≤ p1 ∧ p1 ≤ 9)) → q (-1001) m)) : ch_C g m_l_wouldEnd [.inr (0, 0, 0), .inl (.int p1)] m (ch_oi q) := by
  refine e_l_wouldEnd g _ p1 m ?_
  refine g_l_wouldEnd_0 g _ _ _ ?_
  simp only [forall_eq, ch_oi_iff]
  exact h
set_option maxHeartbeats 1600000 in
theorem s_l_rainFor (g : ch_G) (q : Int32 → ch_M → Prop) (p1 : Int32) (m : ch_M) (h : (vp_in (m (1, 0, 0) 8) 6) ∧ (((0 ≤ p1 ∧ p1 < m (1, 0, 0) 8) ∧ ¬ m (1, 0, 5) (Int32.toNatClampNeg p1) = 0) → q (m (1, 0, 5) (Int32.toNatClampNeg p1)) m) ∧ ((¬ (0 ≤ p1 ∧ p1 < m (1, 0, 0) 8)) → q (-1001) m) ∧ (((0 ≤ p1 ∧ p1 < m (1, 0, 0) 8) ∧ m (1, 0, 5) (Int32.toNatClampNeg p1) = 0) → q (-1002) m)) : ch_C g m_l_rainFor [.inr (0, 0, 0), .inl (.int p1)] m (ch_oi q) := by
  refine e_l_rainFor g _ p1 m ?_
  refine g_l_rainFor_0 g _ _ _ ?_
  simp only [forall_eq, ch_oi_iff]
  exact h
set_option maxHeartbeats 1600000 in
theorem s_l_wouldLose (g : ch_G) (q : Int32 → ch_M → Prop) (p1 : Int32) (m : ch_M) (h : (vp_in (m (1, 0, 0) 8) 6) ∧ ((0 ≤ p1 ∧ p1 < m (1, 0, 0) 8) → q (y_ofS (m (1, 0, 1)) p1 (m (1, 0, 3) (Int32.toNatClampNeg p1)) 12) m) ∧ ((¬ (0 ≤ p1 ∧ p1 < m (1, 0, 0) 8)) → q (-1001) m)) : ch_C g m_l_wouldLose [.inr (0, 0, 0), .inl (.int p1)] m (ch_oi q) := by
  refine e_l_wouldLose g _ p1 m ?_
  refine g_l_wouldLose_0 g _ _ _ ?_
  simp only [forall_eq, ch_oi_iff]
  exact h
