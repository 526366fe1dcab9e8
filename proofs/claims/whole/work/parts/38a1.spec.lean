set_option maxHeartbeats 1600000 in
theorem s_l_child (g : ch_G) (q : Int32 → ch_M → Prop) (p1 : Int32) (m : ch_M) (h : (vp_in ((x_K m 110 0 0 p1) (1, 0, 0) 8) 6) ∧ (vp_in ((x_K m 110 0 0 p1) (5, 0, 0) 1) 13) ∧ (vp_in ((x_K m 110 0 0 p1) (2, 0, 0) 1) 8) ∧ ((x_R (x_K m 110 0 0 p1)).1 = 0 → y_carP (ch_ob (x_K m 110 0 0 p1) 1 0) (ch_ob (x_K m 110 0 0 p1) 4 0) ((x_K m 110 0 0 p1) (5, 0, 0) 1)) ∧ (((x_R (x_K m 110 0 0 p1)).1 = 0) → q 0 ((ch_wr (ch_os (p_kM (x_K m 110 0 0 p1) 0) 1 0 (x_C (x_K m 110 0 0 p1)).2) (10, 0, 1) 0 ((x_C (x_K m 110 0 0 p1)).1)))) ∧ ((¬ (x_R (x_K m 110 0 0 p1)).1 = 0) → q 1 (r_kp (x_K m 110 0 0 p1) (x_R (x_K m 110 0 0 p1)).1 (x_R (x_K m 110 0 0 p1)).2))) : ch_C g m_l_child [.inr (0, 0, 0), .inl (.int p1), .inr (10, 0, 1)] m (ch_oi q) := by
  refine e_l_child g _ p1 m ?_
  refine g_l_child_0 g _ _ _ ?_
  simp only [forall_eq, ch_oi_iff]
  exact h
set_option maxHeartbeats 1600000 in
theorem s_l_chalk (g : ch_G) (q : Int32 → ch_M → Prop) (p1 : Int32) (p2 : Int32) (m : ch_M) (h : (vp_in ((x_K m 99 p1 0 p2) (1, 0, 0) 8) 6) ∧ (vp_in ((x_K m 99 p1 0 p2) (5, 0, 0) 1) 13) ∧ (vp_in ((x_K m 99 p1 0 p2) (2, 0, 0) 1) 8) ∧ ((x_R (x_K m 99 p1 0 p2)).1 = 0 → y_carP (ch_ob (x_K m 99 p1 0 p2) 1 0) (ch_ob (x_K m 99 p1 0 p2) 4 0) ((x_K m 99 p1 0 p2) (5, 0, 0) 1)) ∧ (((x_R (x_K m 99 p1 0 p2)).1 = 0) → q 0 ((ch_wr (ch_os (p_kM (x_K m 99 p1 0 p2) 0) 1 0 (x_C (x_K m 99 p1 0 p2)).2) (10, 0, 1) 0 ((x_C (x_K m 99 p1 0 p2)).1)))) ∧ ((¬ (x_R (x_K m 99 p1 0 p2)).1 = 0) → q 1 (r_kp (x_K m 99 p1 0 p2) (x_R (x_K m 99 p1 0 p2)).1 (x_R (x_K m 99 p1 0 p2)).2))) : ch_C g m_l_chalk [.inr (0, 0, 0), .inl (.int p1), .inl (.int p2), .inr (10, 0, 1)] m (ch_oi q) := by
  refine e_l_chalk g _ p1 p2 m ?_
  refine g_l_chalk_0 g _ _ _ _ ?_
  simp only [forall_eq, ch_oi_iff]
  exact h
set_option maxHeartbeats 1600000 in
theorem s_l_hop (g : ch_G) (q : Int32 → ch_M → Prop) (p1 : Int32) (p2 : Int32) (m : ch_M) (h : (vp_in ((x_S (x_K m 104 p1 0 0) p2) (1, 0, 0) 8) 6) ∧ (vp_in ((x_S (x_K m 104 p1 0 0) p2) (5, 0, 0) 1) 13) ∧ (vp_in ((x_S (x_K m 104 p1 0 0) p2) (2, 0, 0) 1) 8) ∧ ((x_R (x_S (x_K m 104 p1 0 0) p2)).1 = 0 → y_carP (ch_ob (x_S (x_K m 104 p1 0 0) p2) 1 0) (ch_ob (x_S (x_K m 104 p1 0 0) p2) 4 0) ((x_S (x_K m 104 p1 0 0) p2) (5, 0, 0) 1)) ∧ (((x_R (x_S (x_K m 104 p1 0 0) p2)).1 = 0) → q 0 ((ch_wr (ch_os (p_kM (x_S (x_K m 104 p1 0 0) p2) 0) 1 0 (x_C (x_S (x_K m 104 p1 0 0) p2)).2) (10, 0, 1) 0 ((x_C (x_S (x_K m 104 p1 0 0) p2)).1)))) ∧ ((¬ (x_R (x_S (x_K m 104 p1 0 0) p2)).1 = 0) → q 1 (r_kp (x_S (x_K m 104 p1 0 0) p2) (x_R (x_S (x_K m 104 p1 0 0) p2)).1 (x_R (x_S (x_K m 104 p1 0 0) p2)).2))) : ch_C g m_l_hop [.inr (0, 0, 0), .inl (.int p1), .inl (.int p2), .inr (10, 0, 1)] m (ch_oi q) := by
  refine e_l_hop g _ p1 p2 m ?_
  refine g_l_hop_0 g _ _ _ _ ?_
  simp only [forall_eq, ch_oi_iff]
  exact h
set_option maxHeartbeats 1600000 in
theorem s_l_warrant (g : ch_G) (q : Int32 → ch_M → Prop) (p1 : Int32) (m : ch_M) (h : (vp_in ((x_K m 119 p1 0 0) (1, 0, 0) 8) 6) ∧ (vp_in ((x_K m 119 p1 0 0) (5, 0, 0) 1) 13) ∧ (vp_in ((x_K m 119 p1 0 0) (2, 0, 0) 1) 8) ∧ ((x_R (x_K m 119 p1 0 0)).1 = 0 → y_carP (ch_ob (x_K m 119 p1 0 0) 1 0) (ch_ob (x_K m 119 p1 0 0) 4 0) ((x_K m 119 p1 0 0) (5, 0, 0) 1)) ∧ (((x_R (x_K m 119 p1 0 0)).1 = 0) → q 0 ((ch_wr (ch_os (p_kM (x_K m 119 p1 0 0) 0) 1 0 (x_C (x_K m 119 p1 0 0)).2) (10, 0, 1) 0 ((x_C (x_K m 119 p1 0 0)).1)))) ∧ ((¬ (x_R (x_K m 119 p1 0 0)).1 = 0) → q 1 (r_kp (x_K m 119 p1 0 0) (x_R (x_K m 119 p1 0 0)).1 (x_R (x_K m 119 p1 0 0)).2))) : ch_C g m_l_warrant [.inr (0, 0, 0), .inl (.int p1), .inr (10, 0, 1)] m (ch_oi q) := by
  refine e_l_warrant g _ p1 m ?_
  refine g_l_warrant_0 g _ _ _ ?_
  simp only [forall_eq, ch_oi_iff]
  exact h
set_option maxHeartbeats 1600000 in
theorem s_l_strike (g : ch_G) (q : Int32 → ch_M → Prop) (p1 : Int32) (m : ch_M) (h : (vp_in ((x_K m 115 p1 0 0) (1, 0, 0) 8) 6) ∧ (vp_in ((x_K m 115 p1 0 0) (5, 0, 0) 1) 13) ∧ (vp_in ((x_K m 115 p1 0 0) (2, 0, 0) 1) 8) ∧ ((x_R (x_K m 115 p1 0 0)).1 = 0 → y_carP (ch_ob (x_K m 115 p1 0 0) 1 0) (ch_ob (x_K m 115 p1 0 0) 4 0) ((x_K m 115 p1 0 0) (5, 0, 0) 1)) ∧ (((x_R (x_K m 115 p1 0 0)).1 = 0) → q 0 ((ch_wr (ch_os (p_kM (x_K m 115 p1 0 0) 0) 1 0 (x_C (x_K m 115 p1 0 0)).2) (10, 0, 1) 0 ((x_C (x_K m 115 p1 0 0)).1)))) ∧ ((¬ (x_R (x_K m 115 p1 0 0)).1 = 0) → q 1 (r_kp (x_K m 115 p1 0 0) (x_R (x_K m 115 p1 0 0)).1 (x_R (x_K m 115 p1 0 0)).2))) : ch_C g m_l_strike [.inr (0, 0, 0), .inl (.int p1), .inr (10, 0, 1)] m (ch_oi q) := by
  refine e_l_strike g _ p1 m ?_
  refine g_l_strike_0 g _ _ _ ?_
  simp only [forall_eq, ch_oi_iff]
  exact h
set_option maxHeartbeats 1600000 in
theorem s_l_rain (g : ch_G) (q : Int32 → ch_M → Prop) (p1 : Int32) (m : ch_M) (h : (vp_in ((x_K m 114 0 0 p1) (1, 0, 0) 8) 6) ∧ (vp_in ((x_K m 114 0 0 p1) (5, 0, 0) 1) 13) ∧ (vp_in ((x_K m 114 0 0 p1) (2, 0, 0) 1) 8) ∧ ((x_R (x_K m 114 0 0 p1)).1 = 0 → y_carP (ch_ob (x_K m 114 0 0 p1) 1 0) (ch_ob (x_K m 114 0 0 p1) 4 0) ((x_K m 114 0 0 p1) (5, 0, 0) 1)) ∧ (((x_R (x_K m 114 0 0 p1)).1 = 0) → q 0 ((ch_wr (ch_os (p_kM (x_K m 114 0 0 p1) 0) 1 0 (x_C (x_K m 114 0 0 p1)).2) (10, 0, 1) 0 ((x_C (x_K m 114 0 0 p1)).1)))) ∧ ((¬ (x_R (x_K m 114 0 0 p1)).1 = 0) → q 1 (r_kp (x_K m 114 0 0 p1) (x_R (x_K m 114 0 0 p1)).1 (x_R (x_K m 114 0 0 p1)).2))) : ch_C g m_l_rain [.inr (0, 0, 0), .inl (.int p1), .inr (10, 0, 1)] m (ch_oi q) := by
  refine e_l_rain g _ p1 m ?_
  refine g_l_rain_0 g _ _ _ ?_
  simp only [forall_eq, ch_oi_iff]
  exact h
set_option maxHeartbeats 1600000 in
theorem s_l_term (g : ch_G) (q : Int32 → ch_M → Prop)  (m : ch_M) (h : (vp_in ((x_K m 116 0 0 0) (1, 0, 0) 8) 6) ∧ (vp_in ((x_K m 116 0 0 0) (5, 0, 0) 1) 13) ∧ (vp_in ((x_K m 116 0 0 0) (2, 0, 0) 1) 8) ∧ ((x_R (x_K m 116 0 0 0)).1 = 0 → y_carP (ch_ob (x_K m 116 0 0 0) 1 0) (ch_ob (x_K m 116 0 0 0) 4 0) ((x_K m 116 0 0 0) (5, 0, 0) 1)) ∧ (((x_R (x_K m 116 0 0 0)).1 = 0) → q 0 ((ch_wr (ch_os (p_kM (x_K m 116 0 0 0) 0) 1 0 (x_C (x_K m 116 0 0 0)).2) (10, 0, 1) 0 ((x_C (x_K m 116 0 0 0)).1)))) ∧ ((¬ (x_R (x_K m 116 0 0 0)).1 = 0) → q 1 (r_kp (x_K m 116 0 0 0) (x_R (x_K m 116 0 0 0)).1 (x_R (x_K m 116 0 0 0)).2))) : ch_C g m_l_term [.inr (0, 0, 0), .inr (10, 0, 1)] m (ch_oi q) := by
  refine e_l_term g _  m ?_
  refine g_l_term_0 g _ _ ?_
  simp only [forall_eq, ch_oi_iff]
  exact h
set_option maxHeartbeats 1600000 in
theorem s_l_give (g : ch_G) (q : Int32 → ch_M → Prop) (p1 : Int32) (p2 : Int32) (p3 : Int32) (m : ch_M) (h : (vp_in ((x_K m 103 p1 p2 p3) (1, 0, 0) 8) 6) ∧ (vp_in ((x_K m 103 p1 p2 p3) (5, 0, 0) 1) 13) ∧ (vp_in ((x_K m 103 p1 p2 p3) (2, 0, 0) 1) 8) ∧ ((x_R (x_K m 103 p1 p2 p3)).1 = 0 → y_carP (ch_ob (x_K m 103 p1 p2 p3) 1 0) (ch_ob (x_K m 103 p1 p2 p3) 4 0) ((x_K m 103 p1 p2 p3) (5, 0, 0) 1)) ∧ (((x_R (x_K m 103 p1 p2 p3)).1 = 0) → q 0 ((ch_wr (ch_os (p_kM (x_K m 103 p1 p2 p3) 0) 1 0 (x_C (x_K m 103 p1 p2 p3)).2) (10, 0, 1) 0 ((x_C (x_K m 103 p1 p2 p3)).1)))) ∧ ((¬ (x_R (x_K m 103 p1 p2 p3)).1 = 0) → q 1 (r_kp (x_K m 103 p1 p2 p3) (x_R (x_K m 103 p1 p2 p3)).1 (x_R (x_K m 103 p1 p2 p3)).2))) : ch_C g m_l_give [.inr (0, 0, 0), .inl (.int p1), .inl (.int p2), .inl (.int p3), .inr (10, 0, 1)] m (ch_oi q) := by
  refine e_l_give g _ p1 p2 p3 m ?_
  refine g_l_give_0 g _ _ _ _ _ ?_
  simp only [forall_eq, ch_oi_iff]
  exact h
set_option maxHeartbeats 1600000 in
theorem s_l_squareOf (g : ch_G) (q : Int32 → ch_M → Prop) (p1 : Int32) (p2 : Int32) (m : ch_M) (h : ((0 ≤ p1 ∧ p1 < 12) → q 0 ((ch_wr m (10, 0, 1) 0 (if p2 = 0 then m (1, 0, 1) (Int32.toNatClampNeg p1) else m (1, 0, 2) (Int32.toNatClampNeg p1))))) ∧ ((¬ (0 ≤ p1 ∧ p1 < 12)) → q 1 m)) : ch_C g m_l_squareOf [.inr (0, 0, 0), .inl (.int p1), .inl (.int p2), .inr (10, 0, 1)] m (ch_oi q) := by
  refine e_l_squareOf g _ p1 p2 m ?_
  refine g_l_squareOf_0 g _ _ _ _ ?_
  simp only [forall_eq, ch_oi_iff]
  exact h
set_option maxHeartbeats 1600000 in
theorem s_l_childOf (g : ch_G) (q : Int32 → ch_M → Prop) (p1 : Int32) (p2 : Int32) (m : ch_M) (h : (vp_in (m (1, 0, 0) 8) 6) ∧ (((0 ≤ p1 ∧ p1 < m (1, 0, 0) 8) ∧ 0 ≤ p2 ∧ p2 ≤ 6) → q 0 ((ch_wr m (10, 0, 1) 0 (x_coR (ch_ob m 1 0) p1 p2)))) ∧ ((¬ (0 ≤ p1 ∧ p1 < m (1, 0, 0) 8)) → q 1 m) ∧ (((0 ≤ p1 ∧ p1 < m (1, 0, 0) 8) ∧ ¬ (0 ≤ p2 ∧ p2 ≤ 6)) → q 2 m)) : ch_C g m_l_childOf [.inr (0, 0, 0), .inl (.int p1), .inl (.int p2), .inr (10, 0, 1)] m (ch_oi q) := by
  refine e_l_childOf g _ p1 p2 m ?_
  refine g_l_childOf_0 g _ _ _ _ ?_
  simp only [forall_eq, ch_oi_iff]
  exact h
set_option maxHeartbeats 1600000 in
theorem s_l_squares (g : ch_G) (q : Int32 → ch_M → Prop) (p1 : Int32) (m : ch_M) (h : ((0 ≤ p1 ∧ p1 < m (1, 0, 0) 8) → q 0 ((ch_wr m (10, 0, 1) 0 (y_ofS (m (1, 0, 1)) p1 0 12)))) ∧ ((¬ (0 ≤ p1 ∧ p1 < m (1, 0, 0) 8)) → q 1 m)) : ch_C g m_l_squares [.inr (0, 0, 0), .inl (.int p1), .inr (10, 0, 1)] m (ch_oi q) := by
  refine e_l_squares g _ p1 m ?_
  refine g_l_squares_0 g _ _ _ ?_
  simp only [forall_eq, ch_oi_iff]
  exact h
set_option maxHeartbeats 1600000 in
theorem s_l_warrantAt (g : ch_G) (q : Int32 → ch_M → Prop) (p1 : Int32) (m : ch_M) (h : (vp_in (m (1, 0, 0) 9) 6) ∧ ((0 ≤ p1 ∧ p1 < m (1, 0, 0) 9) → q 0 ((ch_wr m (10, 0, 1) 0 (m (1, 0, 8) (Int32.toNatClampNeg p1))))) ∧ ((¬ (0 ≤ p1 ∧ p1 < m (1, 0, 0) 9)) → q 1 m)) : ch_C g m_l_warrantAt [.inr (0, 0, 0), .inl (.int p1), .inr (10, 0, 1)] m (ch_oi q) := by
  refine e_l_warrantAt g _ p1 m ?_
  refine g_l_warrantAt_0 g _ _ _ ?_
  simp only [forall_eq, ch_oi_iff]
  exact h
set_option maxHeartbeats 1600000 in
theorem s_l_fewest (g : ch_G) (q : Int32 → ch_M → Prop) (p1 : Int32) (m : ch_M) (h : ((0 ≤ p1 ∧ p1 < m (1, 0, 0) 8) → q 0 ((ch_wr (ch_os m 8 0 (w_fl (ch_ob m 8 0) (w_l (ch_ob m 1 0) p1) 12)) (10, 0, 1) 0 (w_fl (ch_ob m 8 0) (w_l (ch_ob m 1 0) p1) 12 1 0)))) ∧ ((¬ (0 ≤ p1 ∧ p1 < m (1, 0, 0) 8)) → q 1 m)) : ch_C g m_l_fewest [.inr (0, 0, 0), .inl (.int p1), .inr (10, 0, 1)] m (ch_oi q) := by
  refine e_l_fewest g _ p1 m ?_
  refine g_l_fewest_0 g _ _ _ ?_
  simp only [forall_eq, ch_oi_iff]
  exact h
set_option maxHeartbeats 1600000 in
theorem s_l_fewestAgain (g : ch_G) (q : Int32 → ch_M → Prop) (p1 : Int32) (m : ch_M) (h : ((0 ≤ p1 ∧ p1 < m (1, 0, 0) 8) → q 0 ((ch_wr (ch_os m 8 0 ((w_fo (ch_ob m 8 0) (w_l (ch_ob m 1 0) p1) 14).1)) (10, 0, 1) 0 ((w_fo (ch_ob m 8 0) (w_l (ch_ob m 1 0) p1) 14).2)))) ∧ ((¬ (0 ≤ p1 ∧ p1 < m (1, 0, 0) 8)) → q 1 m)) : ch_C g m_l_fewestAgain [.inr (0, 0, 0), .inl (.int p1), .inr (10, 0, 1)] m (ch_oi q) := by
  refine e_l_fewestAgain g _ p1 m ?_
  refine g_l_fewestAgain_0 g _ _ _ ?_
  simp only [forall_eq, ch_oi_iff]
  exact h
set_option maxHeartbeats 1600000 in
theorem s_l_step (g : ch_G) (q : Int32 → ch_M → Prop) (p1 : Int32) (p2 : Int32) (m : ch_M) (h : (((0 ≤ p1 ∧ p1 < m (1, 0, 0) 8) ∧ 0 ≤ p2 ∧ p2 < x_sT (ch_ob m 5 1) (x_sW m p1) 0 1) → q 0 ((ch_wr (ch_os (ch_os m 8 0 (x_sW m p1)) 5 1 (x_sT (ch_ob m 5 1) (x_sW m p1))) (10, 0, 1) 0 (x_sT (ch_ob m 5 1) (x_sW m p1) 1 (Int32.toNatClampNeg p2))))) ∧ ((¬ (0 ≤ p1 ∧ p1 < m (1, 0, 0) 8)) → q 1 m) ∧ (((0 ≤ p1 ∧ p1 < m (1, 0, 0) 8) ∧ ¬ (0 ≤ p2 ∧ p2 < x_sT (ch_ob m 5 1) (x_sW m p1) 0 1)) → q 2 (ch_os (ch_os m 8 0 (x_sW m p1)) 5 1 (x_sT (ch_ob m 5 1) (x_sW m p1))))) : ch_C g m_l_step [.inr (0, 0, 0), .inl (.int p1), .inl (.int p2), .inr (10, 0, 1)] m (ch_oi q) := by
  refine e_l_step g _ p1 p2 m ?_
  refine g_l_step_0 g _ _ _ _ ?_
  simp only [forall_eq, ch_oi_iff]
  exact h
set_option maxHeartbeats 1600000 in
theorem s_l_wouldTread (g : ch_G) (q : Int32 → ch_M → Prop) (p1 : Int32) (p2 : Int32) (m : ch_M) (h : (((0 ≤ p1 ∧ p1 < m (1, 0, 0) 8) ∧ x_wtP (s_rfB (ch_ob m 5 1) p2) = true) → q 0 ((ch_wr (ch_os m 5 1 (s_rfB (ch_ob m 5 1) p2)) (10, 0, 1) 0 (y_ct (ch_ob m 1 0) p1 (s_rfB (ch_ob m 5 1) p2 1) (Int32.toNatClampNeg (s_rfB (ch_ob m 5 1) p2 0 1)))))) ∧ ((¬ (0 ≤ p1 ∧ p1 < m (1, 0, 0) 8)) → q 1 m) ∧ (((0 ≤ p1 ∧ p1 < m (1, 0, 0) 8) ∧ ¬ x_wtP (s_rfB (ch_ob m 5 1) p2) = true) → q 2 (ch_os m 5 1 (s_rfB (ch_ob m 5 1) p2)))) : ch_C g m_l_wouldTread [.inr (0, 0, 0), .inl (.int p1), .inl (.int p2), .inr (10, 0, 1)] m (ch_oi q) := by
  refine e_l_wouldTread g _ p1 p2 m ?_
  refine g_l_wouldTread_0 g _ _ _ _ ?_
  simp only [forall_eq, ch_oi_iff]
  exact h
set_option maxHeartbeats 1600000 in
theorem s_l_longest (g : ch_G) (q : Int32 → ch_M → Prop) (p1 : Int32) (m : ch_M) (h : ((0 ≤ p1 ∧ p1 < m (1, 0, 0) 8) → q 0 ((ch_wr m (10, 0, 1) 0 ((y_lr (m (1, 0, 1)) p1 12).1)))) ∧ ((¬ (0 ≤ p1 ∧ p1 < m (1, 0, 0) 8)) → q 1 m)) : ch_C g m_l_longest [.inr (0, 0, 0), .inl (.int p1), .inr (10, 0, 1)] m (ch_oi q) := by
  refine e_l_longest g _ p1 m ?_
  refine g_l_longest_0 g _ _ _ ?_
  simp only [forall_eq, ch_oi_iff]
  exact h
set_option maxHeartbeats 1600000 in
theorem s_l_wouldEnd (g : ch_G) (q : Int32 → ch_M → Prop) (p1 : Int32) (m : ch_M) (h : (vp_in (m (1, 0, 0) 9) 6) ∧ (∀ i_, i_ < 5 → vp_in (m (1, 0, 8) i_) 5) ∧ ((1 ≤ p1 ∧ p1 ≤ 9) → q 0 ((ch_wr (ch_os m 1 2 (y_washB (y_cp (ch_ob m 1 0) (ch_ob m 1 2)) p1)) (10, 0, 1) 0 (y_washR (y_cp (ch_ob m 1 0) (ch_ob m 1 2)) p1)))) ∧ ((¬ (1 ≤ p1 ∧ p1 ≤ 9)) → q 1 m)) : ch_C g m_l_wouldEnd [.inr (0, 0, 0), .inl (.int p1), .inr (10, 0, 1)] m (ch_oi q) := by
  refine e_l_wouldEnd g _ p1 m ?_
  refine g_l_wouldEnd_0 g _ _ _ ?_
  simp only [forall_eq, ch_oi_iff]
  exact h
set_option maxHeartbeats 1600000 in
theorem s_l_rainFor (g : ch_G) (q : Int32 → ch_M → Prop) (p1 : Int32) (m : ch_M) (h : (vp_in (m (1, 0, 0) 8) 6) ∧ (((0 ≤ p1 ∧ p1 < m (1, 0, 0) 8) ∧ ¬ m (1, 0, 5) (Int32.toNatClampNeg p1) = 0) → q 0 ((ch_wr m (10, 0, 1) 0 (m (1, 0, 5) (Int32.toNatClampNeg p1))))) ∧ ((¬ (0 ≤ p1 ∧ p1 < m (1, 0, 0) 8)) → q 1 m) ∧ (((0 ≤ p1 ∧ p1 < m (1, 0, 0) 8) ∧ m (1, 0, 5) (Int32.toNatClampNeg p1) = 0) → q 2 m)) : ch_C g m_l_rainFor [.inr (0, 0, 0), .inl (.int p1), .inr (10, 0, 1)] m (ch_oi q) := by
  refine e_l_rainFor g _ p1 m ?_
  refine g_l_rainFor_0 g _ _ _ ?_
  simp only [forall_eq, ch_oi_iff]
  exact h
set_option maxHeartbeats 1600000 in
theorem s_l_wouldLose (g : ch_G) (q : Int32 → ch_M → Prop) (p1 : Int32) (m : ch_M) (h : (vp_in (m (1, 0, 0) 8) 6) ∧ ((0 ≤ p1 ∧ p1 < m (1, 0, 0) 8) → q 0 ((ch_wr m (10, 0, 1) 0 (y_ofS (m (1, 0, 1)) p1 (m (1, 0, 3) (Int32.toNatClampNeg p1)) 12)))) ∧ ((¬ (0 ≤ p1 ∧ p1 < m (1, 0, 0) 8)) → q 1 m)) : ch_C g m_l_wouldLose [.inr (0, 0, 0), .inl (.int p1), .inr (10, 0, 1)] m (ch_oi q) := by
  refine e_l_wouldLose g _ p1 m ?_
  refine g_l_wouldLose_0 g _ _ _ ?_
  simp only [forall_eq, ch_oi_iff]
  exact h
set_option maxHeartbeats 1600000 in
theorem s_l_termsFor (g : ch_G) (q : Int32 → ch_M → Prop) (p1 : Int32) (m : ch_M) (h : (vp_in (m (1, 0, 0) 8) 6) ∧ (((0 ≤ p1 ∧ p1 < m (1, 0, 0) 8) ∧ ¬ (x_tt p1 40 1 (y_cp (ch_ob m 1 0) (ch_ob m 1 2))).1 = 0) → q 0 ((ch_wr (ch_os m 1 2 ((x_tt p1 40 1 (y_cp (ch_ob m 1 0) (ch_ob m 1 2))).2)) (10, 0, 1) 0 ((x_tt p1 40 1 (y_cp (ch_ob m 1 0) (ch_ob m 1 2))).1)))) ∧ ((¬ (0 ≤ p1 ∧ p1 < m (1, 0, 0) 8)) → q 1 m) ∧ (((0 ≤ p1 ∧ p1 < m (1, 0, 0) 8) ∧ (x_tt p1 40 1 (y_cp (ch_ob m 1 0) (ch_ob m 1 2))).1 = 0) → q 2 (ch_os m 1 2 ((x_tt p1 40 1 (y_cp (ch_ob m 1 0) (ch_ob m 1 2))).2)))) : ch_C g m_l_termsFor [.inr (0, 0, 0), .inl (.int p1), .inr (10, 0, 1)] m (ch_oi q) := by
  refine e_l_termsFor g _ p1 m ?_
  refine g_l_termsFor_0 g _ _ _ ?_
  simp only [forall_eq, ch_oi_iff]
  exact h
set_option maxHeartbeats 1600000 in
theorem s_l_ranked (g : ch_G) (q : Int32 → ch_M → Prop) (p1 : Int32) (p2 : Int32) (m : ch_M) (h : (vp_in (m (1, 0, 0) 8) 6) ∧ (((0 ≤ p1 ∧ p1 ≤ 3) ∧ 0 ≤ p2 ∧ p2 < m (1, 0, 0) 8) → q 0 ((ch_wr m (10, 0, 1) 0 (x_rk (ch_ob m 1 0) p1 p2 (Int32.toNatClampNeg (m (1, 0, 0) 8)))))) ∧ ((¬ (0 ≤ p1 ∧ p1 ≤ 3)) → q 1 m) ∧ (((0 ≤ p1 ∧ p1 ≤ 3) ∧ ¬ (0 ≤ p2 ∧ p2 < m (1, 0, 0) 8)) → q 2 m)) : ch_C g m_l_ranked [.inr (0, 0, 0), .inl (.int p1), .inl (.int p2), .inr (10, 0, 1)] m (ch_oi q) := by
  refine e_l_ranked g _ p1 p2 m ?_
  refine g_l_ranked_0 g _ _ _ _ ?_
  simp only [forall_eq, ch_oi_iff]
  exact h
set_option maxHeartbeats 1600000 in
theorem s_l_append (g : ch_G) (q : Int32 → ch_M → Prop) (p1 : Int32) (m : ch_M) (h : (vp_in (m (6, 0, 0) 1) 61) ∧ ((m (6, 0, 0) 1 < 60) → q 0 ((ch_wr (ch_os m 6 0 (t_putB (ch_ob m 6 0) p1)) (10, 0, 1) 0 (m (6, 0, 0) 1 + 1)))) ∧ ((¬ m (6, 0, 0) 1 < 60) → q 1 m)) : ch_C g m_l_append [.inr (0, 0, 0), .inl (.int p1), .inr (10, 0, 1)] m (ch_oi q) := by
  refine e_l_append g _ p1 m ?_
  refine g_l_append_0 g _ _ _ ?_
  simp only [forall_eq, ch_oi_iff]
  exact h
set_option maxHeartbeats 1600000 in
theorem s_l_commands (g : ch_G) (q : Int32 → ch_M → Prop)  (m : ch_M) (h : ((x_F m).1 = -1 → x_ok 60 (x_p0 (x_b m)) ∧ (¬ (x_cc m).1 = 0 → vp_in (x_c3 m (2, 0, 0) 1) 8)) ∧ (((x_F m).1 = -1 ∧ ¬ (x_cc m).1 = 0) → q 0 ((ch_wr (p_kM (x_c3 m) 1) (10, 0, 1) 0 ((x_cc m).1)))) ∧ ((¬ (x_F m).1 = -1) → q 1 (x_cl (x_f1 m))) ∧ (((x_F m).1 = -1 ∧ (x_cc m).1 = 0) → q 2 (ch_os (x_c3 m) 1 0 (y_cp (ch_ob (x_c3 m) 1 1) (ch_ob (x_c3 m) 1 0))))) : ch_C g m_l_commands [.inr (0, 0, 0), .inr (10, 0, 1)] m (ch_oi q) := by
  refine e_l_commands g _  m ?_
  refine g_l_commands_0 g _ _ ?_
  simp only [forall_eq, ch_oi_iff]
  exact h
set_option maxHeartbeats 1600000 in
theorem s_l_reason (g : ch_G) (q : Int32 → ch_M → Prop) (p1 : Int32) (m : ch_M) (h : (((0 ≤ p1 ∧ p1 ≤ 2) ∧ ¬ m (3, 0, 0) 0 = 0) → q 0 ((ch_wr m (10, 0, 1) 0 (if p1 = 0 then m (3, 0, 0) 0 else if p1 = 1 then m (3, 0, 0) 1 else m (3, 0, 0) 2)))) ∧ ((¬ (0 ≤ p1 ∧ p1 ≤ 2)) → q 1 m) ∧ (((0 ≤ p1 ∧ p1 ≤ 2) ∧ m (3, 0, 0) 0 = 0) → q 2 m)) : ch_C g m_l_reason [.inr (0, 0, 0), .inl (.int p1), .inr (10, 0, 1)] m (ch_oi q) := by
  refine e_l_reason g _ p1 m ?_
  refine g_l_reason_0 g _ _ _ ?_
  simp only [forall_eq, ch_oi_iff]
  exact h
set_option maxHeartbeats 1600000 in
theorem s_l_character (g : ch_G) (q : Int32 → ch_M → Prop) (p1 : Int32) (m : ch_M) (h : (vp_in (m (6, 1, 0) 1) 61) ∧ (∀ i_, i_ < 60 → narrow .char (.int (m (6, 1, 1) i_)) = .int (m (6, 1, 1) i_)) ∧ ((0 ≤ p1 ∧ p1 < m (6, 1, 0) 1) → q 0 ((ch_wr m (10, 0, 1) 0 (m (6, 1, 1) (Int32.toNatClampNeg p1))))) ∧ ((¬ (0 ≤ p1 ∧ p1 < m (6, 1, 0) 1)) → q 1 m)) : ch_C g m_l_character [.inr (0, 0, 0), .inl (.int p1), .inr (10, 0, 1)] m (ch_oi q) := by
  refine e_l_character g _ p1 m ?_
  refine g_l_character_0 g _ _ _ ?_
  simp only [forall_eq, ch_oi_iff]
  exact h
set_option maxHeartbeats 1600000 in
theorem s_l_meanChalk (g : ch_G) (q : Int32 → ch_M → Prop)  (m : ch_M) (h : (y_fls (ch_ob m 1 0)) ∧ ((¬ 12 - ch_cnO (ch_ob m 1 0 1) (-1) 12 = 0) → q 0 ((ch_wr (ch_wr m (10, 0, 2) 0 (y_sum (ch_ob m 1 0 2) 12)) (10, 0, 2) 1 (12 - ch_cnO (ch_ob m 1 0 1) (-1) 12)))) ∧ ((12 - ch_cnO (ch_ob m 1 0 1) (-1) 12 = 0) → q 1 m)) : ch_C g m_l_meanChalk [.inr (0, 0, 0), .inr (10, 0, 2)] m (ch_oi q) := by
  refine e_l_meanChalk g _  m ?_
  obtain ⟨hf, ha, hb⟩ := h
  refine g_l_meanChalk_0 g _ _ ⟨hf, fun c => ⟨y_sum (ch_ob m 1 0 2) 12, 12 - ch_cnO (ch_ob m 1 0 1) (-1) 12, ?_, fun m7 e7 => ?_⟩, fun c => ch_oi_iff.mpr (hb c)⟩
  · unfold ch_dv
    rw [if_neg c]
  · rw [e7]
    exact ch_oi_iff.mpr (ha c)
set_option maxHeartbeats 1600000 in
theorem s_l_account (g : ch_G) (q : Int32 → ch_M → Prop) (p1 : Int32) (m : ch_M) (h : (vp_in (m (1, 0, 0) 8) 6) ∧ ((0 ≤ p1 ∧ p1 ≤ 11) → q 0 ((ch_wr m (10, 0, 1) 0 (x_acR (ch_ob m 1 0) (m (2, 0, 0) 2) (m (6, 0, 0) 1) p1)))) ∧ ((¬ (0 ≤ p1 ∧ p1 ≤ 11)) → q 1 m)) : ch_C g m_l_account [.inr (0, 0, 0), .inl (.int p1), .inr (10, 0, 1)] m (ch_oi q) := by
  refine e_l_account g _ p1 m ?_
  refine g_l_account_0 g _ _ _ ?_
  simp only [forall_eq, ch_oi_iff]
  exact h
set_option maxHeartbeats 1600000 in
theorem s_l_undo (g : ch_G) (q : Int32 → ch_M → Prop)  (m : ch_M) (h : (vp_in (m (2, 0, 0) 1) 8) ∧ ((¬ m (2, 0, 0) 2 = 0) → q 0 ((ch_wr (ch_os (ch_os m 1 0 (y_cp (ch_ob m 1 (4 + Int32.toNatClampNeg (m (2, 0, 0) 1))) (ch_ob m 1 0))) 2 0 (p_gB (ch_ob m 2 0))) (10, 0, 1) 0 (m (2, 0, 0) 2 - 1)))) ∧ ((m (2, 0, 0) 2 = 0) → q 1 m)) : ch_C g m_l_undo [.inr (0, 0, 0), .inr (10, 0, 1)] m (ch_oi q) := by
  refine e_l_undo g _  m ?_
  refine g_l_undo_0 g _ _ ?_
  simp only [forall_eq, ch_oi_iff]
  exact h
set_option maxHeartbeats 1600000 in
theorem s_l_restore (g : ch_G) (q : Int32 → ch_M → Prop)  (m : ch_M) (h : ((¬ m (0, 0, 0) 12 = 0) → q 0 ((ch_wr (ch_wr (ch_os m 1 0 (y_cp (ch_ob m 1 3) (ch_ob m 1 0))) (2, 0, 0) 2 0) (10, 0, 1) 0 (m (1, 3, 0) 8)))) ∧ ((m (0, 0, 0) 12 = 0) → q 1 m)) : ch_C g m_l_restore [.inr (0, 0, 0), .inr (10, 0, 1)] m (ch_oi q) := by
  refine e_l_restore g _  m ?_
  refine g_l_restore_0 g _ _ ?_
  simp only [forall_eq, ch_oi_iff]
  exact h
