set_option maxHeartbeats 1600000 in
theorem s_l_child (g : ch_G) (q : Int32 → ch_M → Prop) (p1 : Int32) (m : ch_M) (h : (vp_in ((x_K m 110 0 0 p1) (1, 0, 0) 8) 6) ∧ (vp_in ((x_K m 110 0 0 p1) (5, 0, 0) 1) 13) ∧ (vp_in ((x_K m 110 0 0 p1) (2, 0, 0) 1) 8) ∧ ((x_R (x_K m 110 0 0 p1)).1 = 0 → y_carP (ch_ob (x_K m 110 0 0 p1) 1 0) (ch_ob (x_K m 110 0 0 p1) 4 0) ((x_K m 110 0 0 p1) (5, 0, 0) 1)) ∧ (((x_R (x_K m 110 0 0 p1)).1 = 0) → q ((x_C (x_K m 110 0 0 p1)).1) (ch_os (p_kM (x_K m 110 0 0 p1) 0) 1 0 (x_C (x_K m 110 0 0 p1)).2)) ∧ ((¬ (x_R (x_K m 110 0 0 p1)).1 = 0) → q (-1001) (r_kp (x_K m 110 0 0 p1) (x_R (x_K m 110 0 0 p1)).1 (x_R (x_K m 110 0 0 p1)).2))) : ch_C g m_l_child [.inr (0, 0, 0), .inl (.int p1)] m (ch_oi q) := by
  refine e_l_child g _ p1 m ?_
  refine g_l_child_0 g _ _ _ ?_
  simp only [forall_eq, ch_oi_iff]
  exact h
set_option maxHeartbeats 1600000 in
theorem s_l_chalk (g : ch_G) (q : Int32 → ch_M → Prop) (p1 : Int32) (p2 : Int32) (m : ch_M) (h : (vp_in ((x_K m 99 p1 0 p2) (1, 0, 0) 8) 6) ∧ (vp_in ((x_K m 99 p1 0 p2) (5, 0, 0) 1) 13) ∧ (vp_in ((x_K m 99 p1 0 p2) (2, 0, 0) 1) 8) ∧ ((x_R (x_K m 99 p1 0 p2)).1 = 0 → y_carP (ch_ob (x_K m 99 p1 0 p2) 1 0) (ch_ob (x_K m 99 p1 0 p2) 4 0) ((x_K m 99 p1 0 p2) (5, 0, 0) 1)) ∧ (((x_R (x_K m 99 p1 0 p2)).1 = 0) → q ((x_C (x_K m 99 p1 0 p2)).1) (ch_os (p_kM (x_K m 99 p1 0 p2) 0) 1 0 (x_C (x_K m 99 p1 0 p2)).2)) ∧ ((¬ (x_R (x_K m 99 p1 0 p2)).1 = 0) → q (-1001) (r_kp (x_K m 99 p1 0 p2) (x_R (x_K m 99 p1 0 p2)).1 (x_R (x_K m 99 p1 0 p2)).2))) : ch_C g m_l_chalk [.inr (0, 0, 0), .inl (.int p1), .inl (.int p2)] m (ch_oi q) := by
  refine e_l_chalk g _ p1 p2 m ?_
  refine g_l_chalk_0 g _ _ _ _ ?_
  simp only [forall_eq, ch_oi_iff]
  exact h
set_option maxHeartbeats 1600000 in
theorem s_l_hop (g : ch_G) (q : Int32 → ch_M → Prop) (p1 : Int32) (p2 : Int32) (m : ch_M) (h : (vp_in ((x_S (x_K m 104 p1 0 0) p2) (1, 0, 0) 8) 6) ∧ (vp_in ((x_S (x_K m 104 p1 0 0) p2) (5, 0, 0) 1) 13) ∧ (vp_in ((x_S (x_K m 104 p1 0 0) p2) (2, 0, 0) 1) 8) ∧ ((x_R (x_S (x_K m 104 p1 0 0) p2)).1 = 0 → y_carP (ch_ob (x_S (x_K m 104 p1 0 0) p2) 1 0) (ch_ob (x_S (x_K m 104 p1 0 0) p2) 4 0) ((x_S (x_K m 104 p1 0 0) p2) (5, 0, 0) 1)) ∧ (((x_R (x_S (x_K m 104 p1 0 0) p2)).1 = 0) → q ((x_C (x_S (x_K m 104 p1 0 0) p2)).1) (ch_os (p_kM (x_S (x_K m 104 p1 0 0) p2) 0) 1 0 (x_C (x_S (x_K m 104 p1 0 0) p2)).2)) ∧ ((¬ (x_R (x_S (x_K m 104 p1 0 0) p2)).1 = 0) → q (-1001) (r_kp (x_S (x_K m 104 p1 0 0) p2) (x_R (x_S (x_K m 104 p1 0 0) p2)).1 (x_R (x_S (x_K m 104 p1 0 0) p2)).2))) : ch_C g m_l_hop [.inr (0, 0, 0), .inl (.int p1), .inl (.int p2)] m (ch_oi q) := by
  refine e_l_hop g _ p1 p2 m ?_
  refine g_l_hop_0 g _ _ _ _ ?_
  simp only [forall_eq, ch_oi_iff]
  exact h
set_option maxHeartbeats 1600000 in
theorem s_l_warrant (g : ch_G) (q : Int32 → ch_M → Prop) (p1 : Int32) (m : ch_M) (h : (vp_in ((x_K m 119 p1 0 0) (1, 0, 0) 8) 6) ∧ (vp_in ((x_K m 119 p1 0 0) (5, 0, 0) 1) 13) ∧ (vp_in ((x_K m 119 p1 0 0) (2, 0, 0) 1) 8) ∧ ((x_R (x_K m 119 p1 0 0)).1 = 0 → y_carP (ch_ob (x_K m 119 p1 0 0) 1 0) (ch_ob (x_K m 119 p1 0 0) 4 0) ((x_K m 119 p1 0 0) (5, 0, 0) 1)) ∧ (((x_R (x_K m 119 p1 0 0)).1 = 0) → q ((x_C (x_K m 119 p1 0 0)).1) (ch_os (p_kM (x_K m 119 p1 0 0) 0) 1 0 (x_C (x_K m 119 p1 0 0)).2)) ∧ ((¬ (x_R (x_K m 119 p1 0 0)).1 = 0) → q (-1001) (r_kp (x_K m 119 p1 0 0) (x_R (x_K m 119 p1 0 0)).1 (x_R (x_K m 119 p1 0 0)).2))) : ch_C g m_l_warrant [.inr (0, 0, 0), .inl (.int p1)] m (ch_oi q) := by
  refine e_l_warrant g _ p1 m ?_
  refine g_l_warrant_0 g _ _ _ ?_
  simp only [forall_eq, ch_oi_iff]
  exact h
set_option maxHeartbeats 1600000 in
theorem s_l_strike (g : ch_G) (q : Int32 → ch_M → Prop) (p1 : Int32) (m : ch_M) (h : (vp_in ((x_K m 115 p1 0 0) (1, 0, 0) 8) 6) ∧ (vp_in ((x_K m 115 p1 0 0) (5, 0, 0) 1) 13) ∧ (vp_in ((x_K m 115 p1 0 0) (2, 0, 0) 1) 8) ∧ ((x_R (x_K m 115 p1 0 0)).1 = 0 → y_carP (ch_ob (x_K m 115 p1 0 0) 1 0) (ch_ob (x_K m 115 p1 0 0) 4 0) ((x_K m 115 p1 0 0) (5, 0, 0) 1)) ∧ (((x_R (x_K m 115 p1 0 0)).1 = 0) → q ((x_C (x_K m 115 p1 0 0)).1) (ch_os (p_kM (x_K m 115 p1 0 0) 0) 1 0 (x_C (x_K m 115 p1 0 0)).2)) ∧ ((¬ (x_R (x_K m 115 p1 0 0)).1 = 0) → q (-1001) (r_kp (x_K m 115 p1 0 0) (x_R (x_K m 115 p1 0 0)).1 (x_R (x_K m 115 p1 0 0)).2))) : ch_C g m_l_strike [.inr (0, 0, 0), .inl (.int p1)] m (ch_oi q) := by
  refine e_l_strike g _ p1 m ?_
  refine g_l_strike_0 g _ _ _ ?_
  simp only [forall_eq, ch_oi_iff]
  exact h
set_option maxHeartbeats 1600000 in
theorem s_l_rain (g : ch_G) (q : Int32 → ch_M → Prop) (p1 : Int32) (m : ch_M) (h : (vp_in ((x_K m 114 0 0 p1) (1, 0, 0) 8) 6) ∧ (vp_in ((x_K m 114 0 0 p1) (5, 0, 0) 1) 13) ∧ (vp_in ((x_K m 114 0 0 p1) (2, 0, 0) 1) 8) ∧ ((x_R (x_K m 114 0 0 p1)).1 = 0 → y_carP (ch_ob (x_K m 114 0 0 p1) 1 0) (ch_ob (x_K m 114 0 0 p1) 4 0) ((x_K m 114 0 0 p1) (5, 0, 0) 1)) ∧ (((x_R (x_K m 114 0 0 p1)).1 = 0) → q ((x_C (x_K m 114 0 0 p1)).1) (ch_os (p_kM (x_K m 114 0 0 p1) 0) 1 0 (x_C (x_K m 114 0 0 p1)).2)) ∧ ((¬ (x_R (x_K m 114 0 0 p1)).1 = 0) → q (-1001) (r_kp (x_K m 114 0 0 p1) (x_R (x_K m 114 0 0 p1)).1 (x_R (x_K m 114 0 0 p1)).2))) : ch_C g m_l_rain [.inr (0, 0, 0), .inl (.int p1)] m (ch_oi q) := by
  refine e_l_rain g _ p1 m ?_
  refine g_l_rain_0 g _ _ _ ?_
  simp only [forall_eq, ch_oi_iff]
  exact h
set_option maxHeartbeats 1600000 in
theorem s_l_term (g : ch_G) (q : Int32 → ch_M → Prop)  (m : ch_M) (h : (vp_in ((x_K m 116 0 0 0) (1, 0, 0) 8) 6) ∧ (vp_in ((x_K m 116 0 0 0) (5, 0, 0) 1) 13) ∧ (vp_in ((x_K m 116 0 0 0) (2, 0, 0) 1) 8) ∧ ((x_R (x_K m 116 0 0 0)).1 = 0 → y_carP (ch_ob (x_K m 116 0 0 0) 1 0) (ch_ob (x_K m 116 0 0 0) 4 0) ((x_K m 116 0 0 0) (5, 0, 0) 1)) ∧ (((x_R (x_K m 116 0 0 0)).1 = 0) → q ((x_C (x_K m 116 0 0 0)).1) (ch_os (p_kM (x_K m 116 0 0 0) 0) 1 0 (x_C (x_K m 116 0 0 0)).2)) ∧ ((¬ (x_R (x_K m 116 0 0 0)).1 = 0) → q (-1001) (r_kp (x_K m 116 0 0 0) (x_R (x_K m 116 0 0 0)).1 (x_R (x_K m 116 0 0 0)).2))) : ch_C g m_l_term [.inr (0, 0, 0)] m (ch_oi q) := by
  refine e_l_term g _  m ?_
  refine g_l_term_0 g _ _ ?_
  simp only [forall_eq, ch_oi_iff]
  exact h
set_option maxHeartbeats 1600000 in
theorem s_l_give (g : ch_G) (q : Int32 → ch_M → Prop) (p1 : Int32) (p2 : Int32) (p3 : Int32) (m : ch_M) (h : (vp_in ((x_K m 103 p1 p2 p3) (1, 0, 0) 8) 6) ∧ (vp_in ((x_K m 103 p1 p2 p3) (5, 0, 0) 1) 13) ∧ (vp_in ((x_K m 103 p1 p2 p3) (2, 0, 0) 1) 8) ∧ ((x_R (x_K m 103 p1 p2 p3)).1 = 0 → y_carP (ch_ob (x_K m 103 p1 p2 p3) 1 0) (ch_ob (x_K m 103 p1 p2 p3) 4 0) ((x_K m 103 p1 p2 p3) (5, 0, 0) 1)) ∧ (((x_R (x_K m 103 p1 p2 p3)).1 = 0) → q ((x_C (x_K m 103 p1 p2 p3)).1) (ch_os (p_kM (x_K m 103 p1 p2 p3) 0) 1 0 (x_C (x_K m 103 p1 p2 p3)).2)) ∧ ((¬ (x_R (x_K m 103 p1 p2 p3)).1 = 0) → q (-1001) (r_kp (x_K m 103 p1 p2 p3) (x_R (x_K m 103 p1 p2 p3)).1 (x_R (x_K m 103 p1 p2 p3)).2))) : ch_C g m_l_give [.inr (0, 0, 0), .inl (.int p1), .inl (.int p2), .inl (.int p3)] m (ch_oi q) := by
  refine e_l_give g _ p1 p2 p3 m ?_
  refine g_l_give_0 g _ _ _ _ _ ?_
  simp only [forall_eq, ch_oi_iff]
  exact h
set_option maxHeartbeats 1600000 in
theorem s_l_squareOf (g : ch_G) (q : Int32 → ch_M → Prop) (p1 : Int32) (p2 : Int32) (m : ch_M) (h : ((0 ≤ p1 ∧ p1 < 12) → q (if p2 = 0 then m (1, 0, 1) (Int32.toNatClampNeg p1) else m (1, 0, 2) (Int32.toNatClampNeg p1)) m) ∧ ((¬ (0 ≤ p1 ∧ p1 < 12)) → q (-1001) m)) : ch_C g m_l_squareOf [.inr (0, 0, 0), .inl (.int p1), .inl (.int p2)] m (ch_oi q) := by
  refine e_l_squareOf g _ p1 p2 m ?_
  refine g_l_squareOf_0 g _ _ _ _ ?_
  simp only [forall_eq, ch_oi_iff]
  exact h
set_option maxHeartbeats 1600000 in
theorem s_l_of (g : ch_G) (q : Int32 → ch_M → Prop) (p1 : Int32) (p2 : Int32) (m : ch_M) (h : (vp_in (m (1, 0, 0) 8) 6) ∧ (((0 ≤ p1 ∧ p1 < m (1, 0, 0) 8) ∧ 0 ≤ p2 ∧ p2 ≤ 6) → q (x_coR (ch_ob m 1 0) p1 p2) m) ∧ ((¬ (0 ≤ p1 ∧ p1 < m (1, 0, 0) 8)) → q (-1001) m) ∧ (((0 ≤ p1 ∧ p1 < m (1, 0, 0) 8) ∧ ¬ (0 ≤ p2 ∧ p2 ≤ 6)) → q (-1002) m)) : ch_C g m_l_of [.inr (0, 0, 0), .inl (.int p1), .inl (.int p2)] m (ch_oi q) := by
  refine e_l_of g _ p1 p2 m ?_
  refine g_l_of_0 g _ _ _ _ ?_
  simp only [forall_eq, ch_oi_iff]
  exact h
