set_option maxHeartbeats 1600000 in
theorem s_l_termsFor (g : ch_G) (q : Int32 → ch_M → Prop) (p1 : Int32) (m : ch_M) (h : (vp_in (m (1, 0, 0) 8) 6) ∧ (((0 ≤ p1 ∧ p1 < m (1, 0, 0) 8) ∧ ¬ (x_tt p1 40 1 (y_cp (ch_ob m 1 0) (ch_ob m 1 2))).1 = 0) → q ((x_tt p1 40 1 (y_cp (ch_ob m 1 0) (ch_ob m 1 2))).1) (ch_os m 1 2 ((x_tt p1 40 1 (y_cp (ch_ob m 1 0) (ch_ob m 1 2))).2))) ∧ ((¬ (0 ≤ p1 ∧ p1 < m (1, 0, 0) 8)) → q (-1001) m) ∧ (((0 ≤ p1 ∧ p1 < m (1, 0, 0) 8) ∧ (x_tt p1 40 1 (y_cp (ch_ob m 1 0) (ch_ob m 1 2))).1 = 0) → q (-1002) (ch_os m 1 2 ((x_tt p1 40 1 (y_cp (ch_ob m 1 0) (ch_ob m 1 2))).2)))) : ch_C g m_l_termsFor [.inr (0, 0, 0), .inl (.int p1)] m (ch_oi q) := by
  refine e_l_termsFor g _ p1 m ?_
  refine g_l_termsFor_0 g _ _ _ ?_
  simp only [forall_eq, ch_oi_iff]
  exact h
set_option maxHeartbeats 1600000 in
theorem s_l_ranked (g : ch_G) (q : Int32 → ch_M → Prop) (p1 : Int32) (p2 : Int32) (m : ch_M) (h : (vp_in (m (1, 0, 0) 8) 6) ∧ (((0 ≤ p1 ∧ p1 ≤ 3) ∧ 0 ≤ p2 ∧ p2 < m (1, 0, 0) 8) → q (x_rk (ch_ob m 1 0) p1 p2 (Int32.toNatClampNeg (m (1, 0, 0) 8))) m) ∧ ((¬ (0 ≤ p1 ∧ p1 ≤ 3)) → q (-1001) m) ∧ (((0 ≤ p1 ∧ p1 ≤ 3) ∧ ¬ (0 ≤ p2 ∧ p2 < m (1, 0, 0) 8)) → q (-1002) m)) : ch_C g m_l_ranked [.inr (0, 0, 0), .inl (.int p1), .inl (.int p2)] m (ch_oi q) := by
  refine e_l_ranked g _ p1 p2 m ?_
  refine g_l_ranked_0 g _ _ _ _ ?_
  simp only [forall_eq, ch_oi_iff]
  exact h
set_option maxHeartbeats 1600000 in
theorem s_l_append (g : ch_G) (q : Int32 → ch_M → Prop) (p1 : Int32) (m : ch_M) (h : (vp_in (m (6, 0, 0) 1) 61) ∧ ((m (6, 0, 0) 1 < 60) → q (m (6, 0, 0) 1 + 1) (ch_os m 6 0 (t_putB (ch_ob m 6 0) p1))) ∧ ((¬ m (6, 0, 0) 1 < 60) → q (-1001) m)) : ch_C g m_l_append [.inr (0, 0, 0), .inl (.int p1)] m (ch_oi q) := by
  refine e_l_append g _ p1 m ?_
  refine g_l_append_0 g _ _ _ ?_
  simp only [forall_eq, ch_oi_iff]
  exact h
set_option maxHeartbeats 1600000 in
theorem s_l_commands (g : ch_G) (q : Int32 → ch_M → Prop)  (m : ch_M) (h : ((x_F m).1 = -1 → x_ok 60 (x_p0 (x_b m)) ∧ (¬ (x_cc m).1 = 0 → vp_in (x_c3 m (2, 0, 0) 1) 8)) ∧ (((x_F m).1 = -1 ∧ ¬ (x_cc m).1 = 0) → q ((x_cc m).1) (p_kM (x_c3 m) 1)) ∧ ((¬ (x_F m).1 = -1) → q (-1001) (x_cl (x_f1 m))) ∧ (((x_F m).1 = -1 ∧ (x_cc m).1 = 0) → q (-1002) (ch_os (x_c3 m) 1 0 (y_cp (ch_ob (x_c3 m) 1 1) (ch_ob (x_c3 m) 1 0))))) : ch_C g m_l_commands [.inr (0, 0, 0)] m (ch_oi q) := by
  refine e_l_commands g _  m ?_
  refine g_l_commands_0 g _ _ ?_
  simp only [forall_eq, ch_oi_iff]
  exact h
set_option maxHeartbeats 1600000 in
theorem s_l_reason (g : ch_G) (q : Int32 → ch_M → Prop) (p1 : Int32) (m : ch_M) (h : (((0 ≤ p1 ∧ p1 ≤ 2) ∧ ¬ m (3, 0, 0) 0 = 0) → q (if p1 = 0 then m (3, 0, 0) 0 else if p1 = 1 then m (3, 0, 0) 1 else m (3, 0, 0) 2) m) ∧ ((¬ (0 ≤ p1 ∧ p1 ≤ 2)) → q (-1001) m) ∧ (((0 ≤ p1 ∧ p1 ≤ 2) ∧ m (3, 0, 0) 0 = 0) → q (-1002) m)) : ch_C g m_l_reason [.inr (0, 0, 0), .inl (.int p1)] m (ch_oi q) := by
  refine e_l_reason g _ p1 m ?_
  refine g_l_reason_0 g _ _ _ ?_
  simp only [forall_eq, ch_oi_iff]
  exact h
set_option maxHeartbeats 1600000 in
theorem s_l_character (g : ch_G) (q : Int32 → ch_M → Prop) (p1 : Int32) (m : ch_M) (h : (vp_in (m (6, 1, 0) 1) 61) ∧ (∀ i_, i_ < 60 → narrow .char (.int (m (6, 1, 1) i_)) = .int (m (6, 1, 1) i_)) ∧ ((0 ≤ p1 ∧ p1 < m (6, 1, 0) 1) → q (m (6, 1, 1) (Int32.toNatClampNeg p1)) m) ∧ ((¬ (0 ≤ p1 ∧ p1 < m (6, 1, 0) 1)) → q (-1001) m)) : ch_C g m_l_character [.inr (0, 0, 0), .inl (.int p1)] m (ch_oi q) := by
  refine e_l_character g _ p1 m ?_
  refine g_l_character_0 g _ _ _ ?_
  simp only [forall_eq, ch_oi_iff]
  exact h
set_option maxHeartbeats 1600000 in
theorem s_l_meanChalk (g : ch_G) (q : UInt64 → ch_M → Prop)  (m : ch_M) (h : (y_fls (ch_ob m 1 0)) ∧ ((¬ 12 - ch_cnO (ch_ob m 1 0 1) (-1) 12 = 0) → q (FP.ddiv (FP.i2d (y_sum (ch_ob m 1 0 2) 12)) (FP.i2d (12 - ch_cnO (ch_ob m 1 0 1) (-1) 12))) m) ∧ ((12 - ch_cnO (ch_ob m 1 0 1) (-1) 12 = 0) → q 13875388141788987392 m)) : ch_C g m_l_meanChalk [.inr (0, 0, 0)] m (ch_od q) := by
  refine e_l_meanChalk g _  m ?_
  refine g_l_meanChalk_0 g _ _ ?_
  simp only [forall_eq, ch_od_iff]
  exact h
set_option maxHeartbeats 1600000 in
theorem s_l_account (g : ch_G) (q : Int32 → ch_M → Prop) (p1 : Int32) (m : ch_M) (h : (vp_in (m (1, 0, 0) 8) 6) ∧ ((0 ≤ p1 ∧ p1 ≤ 11) → q (x_acR (ch_ob m 1 0) (m (2, 0, 0) 2) (m (6, 0, 0) 1) p1) m) ∧ ((¬ (0 ≤ p1 ∧ p1 ≤ 11)) → q (-1001) m)) : ch_C g m_l_account [.inr (0, 0, 0), .inl (.int p1)] m (ch_oi q) := by
  refine e_l_account g _ p1 m ?_
  refine g_l_account_0 g _ _ _ ?_
  simp only [forall_eq, ch_oi_iff]
  exact h
set_option maxHeartbeats 1600000 in
theorem s_l_undo (g : ch_G) (q : Int32 → ch_M → Prop)  (m : ch_M) (h : (vp_in (m (2, 0, 0) 1) 8) ∧ ((¬ m (2, 0, 0) 2 = 0) → q (m (2, 0, 0) 2 - 1) (ch_os (ch_os m 1 0 (y_cp (ch_ob m 1 (4 + Int32.toNatClampNeg (m (2, 0, 0) 1))) (ch_ob m 1 0))) 2 0 (p_gB (ch_ob m 2 0)))) ∧ ((m (2, 0, 0) 2 = 0) → q (-1001) m)) : ch_C g m_l_undo [.inr (0, 0, 0)] m (ch_oi q) := by
  refine e_l_undo g _  m ?_
  refine g_l_undo_0 g _ _ ?_
  simp only [forall_eq, ch_oi_iff]
  exact h
set_option maxHeartbeats 1600000 in
theorem s_l_restore (g : ch_G) (q : Int32 → ch_M → Prop)  (m : ch_M) (h : ((¬ m (0, 0, 0) 12 = 0) → q (m (1, 3, 0) 8) (ch_wr (ch_os m 1 0 (y_cp (ch_ob m 1 3) (ch_ob m 1 0))) (2, 0, 0) 2 0)) ∧ ((m (0, 0, 0) 12 = 0) → q (-1001) m)) : ch_C g m_l_restore [.inr (0, 0, 0)] m (ch_oi q) := by
  refine e_l_restore g _  m ?_
  refine g_l_restore_0 g _ _ ?_
  simp only [forall_eq, ch_oi_iff]
  exact h
