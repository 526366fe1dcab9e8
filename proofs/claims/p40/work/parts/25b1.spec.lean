set_option maxHeartbeats 1600000 in
theorem s_r_lacksRange (g : ch_G) (q : Int32 → ch_M → Prop) (p1 : Int32) (p2 : Int32) (p3 : Int32) (m : ch_M) (h : ((p2 ≤ p1 ∧ p1 ≤ p3) → q 0 m) ∧ ((¬ (p2 ≤ p1 ∧ p1 ≤ p3)) → q 1 (r_kp m 1 0))) : ch_C g m_r_lacksRange [.inr (3, 0, 0), .inl (.int p1), .inl (.int p2), .inl (.int p3)] m (ch_oi q) := by
  refine e_r_lacksRange g _ p1 p2 p3 m ?_
  refine g_r_lacksRange_0 g _ _ _ _ _ ?_
  simp only [ch_oi_iff]
  grind
set_option maxHeartbeats 1600000 in
theorem s_r_lacksChild (g : ch_G) (q : Int32 → ch_M → Prop) (j1 : Nat) (p2 : Int32) (m : ch_M) (h : ((0 ≤ p2 ∧ p2 < m (1, j1, 0) 8) → q 0 m) ∧ ((¬ (0 ≤ p2 ∧ p2 < m (1, j1, 0) 8)) → q 1 (r_kp m 3 (m (1, j1, 0) 8)))) : ch_C g m_r_lacksChild [.inr (3, 0, 0), .inr (1, j1, 0), .inl (.int p2)] m (ch_oi q) := by
  refine e_r_lacksChild g _ j1 p2 m ?_
  refine g_r_lacksChild_0 g _ _ _ _ ?_
  simp only [ch_oi_iff]
  grind
set_option maxHeartbeats 1600000 in
theorem s_r_isWanted (g : ch_G) (q : Int32 → ch_M → Prop) (j1 : Nat) (p2 : Int32) (m : ch_M) (h : (vp_in p2 5) ∧ ((m (1, j1, 5) (Int32.toNatClampNeg p2) ≤ 0) → q 0 m) ∧ ((¬ m (1, j1, 5) (Int32.toNatClampNeg p2) ≤ 0) → q 1 (r_kp m 7 (m (1, j1, 5) (Int32.toNatClampNeg p2))))) : ch_C g m_r_isWanted [.inr (3, 0, 0), .inr (1, j1, 0), .inl (.int p2)] m (ch_oi q) := by
  refine e_r_isWanted g _ j1 p2 m ?_
  refine g_r_isWanted_0 g _ _ _ _ ?_
  simp only [ch_oi_iff]
  grind
set_option maxHeartbeats 1600000 in
theorem s_r_lacksPebbles (g : ch_G) (q : Int32 → ch_M → Prop) (j1 : Nat) (p2 : Int32) (p3 : Int32) (m : ch_M) (h : (vp_in p2 5) ∧ ((p3 ≤ m (1, j1, 3) (Int32.toNatClampNeg p2)) → q 0 m) ∧ ((¬ p3 ≤ m (1, j1, 3) (Int32.toNatClampNeg p2)) → q 1 (r_kp m 5 (p3 - m (1, j1, 3) (Int32.toNatClampNeg p2))))) : ch_C g m_r_lacksPebbles [.inr (3, 0, 0), .inr (1, j1, 0), .inl (.int p2), .inl (.int p3)] m (ch_oi q) := by
  refine e_r_lacksPebbles g _ j1 p2 p3 m ?_
  refine g_r_lacksPebbles_0 g _ _ _ _ _ ?_
  simp only [ch_oi_iff]
  grind
