def d_tk (f : Nat) (m : ch_M) (j : Nat) : Bool × ch_M := d_pd (ch_os m 4 0 (ch_bw (ch_ob m 4 0) 0 f (d_dg (ch_ob m 6 j) (m (7, 0, 0) 0)))) j
set_option maxHeartbeats 1600000 in
theorem s_d_takeChild (g : ch_G) (q : Int32 → ch_M → Prop) (j1 : Nat) (m : ch_M) (h : (((d_tk 2 m j1).1 = true) → q 1 (((d_tk 2 m j1).2))) ∧ ((¬ (d_tk 2 m j1).1 = true) → q 0 (((d_tk 2 m j1).2)))) : ch_C g m_d_takeChild [.inr (7, 0, 0), .inr (6, j1, 0), .inr (4, 0, 0)] m (ch_oi q) := by
  refine e_d_takeChild g _ j1 m ?_
  refine g_d_takeChild_0 g _ _ _ ?_
  simp only [ch_oi_iff, ch_wr_os, forall_eq]
  exact h
set_option maxHeartbeats 1600000 in
theorem s_d_takeOther (g : ch_G) (q : Int32 → ch_M → Prop) (j1 : Nat) (m : ch_M) (h : (((d_tk 3 m j1).1 = true) → q 1 (((d_tk 3 m j1).2))) ∧ ((¬ (d_tk 3 m j1).1 = true) → q 0 (((d_tk 3 m j1).2)))) : ch_C g m_d_takeOther [.inr (7, 0, 0), .inr (6, j1, 0), .inr (4, 0, 0)] m (ch_oi q) := by
  refine e_d_takeOther g _ j1 m ?_
  refine g_d_takeOther_0 g _ _ _ ?_
  simp only [ch_oi_iff, ch_wr_os, forall_eq]
  exact h
set_option maxHeartbeats 1600000 in
theorem s_d_takeDigit (g : ch_G) (q : Int32 → ch_M → Prop) (j1 : Nat) (m : ch_M) (h : (((d_tk 4 m j1).1 = true) → q 1 (((d_tk 4 m j1).2))) ∧ ((¬ (d_tk 4 m j1).1 = true) → q 0 (((d_tk 4 m j1).2)))) : ch_C g m_d_takeDigit [.inr (7, 0, 0), .inr (6, j1, 0), .inr (4, 0, 0)] m (ch_oi q) := by
  refine e_d_takeDigit g _ j1 m ?_
  refine g_d_takeDigit_0 g _ _ _ ?_
  simp only [ch_oi_iff, ch_wr_os, forall_eq]
  exact h
