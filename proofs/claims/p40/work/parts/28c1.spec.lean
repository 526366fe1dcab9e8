set_option maxHeartbeats 1600000 in
theorem s_x_squareOf (g : ch_G) (q : Int32 → ch_M → Prop) (x : Nat → ch_M → Prop) (p1 : Int32) (p2 : Int32) (m : ch_M) (h : ((0 ≤ p1 ∧ p1 < 12) → q (if p2 = 0 then m (1, 0, 1) (Int32.toNatClampNeg p1) else m (1, 0, 2) (Int32.toNatClampNeg p1)) m) ∧ ((¬ (0 ≤ p1 ∧ p1 < 12)) → x 1 m)) : ch_C g m_x_squareOf [.inr (0, 0, 0), .inl (.int p1), .inl (.int p2)] m (ch_ox (ch_oi q) x) := by
  refine e_x_squareOf g _ p1 p2 m ?_
  have hp : ∀ p : Int32, ¬ p < 0 → p < 12 → vp_in p 12 := fun p a b => ch_vp (n := 12) (by decide) a (by show ¬ (12 : Int32) ≤ p; grind)
  refine g_x_squareOf_0 g _ _ _ _ ?_
  simp only [ch_ox_l, ch_oi_iff, ch_ox_oi]
  grind
set_option maxHeartbeats 1600000 in
theorem s_x_squares (g : ch_G) (q : Int32 → ch_M → Prop) (x : Nat → ch_M → Prop) (p1 : Int32) (m : ch_M) (h : ((0 ≤ p1 ∧ p1 < m (1, 0, 0) 8) → q (y_ofS (m (1, 0, 1)) p1 0 12) m) ∧ ((¬ (0 ≤ p1 ∧ p1 < m (1, 0, 0) 8)) → x 1 m)) : ch_C g m_x_squares [.inr (0, 0, 0), .inl (.int p1)] m (ch_ox (ch_oi q) x) := by
  refine e_x_squares g _ p1 m ?_
  refine g_x_squares_0 g _ _ _ ?_
  simp only [ch_ox_l, ch_oi_iff, ch_ox_oi]
  grind
set_option maxHeartbeats 1600000 in
theorem s_x_warrantAt (g : ch_G) (q : Int32 → ch_M → Prop) (x : Nat → ch_M → Prop) (p1 : Int32) (m : ch_M) (h : (vp_in (m (1, 0, 0) 9) 6) ∧ ((0 ≤ p1 ∧ p1 < m (1, 0, 0) 9) → q (m (1, 0, 8) (Int32.toNatClampNeg p1)) m) ∧ ((¬ (0 ≤ p1 ∧ p1 < m (1, 0, 0) 9)) → x 3 m)) : ch_C g m_x_warrantAt [.inr (0, 0, 0), .inl (.int p1)] m (ch_ox (ch_oi q) x) := by
  refine e_x_warrantAt g _ p1 m ?_
  have hv := fun c => ch_chd (c := c) h.1
  refine g_x_warrantAt_0 g _ _ _ ?_
  simp only [ch_ox_l, ch_oi_iff, ch_ox_oi]
  grind
set_option maxHeartbeats 1600000 in
theorem s_x_longest (g : ch_G) (q : Int32 → ch_M → Prop) (x : Nat → ch_M → Prop) (p1 : Int32) (m : ch_M) (h : ((0 ≤ p1 ∧ p1 < m (1, 0, 0) 8) → q ((y_lr (m (1, 0, 1)) p1 12).1) m) ∧ ((¬ (0 ≤ p1 ∧ p1 < m (1, 0, 0) 8)) → x 1 m)) : ch_C g m_x_longest [.inr (0, 0, 0), .inl (.int p1)] m (ch_ox (ch_oi q) x) := by
  refine e_x_longest g _ p1 m ?_
  refine g_x_longest_0 g _ _ _ ?_
  simp only [ch_ox_l, ch_oi_iff, ch_ox_oi]
  grind
set_option maxHeartbeats 1600000 in
theorem s_x_gap (g : ch_G) (q : Int32 → ch_M → Prop)  (m : ch_M) (h : q ((y_lr (m (1, 0, 1)) (-1) 12).1) m) : ch_C g m_x_gap [.inr (0, 0, 0)] m (ch_oi q) := by
  refine e_x_gap g _  m ?_
  refine g_x_gap_0 g _ _ ?_
  simp only [ch_oi_iff]
  exact h
set_option maxHeartbeats 1600000 in
theorem s_x_rainFor (g : ch_G) (q : Int32 → ch_M → Prop) (x : Nat → ch_M → Prop) (p1 : Int32) (m : ch_M) (h : (vp_in (m (1, 0, 0) 8) 6) ∧ (((0 ≤ p1 ∧ p1 < m (1, 0, 0) 8) ∧ ¬ m (1, 0, 5) (Int32.toNatClampNeg p1) = 0) → q (m (1, 0, 5) (Int32.toNatClampNeg p1)) m) ∧ ((¬ (0 ≤ p1 ∧ p1 < m (1, 0, 0) 8)) → x 1 m) ∧ (((0 ≤ p1 ∧ p1 < m (1, 0, 0) 8) ∧ m (1, 0, 5) (Int32.toNatClampNeg p1) = 0) → x 3 m)) : ch_C g m_x_rainFor [.inr (0, 0, 0), .inl (.int p1)] m (ch_ox (ch_oi q) x) := by
  refine e_x_rainFor g _ p1 m ?_
  have hv := fun c => ch_chd (c := c) h.1
  refine g_x_rainFor_0 g _ _ _ ?_
  simp only [ch_ox_l, ch_oi_iff, ch_ox_oi]
  grind
set_option maxHeartbeats 1600000 in
theorem s_x_wouldLose (g : ch_G) (q : Int32 → ch_M → Prop) (x : Nat → ch_M → Prop) (p1 : Int32) (m : ch_M) (h : (vp_in (m (1, 0, 0) 8) 6) ∧ ((0 ≤ p1 ∧ p1 < m (1, 0, 0) 8) → q (y_ofS (m (1, 0, 1)) p1 (m (1, 0, 3) (Int32.toNatClampNeg p1)) 12) m) ∧ ((¬ (0 ≤ p1 ∧ p1 < m (1, 0, 0) 8)) → x 1 m)) : ch_C g m_x_wouldLose [.inr (0, 0, 0), .inl (.int p1)] m (ch_ox (ch_oi q) x) := by
  refine e_x_wouldLose g _ p1 m ?_
  have hv := fun c => ch_chd (c := c) h.1
  refine g_x_wouldLose_0 g _ _ _ ?_
  simp only [ch_ox_l, ch_oi_iff, ch_ox_oi]
  grind
set_option maxHeartbeats 1600000 in
theorem s_x_fewest (g : ch_G) (q : Int32 → ch_M → Prop) (x : Nat → ch_M → Prop) (p1 : Int32) (m : ch_M) (h : ((0 ≤ p1 ∧ p1 < m (1, 0, 0) 8) → q (w_fl (ch_ob m 8 0) (w_l (ch_ob m 1 0) p1) 12 1 0) (ch_os m 8 0 (w_fl (ch_ob m 8 0) (w_l (ch_ob m 1 0) p1) 12))) ∧ ((¬ (0 ≤ p1 ∧ p1 < m (1, 0, 0) 8)) → x 1 m)) : ch_C g m_x_fewest [.inr (0, 0, 0), .inl (.int p1)] m (ch_ox (ch_oi q) x) := by
  refine e_x_fewest g _ p1 m ?_
  refine g_x_fewest_0 g _ _ _ ?_
  simp only [ch_ox_l, ch_oi_iff, ch_ox_oi, forall_eq]
  exact ⟨h.1, fun c => ⟨by decide, h.2 c⟩⟩
set_option maxHeartbeats 1600000 in
theorem s_x_fewestAgain (g : ch_G) (q : Int32 → ch_M → Prop) (x : Nat → ch_M → Prop) (p1 : Int32) (m : ch_M) (h : ((0 ≤ p1 ∧ p1 < m (1, 0, 0) 8) → q ((w_fo (ch_ob m 8 0) (w_l (ch_ob m 1 0) p1) 14).2) (ch_os m 8 0 ((w_fo (ch_ob m 8 0) (w_l (ch_ob m 1 0) p1) 14).1))) ∧ ((¬ (0 ≤ p1 ∧ p1 < m (1, 0, 0) 8)) → x 1 m)) : ch_C g m_x_fewestAgain [.inr (0, 0, 0), .inl (.int p1)] m (ch_ox (ch_oi q) x) := by
  refine e_x_fewestAgain g _ p1 m ?_
  refine g_x_fewestAgain_0 g _ _ _ ?_
  simp only [ch_ox_l, ch_oi_iff, ch_ox_oi, forall_eq]
  exact ⟨h.1, fun c => ⟨by decide, h.2 c⟩⟩
