theorem ch_chd {n c : Int32} (h : vp_in n 6) (h0 : 0 ≤ c) (h1 : c < n) : vp_in c 5 := by
  obtain ⟨k, hk, rfl⟩ := vp_in_of h (by decide)
  refine ch_vp (n := 5) (by decide) (by grind) ?_
  intro h5
  have h6 : nI k ≤ nI 5 := nI_le (by omega) (by decide)
  grind
def r_wn (Y : ch_B) (p : Int32) : Int32 × Int32 := if 0 ≤ p ∧ p ≤ 99 then (if Y 0 8 < 5 then (0, 0) else (2, Y 0 8)) else (1, 0)
set_option maxHeartbeats 1600000 in
theorem s_r_refuseChild (g : ch_G) (q : Int32 → ch_M → Prop) (j1 : Nat) (p2 : Int32) (m : ch_M) (h : (((r_wn (ch_ob m 1 j1) p2).1 = 0) → q 0 m) ∧ ((¬ (r_wn (ch_ob m 1 j1) p2).1 = 0) → q 1 (r_kp m (r_wn (ch_ob m 1 j1) p2).1 (r_wn (ch_ob m 1 j1) p2).2))) : ch_C g m_r_refuseChild [.inr (3, 0, 0), .inr (1, j1, 0), .inl (.int p2)] m (ch_oi q) := by
  refine e_r_refuseChild g _ j1 p2 m ?_
  obtain ⟨ha, hb⟩ := h
  simp only [r_wn, ch_ob] at ha hb
  refine g_r_refuseChild_0 g _ _ _ _ ?_
  simp only [ch_oi_iff]
  grind
def r_wc (Y : ch_B) (c p : Int32) : Int32 × Int32 := if 0 ≤ c ∧ c < Y 0 8 then (if 0 ≤ p ∧ p ≤ 11 then (if Y 1 p.toNatClampNeg = -1 ∨ Y 1 p.toNatClampNeg = c then (if Y 2 p.toNatClampNeg < 9 then (if 1 ≤ Y 3 c.toNatClampNeg then (0, 0) else (5, 1 - Y 3 c.toNatClampNeg)) else (6, p)) else (4, Y 1 p.toNatClampNeg)) else (1, 0)) else (3, Y 0 8)
set_option maxHeartbeats 1600000 in
theorem s_r_refuseChalk (g : ch_G) (q : Int32 → ch_M → Prop) (j1 : Nat) (p2 : Int32) (p3 : Int32) (m : ch_M) (h : (vp_in (m (1, j1, 0) 8) 6) ∧ (((r_wc (ch_ob m 1 j1) p2 p3).1 = 0) → q 0 m) ∧ ((¬ (r_wc (ch_ob m 1 j1) p2 p3).1 = 0) → q 1 (r_kp m (r_wc (ch_ob m 1 j1) p2 p3).1 (r_wc (ch_ob m 1 j1) p2 p3).2))) : ch_C g m_r_refuseChalk [.inr (3, 0, 0), .inr (1, j1, 0), .inl (.int p2), .inl (.int p3)] m (ch_oi q) := by
  refine e_r_refuseChalk g _ j1 p2 p3 m ?_
  obtain ⟨h0, ha, hb⟩ := h
  have hv := fun c => ch_chd (c := c) h0
  simp only [r_wc, ch_ob] at ha hb
  have hp : ∀ p : Int32, 0 ≤ p → p ≤ 11 → vp_in p 12 := fun p a b => ch_vp (n := 12) (by decide) (by grind) (by show ¬ (12 : Int32) ≤ p; grind)
  refine g_r_refuseChalk_0 g _ _ _ _ _ ?_
  simp only [ch_oi_iff]
  grind
def r_wh (Y : ch_B) (c : Int32) (f : Nat → Int32) (n : Int32) : Int32 × Int32 := if 0 ≤ c ∧ c < Y 0 8 then (if Y 5 c.toNatClampNeg ≤ 0 then (if n = 0 then (1, 0) else if y_mf f n.toNatClampNeg = -1 then (0, 0) else (8, y_mf f n.toNatClampNeg)) else (7, Y 5 c.toNatClampNeg)) else (3, Y 0 8)
set_option maxHeartbeats 1600000 in
theorem s_r_refuseHop (g : ch_G) (q : Int32 → ch_M → Prop) (j1 : Nat) (p2 : Int32) (j3 : Nat) (m : ch_M) (h : (vp_in (m (1, j1, 0) 8) 6) ∧ (vp_in (m (5, j3, 0) 1) 13) ∧ (((r_wh (ch_ob m 1 j1) p2 (m (5, j3, 1)) (m (5, j3, 0) 1)).1 = 0) → q 0 m) ∧ ((¬ (r_wh (ch_ob m 1 j1) p2 (m (5, j3, 1)) (m (5, j3, 0) 1)).1 = 0) → q 1 (r_kp m (r_wh (ch_ob m 1 j1) p2 (m (5, j3, 1)) (m (5, j3, 0) 1)).1 (r_wh (ch_ob m 1 j1) p2 (m (5, j3, 1)) (m (5, j3, 0) 1)).2))) : ch_C g m_r_refuseHop [.inr (3, 0, 0), .inr (1, j1, 0), .inl (.int p2), .inr (5, j3, 0)] m (ch_oi q) := by
  refine e_r_refuseHop g _ j1 p2 j3 m ?_
  obtain ⟨h0, h1, ha, hb⟩ := h
  have hv := fun c => ch_chd (c := c) h0
  simp only [r_wh, ch_ob] at ha hb
  refine g_r_refuseHop_0 g _ _ _ _ _ ?_
  simp only [ch_oi_iff]
  grind
def r_ww (Y : ch_B) (c : Int32) : Int32 × Int32 := if 0 ≤ c ∧ c < Y 0 8 then (if Y 5 c.toNatClampNeg ≤ 0 then (if 3 ≤ Y 4 c.toNatClampNeg then (0, 0) else (9, Y 4 c.toNatClampNeg)) else (7, Y 5 c.toNatClampNeg)) else (3, Y 0 8)
set_option maxHeartbeats 1600000 in
theorem s_r_refuseWarrant (g : ch_G) (q : Int32 → ch_M → Prop) (j1 : Nat) (p2 : Int32) (m : ch_M) (h : (vp_in (m (1, j1, 0) 8) 6) ∧ (((r_ww (ch_ob m 1 j1) p2).1 = 0) → q 0 m) ∧ ((¬ (r_ww (ch_ob m 1 j1) p2).1 = 0) → q 1 (r_kp m (r_ww (ch_ob m 1 j1) p2).1 (r_ww (ch_ob m 1 j1) p2).2))) : ch_C g m_r_refuseWarrant [.inr (3, 0, 0), .inr (1, j1, 0), .inl (.int p2)] m (ch_oi q) := by
  refine e_r_refuseWarrant g _ j1 p2 m ?_
  obtain ⟨h0, ha, hb⟩ := h
  have hv := fun c => ch_chd (c := c) h0
  simp only [r_ww, ch_ob] at ha hb
  refine g_r_refuseWarrant_0 g _ _ _ _ ?_
  simp only [ch_oi_iff]
  grind
def r_ws (Y : ch_B) (c : Int32) : Int32 × Int32 := if 0 ≤ c ∧ c < Y 0 8 then (if Y 5 c.toNatClampNeg = 0 then (10, 0) else if Y 5 c.toNatClampNeg ≤ Y 3 c.toNatClampNeg then (0, 0) else (5, Y 5 c.toNatClampNeg - Y 3 c.toNatClampNeg)) else (3, Y 0 8)
set_option maxHeartbeats 1600000 in
theorem s_r_refuseStrike (g : ch_G) (q : Int32 → ch_M → Prop) (j1 : Nat) (p2 : Int32) (m : ch_M) (h : (vp_in (m (1, j1, 0) 8) 6) ∧ (((r_ws (ch_ob m 1 j1) p2).1 = 0) → q 0 m) ∧ ((¬ (r_ws (ch_ob m 1 j1) p2).1 = 0) → q 1 (r_kp m (r_ws (ch_ob m 1 j1) p2).1 (r_ws (ch_ob m 1 j1) p2).2))) : ch_C g m_r_refuseStrike [.inr (3, 0, 0), .inr (1, j1, 0), .inl (.int p2)] m (ch_oi q) := by
  refine e_r_refuseStrike g _ j1 p2 m ?_
  obtain ⟨h0, ha, hb⟩ := h
  have hv := fun c => ch_chd (c := c) h0
  simp only [r_ws, ch_ob] at ha hb
  refine g_r_refuseStrike_0 g _ _ _ _ ?_
  simp only [ch_oi_iff]
  grind
def r_wr (Y : ch_B) (p : Int32) : Int32 × Int32 := if 1 ≤ p ∧ p ≤ 9 then (if Y 0 9 = 0 ∧ ch_cnO (Y 1) (-1) 12 = 12 then (12, 0) else (0, 0)) else (1, 0)
set_option maxHeartbeats 1600000 in
theorem s_r_refuseRain (g : ch_G) (q : Int32 → ch_M → Prop) (j1 : Nat) (p2 : Int32) (m : ch_M) (h : (((r_wr (ch_ob m 1 j1) p2).1 = 0) → q 0 m) ∧ ((¬ (r_wr (ch_ob m 1 j1) p2).1 = 0) → q 1 (r_kp m (r_wr (ch_ob m 1 j1) p2).1 (r_wr (ch_ob m 1 j1) p2).2))) : ch_C g m_r_refuseRain [.inr (3, 0, 0), .inr (1, j1, 0), .inl (.int p2)] m (ch_oi q) := by
  refine e_r_refuseRain g _ j1 p2 m ?_
  obtain ⟨ha, hb⟩ := h
  simp only [r_wr, ch_ob, show ch_ob m 1 j1 1 = m (1, j1, 1) from rfl] at ha hb
  refine g_r_refuseRain_0 g _ _ _ _ ?_
  simp only [ch_oi_iff]
  grind
def r_wt (Y : ch_B) : Int32 × Int32 := if Y 0 8 = 0 then (13, 0) else (0, 0)
set_option maxHeartbeats 1600000 in
theorem s_r_refuseTerm (g : ch_G) (q : Int32 → ch_M → Prop) (j1 : Nat) (m : ch_M) (h : (((r_wt (ch_ob m 1 j1)).1 = 0) → q 0 m) ∧ ((¬ (r_wt (ch_ob m 1 j1)).1 = 0) → q 1 (r_kp m (r_wt (ch_ob m 1 j1)).1 (r_wt (ch_ob m 1 j1)).2))) : ch_C g m_r_refuseTerm [.inr (3, 0, 0), .inr (1, j1, 0)] m (ch_oi q) := by
  refine e_r_refuseTerm g _ j1 m ?_
  obtain ⟨ha, hb⟩ := h
  simp only [r_wt, ch_ob] at ha hb
  refine g_r_refuseTerm_0 g _ _ _ ?_
  simp only [ch_oi_iff]
  grind
def r_wg (Y : ch_B) (c d p : Int32) : Int32 × Int32 := if 0 ≤ c ∧ c < Y 0 8 then (if 0 ≤ d ∧ d < Y 0 8 then (if c = d then (11, c) else if 1 ≤ p ∧ p ≤ 99 then (if p ≤ Y 3 c.toNatClampNeg then (0, 0) else (5, p - Y 3 c.toNatClampNeg)) else (1, 0)) else (3, Y 0 8)) else (3, Y 0 8)
set_option maxHeartbeats 1600000 in
theorem s_r_refuseGift (g : ch_G) (q : Int32 → ch_M → Prop) (j1 : Nat) (p2 : Int32) (p3 : Int32) (p4 : Int32) (m : ch_M) (h : (vp_in (m (1, j1, 0) 8) 6) ∧ (((r_wg (ch_ob m 1 j1) p2 p3 p4).1 = 0) → q 0 m) ∧ ((¬ (r_wg (ch_ob m 1 j1) p2 p3 p4).1 = 0) → q 1 (r_kp m (r_wg (ch_ob m 1 j1) p2 p3 p4).1 (r_wg (ch_ob m 1 j1) p2 p3 p4).2))) : ch_C g m_r_refuseGift [.inr (3, 0, 0), .inr (1, j1, 0), .inl (.int p2), .inl (.int p3), .inl (.int p4)] m (ch_oi q) := by
  refine e_r_refuseGift g _ j1 p2 p3 p4 m ?_
  obtain ⟨h0, ha, hb⟩ := h
  have hv := fun c => ch_chd (c := c) h0
  simp only [r_wg, ch_ob] at ha hb
  refine g_r_refuseGift_0 g _ _ _ _ _ _ ?_
  simp only [ch_oi_iff]
  grind
