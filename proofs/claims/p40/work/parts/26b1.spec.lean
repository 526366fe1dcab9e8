def d_dg (T : ch_B) (p : Int32) : Int32 := if 48 ≤ d_sg T p ∧ d_sg T p ≤ 57 then d_sg T p - 48 else -1
set_option maxHeartbeats 1600000 in
theorem s_d_digitAt (g : ch_G) (q : Int32 → ch_M → Prop) (j1 : Nat) (m : ch_M) (h : q (d_dg (ch_ob m 6 j1) (m (7, 0, 0) 0)) m) : ch_C g m_d_digitAt [.inr (7, 0, 0), .inr (6, j1, 0)] m (ch_oi q) := by
  refine e_d_digitAt g _ j1 m ?_
  simp only [d_dg] at h
  refine g_d_digitAt_0 g _ _ _ ?_
  simp only [ch_oi_iff]
  grind
def d_nx (m : ch_M) : ch_M := ch_os m 7 0 (ch_bw (ch_ob m 7 0) 0 0 (m (7, 0, 0) 0 + 1))
def d_ts (m : ch_M) (j : Nat) (c : Int32) : Bool × ch_M := if d_sg (ch_ob m 6 j) (m (7, 0, 0) 0) = c then (true, d_nx m) else (false, m)
set_option maxHeartbeats 1600000 in
theorem s_d_takeSign (g : ch_G) (q : Int32 → ch_M → Prop) (j1 : Nat) (p2 : Int32) (m : ch_M) (h : (((d_ts m j1 p2).1 = true) → q 1 (((d_ts m j1 p2).2))) ∧ ((¬ (d_ts m j1 p2).1 = true) → q 0 (((d_ts m j1 p2).2)))) : ch_C g m_d_takeSign [.inr (7, 0, 0), .inr (6, j1, 0), .inl (.int p2)] m (ch_oi q) := by
  refine e_d_takeSign g _ j1 p2 m ?_
  obtain ⟨ha, hb⟩ := h
  unfold d_ts at ha hb
  refine g_d_takeSign_0 g _ _ _ _ ?_
  simp only [ch_oi_iff, ch_wr_os]
  refine ⟨fun c m4 e4 => ?_, fun c => ?_⟩
  · rw [if_pos c] at ha
    subst e4
    exact ha rfl
  · rw [if_neg c] at hb
    exact hb Bool.false_ne_true
