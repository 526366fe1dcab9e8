def d_pd (m : ch_M) (j : Nat) : Bool × ch_M := if 0 ≤ d_dg (ch_ob m 6 j) (m (7, 0, 0) 0) then (true, d_nx m) else (false, m)
set_option maxHeartbeats 1600000 in
theorem s_d_passDigit (g : ch_G) (q : Int32 → ch_M → Prop) (j1 : Nat) (m : ch_M) (h : (((d_pd m j1).1 = true) → q 1 (((d_pd m j1).2))) ∧ ((¬ (d_pd m j1).1 = true) → q 0 (((d_pd m j1).2)))) : ch_C g m_d_passDigit [.inr (7, 0, 0), .inr (6, j1, 0)] m (ch_oi q) := by
  refine e_d_passDigit g _ j1 m ?_
  obtain ⟨ha, hb⟩ := h
  unfold d_pd at ha hb
  refine g_d_passDigit_0 g _ _ _ ?_
  simp only [ch_oi_iff, ch_wr_os]
  refine ⟨fun c m4 e4 => ?_, fun c => ?_⟩
  · rw [if_pos c] at ha
    subst e4
    exact ha rfl
  · rw [if_neg c] at hb
    exact hb Bool.false_ne_true
