set_option maxHeartbeats 1600000 in
theorem s_q_coder (g : ch_G) (q : Int32 → ch_M → Prop) (j : Nat) (m : ch_M) (h : q 0 m) : ch_C g m_q_coder [.inr (12, j, 0)] m (ch_oi q) := by
  refine e_q_coder g _ j m ?_
  refine g_q_coder_0 g _ _ _ ?_
  exact ch_oi_iff.mpr h
set_option maxHeartbeats 1600000 in
theorem s_q_isLatin1 (g : ch_G) (q : Int32 → ch_M → Prop) (j : Nat) (m : ch_M) (h : q 1 m) : ch_C g m_q_isLatin1 [.inr (12, j, 0)] m (ch_oi q) := by
  refine e_q_isLatin1 g _ j m ?_
  refine g_q_isLatin1_0 g _ _ _ ?_
  exact ch_oi_iff.mpr h
set_option maxHeartbeats 1600000 in
theorem s_o_checkIndex (g : ch_G) (q : Int32 → ch_M → Prop) (p0 : Int32) (p1 : Int32) (m : ch_M) (h : (¬ p0 < 0) ∧ (p0 < p1) ∧ q p0 m) : ch_C g m_o_checkIndex [.inl (.int p0), .inl (.int p1), .inl (ch_sv g)] m (ch_oi q) := by
  refine ch_enterF mf_o_checkIndex (fun hc => by intro v hv; simp only [List.mem_cons, List.not_mem_nil, or_false] at hv; rcases hv with rfl | rfl | rfl; rfl; rfl; exact hc) (Nat.le_of_ble_eq_true rfl) ?_
  exact g_o_checkIndex_0 g _ _ _ _ ⟨fun c => h.1 c, fun _ => ⟨fun _ => ch_oi_iff.mpr h.2.2, fun c => c h.2.1⟩⟩
