/-- the reasons, as they are asked -/
def l_rs (m : ch_M) (p : Int32) : Int32 := if 0 ≤ p ∧ p ≤ 2 then (if p = 0 then m (3, 0, 0) 0 else if p = 1 then m (3, 0, 0) 1 else m (3, 0, 0) 2) else -1001
def l_is3 (m : ch_M) (n w e : Int32) : Int32 := if m (3, 0, 0) 0 = w ∧ m (3, 0, 0) 1 = e ∧ m (3, 0, 0) 2 = n then 1 else 0
theorem l_rs_0 (m : ch_M) : l_rs m 0 = m (3, 0, 0) 0 := rfl
theorem l_rs_1 (m : ch_M) : l_rs m 1 = m (3, 0, 0) 1 := rfl
theorem l_rs_2 (m : ch_M) : l_rs m 2 = m (3, 0, 0) 2 := rfl
theorem l_rs_3 (m : ch_M) : l_rs m 3 = -1001 := rfl
set_option maxHeartbeats 1600000 in
theorem t_l_reason (g : ch_G) (q : Int32 → ch_M → Prop) (p1 : Int32) (m : ch_M) (h : (¬ m (3, 0, 0) 0 = 0) ∧ q (l_rs m p1) m) : ch_C g m_l_reason [.inr (0, 0, 0), .inl (.int p1)] m (ch_oi q) := by
  obtain ⟨hw, hq⟩ := h
  refine s_l_reason g q p1 m ⟨fun z => ?_, fun z => ?_, fun z => absurd z.2 hw⟩
  · have e : l_rs m p1 = if p1 = 0 then m (3, 0, 0) 0 else if p1 = 1 then m (3, 0, 0) 1 else m (3, 0, 0) 2 := if_pos z.1
    rw [← e]
    exact hq
  · have e : l_rs m p1 = -1001 := if_neg z
    rw [← e]
    exact hq
