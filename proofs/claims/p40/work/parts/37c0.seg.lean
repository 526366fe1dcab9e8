theorem e_l_is (g : ch_G) (Q : ch_O → ch_M → Prop) (p1 : Int32) (p2 : Int32) (m : ch_M) (h : ch_J g m_l_is (ch_rm m_l_is) (ch_E g m_l_is Q) 0 [some (.inr (0, 0, 0)), some (.inl (.int p1)), some (.inl (.int p2))] [] m 0) : ch_C g m_l_is [.inr (0, 0, 0), .inl (.int p1), .inl (.int p2)] m Q :=
  ch_enter mf_l_is (by intro v hv; simp only [List.mem_cons, List.not_mem_nil, or_false] at hv; rcases hv with rfl | rfl | rfl <;> rfl) (Nat.le_of_ble_eq_true rfl) h
set_option maxHeartbeats 1600000 in
theorem g_l_is_0 (g : ch_G) (Q : ch_O → ch_M → Prop) (p1 : Int32) (p2 : Int32) (m : ch_M) (h : (¬ m (3, 0, 0) 0 = 0) ∧ ((narrow .boolean (.int (l_is3 m 0 p1 p2)) = .int (l_is3 m 0 p1 p2)) ∧ Q (.inl (some (.inl (.int (l_is3 m 0 p1 p2))))) m)) : ch_J g m_l_is (ch_rm m_l_is) (ch_E g m_l_is Q) 0 [some (.inr (0, 0, 0)), some (.inl (.int p1)), some (.inl (.int p2))] [] m 0 := by
  refine ch_aload_n (i := 0) d_l_is_0 rfl rfl ?_
  refine ch_iconst (v := 0) d_l_is_1 (by decide) ?_
  refine ch_iload_n (i := 1) d_l_is_2 rfl rfl ?_
  refine ch_iload_n (i := 2) d_l_is_3 rfl rfl ?_
  have b4 := h.1
  replace h := h.2
  refine ch_callS (as := [.inr (0, 0, 0), .inl (.int 0), .inl (.int p1), .inl (.int p2)]) d_l_is_4 lk_l_137 ms_l_isAt rfl rfl ⟨Nat.le_of_ble_eq_true rfl, Nat.le_of_ble_eq_true rfl⟩ (Nat.le_of_ble_eq_true rfl) ⟨Nat.le_of_ble_eq_true rfl, Nat.le_of_ble_eq_true rfl⟩ (ch_mono (ch_Ki (fun r1 m2 q3 => ?_)) (s_l_isAt g (fun (r_ : Int32) (m_ : ch_M) => ((l_is3 m 0 p1 p2) = r_ ∧ m = m_)) (0) (p1) (p2) m ⟨b4, ⟨rfl, rfl⟩⟩))
  obtain ⟨rfl, rfl⟩ := q3
  replace h := h
  exact ch_iret (ty := .boolean) d_l_is_7 rfl h.1 (Nat.le_of_ble_eq_true rfl) h.2
