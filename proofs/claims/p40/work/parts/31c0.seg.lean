theorem e_q_length (g : ch_G) (Q : ch_O → ch_M → Prop) (j : Nat) (m : ch_M) (h : ch_J g m_q_length (ch_rm m_q_length) (ch_E g m_q_length Q) 0 [some (.inr (12, j, 0))] [] m 0) : ch_C g m_q_length [.inr (12, j, 0)] m Q :=
  ch_enter mf_q_length (by intro v hv; simp only [List.mem_cons, List.not_mem_nil, or_false] at hv; rcases hv with rfl <;> rfl) (Nat.le_of_ble_eq_true rfl) h
set_option maxHeartbeats 1600000 in
theorem g_q_length_0 (g : ch_G) (Q : ch_O → ch_M → Prop) (j : Nat) (m : ch_M) (h : (Q (.inl (some (.inl (.int ((nI (ch_tn g j)) >>> (0 &&& (31 : Int32))))))) m)) : ch_J g m_q_length (ch_rm m_q_length) (ch_E g m_q_length Q) 0 [some (.inr (12, j, 0))] [] m 0 := by
  refine ch_aload_n (i := 0) d_q_length_0 rfl rfl ?_
  refine ch_getVa d_q_length_1 fl_q_9 ?_
  refine ch_blen d_q_length_4 ?_
  refine ch_aload_n (i := 0) d_q_length_5 rfl rfl ?_
  refine ch_callT (as := []) d_q_length_6 lk_q_335 mi_q_coder me_q_coder rfl rfl rfl ⟨Nat.le_of_ble_eq_true rfl, Nat.le_of_ble_eq_true rfl⟩ (Nat.le_of_ble_eq_true rfl) ⟨Nat.le_of_ble_eq_true rfl, Nat.le_of_ble_eq_true rfl⟩ (ch_mono (ch_Ki (fun r1 m2 q3 => ?_)) (s_q_coder g (fun (r_ : Int32) (m_ : ch_M) => (0 = r_ ∧ m = m_)) (j) m ⟨rfl, rfl⟩))
  obtain ⟨rfl, rfl⟩ := q3
  replace h := h
  refine ch_ishr d_q_length_9 ?_
  exact ch_iret (ty := .int) d_q_length_10 rfl rfl (Nat.le_of_ble_eq_true rfl) h
theorem e_q_checkIndex (g : ch_G) (Q : ch_O → ch_M → Prop) (p0 : Int32) (p1 : Int32) (m : ch_M) (h : ch_J g m_q_checkIndex (ch_rm m_q_checkIndex) (ch_E g m_q_checkIndex Q) 0 [some (.inl (.int p0)), some (.inl (.int p1))] [] m 0) : ch_C g m_q_checkIndex [.inl (.int p0), .inl (.int p1)] m Q :=
  ch_enter mf_q_checkIndex (by intro v hv; simp only [List.mem_cons, List.not_mem_nil, or_false] at hv; rcases hv with rfl | rfl <;> rfl) (Nat.le_of_ble_eq_true rfl) h
set_option maxHeartbeats 1600000 in
theorem g_q_checkIndex_0 (g : ch_G) (Q : ch_O → ch_M → Prop) (p0 : Int32) (p1 : Int32) (m : ch_M) (h : (¬ p0 < 0) ∧ (p0 < p1) ∧ (Q (.inl none) m)) : ch_J g m_q_checkIndex (ch_rm m_q_checkIndex) (ch_E g m_q_checkIndex Q) 0 [some (.inl (.int p0)), some (.inl (.int p1))] [] m 0 := by
  refine ch_iload_n (i := 0) d_q_checkIndex_0 rfl rfl ?_
  refine ch_iload_n (i := 1) d_q_checkIndex_1 rfl rfl ?_
  refine ch_getsF d_q_checkIndex_2 fl_q_1053 ?_
  have b4 := h.1
  replace h := h.2
  have b5 := h.1
  replace h := h.2
  refine ch_callS (as := [.inl (.int p0), .inl (.int p1), .inl (ch_sv g)]) d_q_checkIndex_5 lk_q_1059 ms_o_checkIndex rfl rfl ⟨Nat.le_of_ble_eq_true rfl, Nat.le_of_ble_eq_true rfl⟩ (Nat.le_of_ble_eq_true rfl) ⟨Nat.le_of_ble_eq_true rfl, Nat.le_of_ble_eq_true rfl⟩ (ch_mono (ch_Ki (fun r1 m2 q3 => ?_)) (s_o_checkIndex g (fun (r_ : Int32) (m_ : ch_M) => (p0 = r_ ∧ m = m_)) (p0) (p1) m ⟨b4, b5, ⟨rfl, rfl⟩⟩))
  obtain ⟨rfl, rfl⟩ := q3
  replace h := h
  refine ch_pop d_q_checkIndex_8 rfl ?_
  exact ch_vret d_q_checkIndex_9 rfl (Nat.le_of_ble_eq_true rfl) h
