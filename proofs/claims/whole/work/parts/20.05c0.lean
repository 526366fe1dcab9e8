theorem e_c_set (g : ch_G) (Q : ch_O → ch_M → Prop) (p1 : Int32) (p2 : Int32) (p3 : Int32) (p4 : Int32) (m : ch_M) (h : ch_J g m_c_set (ch_rm m_c_set) (ch_E g m_c_set Q) 0 [some (.inr (4, 0, 0)), some (.inl (.int p1)), some (.inl (.int p2)), some (.inl (.int p3)), some (.inl (.int p4))] [] m 0) : ch_C g m_c_set [.inr (4, 0, 0), .inl (.int p1), .inl (.int p2), .inl (.int p3), .inl (.int p4)] m Q :=
  ch_enter mf_c_set (by intro v hv; simp only [List.mem_cons, List.not_mem_nil, or_false] at hv; rcases hv with rfl | rfl | rfl | rfl | rfl <;> rfl) (Nat.le_of_ble_eq_true rfl) h
set_option maxHeartbeats 1600000 in
theorem g_c_set_0 (g : ch_G) (Q : ch_O → ch_M → Prop) (p1 : Int32) (p2 : Int32) (p3 : Int32) (p4 : Int32) (m : ch_M) (h : (∀ m1 : ch_M, m1 = ch_wr m (4, 0, 0) 1 p1 → (∀ m2 : ch_M, m2 = ch_wr m1 (4, 0, 0) 2 p2 → (∀ m3 : ch_M, m3 = ch_wr m2 (4, 0, 0) 3 p3 → (∀ m4 : ch_M, m4 = ch_wr m3 (4, 0, 0) 4 p4 → Q (.inl none) m4))))) : ch_J g m_c_set (ch_rm m_c_set) (ch_E g m_c_set Q) 0 [some (.inr (4, 0, 0)), some (.inl (.int p1)), some (.inl (.int p2)), some (.inl (.int p3)), some (.inl (.int p4))] [] m 0 := by
  refine ch_aload_n (i := 0) d_c_set_0 rfl rfl ?_
  refine ch_iload_n (i := 1) d_c_set_1 rfl rfl ?_
  refine ch_put d_c_set_2 fp_c_16 rfl rfl rfl ?_
  generalize hmm1 : ch_wr m (4, 0, 0) 1 p1 = m1
  replace h := h m1 hmm1.symm
  refine ch_aload_n (i := 0) d_c_set_5 rfl rfl ?_
  refine ch_iload_n (i := 2) d_c_set_6 rfl rfl ?_
  refine ch_put d_c_set_7 fp_c_20 rfl rfl rfl ?_
  generalize hmm2 : ch_wr m1 (4, 0, 0) 2 p2 = m2
  replace h := h m2 hmm2.symm
  refine ch_aload_n (i := 0) d_c_set_10 rfl rfl ?_
  refine ch_iload_n (i := 3) d_c_set_11 rfl rfl ?_
  refine ch_put d_c_set_12 fp_c_23 rfl rfl rfl ?_
  generalize hmm3 : ch_wr m2 (4, 0, 0) 3 p3 = m3
  replace h := h m3 hmm3.symm
  refine ch_aload_n (i := 0) d_c_set_15 rfl rfl ?_
  refine ch_iload d_c_set_16 rfl ?_
  refine ch_put d_c_set_18 fp_c_26 rfl rfl rfl ?_
  generalize hmm4 : ch_wr m3 (4, 0, 0) 4 p4 = m4
  replace h := h m4 hmm4.symm
  exact ch_vret d_c_set_21 rfl (Nat.le_of_ble_eq_true rfl) h
