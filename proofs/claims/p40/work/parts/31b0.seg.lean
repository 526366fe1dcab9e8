theorem e_q_coder (g : ch_G) (Q : ch_O → ch_M → Prop) (j : Nat) (m : ch_M) (h : ch_J g m_q_coder (ch_rm m_q_coder) (ch_E g m_q_coder Q) 0 [some (.inr (12, j, 0))] [] m 0) : ch_C g m_q_coder [.inr (12, j, 0)] m Q :=
  ch_enter mf_q_coder (by intro v hv; simp only [List.mem_cons, List.not_mem_nil, or_false] at hv; rcases hv with rfl <;> rfl) (Nat.le_of_ble_eq_true rfl) h
set_option maxHeartbeats 1600000 in
theorem g_q_coder_0 (g : ch_G) (Q : ch_O → ch_M → Prop) (j : Nat) (m : ch_M) (h : Q (.inl (some (.inl (.int 0)))) m) : ch_J g m_q_coder (ch_rm m_q_coder) (ch_E g m_q_coder Q) 0 [some (.inr (12, j, 0))] [] m 0 := by
  refine ch_getsC d_q_coder_0 fl_q_38 ?_
  refine ch_if_eq (tgt := 13) d_q_coder_3 (by decide) (fun c => absurd c (by decide)) (fun _ => ?_)
  refine ch_aload_n (i := 0) d_q_coder_6 rfl rfl ?_
  refine ch_getCo d_q_coder_7 fl_q_15 ?_
  refine ch_goto (tgt := 14) d_q_coder_10 (by decide) ?_
  exact ch_iret (ty := .byte) d_q_coder_14 rfl rfl (Nat.le_of_ble_eq_true rfl) h
theorem e_q_isLatin1 (g : ch_G) (Q : ch_O → ch_M → Prop) (j : Nat) (m : ch_M) (h : ch_J g m_q_isLatin1 (ch_rm m_q_isLatin1) (ch_E g m_q_isLatin1 Q) 0 [some (.inr (12, j, 0))] [] m 0) : ch_C g m_q_isLatin1 [.inr (12, j, 0)] m Q :=
  ch_enter mf_q_isLatin1 (by intro v hv; simp only [List.mem_cons, List.not_mem_nil, or_false] at hv; rcases hv with rfl <;> rfl) (Nat.le_of_ble_eq_true rfl) h
set_option maxHeartbeats 1600000 in
theorem g_q_isLatin1_0 (g : ch_G) (Q : ch_O → ch_M → Prop) (j : Nat) (m : ch_M) (h : Q (.inl (some (.inl (.int 1)))) m) : ch_J g m_q_isLatin1 (ch_rm m_q_isLatin1) (ch_E g m_q_isLatin1 Q) 0 [some (.inr (12, j, 0))] [] m 0 := by
  refine ch_getsC d_q_isLatin1_0 fl_q_38 ?_
  refine ch_if_eq (tgt := 17) d_q_isLatin1_3 (by decide) (fun c => absurd c (by decide)) (fun _ => ?_)
  refine ch_aload_n (i := 0) d_q_isLatin1_6 rfl rfl ?_
  refine ch_getCo d_q_isLatin1_7 fl_q_15 ?_
  refine ch_if_ne (tgt := 17) d_q_isLatin1_10 (by decide) (fun c => absurd c (by decide)) (fun _ => ?_)
  refine ch_iconst (v := 1) d_q_isLatin1_13 (by decide) ?_
  refine ch_goto (tgt := 18) d_q_isLatin1_14 (by decide) ?_
  exact ch_iret (ty := .boolean) d_q_isLatin1_18 rfl rfl (Nat.le_of_ble_eq_true rfl) h
set_option maxHeartbeats 1600000 in
theorem g_o_checkIndex_0 (g : ch_G) (Q : ch_O → ch_M → Prop) (p0 : Int32) (p1 : Int32) (m : ch_M) (h : ((p0 < 0 → False) ∧ (¬ p0 < 0 → ((p0 < p1 → Q (.inl (some (.inl (.int p0)))) m) ∧ (¬ p0 < p1 → False))))) : ch_J g m_o_checkIndex (ch_rm m_o_checkIndex) (ch_E g m_o_checkIndex Q) 0 [some (.inl (.int p0)), some (.inl (.int p1)), some (.inl (ch_sv g))] [] m 0 := by
  refine ch_iload_n (i := 0) d_o_checkIndex_0 rfl rfl ?_
  refine ch_if_lt (tgt := 9) d_o_checkIndex_1 (by decide) (fun c => ?_) (fun c => ?_)
  · replace h := h.1 c
    exact h.elim
  · replace h := h.2 c
    refine ch_iload_n (i := 0) d_o_checkIndex_4 rfl rfl ?_
    refine ch_iload_n (i := 1) d_o_checkIndex_5 rfl rfl ?_
    refine ch_icmp_lt (tgt := 16) d_o_checkIndex_6 (by decide) (fun c => ?_) (fun c => ?_)
    · replace h := h.1 c
      refine ch_iload_n (i := 0) d_o_checkIndex_16 rfl rfl ?_
      exact ch_iret (ty := .int) d_o_checkIndex_17 rfl rfl (Nat.le_of_ble_eq_true rfl) h
    · replace h := h.2 c
      exact h.elim
