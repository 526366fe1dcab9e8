theorem e_q_coder (g : ch_G) (Q : ch_O → ch_M → Prop)  (m : ch_M) (h : ch_J g m_q_coder (ch_rm m_q_coder) (ch_E g m_q_coder Q) 0 [some (.inr (12, 0, 0))] [] m 0) : ch_C g m_q_coder [.inr (12, 0, 0)] m Q :=
  ch_enter mf_q_coder (by intro v hv; simp only [List.mem_cons, List.not_mem_nil, or_false] at hv; rcases hv with rfl <;> rfl) (Nat.le_of_ble_eq_true rfl) h
set_option maxHeartbeats 1600000 in
theorem g_q_coder_0 (g : ch_G) (Q : ch_O → ch_M → Prop)  (m : ch_M) (h : Q (.inl (some (.inl (.int 0)))) m) : ch_J g m_q_coder (ch_rm m_q_coder) (ch_E g m_q_coder Q) 0 [some (.inr (12, 0, 0))] [] m 0 := by
  refine ch_getsC d_q_coder_0 fl_q_38 ?_
  refine ch_if_eq (tgt := 13) d_q_coder_3 (by decide) (fun c => absurd c (by decide)) (fun _ => ?_)
  refine ch_aload_n (i := 0) d_q_coder_6 rfl rfl ?_
  refine ch_getCo d_q_coder_7 fl_q_15 ?_
  refine ch_goto (tgt := 14) d_q_coder_10 (by decide) ?_
  exact ch_iret (ty := .byte) d_q_coder_14 rfl rfl (Nat.le_of_ble_eq_true rfl) h
theorem e_q_indexOf (g : ch_G) (Q : ch_O → ch_M → Prop) (p1 : Int32) (m : ch_M) (h : ch_J g m_q_indexOf (ch_rm m_q_indexOf) (ch_E g m_q_indexOf Q) 0 [some (.inr (12, 0, 0)), some (.inl (.int p1))] [] m 0) : ch_C g m_q_indexOf [.inr (12, 0, 0), .inl (.int p1)] m Q :=
  ch_enter mf_q_indexOf (by intro v hv; simp only [List.mem_cons, List.not_mem_nil, or_false] at hv; rcases hv with rfl | rfl <;> rfl) (Nat.le_of_ble_eq_true rfl) h
set_option maxHeartbeats 1600000 in
theorem g_q_indexOf_0 (g : ch_G) (Q : ch_O → ch_M → Prop) (p1 : Int32) (m : ch_M) (h : (ch_C g m_q_indexOf2 [.inr (12, 0, 0), .inl (.int p1), .inl (.int 0)] m (ch_oi (fun (r1 : Int32) (m2 : ch_M) => Q (.inl (some (.inl (.int r1)))) m2)))) : ch_J g m_q_indexOf (ch_rm m_q_indexOf) (ch_E g m_q_indexOf Q) 0 [some (.inr (12, 0, 0)), some (.inl (.int p1))] [] m 0 := by
  refine ch_aload_n (i := 0) d_q_indexOf_0 rfl rfl ?_
  refine ch_iload_n (i := 1) d_q_indexOf_1 rfl rfl ?_
  refine ch_iconst (v := 0) d_q_indexOf_2 (by decide) ?_
  refine ch_callT (as := [.inl (.int p1), .inl (.int 0)]) d_q_indexOf_3 lk_q_633 mi_q_indexOf2 me_q_indexOf2 rfl rfl rfl ⟨Nat.le_of_ble_eq_true rfl, Nat.le_of_ble_eq_true rfl⟩ (Nat.le_of_ble_eq_true rfl) ⟨Nat.le_of_ble_eq_true rfl, Nat.le_of_ble_eq_true rfl⟩ (ch_mono (ch_Ki (fun r1 m2 h => ?_)) h)
  exact ch_iret (ty := .int) d_q_indexOf_6 rfl rfl (Nat.le_of_ble_eq_true rfl) h
theorem e_q_indexOf2 (g : ch_G) (Q : ch_O → ch_M → Prop) (p1 : Int32) (p2 : Int32) (m : ch_M) (h : ch_J g m_q_indexOf2 (ch_rm m_q_indexOf2) (ch_E g m_q_indexOf2 Q) 0 [some (.inr (12, 0, 0)), some (.inl (.int p1)), some (.inl (.int p2))] [] m 0) : ch_C g m_q_indexOf2 [.inr (12, 0, 0), .inl (.int p1), .inl (.int p2)] m Q :=
  ch_enter mf_q_indexOf2 (by intro v hv; simp only [List.mem_cons, List.not_mem_nil, or_false] at hv; rcases hv with rfl | rfl | rfl <;> rfl) (Nat.le_of_ble_eq_true rfl) h
set_option maxHeartbeats 1600000 in
theorem g_q_indexOf2_0 (g : ch_G) (Q : ch_O → ch_M → Prop) (p1 : Int32) (p2 : Int32) (m : ch_M) (h : (ch_C g m_q_isLatin1 [.inr (12, 0, 0)] m (ch_oi (fun (r1 : Int32) (m2 : ch_M) => ((r1 = 0 → (ch_C g m_q_length [.inr (12, 0, 0)] m2 (ch_oi (fun (r3 : Int32) (m4 : ch_M) => False)))) ∧ (¬ r1 = 0 → (ch_C g m_q_length [.inr (12, 0, 0)] m2 (ch_oi (fun (r5 : Int32) (m6 : ch_M) => (ch_C g m_k_indexOf [.inr (13, 0, 0), .inl (.int p1), .inl (.int p2), .inl (.int r5)] m6 (ch_oi (fun (r7 : Int32) (m8 : ch_M) => Q (.inl (some (.inl (.int r7)))) m8)))))))))))) : ch_J g m_q_indexOf2 (ch_rm m_q_indexOf2) (ch_E g m_q_indexOf2 Q) 0 [some (.inr (12, 0, 0)), some (.inl (.int p1)), some (.inl (.int p2))] [] m 0 := by
  refine ch_aload_n (i := 0) d_q_indexOf2_0 rfl rfl ?_
  refine ch_callT (as := []) d_q_indexOf2_1 lk_q_492 mi_q_isLatin1 me_q_isLatin1 rfl rfl rfl ⟨Nat.le_of_ble_eq_true rfl, Nat.le_of_ble_eq_true rfl⟩ (Nat.le_of_ble_eq_true rfl) ⟨Nat.le_of_ble_eq_true rfl, Nat.le_of_ble_eq_true rfl⟩ (ch_mono (ch_Ki (fun r1 m2 h => ?_)) h)
  refine ch_if_eq (tgt := 23) d_q_indexOf2_4 (by decide) (fun c => ?_) (fun c => ?_)
  · replace h := h.1 c
    refine ch_aload_n (i := 0) d_q_indexOf2_23 rfl rfl ?_
    refine ch_getVa d_q_indexOf2_24 fl_q_9 ?_
    refine ch_iload_n (i := 1) d_q_indexOf2_27 rfl rfl ?_
    refine ch_iload_n (i := 2) d_q_indexOf2_28 rfl rfl ?_
    refine ch_aload_n (i := 0) d_q_indexOf2_29 rfl rfl ?_
    refine ch_callT (as := []) d_q_indexOf2_30 lk_q_505 mi_q_length me_q_length rfl rfl rfl ⟨Nat.le_of_ble_eq_true rfl, Nat.le_of_ble_eq_true rfl⟩ (Nat.le_of_ble_eq_true rfl) ⟨Nat.le_of_ble_eq_true rfl, Nat.le_of_ble_eq_true rfl⟩ (ch_mono (ch_Ki (fun r3 m4 h => ?_)) h)
    exact h.elim
  · replace h := h.2 c
    refine ch_aload_n (i := 0) d_q_indexOf2_7 rfl rfl ?_
    refine ch_getVa d_q_indexOf2_8 fl_q_9 ?_
    refine ch_iload_n (i := 1) d_q_indexOf2_11 rfl rfl ?_
    refine ch_iload_n (i := 2) d_q_indexOf2_12 rfl rfl ?_
    refine ch_aload_n (i := 0) d_q_indexOf2_13 rfl rfl ?_
    refine ch_callT (as := []) d_q_indexOf2_14 lk_q_505 mi_q_length me_q_length rfl rfl rfl ⟨Nat.le_of_ble_eq_true rfl, Nat.le_of_ble_eq_true rfl⟩ (Nat.le_of_ble_eq_true rfl) ⟨Nat.le_of_ble_eq_true rfl, Nat.le_of_ble_eq_true rfl⟩ (ch_mono (ch_Ki (fun r5 m6 h => ?_)) h)
    refine ch_callS (as := [.inr (13, 0, 0), .inl (.int p1), .inl (.int p2), .inl (.int r5)]) d_q_indexOf2_17 lk_q_637 ms_k_indexOf rfl rfl ⟨Nat.le_of_ble_eq_true rfl, Nat.le_of_ble_eq_true rfl⟩ (Nat.le_of_ble_eq_true rfl) ⟨Nat.le_of_ble_eq_true rfl, Nat.le_of_ble_eq_true rfl⟩ (ch_mono (ch_Ki (fun r7 m8 h => ?_)) h)
    refine ch_goto (tgt := 36) d_q_indexOf2_20 (by decide) ?_
    exact ch_iret (ty := .int) d_q_indexOf2_36 rfl rfl (Nat.le_of_ble_eq_true rfl) h
theorem e_q_isLatin1 (g : ch_G) (Q : ch_O → ch_M → Prop)  (m : ch_M) (h : ch_J g m_q_isLatin1 (ch_rm m_q_isLatin1) (ch_E g m_q_isLatin1 Q) 0 [some (.inr (12, 0, 0))] [] m 0) : ch_C g m_q_isLatin1 [.inr (12, 0, 0)] m Q :=
  ch_enter mf_q_isLatin1 (by intro v hv; simp only [List.mem_cons, List.not_mem_nil, or_false] at hv; rcases hv with rfl <;> rfl) (Nat.le_of_ble_eq_true rfl) h
set_option maxHeartbeats 1600000 in
theorem g_q_isLatin1_0 (g : ch_G) (Q : ch_O → ch_M → Prop)  (m : ch_M) (h : Q (.inl (some (.inl (.int 1)))) m) : ch_J g m_q_isLatin1 (ch_rm m_q_isLatin1) (ch_E g m_q_isLatin1 Q) 0 [some (.inr (12, 0, 0))] [] m 0 := by
  refine ch_getsC d_q_isLatin1_0 fl_q_38 ?_
  refine ch_if_eq (tgt := 17) d_q_isLatin1_3 (by decide) (fun c => absurd c (by decide)) (fun _ => ?_)
  refine ch_aload_n (i := 0) d_q_isLatin1_6 rfl rfl ?_
  refine ch_getCo d_q_isLatin1_7 fl_q_15 ?_
  refine ch_if_ne (tgt := 17) d_q_isLatin1_10 (by decide) (fun c => absurd c (by decide)) (fun _ => ?_)
  refine ch_iconst (v := 1) d_q_isLatin1_13 (by decide) ?_
  refine ch_goto (tgt := 18) d_q_isLatin1_14 (by decide) ?_
  exact ch_iret (ty := .boolean) d_q_isLatin1_18 rfl rfl (Nat.le_of_ble_eq_true rfl) h
theorem e_q_length (g : ch_G) (Q : ch_O → ch_M → Prop)  (m : ch_M) (h : ch_J g m_q_length (ch_rm m_q_length) (ch_E g m_q_length Q) 0 [some (.inr (12, 0, 0))] [] m 0) : ch_C g m_q_length [.inr (12, 0, 0)] m Q :=
  ch_enter mf_q_length (by intro v hv; simp only [List.mem_cons, List.not_mem_nil, or_false] at hv; rcases hv with rfl <;> rfl) (Nat.le_of_ble_eq_true rfl) h
set_option maxHeartbeats 1600000 in
theorem g_q_length_0 (g : ch_G) (Q : ch_O → ch_M → Prop)  (m : ch_M) (h : (ch_C g m_q_coder [.inr (12, 0, 0)] m (ch_oi (fun (r1 : Int32) (m2 : ch_M) => Q (.inl (some (.inl (.int (8 >>> (r1 &&& (31 : Int32))))))) m2)))) : ch_J g m_q_length (ch_rm m_q_length) (ch_E g m_q_length Q) 0 [some (.inr (12, 0, 0))] [] m 0 := by
  refine ch_aload_n (i := 0) d_q_length_0 rfl rfl ?_
  refine ch_getVa d_q_length_1 fl_q_9 ?_
  refine ch_blen d_q_length_4 ?_
  refine ch_aload_n (i := 0) d_q_length_5 rfl rfl ?_
  refine ch_callT (as := []) d_q_length_6 lk_q_335 mi_q_coder me_q_coder rfl rfl rfl ⟨Nat.le_of_ble_eq_true rfl, Nat.le_of_ble_eq_true rfl⟩ (Nat.le_of_ble_eq_true rfl) ⟨Nat.le_of_ble_eq_true rfl, Nat.le_of_ble_eq_true rfl⟩ (ch_mono (ch_Ki (fun r1 m2 h => ?_)) h)
  refine ch_ishr d_q_length_9 ?_
  exact ch_iret (ty := .int) d_q_length_10 rfl rfl (Nat.le_of_ble_eq_true rfl) h
