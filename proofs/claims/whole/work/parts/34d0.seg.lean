theorem e_q_indexOf2 (g : ch_G) (Q : ch_O → ch_M → Prop) (p1 : Int32) (p2 : Int32) (m : ch_M) (h : ch_J g m_q_indexOf2 (ch_rm m_q_indexOf2) (ch_E g m_q_indexOf2 Q) 0 [some (.inr (12, 0, 0)), some (.inl (.int p1)), some (.inl (.int p2))] [] m 0) : ch_C g m_q_indexOf2 [.inr (12, 0, 0), .inl (.int p1), .inl (.int p2)] m Q :=
  ch_enter mf_q_indexOf2 (by intro v hv; simp only [List.mem_cons, List.not_mem_nil, or_false] at hv; rcases hv with rfl | rfl | rfl <;> rfl) (Nat.le_of_ble_eq_true rfl) h
set_option maxHeartbeats 1600000 in
theorem g_q_indexOf2_0 (g : ch_G) (Q : ch_O → ch_M → Prop) (p1 : Int32) (p2 : Int32) (m : ch_M) (h : ((((p2 : Int32) = 0) ∧ ((8 : Int32) = 8) ∧ (((d_kd p1) → (∀ (r17 : Int32), (0 ≤ r17) → Q (.inl (some (.inl (.int r17)))) m)) ∧ ((¬ d_kd p1) → Q (.inl (some (.inl (.int (-1))))) m))))) : ch_J g m_q_indexOf2 (ch_rm m_q_indexOf2) (ch_E g m_q_indexOf2 Q) 0 [some (.inr (12, 0, 0)), some (.inl (.int p1)), some (.inl (.int p2))] [] m 0 := by
  refine ch_aload_n (i := 0) d_q_indexOf2_0 rfl rfl ?_
  refine ch_callT (as := []) d_q_indexOf2_1 lk_q_492 mi_q_isLatin1 me_q_isLatin1 rfl rfl rfl ⟨Nat.le_of_ble_eq_true rfl, Nat.le_of_ble_eq_true rfl⟩ (Nat.le_of_ble_eq_true rfl) ⟨Nat.le_of_ble_eq_true rfl, Nat.le_of_ble_eq_true rfl⟩ (ch_mono (ch_Ki (fun r1 m2 q3 => ?_)) (s_q_isLatin1 g (fun (r_ : Int32) (m_ : ch_M) => (1 = r_ ∧ m = m_))  m ⟨rfl, rfl⟩))
  obtain ⟨rfl, rfl⟩ := q3
  replace h := h
  refine ch_if_eq (tgt := 23) d_q_indexOf2_4 (by decide) (fun c => absurd c (by decide)) (fun _ => ?_)
  refine ch_aload_n (i := 0) d_q_indexOf2_7 rfl rfl ?_
  refine ch_getVa d_q_indexOf2_8 fl_q_9 ?_
  refine ch_iload_n (i := 1) d_q_indexOf2_11 rfl rfl ?_
  refine ch_iload_n (i := 2) d_q_indexOf2_12 rfl rfl ?_
  refine ch_aload_n (i := 0) d_q_indexOf2_13 rfl rfl ?_
  refine ch_callT (as := []) d_q_indexOf2_14 lk_q_505 mi_q_length me_q_length rfl rfl rfl ⟨Nat.le_of_ble_eq_true rfl, Nat.le_of_ble_eq_true rfl⟩ (Nat.le_of_ble_eq_true rfl) ⟨Nat.le_of_ble_eq_true rfl, Nat.le_of_ble_eq_true rfl⟩ (ch_mono (ch_Ki (fun r4 m5 q6 => ?_)) (s_q_length g (fun (r_ : Int32) (m_ : ch_M) => (8 = r_ ∧ m = m_))  m ⟨rfl, rfl⟩))
  obtain ⟨rfl, rfl⟩ := q6
  replace h := h
  have b11 := h.1
  replace h := h.2
  have b12 := h.1
  replace h := h.2
  refine ch_callS (as := [.inr (13, 0, 0), .inl (.int p1), .inl (.int p2), .inl (.int 8)]) d_q_indexOf2_17 lk_q_637 ms_k_indexOf rfl rfl ⟨Nat.le_of_ble_eq_true rfl, Nat.le_of_ble_eq_true rfl⟩ (Nat.le_of_ble_eq_true rfl) ⟨Nat.le_of_ble_eq_true rfl, Nat.le_of_ble_eq_true rfl⟩ (ch_mono (ch_Ki (fun r8 m9 q10 => ?_)) (s_k_indexOf g (fun (r_ : Int32) (m_ : ch_M) => (∃ (r17 : Int32), (d_kd p1) ∧ r17 = r_ ∧ (0 ≤ r17) ∧ m = m_) ∨ ((¬ d_kd p1) ∧ (-1) = r_ ∧ m = m_)) (p1) (p2) (8) m ⟨b11, b12, (fun c_ r17 f0_ => (Or.inl ⟨r17, c_, rfl, f0_, rfl⟩)), (fun c_ => (Or.inr ⟨c_, rfl, rfl⟩))⟩))
  rcases q10 with ⟨r17, c_, rfl, f0_, rfl⟩ | ⟨c_, rfl, rfl⟩
  · replace h := h.1 c_ r17 f0_
    refine ch_goto (tgt := 36) d_q_indexOf2_20 (by decide) ?_
    exact ch_iret (ty := .int) d_q_indexOf2_36 rfl rfl (Nat.le_of_ble_eq_true rfl) h
  · replace h := h.2 c_
    refine ch_goto (tgt := 36) d_q_indexOf2_20 (by decide) ?_
    exact ch_iret (ty := .int) d_q_indexOf2_36 rfl rfl (Nat.le_of_ble_eq_true rfl) h
