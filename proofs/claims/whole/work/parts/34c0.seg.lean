theorem e_q_length (g : ch_G) (Q : ch_O → ch_M → Prop)  (m : ch_M) (h : ch_J g m_q_length (ch_rm m_q_length) (ch_E g m_q_length Q) 0 [some (.inr (12, 0, 0))] [] m 0) : ch_C g m_q_length [.inr (12, 0, 0)] m Q :=
  ch_enter mf_q_length (by intro v hv; simp only [List.mem_cons, List.not_mem_nil, or_false] at hv; rcases hv with rfl <;> rfl) (Nat.le_of_ble_eq_true rfl) h
set_option maxHeartbeats 1600000 in
theorem g_q_length_0 (g : ch_G) (Q : ch_O → ch_M → Prop)  (m : ch_M) (h : (Q (.inl (some (.inl (.int (8 >>> (0 &&& (31 : Int32))))))) m)) : ch_J g m_q_length (ch_rm m_q_length) (ch_E g m_q_length Q) 0 [some (.inr (12, 0, 0))] [] m 0 := by
  refine ch_aload_n (i := 0) d_q_length_0 rfl rfl ?_
  refine ch_getVa d_q_length_1 fl_q_9 ?_
  refine ch_blen d_q_length_4 ?_
  refine ch_aload_n (i := 0) d_q_length_5 rfl rfl ?_
  refine ch_callT (as := []) d_q_length_6 lk_q_335 mi_q_coder me_q_coder rfl rfl rfl ⟨Nat.le_of_ble_eq_true rfl, Nat.le_of_ble_eq_true rfl⟩ (Nat.le_of_ble_eq_true rfl) ⟨Nat.le_of_ble_eq_true rfl, Nat.le_of_ble_eq_true rfl⟩ (ch_mono (ch_Ki (fun r1 m2 q3 => ?_)) (s_q_coder g (fun (r_ : Int32) (m_ : ch_M) => (0 = r_ ∧ m = m_))  m ⟨rfl, rfl⟩))
  obtain ⟨rfl, rfl⟩ := q3
  replace h := h
  refine ch_ishr d_q_length_9 ?_
  exact ch_iret (ty := .int) d_q_length_10 rfl rfl (Nat.le_of_ble_eq_true rfl) h
theorem e_k_indexOf (g : ch_G) (Q : ch_O → ch_M → Prop) (p1 : Int32) (p2 : Int32) (p3 : Int32) (m : ch_M) (h : ch_J g m_k_indexOf (ch_rm m_k_indexOf) (ch_E g m_k_indexOf Q) 0 [some (.inr (13, 0, 0)), some (.inl (.int p1)), some (.inl (.int p2)), some (.inl (.int p3))] [] m 0) : ch_C g m_k_indexOf [.inr (13, 0, 0), .inl (.int p1), .inl (.int p2), .inl (.int p3)] m Q :=
  ch_enter mf_k_indexOf (by intro v hv; simp only [List.mem_cons, List.not_mem_nil, or_false] at hv; rcases hv with rfl | rfl | rfl | rfl <;> rfl) (Nat.le_of_ble_eq_true rfl) h
set_option maxHeartbeats 1600000 in
theorem g_k_indexOf_0 (g : ch_G) (Q : ch_O → ch_M → Prop) (p1 : Int32) (p2 : Int32) (p3 : Int32) (m : ch_M) (h : (((0 ≤ p1 ∧ p1 ≤ 255) → (((if p2 < 0 then 0 else p2) < (if 8 < p3 then 8 else p3) → (0 ≤ p1 ∧ p1 ≤ 255) ∧ (((if p2 < 0 then 0 else p2) : Int32) = 0) ∧ (((if 8 < p3 then 8 else p3) : Int32) = 8) ∧ (((d_kd p1) → (∀ (r14 : Int32), (0 ≤ r14) → Q (.inl (some (.inl (.int r14)))) m)) ∧ ((¬ d_kd p1) → Q (.inl (some (.inl (.int (-1))))) m))) ∧ (¬ (if p2 < 0 then 0 else p2) < (if 8 < p3 then 8 else p3) → Q (.inl (some (.inl (.int (-1))))) m))) ∧ ((¬ (0 ≤ p1 ∧ p1 ≤ 255)) → Q (.inl (some (.inl (.int (-1))))) m))) : ch_J g m_k_indexOf (ch_rm m_k_indexOf) (ch_E g m_k_indexOf Q) 0 [some (.inr (13, 0, 0)), some (.inl (.int p1)), some (.inl (.int p2)), some (.inl (.int p3))] [] m 0 := by
  refine ch_iload_n (i := 1) d_k_indexOf_0 rfl rfl ?_
  refine ch_callS (as := [.inl (.int p1)]) d_k_indexOf_1 lk_k_88 ms_k_canEncode rfl rfl ⟨Nat.le_of_ble_eq_true rfl, Nat.le_of_ble_eq_true rfl⟩ (Nat.le_of_ble_eq_true rfl) ⟨Nat.le_of_ble_eq_true rfl, Nat.le_of_ble_eq_true rfl⟩ (ch_mono (ch_Ki (fun r1 m2 q3 => ?_)) (s_k_canEncode g (fun (r_ : Int32) (m_ : ch_M) => ((0 ≤ p1 ∧ p1 ≤ 255) ∧ 1 = r_ ∧ m = m_) ∨ ((¬ (0 ≤ p1 ∧ p1 ≤ 255)) ∧ 0 = r_ ∧ m = m_)) (p1) m ⟨(fun c_ => (Or.inl ⟨c_, rfl, rfl⟩)), (fun c_ => (Or.inr ⟨c_, rfl, rfl⟩))⟩))
  rcases q3 with ⟨c_, rfl, rfl⟩ | ⟨c_, rfl, rfl⟩
  · replace h := h.1 c_
    refine ch_if_ne (tgt := 9) d_k_indexOf_4 (by decide) (fun _ => ?_) (fun c => absurd c (by decide))
    refine ch_iload_n (i := 2) d_k_indexOf_9 rfl rfl ?_
    refine ch_iconst (v := 0) d_k_indexOf_10 (by decide) ?_
    refine ch_max d_k_indexOf_11 lk_k_92 ⟨Nat.le_of_ble_eq_true rfl, Nat.le_of_ble_eq_true rfl⟩ ⟨Nat.le_of_ble_eq_true rfl, Nat.le_of_ble_eq_true rfl⟩ (Nat.le_of_ble_eq_true rfl) ?_
    refine ch_istore_n (i := 2) d_k_indexOf_14 rfl (Nat.le_of_ble_eq_true rfl) (ls' := [some (.inr (13, 0, 0)), some (.inl (.int p1)), some (.inl (.int (if p2 < 0 then 0 else p2))), some (.inl (.int p3))]) rfl ?_
    refine ch_iload_n (i := 3) d_k_indexOf_15 rfl rfl ?_
    refine ch_aload_n (i := 0) d_k_indexOf_16 rfl rfl ?_
    refine ch_blen d_k_indexOf_17 ?_
    refine ch_min d_k_indexOf_18 lk_k_38 ⟨Nat.le_of_ble_eq_true rfl, Nat.le_of_ble_eq_true rfl⟩ ⟨Nat.le_of_ble_eq_true rfl, Nat.le_of_ble_eq_true rfl⟩ (Nat.le_of_ble_eq_true rfl) ?_
    refine ch_istore_n (i := 3) d_k_indexOf_21 rfl (Nat.le_of_ble_eq_true rfl) (ls' := [some (.inr (13, 0, 0)), some (.inl (.int p1)), some (.inl (.int (if p2 < 0 then 0 else p2))), some (.inl (.int (if 8 < p3 then 8 else p3)))]) rfl ?_
    refine ch_iload_n (i := 2) d_k_indexOf_22 rfl rfl ?_
    refine ch_iload_n (i := 3) d_k_indexOf_23 rfl rfl ?_
    refine ch_icmp_lt (tgt := 29) d_k_indexOf_24 (by decide) (fun c => ?_) (fun c => ?_)
    · replace h := h.1 c
      refine ch_aload_n (i := 0) d_k_indexOf_29 rfl rfl ?_
      refine ch_iload_n (i := 1) d_k_indexOf_30 rfl rfl ?_
      refine ch_iload_n (i := 2) d_k_indexOf_31 rfl rfl ?_
      refine ch_iload_n (i := 3) d_k_indexOf_32 rfl rfl ?_
      have b8 := h.1
      replace h := h.2
      have b9 := h.1
      replace h := h.2
      have b10 := h.1
      replace h := h.2
      refine ch_callS (as := [.inr (13, 0, 0), .inl (.int p1), .inl (.int (if p2 < 0 then 0 else p2)), .inl (.int (if 8 < p3 then 8 else p3))]) d_k_indexOf_33 lk_k_95 ms_k_indexOfChar rfl rfl ⟨Nat.le_of_ble_eq_true rfl, Nat.le_of_ble_eq_true rfl⟩ (Nat.le_of_ble_eq_true rfl) ⟨Nat.le_of_ble_eq_true rfl, Nat.le_of_ble_eq_true rfl⟩ (ch_mono (ch_Ki (fun r5 m6 q7 => ?_)) (s_k_indexOfChar g (fun (r_ : Int32) (m_ : ch_M) => (∃ (r14 : Int32), (d_kd p1) ∧ r14 = r_ ∧ (0 ≤ r14) ∧ m = m_) ∨ ((¬ d_kd p1) ∧ (-1) = r_ ∧ m = m_)) (p1) ((if p2 < 0 then 0 else p2)) ((if 8 < p3 then 8 else p3)) m ⟨b8, b9, b10, (fun c_ r14 f0_ => (Or.inl ⟨r14, c_, rfl, f0_, rfl⟩)), (fun c_ => (Or.inr ⟨c_, rfl, rfl⟩))⟩))
      rcases q7 with ⟨r14, c_, rfl, f0_, rfl⟩ | ⟨c_, rfl, rfl⟩
      · replace h := h.1 c_ r14 f0_
        exact ch_iret (ty := .int) d_k_indexOf_36 rfl rfl (Nat.le_of_ble_eq_true rfl) h
      · replace h := h.2 c_
        exact ch_iret (ty := .int) d_k_indexOf_36 rfl rfl (Nat.le_of_ble_eq_true rfl) h
    · replace h := h.2 c
      refine ch_iconst (v := (-1)) d_k_indexOf_27 (by decide) ?_
      exact ch_iret (ty := .int) d_k_indexOf_28 rfl rfl (Nat.le_of_ble_eq_true rfl) h
  · replace h := h.2 c_
    refine ch_if_ne (tgt := 9) d_k_indexOf_4 (by decide) (fun c => absurd c (by decide)) (fun _ => ?_)
    refine ch_iconst (v := (-1)) d_k_indexOf_7 (by decide) ?_
    exact ch_iret (ty := .int) d_k_indexOf_8 rfl rfl (Nat.le_of_ble_eq_true rfl) h
