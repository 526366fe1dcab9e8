theorem e_q_coder (g : ch_G) (Q : ch_O → ch_M → Prop)  (m : ch_M) (h : ch_J g m_q_coder (ch_rm m_q_coder) (ch_E g m_q_coder Q) 0 [some (.inr (12, 0, 0))] [] m 0) : ch_C g m_q_coder [.inr (12, 0, 0)] m Q :=
  ch_enter mf_q_coder (by intro v hv; simp only [List.mem_cons, List.not_mem_nil, or_false] at hv; rcases hv with rfl <;> rfl) (Nat.le_of_ble_eq_true rfl) h
set_option maxHeartbeats 1600000 in
theorem g_q_coder_0 (g : ch_G) (Q : ch_O → ch_M → Prop)  (m : ch_M) (h : Q (.inl (some (.inl (.int 0)))) m) : ch_J g m_q_coder (ch_rm m_q_coder) (ch_E g m_q_coder Q) 0 [some (.inr (12, 0, 0))] [] m 0 := by
  refine ch_getsC d_q_coder_0 fl_q_38 ?_
  refine ch_if_eq (tgt := 13) d_q_coder_3 (by decide) (fun c => absurd c (by decide)) (fun _ => ?_)
  refine ch_aload_n (i := 0) d_q_coder_6 rfl rfl ?_
  refine ch_getCo d_q_coder_7 fl_q_15 ?_
  refine ch_goto (tgt := 14) d_q_coder_10 (by decide) ?_
  exact ch_iret (ty := .byte) d_q_coder_14 rfl rfl (Nat.le_of_ble_eq_true rfl) h
theorem e_q_isLatin1 (g : ch_G) (Q : ch_O → ch_M → Prop)  (m : ch_M) (h : ch_J g m_q_isLatin1 (ch_rm m_q_isLatin1) (ch_E g m_q_isLatin1 Q) 0 [some (.inr (12, 0, 0))] [] m 0) : ch_C g m_q_isLatin1 [.inr (12, 0, 0)] m Q :=
  ch_enter mf_q_isLatin1 (by intro v hv; simp only [List.mem_cons, List.not_mem_nil, or_false] at hv; rcases hv with rfl <;> rfl) (Nat.le_of_ble_eq_true rfl) h
set_option maxHeartbeats 1600000 in
theorem g_q_isLatin1_0 (g : ch_G) (Q : ch_O → ch_M → Prop)  (m : ch_M) (h : Q (.inl (some (.inl (.int 1)))) m) : ch_J g m_q_isLatin1 (ch_rm m_q_isLatin1) (ch_E g m_q_isLatin1 Q) 0 [some (.inr (12, 0, 0))] [] m 0 := by
  refine ch_getsC d_q_isLatin1_0 fl_q_38 ?_
  refine ch_if_eq (tgt := 17) d_q_isLatin1_3 (by decide) (fun c => absurd c (by decide)) (fun _ => ?_)
  refine ch_aload_n (i := 0) d_q_isLatin1_6 rfl rfl ?_
  refine ch_getCo d_q_isLatin1_7 fl_q_15 ?_
  refine ch_if_ne (tgt := 17) d_q_isLatin1_10 (by decide) (fun c => absurd c (by decide)) (fun _ => ?_)
  refine ch_iconst (v := 1) d_q_isLatin1_13 (by decide) ?_
  refine ch_goto (tgt := 18) d_q_isLatin1_14 (by decide) ?_
  exact ch_iret (ty := .boolean) d_q_isLatin1_18 rfl rfl (Nat.le_of_ble_eq_true rfl) h
theorem e_k_canEncode (g : ch_G) (Q : ch_O → ch_M → Prop) (p0 : Int32) (m : ch_M) (h : ch_J g m_k_canEncode (ch_rm m_k_canEncode) (ch_E g m_k_canEncode Q) 0 [some (.inl (.int p0))] [] m 0) : ch_C g m_k_canEncode [.inl (.int p0)] m Q :=
  ch_enter mf_k_canEncode (by intro v hv; simp only [List.mem_cons, List.not_mem_nil, or_false] at hv; rcases hv with rfl <;> rfl) (Nat.le_of_ble_eq_true rfl) h
set_option maxHeartbeats 1600000 in
theorem g_k_canEncode_0 (g : ch_G) (Q : ch_O → ch_M → Prop) (p0 : Int32) (m : ch_M) (h : ((p0 < 0 → Q (.inl (some (.inl (.int 0)))) m) ∧ (¬ p0 < 0 → ((255 < p0 → Q (.inl (some (.inl (.int 0)))) m) ∧ (¬ 255 < p0 → Q (.inl (some (.inl (.int 1)))) m))))) : ch_J g m_k_canEncode (ch_rm m_k_canEncode) (ch_E g m_k_canEncode Q) 0 [some (.inl (.int p0))] [] m 0 := by
  refine ch_iload_n (i := 0) d_k_canEncode_0 rfl rfl ?_
  refine ch_if_lt (tgt := 15) d_k_canEncode_1 (by decide) (fun c => ?_) (fun c => ?_)
  · replace h := h.1 c
    refine ch_iconst (v := 0) d_k_canEncode_15 (by decide) ?_
    exact ch_iret (ty := .boolean) d_k_canEncode_16 rfl rfl (Nat.le_of_ble_eq_true rfl) h
  · replace h := h.2 c
    refine ch_iload_n (i := 0) d_k_canEncode_4 rfl rfl ?_
    refine ch_sipush (v := 255) d_k_canEncode_5 (by decide) ?_
    refine ch_icmp_gt (tgt := 15) d_k_canEncode_8 (by decide) (fun c => ?_) (fun c => ?_)
    · replace h := h.1 c
      refine ch_iconst (v := 0) d_k_canEncode_15 (by decide) ?_
      exact ch_iret (ty := .boolean) d_k_canEncode_16 rfl rfl (Nat.le_of_ble_eq_true rfl) h
    · replace h := h.2 c
      refine ch_iconst (v := 1) d_k_canEncode_11 (by decide) ?_
      refine ch_goto (tgt := 16) d_k_canEncode_12 (by decide) ?_
      exact ch_iret (ty := .boolean) d_k_canEncode_16 rfl rfl (Nat.le_of_ble_eq_true rfl) h
theorem e_k_indexOfChar (g : ch_G) (Q : ch_O → ch_M → Prop) (p1 : Int32) (p2 : Int32) (p3 : Int32) (m : ch_M) (h : ch_J g m_k_indexOfChar (ch_rm m_k_indexOfChar) (ch_E g m_k_indexOfChar Q) 0 [some (.inr (13, 0, 0)), some (.inl (.int p1)), some (.inl (.int p2)), some (.inl (.int p3)), none, none] [] m 0) : ch_C g m_k_indexOfChar [.inr (13, 0, 0), .inl (.int p1), .inl (.int p2), .inl (.int p3)] m Q :=
  ch_enter mf_k_indexOfChar (by intro v hv; simp only [List.mem_cons, List.not_mem_nil, or_false] at hv; rcases hv with rfl | rfl | rfl | rfl <;> rfl) (Nat.le_of_ble_eq_true rfl) h
set_option maxHeartbeats 1600000 in
theorem g_k_indexOfChar_0 (g : ch_G) (Q : ch_O → ch_M → Prop) (p1 : Int32) (p2 : Int32) (p3 : Int32) (m : ch_M) (h : ch_J g m_k_indexOfChar (ch_rm m_k_indexOfChar) (ch_E g m_k_indexOfChar Q) 7 [some (.inr (13, 0, 0)), some (.inl (.int p1)), some (.inl (.int p2)), some (.inl (.int p3)), some (.inl (.int ((Int32.toInt8 p1).toInt32))), some (.inl (.int p2))] [] m 0) : ch_J g m_k_indexOfChar (ch_rm m_k_indexOfChar) (ch_E g m_k_indexOfChar Q) 0 [some (.inr (13, 0, 0)), some (.inl (.int p1)), some (.inl (.int p2)), some (.inl (.int p3)), none, none] [] m 0 := by
  refine ch_iload_n (i := 1) d_k_indexOfChar_0 rfl rfl ?_
  refine ch_i2b d_k_indexOfChar_1 ?_
  refine ch_istore (i := 4) d_k_indexOfChar_2 (Nat.le_of_ble_eq_true rfl) (ls' := [some (.inr (13, 0, 0)), some (.inl (.int p1)), some (.inl (.int p2)), some (.inl (.int p3)), some (.inl (.int ((Int32.toInt8 p1).toInt32))), none]) rfl ?_
  refine ch_iload_n (i := 2) d_k_indexOfChar_4 rfl rfl ?_
  refine ch_istore (i := 5) d_k_indexOfChar_5 (Nat.le_of_ble_eq_true rfl) (ls' := [some (.inr (13, 0, 0)), some (.inl (.int p1)), some (.inl (.int p2)), some (.inl (.int p3)), some (.inl (.int ((Int32.toInt8 p1).toInt32))), some (.inl (.int p2))]) rfl ?_
  exact h
set_option maxHeartbeats 1600000 in
theorem g_k_indexOfChar_7 (g : ch_G) (Q : ch_O → ch_M → Prop) (x1 : Int32) (x2 : Int32) (x3 : Int32) (x4 : Int32) (x5 : Int32) (m : ch_M) (h : ((x3 ≤ x5 → Q (.inl (some (.inl (.int (-1))))) m) ∧ (¬ x3 ≤ x5 → (vp_in x5 8) ∧ ((¬ (ch_let.getD (Int32.toNatClampNeg x5) 0) = x4 → ch_J g m_k_indexOfChar (ch_rm m_k_indexOfChar) (ch_E g m_k_indexOfChar Q) 7 [some (.inr (13, 0, 0)), some (.inl (.int x1)), some (.inl (.int x2)), some (.inl (.int x3)), some (.inl (.int x4)), some (.inl (.int (x5 + 1)))] [] m 0) ∧ ((ch_let.getD (Int32.toNatClampNeg x5) 0) = x4 → Q (.inl (some (.inl (.int x5)))) m))))) : ch_J g m_k_indexOfChar (ch_rm m_k_indexOfChar) (ch_E g m_k_indexOfChar Q) 7 [some (.inr (13, 0, 0)), some (.inl (.int x1)), some (.inl (.int x2)), some (.inl (.int x3)), some (.inl (.int x4)), some (.inl (.int x5))] [] m 0 := by
  refine ch_iload d_k_indexOfChar_7 rfl ?_
  refine ch_iload_n (i := 3) d_k_indexOfChar_9 rfl rfl ?_
  refine ch_icmp_ge (tgt := 31) d_k_indexOfChar_10 (by decide) (fun c => ?_) (fun c => ?_)
  · replace h := h.1 c
    refine ch_iconst (v := (-1)) d_k_indexOfChar_31 (by decide) ?_
    exact ch_iret (ty := .int) d_k_indexOfChar_32 rfl rfl (Nat.le_of_ble_eq_true rfl) h
  · replace h := h.2 c
    refine ch_aload_n (i := 0) d_k_indexOfChar_13 rfl rfl ?_
    refine ch_iload d_k_indexOfChar_14 rfl ?_
    have b1 := h.1
    replace h := h.2
    refine ch_bald d_k_indexOfChar_16 b1 ?_
    refine ch_iload d_k_indexOfChar_17 rfl ?_
    refine ch_icmp_ne (tgt := 25) d_k_indexOfChar_19 (by decide) (fun c => ?_) (fun c => ?_)
    · replace h := h.1 c
      refine ch_iinc (i := 5) (v := (x5 + 1)) d_k_indexOfChar_25 rfl rfl (Nat.le_of_ble_eq_true rfl) (ls' := [some (.inr (13, 0, 0)), some (.inl (.int x1)), some (.inl (.int x2)), some (.inl (.int x3)), some (.inl (.int x4)), some (.inl (.int (x5 + 1)))]) rfl ?_
      refine ch_goto (tgt := 7) d_k_indexOfChar_28 (by decide) ?_
      exact h
    · replace h := h.2 c
      refine ch_iload d_k_indexOfChar_22 rfl ?_
      exact ch_iret (ty := .int) d_k_indexOfChar_24 rfl rfl (Nat.le_of_ble_eq_true rfl) h
