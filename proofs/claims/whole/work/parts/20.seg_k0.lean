theorem e_k_canEncode (g : ch_G) (Q : ch_O → ch_M → Prop) (p0 : Int32) (m : ch_M) (h : ch_J g m_k_canEncode (ch_rm m_k_canEncode) (ch_E g m_k_canEncode Q) 0 [some (.inl (.int p0))] [] m 0) : ch_C g m_k_canEncode [.inl (.int p0)] m Q :=
  ch_enter mf_k_canEncode (by intro v hv; simp only [List.mem_cons, List.not_mem_nil, or_false] at hv; rcases hv with rfl <;> rfl) (Nat.le_of_ble_eq_true rfl) h
set_option maxHeartbeats 1600000 in
theorem g_k_canEncode_0 (g : ch_G) (Q : ch_O → ch_M → Prop) (p0 : Int32) (m : ch_M) (h : ((p0 < 0 → Q (.inl (some (.inl (.int 0)))) m) ∧ (¬ p0 < 0 → ((255 < p0 → Q (.inl (some (.inl (.int 0)))) m) ∧ (¬ 255 < p0 → Q (.inl (some (.inl (.int 1)))) m))))) : ch_J g m_k_canEncode (ch_rm m_k_canEncode) (ch_E g m_k_canEncode Q) 0 [some (.inl (.int p0))] [] m 0 := by
  refine ch_iload_n (i := 0) d_k_canEncode_0 rfl rfl ?_
  refine ch_if_lt (tgt := 15) d_k_canEncode_1 (by decide) (fun c => ?_) (fun c => ?_)
  · replace h := h.1 c
    refine ch_iconst (v := 0) d_k_canEncode_15 (by decide) ?_
    exact ch_iret (ty := .boolean) d_k_canEncode_16 rfl rfl (Nat.le_of_ble_eq_true rfl) h
  · replace h := h.2 c
    refine ch_iload_n (i := 0) d_k_canEncode_4 rfl rfl ?_
    refine ch_sipush (v := 255) d_k_canEncode_5 (by decide) ?_
    refine ch_icmp_gt (tgt := 15) d_k_canEncode_8 (by decide) (fun c => ?_) (fun c => ?_)
    · replace h := h.1 c
      refine ch_iconst (v := 0) d_k_canEncode_15 (by decide) ?_
      exact ch_iret (ty := .boolean) d_k_canEncode_16 rfl rfl (Nat.le_of_ble_eq_true rfl) h
    · replace h := h.2 c
      refine ch_iconst (v := 1) d_k_canEncode_11 (by decide) ?_
      refine ch_goto (tgt := 16) d_k_canEncode_12 (by decide) ?_
      exact ch_iret (ty := .boolean) d_k_canEncode_16 rfl rfl (Nat.le_of_ble_eq_true rfl) h
theorem e_k_indexOf (g : ch_G) (Q : ch_O → ch_M → Prop) (p1 : Int32) (p2 : Int32) (p3 : Int32) (m : ch_M) (h : ch_J g m_k_indexOf (ch_rm m_k_indexOf) (ch_E g m_k_indexOf Q) 0 [some (.inr (13, 0, 0)), some (.inl (.int p1)), some (.inl (.int p2)), some (.inl (.int p3))] [] m 0) : ch_C g m_k_indexOf [.inr (13, 0, 0), .inl (.int p1), .inl (.int p2), .inl (.int p3)] m Q :=
  ch_enter mf_k_indexOf (by intro v hv; simp only [List.mem_cons, List.not_mem_nil, or_false] at hv; rcases hv with rfl | rfl | rfl | rfl <;> rfl) (Nat.le_of_ble_eq_true rfl) h
set_option maxHeartbeats 1600000 in
theorem g_k_indexOf_0 (g : ch_G) (Q : ch_O → ch_M → Prop) (p1 : Int32) (p2 : Int32) (p3 : Int32) (m : ch_M) (h : (ch_C g m_k_canEncode [.inl (.int p1)] m (ch_oi (fun (r1 : Int32) (m2 : ch_M) => ((¬ r1 = 0 → (((if p2 < 0 then 0 else p2) < (if 8 < p3 then 8 else p3) → (ch_C g m_k_indexOfChar [.inr (13, 0, 0), .inl (.int p1), .inl (.int (if p2 < 0 then 0 else p2)), .inl (.int (if 8 < p3 then 8 else p3))] m2 (ch_oi (fun (r3 : Int32) (m4 : ch_M) => Q (.inl (some (.inl (.int r3)))) m4)))) ∧ (¬ (if p2 < 0 then 0 else p2) < (if 8 < p3 then 8 else p3) → Q (.inl (some (.inl (.int (-1))))) m2))) ∧ (r1 = 0 → Q (.inl (some (.inl (.int (-1))))) m2)))))) : ch_J g m_k_indexOf (ch_rm m_k_indexOf) (ch_E g m_k_indexOf Q) 0 [some (.inr (13, 0, 0)), some (.inl (.int p1)), some (.inl (.int p2)), some (.inl (.int p3))] [] m 0 := by
  refine ch_iload_n (i := 1) d_k_indexOf_0 rfl rfl ?_
  refine ch_callS (as := [.inl (.int p1)]) d_k_indexOf_1 lk_k_88 ms_k_canEncode rfl rfl ⟨Nat.le_of_ble_eq_true rfl, Nat.le_of_ble_eq_true rfl⟩ (Nat.le_of_ble_eq_true rfl) ⟨Nat.le_of_ble_eq_true rfl, Nat.le_of_ble_eq_true rfl⟩ (ch_mono (ch_Ki (fun r1 m2 h => ?_)) h)
  refine ch_if_ne (tgt := 9) d_k_indexOf_4 (by decide) (fun c => ?_) (fun c => ?_)
  · replace h := h.1 c
    refine ch_iload_n (i := 2) d_k_indexOf_9 rfl rfl ?_
    refine ch_iconst (v := 0) d_k_indexOf_10 (by decide) ?_
    refine ch_max d_k_indexOf_11 lk_k_92 ⟨Nat.le_of_ble_eq_true rfl, Nat.le_of_ble_eq_true rfl⟩ ⟨Nat.le_of_ble_eq_true rfl, Nat.le_of_ble_eq_true rfl⟩ (Nat.le_of_ble_eq_true rfl) ?_
    refine ch_istore_n (i := 2) d_k_indexOf_14 rfl (Nat.le_of_ble_eq_true rfl) (ls' := [some (.inr (13, 0, 0)), some (.inl (.int p1)), some (.inl (.int (if p2 < 0 then 0 else p2))), some (.inl (.int p3))]) rfl ?_
    refine ch_iload_n (i := 3) d_k_indexOf_15 rfl rfl ?_
    refine ch_aload_n (i := 0) d_k_indexOf_16 rfl rfl ?_
    refine ch_blen d_k_indexOf_17 ?_
    refine ch_min d_k_indexOf_18 lk_k_38 ⟨Nat.le_of_ble_eq_true rfl, Nat.le_of_ble_eq_true rfl⟩ ⟨Nat.le_of_ble_eq_true rfl, Nat.le_of_ble_eq_true rfl⟩ (Nat.le_of_ble_eq_true rfl) ?_
    refine ch_istore_n (i := 3) d_k_indexOf_21 rfl (Nat.le_of_ble_eq_true rfl) (ls' := [some (.inr (13, 0, 0)), some (.inl (.int p1)), some (.inl (.int (if p2 < 0 then 0 else p2))), some (.inl (.int (if 8 < p3 then 8 else p3)))]) rfl ?_
    refine ch_iload_n (i := 2) d_k_indexOf_22 rfl rfl ?_
    refine ch_iload_n (i := 3) d_k_indexOf_23 rfl rfl ?_
    refine ch_icmp_lt (tgt := 29) d_k_indexOf_24 (by decide) (fun c => ?_) (fun c => ?_)
    · replace h := h.1 c
      refine ch_aload_n (i := 0) d_k_indexOf_29 rfl rfl ?_
      refine ch_iload_n (i := 1) d_k_indexOf_30 rfl rfl ?_
      refine ch_iload_n (i := 2) d_k_indexOf_31 rfl rfl ?_
      refine ch_iload_n (i := 3) d_k_indexOf_32 rfl rfl ?_
      refine ch_callS (as := [.inr (13, 0, 0), .inl (.int p1), .inl (.int (if p2 < 0 then 0 else p2)), .inl (.int (if 8 < p3 then 8 else p3))]) d_k_indexOf_33 lk_k_95 ms_k_indexOfChar rfl rfl ⟨Nat.le_of_ble_eq_true rfl, Nat.le_of_ble_eq_true rfl⟩ (Nat.le_of_ble_eq_true rfl) ⟨Nat.le_of_ble_eq_true rfl, Nat.le_of_ble_eq_true rfl⟩ (ch_mono (ch_Ki (fun r3 m4 h => ?_)) h)
      exact ch_iret (ty := .int) d_k_indexOf_36 rfl rfl (Nat.le_of_ble_eq_true rfl) h
    · replace h := h.2 c
      refine ch_iconst (v := (-1)) d_k_indexOf_27 (by decide) ?_
      exact ch_iret (ty := .int) d_k_indexOf_28 rfl rfl (Nat.le_of_ble_eq_true rfl) h
  · replace h := h.2 c
    refine ch_iconst (v := (-1)) d_k_indexOf_7 (by decide) ?_
    exact ch_iret (ty := .int) d_k_indexOf_8 rfl rfl (Nat.le_of_ble_eq_true rfl) h
theorem e_k_indexOfChar (g : ch_G) (Q : ch_O → ch_M → Prop) (p1 : Int32) (p2 : Int32) (p3 : Int32) (m : ch_M) (h : ch_J g m_k_indexOfChar (ch_rm m_k_indexOfChar) (ch_E g m_k_indexOfChar Q) 0 [some (.inr (13, 0, 0)), some (.inl (.int p1)), some (.inl (.int p2)), some (.inl (.int p3)), none, none] [] m 0) : ch_C g m_k_indexOfChar [.inr (13, 0, 0), .inl (.int p1), .inl (.int p2), .inl (.int p3)] m Q :=
  ch_enter mf_k_indexOfChar (by intro v hv; simp only [List.mem_cons, List.not_mem_nil, or_false] at hv; rcases hv with rfl | rfl | rfl | rfl <;> rfl) (Nat.le_of_ble_eq_true rfl) h
set_option maxHeartbeats 1600000 in
theorem g_k_indexOfChar_0 (g : ch_G) (Q : ch_O → ch_M → Prop) (p1 : Int32) (p2 : Int32) (p3 : Int32) (m : ch_M) (h : ch_J g m_k_indexOfChar (ch_rm m_k_indexOfChar) (ch_E g m_k_indexOfChar Q) 7 [some (.inr (13, 0, 0)), some (.inl (.int p1)), some (.inl (.int p2)), some (.inl (.int p3)), some (.inl (.int ((Int32.toInt8 p1).toInt32))), some (.inl (.int p2))] [] m 0) : ch_J g m_k_indexOfChar (ch_rm m_k_indexOfChar) (ch_E g m_k_indexOfChar Q) 0 [some (.inr (13, 0, 0)), some (.inl (.int p1)), some (.inl (.int p2)), some (.inl (.int p3)), none, none] [] m 0 := by
  refine ch_iload_n (i := 1) d_k_indexOfChar_0 rfl rfl ?_
  refine ch_i2b d_k_indexOfChar_1 ?_
  refine ch_istore (i := 4) d_k_indexOfChar_2 (Nat.le_of_ble_eq_true rfl) (ls' := [some (.inr (13, 0, 0)), some (.inl (.int p1)), some (.inl (.int p2)), some (.inl (.int p3)), some (.inl (.int ((Int32.toInt8 p1).toInt32))), none]) rfl ?_
  refine ch_iload_n (i := 2) d_k_indexOfChar_4 rfl rfl ?_
  refine ch_istore (i := 5) d_k_indexOfChar_5 (Nat.le_of_ble_eq_true rfl) (ls' := [some (.inr (13, 0, 0)), some (.inl (.int p1)), some (.inl (.int p2)), some (.inl (.int p3)), some (.inl (.int ((Int32.toInt8 p1).toInt32))), some (.inl (.int p2))]) rfl ?_
  exact h
set_option maxHeartbeats 1600000 in
theorem g_k_indexOfChar_7 (g : ch_G) (Q : ch_O → ch_M → Prop) (x1 : Int32) (x2 : Int32) (x3 : Int32) (x4 : Int32) (x5 : Int32) (m : ch_M) (h : ((x3 ≤ x5 → Q (.inl (some (.inl (.int (-1))))) m) ∧ (¬ x3 ≤ x5 → (vp_in x5 8) ∧ ((¬ (ch_let.getD (Int32.toNatClampNeg x5) 0) = x4 → ch_J g m_k_indexOfChar (ch_rm m_k_indexOfChar) (ch_E g m_k_indexOfChar Q) 7 [some (.inr (13, 0, 0)), some (.inl (.int x1)), some (.inl (.int x2)), some (.inl (.int x3)), some (.inl (.int x4)), some (.inl (.int (x5 + 1)))] [] m 0) ∧ ((ch_let.getD (Int32.toNatClampNeg x5) 0) = x4 → Q (.inl (some (.inl (.int x5)))) m))))) : ch_J g m_k_indexOfChar (ch_rm m_k_indexOfChar) (ch_E g m_k_indexOfChar Q) 7 [some (.inr (13, 0, 0)), some (.inl (.int x1)), some (.inl (.int x2)), some (.inl (.int x3)), some (.inl (.int x4)), some (.inl (.int x5))] [] m 0 := by
  refine ch_iload d_k_indexOfChar_7 rfl ?_
  refine ch_iload_n (i := 3) d_k_indexOfChar_9 rfl rfl ?_
  refine ch_icmp_ge (tgt := 31) d_k_indexOfChar_10 (by decide) (fun c => ?_) (fun c => ?_)
  · replace h := h.1 c
    refine ch_iconst (v := (-1)) d_k_indexOfChar_31 (by decide) ?_
    exact ch_iret (ty := .int) d_k_indexOfChar_32 rfl rfl (Nat.le_of_ble_eq_true rfl) h
  · replace h := h.2 c
    refine ch_aload_n (i := 0) d_k_indexOfChar_13 rfl rfl ?_
    refine ch_iload d_k_indexOfChar_14 rfl ?_
    have b1 := h.1
    replace h := h.2
    refine ch_bald d_k_indexOfChar_16 b1 ?_
    refine ch_iload d_k_indexOfChar_17 rfl ?_
    refine ch_icmp_ne (tgt := 25) d_k_indexOfChar_19 (by decide) (fun c => ?_) (fun c => ?_)
    · replace h := h.1 c
      refine ch_iinc (i := 5) (v := (x5 + 1)) d_k_indexOfChar_25 rfl rfl (Nat.le_of_ble_eq_true rfl) (ls' := [some (.inr (13, 0, 0)), some (.inl (.int x1)), some (.inl (.int x2)), some (.inl (.int x3)), some (.inl (.int x4)), some (.inl (.int (x5 + 1)))]) rfl ?_
      refine ch_goto (tgt := 7) d_k_indexOfChar_28 (by decide) ?_
      exact h
    · replace h := h.2 c
      refine ch_iload d_k_indexOfChar_22 rfl ?_
      exact ch_iret (ty := .int) d_k_indexOfChar_24 rfl rfl (Nat.le_of_ble_eq_true rfl) h
theorem e_q_coder (g : ch_G) (Q : ch_O → ch_M → Prop)  (m : ch_M) (h : ch_J g m_q_coder (ch_rm m_q_coder) (ch_E g m_q_coder Q) 0 [some (.inr (12, 0, 0))] [] m 0) : ch_C g m_q_coder [.inr (12, 0, 0)] m Q :=
  ch_enter mf_q_coder (by intro v hv; simp only [List.mem_cons, List.not_mem_nil, or_false] at hv; rcases hv with rfl <;> rfl) (Nat.le_of_ble_eq_true rfl) h
set_option maxHeartbeats 1600000 in
theorem g_q_coder_0 (g : ch_G) (Q : ch_O → ch_M → Prop)  (m : ch_M) (h : Q (.inl (some (.inl (.int 0)))) m) : ch_J g m_q_coder (ch_rm m_q_coder) (ch_E g m_q_coder Q) 0 [some (.inr (12, 0, 0))] [] m 0 := by
  refine ch_getsC d_q_coder_0 fl_q_38 ?_
  refine ch_if_eq (tgt := 13) d_q_coder_3 (by decide) (fun c => absurd c (by decide)) (fun _ => ?_)
  refine ch_aload_n (i := 0) d_q_coder_6 rfl rfl ?_
  refine ch_getCo d_q_coder_7 fl_q_15 ?_
  refine ch_goto (tgt := 14) d_q_coder_10 (by decide) ?_
  exact ch_iret (ty := .byte) d_q_coder_14 rfl rfl (Nat.le_of_ble_eq_true rfl) h
theorem e_q_indexOf (g : ch_G) (Q : ch_O → ch_M → Prop) (p1 : Int32) (m : ch_M) (h : ch_J g m_q_indexOf (ch_rm m_q_indexOf) (ch_E g m_q_indexOf Q) 0 [some (.inr (12, 0, 0)), some (.inl (.int p1))] [] m 0) : ch_C g m_q_indexOf [.inr (12, 0, 0), .inl (.int p1)] m Q :=
  ch_enter mf_q_indexOf (by intro v hv; simp only [List.mem_cons, List.not_mem_nil, or_false] at hv; rcases hv with rfl | rfl <;> rfl) (Nat.le_of_ble_eq_true rfl) h
set_option maxHeartbeats 1600000 in
theorem g_q_indexOf_0 (g : ch_G) (Q : ch_O → ch_M → Prop) (p1 : Int32) (m : ch_M) (h : (ch_C g m_q_indexOf2 [.inr (12, 0, 0), .inl (.int p1), .inl (.int 0)] m (ch_oi (fun (r1 : Int32) (m2 : ch_M) => Q (.inl (some (.inl (.int r1)))) m2)))) : ch_J g m_q_indexOf (ch_rm m_q_indexOf) (ch_E g m_q_indexOf Q) 0 [some (.inr (12, 0, 0)), some (.inl (.int p1))] [] m 0 := by
  refine ch_aload_n (i := 0) d_q_indexOf_0 rfl rfl ?_
  refine ch_iload_n (i := 1) d_q_indexOf_1 rfl rfl ?_
  refine ch_iconst (v := 0) d_q_indexOf_2 (by decide) ?_
  refine ch_callT (as := [.inl (.int p1), .inl (.int 0)]) d_q_indexOf_3 lk_q_633 mi_q_indexOf2 me_q_indexOf2 rfl rfl rfl ⟨Nat.le_of_ble_eq_true rfl, Nat.le_of_ble_eq_true rfl⟩ (Nat.le_of_ble_eq_true rfl) ⟨Nat.le_of_ble_eq_true rfl, Nat.le_of_ble_eq_true rfl⟩ (ch_mono (ch_Ki (fun r1 m2 h => ?_)) h)
  exact ch_iret (ty := .int) d_q_indexOf_6 rfl rfl (Nat.le_of_ble_eq_true rfl) h
theorem e_q_indexOf2 (g : ch_G) (Q : ch_O → ch_M → Prop) (p1 : Int32) (p2 : Int32) (m : ch_M) (h : ch_J g m_q_indexOf2 (ch_rm m_q_indexOf2) (ch_E g m_q_indexOf2 Q) 0 [some (.inr (12, 0, 0)), some (.inl (.int p1)), some (.inl (.int p2))] [] m 0) : ch_C g m_q_indexOf2 [.inr (12, 0, 0), .inl (.int p1), .inl (.int p2)] m Q :=
  ch_enter mf_q_indexOf2 (by intro v hv; simp only [List.mem_cons, List.not_mem_nil, or_false] at hv; rcases hv with rfl | rfl | rfl <;> rfl) (Nat.le_of_ble_eq_true rfl) h
set_option maxHeartbeats 1600000 in
theorem g_q_indexOf2_0 (g : ch_G) (Q : ch_O → ch_M → Prop) (p1 : Int32) (p2 : Int32) (m : ch_M) (h : (ch_C g m_q_isLatin1 [.inr (12, 0, 0)] m (ch_oi (fun (r1 : Int32) (m2 : ch_M) => ((r1 = 0 → (ch_C g m_q_length [.inr (12, 0, 0)] m2 (ch_oi (fun (r3 : Int32) (m4 : ch_M) => False)))) ∧ (¬ r1 = 0 → (ch_C g m_q_length [.inr (12, 0, 0)] m2 (ch_oi (fun (r5 : Int32) (m6 : ch_M) => (ch_C g m_k_indexOf [.inr (13, 0, 0), .inl (.int p1), .inl (.int p2), .inl (.int r5)] m6 (ch_oi (fun (r7 : Int32) (m8 : ch_M) => Q (.inl (some (.inl (.int r7)))) m8)))))))))))) : ch_J g m_q_indexOf2 (ch_rm m_q_indexOf2) (ch_E g m_q_indexOf2 Q) 0 [some (.inr (12, 0, 0)), some (.inl (.int p1)), some (.inl (.int p2))] [] m 0 := by
  refine ch_aload_n (i := 0) d_q_indexOf2_0 rfl rfl ?_
  refine ch_callT (as := []) d_q_indexOf2_1 lk_q_492 mi_q_isLatin1 me_q_isLatin1 rfl rfl rfl ⟨Nat.le_of_ble_eq_true rfl, Nat.le_of_ble_eq_true rfl⟩ (Nat.le_of_ble_eq_true rfl) ⟨Nat.le_of_ble_eq_true rfl, Nat.le_of_ble_eq_true rfl⟩ (ch_mono (ch_Ki (fun r1 m2 h => ?_)) h)
  refine ch_if_eq (tgt := 23) d_q_indexOf2_4 (by decide) (fun c => ?_) (fun c => ?_)
  · replace h := h.1 c
    refine ch_aload_n (i := 0) d_q_indexOf2_23 rfl rfl ?_
    refine ch_getVa d_q_indexOf2_24 fl_q_9 ?_
    refine ch_iload_n (i := 1) d_q_indexOf2_27 rfl rfl ?_
    refine ch_iload_n (i := 2) d_q_indexOf2_28 rfl rfl ?_
    refine ch_aload_n (i := 0) d_q_indexOf2_29 rfl rfl ?_
    refine ch_callT (as := []) d_q_indexOf2_30 lk_q_505 mi_q_length me_q_length rfl rfl rfl ⟨Nat.le_of_ble_eq_true rfl, Nat.le_of_ble_eq_true rfl⟩ (Nat.le_of_ble_eq_true rfl) ⟨Nat.le_of_ble_eq_true rfl, Nat.le_of_ble_eq_true rfl⟩ (ch_mono (ch_Ki (fun r3 m4 h => ?_)) h)
    exact h.elim
  · replace h := h.2 c
    refine ch_aload_n (i := 0) d_q_indexOf2_7 rfl rfl ?_
    refine ch_getVa d_q_indexOf2_8 fl_q_9 ?_
    refine ch_iload_n (i := 1) d_q_indexOf2_11 rfl rfl ?_
    refine ch_iload_n (i := 2) d_q_indexOf2_12 rfl rfl ?_
    refine ch_aload_n (i := 0) d_q_indexOf2_13 rfl rfl ?_
    refine ch_callT (as := []) d_q_indexOf2_14 lk_q_505 mi_q_length me_q_length rfl rfl rfl ⟨Nat.le_of_ble_eq_true rfl, Nat.le_of_ble_eq_true rfl⟩ (Nat.le_of_ble_eq_true rfl) ⟨Nat.le_of_ble_eq_true rfl, Nat.le_of_ble_eq_true rfl⟩ (ch_mono (ch_Ki (fun r5 m6 h => ?_)) h)
    refine ch_callS (as := [.inr (13, 0, 0), .inl (.int p1), .inl (.int p2), .inl (.int r5)]) d_q_indexOf2_17 lk_q_637 ms_k_indexOf rfl rfl ⟨Nat.le_of_ble_eq_true rfl, Nat.le_of_ble_eq_true rfl⟩ (Nat.le_of_ble_eq_true rfl) ⟨Nat.le_of_ble_eq_true rfl, Nat.le_of_ble_eq_true rfl⟩ (ch_mono (ch_Ki (fun r7 m8 h => ?_)) h)
    refine ch_goto (tgt := 36) d_q_indexOf2_20 (by decide) ?_
    exact ch_iret (ty := .int) d_q_indexOf2_36 rfl rfl (Nat.le_of_ble_eq_true rfl) h
theorem e_q_isLatin1 (g : ch_G) (Q : ch_O → ch_M → Prop)  (m : ch_M) (h : ch_J g m_q_isLatin1 (ch_rm m_q_isLatin1) (ch_E g m_q_isLatin1 Q) 0 [some (.inr (12, 0, 0))] [] m 0) : ch_C g m_q_isLatin1 [.inr (12, 0, 0)] m Q :=
  ch_enter mf_q_isLatin1 (by intro v hv; simp only [List.mem_cons, List.not_mem_nil, or_false] at hv; rcases hv with rfl <;> rfl) (Nat.le_of_ble_eq_true rfl) h
set_option maxHeartbeats 1600000 in
theorem g_q_isLatin1_0 (g : ch_G) (Q : ch_O → ch_M → Prop)  (m : ch_M) (h : Q (.inl (some (.inl (.int 1)))) m) : ch_J g m_q_isLatin1 (ch_rm m_q_isLatin1) (ch_E g m_q_isLatin1 Q) 0 [some (.inr (12, 0, 0))] [] m 0 := by
  refine ch_getsC d_q_isLatin1_0 fl_q_38 ?_
  refine ch_if_eq (tgt := 17) d_q_isLatin1_3 (by decide) (fun c => absurd c (by decide)) (fun _ => ?_)
  refine ch_aload_n (i := 0) d_q_isLatin1_6 rfl rfl ?_
  refine ch_getCo d_q_isLatin1_7 fl_q_15 ?_
  refine ch_if_ne (tgt := 17) d_q_isLatin1_10 (by decide) (fun c => absurd c (by decide)) (fun _ => ?_)
  refine ch_iconst (v := 1) d_q_isLatin1_13 (by decide) ?_
  refine ch_goto (tgt := 18) d_q_isLatin1_14 (by decide) ?_
  exact ch_iret (ty := .boolean) d_q_isLatin1_18 rfl rfl (Nat.le_of_ble_eq_true rfl) h
theorem e_q_length (g : ch_G) (Q : ch_O → ch_M → Prop)  (m : ch_M) (h : ch_J g m_q_length (ch_rm m_q_length) (ch_E g m_q_length Q) 0 [some (.inr (12, 0, 0))] [] m 0) : ch_C g m_q_length [.inr (12, 0, 0)] m Q :=
  ch_enter mf_q_length (by intro v hv; simp only [List.mem_cons, List.not_mem_nil, or_false] at hv; rcases hv with rfl <;> rfl) (Nat.le_of_ble_eq_true rfl) h
set_option maxHeartbeats 1600000 in
theorem g_q_length_0 (g : ch_G) (Q : ch_O → ch_M → Prop)  (m : ch_M) (h : (ch_C g m_q_coder [.inr (12, 0, 0)] m (ch_oi (fun (r1 : Int32) (m2 : ch_M) => Q (.inl (some (.inl (.int (8 >>> (r1 &&& (31 : Int32))))))) m2)))) : ch_J g m_q_length (ch_rm m_q_length) (ch_E g m_q_length Q) 0 [some (.inr (12, 0, 0))] [] m 0 := by
  refine ch_aload_n (i := 0) d_q_length_0 rfl rfl ?_
  refine ch_getVa d_q_length_1 fl_q_9 ?_
  refine ch_blen d_q_length_4 ?_
  refine ch_aload_n (i := 0) d_q_length_5 rfl rfl ?_
  refine ch_callT (as := []) d_q_length_6 lk_q_335 mi_q_coder me_q_coder rfl rfl rfl ⟨Nat.le_of_ble_eq_true rfl, Nat.le_of_ble_eq_true rfl⟩ (Nat.le_of_ble_eq_true rfl) ⟨Nat.le_of_ble_eq_true rfl, Nat.le_of_ble_eq_true rfl⟩ (ch_mono (ch_Ki (fun r1 m2 h => ?_)) h)
  refine ch_ishr d_q_length_9 ?_
  exact ch_iret (ty := .int) d_q_length_10 rfl rfl (Nat.le_of_ble_eq_true rfl) h
theorem e_i_bitCount (g : ch_G) (Q : ch_O → ch_M → Prop) (p0 : Int32) (m : ch_M) (h : ch_J g m_i_bitCount (ch_rm m_i_bitCount) (ch_E g m_i_bitCount Q) 0 [some (.inl (.int p0))] [] m 0) : ch_C g m_i_bitCount [.inl (.int p0)] m Q :=
  ch_enter mf_i_bitCount (by intro v hv; simp only [List.mem_cons, List.not_mem_nil, or_false] at hv; rcases hv with rfl <;> rfl) (Nat.le_of_ble_eq_true rfl) h
set_option maxHeartbeats 1600000 in
theorem g_i_bitCount_0 (g : ch_G) (Q : ch_O → ch_M → Prop) (p0 : Int32) (m : ch_M) (h : Q (.inl (some (.inl (.int ((((((((p0 - (((Int32.toUInt32 p0 >>> (Int32.toUInt32 1 &&& Int32.toUInt32 31)).toInt32) &&& 1431655765)) &&& 858993459) + (((Int32.toUInt32 (p0 - (((Int32.toUInt32 p0 >>> (Int32.toUInt32 1 &&& Int32.toUInt32 31)).toInt32) &&& 1431655765)) >>> (Int32.toUInt32 2 &&& Int32.toUInt32 31)).toInt32) &&& 858993459)) + ((Int32.toUInt32 (((p0 - (((Int32.toUInt32 p0 >>> (Int32.toUInt32 1 &&& Int32.toUInt32 31)).toInt32) &&& 1431655765)) &&& 858993459) + (((Int32.toUInt32 (p0 - (((Int32.toUInt32 p0 >>> (Int32.toUInt32 1 &&& Int32.toUInt32 31)).toInt32) &&& 1431655765)) >>> (Int32.toUInt32 2 &&& Int32.toUInt32 31)).toInt32) &&& 858993459)) >>> (Int32.toUInt32 4 &&& Int32.toUInt32 31)).toInt32)) &&& 252645135) + ((Int32.toUInt32 (((((p0 - (((Int32.toUInt32 p0 >>> (Int32.toUInt32 1 &&& Int32.toUInt32 31)).toInt32) &&& 1431655765)) &&& 858993459) + (((Int32.toUInt32 (p0 - (((Int32.toUInt32 p0 >>> (Int32.toUInt32 1 &&& Int32.toUInt32 31)).toInt32) &&& 1431655765)) >>> (Int32.toUInt32 2 &&& Int32.toUInt32 31)).toInt32) &&& 858993459)) + ((Int32.toUInt32 (((p0 - (((Int32.toUInt32 p0 >>> (Int32.toUInt32 1 &&& Int32.toUInt32 31)).toInt32) &&& 1431655765)) &&& 858993459) + (((Int32.toUInt32 (p0 - (((Int32.toUInt32 p0 >>> (Int32.toUInt32 1 &&& Int32.toUInt32 31)).toInt32) &&& 1431655765)) >>> (Int32.toUInt32 2 &&& Int32.toUInt32 31)).toInt32) &&& 858993459)) >>> (Int32.toUInt32 4 &&& Int32.toUInt32 31)).toInt32)) &&& 252645135) >>> (Int32.toUInt32 8 &&& Int32.toUInt32 31)).toInt32)) + ((Int32.toUInt32 ((((((p0 - (((Int32.toUInt32 p0 >>> (Int32.toUInt32 1 &&& Int32.toUInt32 31)).toInt32) &&& 1431655765)) &&& 858993459) + (((Int32.toUInt32 (p0 - (((Int32.toUInt32 p0 >>> (Int32.toUInt32 1 &&& Int32.toUInt32 31)).toInt32) &&& 1431655765)) >>> (Int32.toUInt32 2 &&& Int32.toUInt32 31)).toInt32) &&& 858993459)) + ((Int32.toUInt32 (((p0 - (((Int32.toUInt32 p0 >>> (Int32.toUInt32 1 &&& Int32.toUInt32 31)).toInt32) &&& 1431655765)) &&& 858993459) + (((Int32.toUInt32 (p0 - (((Int32.toUInt32 p0 >>> (Int32.toUInt32 1 &&& Int32.toUInt32 31)).toInt32) &&& 1431655765)) >>> (Int32.toUInt32 2 &&& Int32.toUInt32 31)).toInt32) &&& 858993459)) >>> (Int32.toUInt32 4 &&& Int32.toUInt32 31)).toInt32)) &&& 252645135) + ((Int32.toUInt32 (((((p0 - (((Int32.toUInt32 p0 >>> (Int32.toUInt32 1 &&& Int32.toUInt32 31)).toInt32) &&& 1431655765)) &&& 858993459) + (((Int32.toUInt32 (p0 - (((Int32.toUInt32 p0 >>> (Int32.toUInt32 1 &&& Int32.toUInt32 31)).toInt32) &&& 1431655765)) >>> (Int32.toUInt32 2 &&& Int32.toUInt32 31)).toInt32) &&& 858993459)) + ((Int32.toUInt32 (((p0 - (((Int32.toUInt32 p0 >>> (Int32.toUInt32 1 &&& Int32.toUInt32 31)).toInt32) &&& 1431655765)) &&& 858993459) + (((Int32.toUInt32 (p0 - (((Int32.toUInt32 p0 >>> (Int32.toUInt32 1 &&& Int32.toUInt32 31)).toInt32) &&& 1431655765)) >>> (Int32.toUInt32 2 &&& Int32.toUInt32 31)).toInt32) &&& 858993459)) >>> (Int32.toUInt32 4 &&& Int32.toUInt32 31)).toInt32)) &&& 252645135) >>> (Int32.toUInt32 8 &&& Int32.toUInt32 31)).toInt32)) >>> (Int32.toUInt32 16 &&& Int32.toUInt32 31)).toInt32)) &&& 63))))) m) : ch_J g m_i_bitCount (ch_rm m_i_bitCount) (ch_E g m_i_bitCount Q) 0 [some (.inl (.int p0))] [] m 0 := by
  refine ch_iload_n (i := 0) d_i_bitCount_0 rfl rfl ?_
  refine ch_iload_n (i := 0) d_i_bitCount_1 rfl rfl ?_
  refine ch_iconst (v := 1) d_i_bitCount_2 (by decide) ?_
  refine ch_iushr (v := ((Int32.toUInt32 p0 >>> (Int32.toUInt32 1 &&& Int32.toUInt32 31)).toInt32)) d_i_bitCount_3 rfl ?_
  refine ch_ldc_w d_i_bitCount_4 lc_i_265 ?_
  refine ch_iand d_i_bitCount_7 ?_
  refine ch_isub d_i_bitCount_8 ?_
  refine ch_istore_n (i := 0) d_i_bitCount_9 rfl (Nat.le_of_ble_eq_true rfl) (ls' := [some (.inl (.int (p0 - (((Int32.toUInt32 p0 >>> (Int32.toUInt32 1 &&& Int32.toUInt32 31)).toInt32) &&& 1431655765))))]) rfl ?_
  refine ch_iload_n (i := 0) d_i_bitCount_10 rfl rfl ?_
  refine ch_ldc_w d_i_bitCount_11 lc_i_266 ?_
  refine ch_iand d_i_bitCount_14 ?_
  refine ch_iload_n (i := 0) d_i_bitCount_15 rfl rfl ?_
  refine ch_iconst (v := 2) d_i_bitCount_16 (by decide) ?_
  refine ch_iushr (v := ((Int32.toUInt32 (p0 - (((Int32.toUInt32 p0 >>> (Int32.toUInt32 1 &&& Int32.toUInt32 31)).toInt32) &&& 1431655765)) >>> (Int32.toUInt32 2 &&& Int32.toUInt32 31)).toInt32)) d_i_bitCount_17 rfl ?_
  refine ch_ldc_w d_i_bitCount_18 lc_i_266 ?_
  refine ch_iand d_i_bitCount_21 ?_
  refine ch_iadd d_i_bitCount_22 ?_
  refine ch_istore_n (i := 0) d_i_bitCount_23 rfl (Nat.le_of_ble_eq_true rfl) (ls' := [some (.inl (.int (((p0 - (((Int32.toUInt32 p0 >>> (Int32.toUInt32 1 &&& Int32.toUInt32 31)).toInt32) &&& 1431655765)) &&& 858993459) + (((Int32.toUInt32 (p0 - (((Int32.toUInt32 p0 >>> (Int32.toUInt32 1 &&& Int32.toUInt32 31)).toInt32) &&& 1431655765)) >>> (Int32.toUInt32 2 &&& Int32.toUInt32 31)).toInt32) &&& 858993459))))]) rfl ?_
  refine ch_iload_n (i := 0) d_i_bitCount_24 rfl rfl ?_
  refine ch_iload_n (i := 0) d_i_bitCount_25 rfl rfl ?_
  refine ch_iconst (v := 4) d_i_bitCount_26 (by decide) ?_
  refine ch_iushr (v := ((Int32.toUInt32 (((p0 - (((Int32.toUInt32 p0 >>> (Int32.toUInt32 1 &&& Int32.toUInt32 31)).toInt32) &&& 1431655765)) &&& 858993459) + (((Int32.toUInt32 (p0 - (((Int32.toUInt32 p0 >>> (Int32.toUInt32 1 &&& Int32.toUInt32 31)).toInt32) &&& 1431655765)) >>> (Int32.toUInt32 2 &&& Int32.toUInt32 31)).toInt32) &&& 858993459)) >>> (Int32.toUInt32 4 &&& Int32.toUInt32 31)).toInt32)) d_i_bitCount_27 rfl ?_
  refine ch_iadd d_i_bitCount_28 ?_
  refine ch_ldc_w d_i_bitCount_29 lc_i_267 ?_
  refine ch_iand d_i_bitCount_32 ?_
  refine ch_istore_n (i := 0) d_i_bitCount_33 rfl (Nat.le_of_ble_eq_true rfl) (ls' := [some (.inl (.int (((((p0 - (((Int32.toUInt32 p0 >>> (Int32.toUInt32 1 &&& Int32.toUInt32 31)).toInt32) &&& 1431655765)) &&& 858993459) + (((Int32.toUInt32 (p0 - (((Int32.toUInt32 p0 >>> (Int32.toUInt32 1 &&& Int32.toUInt32 31)).toInt32) &&& 1431655765)) >>> (Int32.toUInt32 2 &&& Int32.toUInt32 31)).toInt32) &&& 858993459)) + ((Int32.toUInt32 (((p0 - (((Int32.toUInt32 p0 >>> (Int32.toUInt32 1 &&& Int32.toUInt32 31)).toInt32) &&& 1431655765)) &&& 858993459) + (((Int32.toUInt32 (p0 - (((Int32.toUInt32 p0 >>> (Int32.toUInt32 1 &&& Int32.toUInt32 31)).toInt32) &&& 1431655765)) >>> (Int32.toUInt32 2 &&& Int32.toUInt32 31)).toInt32) &&& 858993459)) >>> (Int32.toUInt32 4 &&& Int32.toUInt32 31)).toInt32)) &&& 252645135)))]) rfl ?_
  refine ch_iload_n (i := 0) d_i_bitCount_34 rfl rfl ?_
  refine ch_iload_n (i := 0) d_i_bitCount_35 rfl rfl ?_
  refine ch_bipush (v := 8) d_i_bitCount_36 (by decide) ?_
  refine ch_iushr (v := ((Int32.toUInt32 (((((p0 - (((Int32.toUInt32 p0 >>> (Int32.toUInt32 1 &&& Int32.toUInt32 31)).toInt32) &&& 1431655765)) &&& 858993459) + (((Int32.toUInt32 (p0 - (((Int32.toUInt32 p0 >>> (Int32.toUInt32 1 &&& Int32.toUInt32 31)).toInt32) &&& 1431655765)) >>> (Int32.toUInt32 2 &&& Int32.toUInt32 31)).toInt32) &&& 858993459)) + ((Int32.toUInt32 (((p0 - (((Int32.toUInt32 p0 >>> (Int32.toUInt32 1 &&& Int32.toUInt32 31)).toInt32) &&& 1431655765)) &&& 858993459) + (((Int32.toUInt32 (p0 - (((Int32.toUInt32 p0 >>> (Int32.toUInt32 1 &&& Int32.toUInt32 31)).toInt32) &&& 1431655765)) >>> (Int32.toUInt32 2 &&& Int32.toUInt32 31)).toInt32) &&& 858993459)) >>> (Int32.toUInt32 4 &&& Int32.toUInt32 31)).toInt32)) &&& 252645135) >>> (Int32.toUInt32 8 &&& Int32.toUInt32 31)).toInt32)) d_i_bitCount_38 rfl ?_
  refine ch_iadd d_i_bitCount_39 ?_
  refine ch_istore_n (i := 0) d_i_bitCount_40 rfl (Nat.le_of_ble_eq_true rfl) (ls' := [some (.inl (.int ((((((p0 - (((Int32.toUInt32 p0 >>> (Int32.toUInt32 1 &&& Int32.toUInt32 31)).toInt32) &&& 1431655765)) &&& 858993459) + (((Int32.toUInt32 (p0 - (((Int32.toUInt32 p0 >>> (Int32.toUInt32 1 &&& Int32.toUInt32 31)).toInt32) &&& 1431655765)) >>> (Int32.toUInt32 2 &&& Int32.toUInt32 31)).toInt32) &&& 858993459)) + ((Int32.toUInt32 (((p0 - (((Int32.toUInt32 p0 >>> (Int32.toUInt32 1 &&& Int32.toUInt32 31)).toInt32) &&& 1431655765)) &&& 858993459) + (((Int32.toUInt32 (p0 - (((Int32.toUInt32 p0 >>> (Int32.toUInt32 1 &&& Int32.toUInt32 31)).toInt32) &&& 1431655765)) >>> (Int32.toUInt32 2 &&& Int32.toUInt32 31)).toInt32) &&& 858993459)) >>> (Int32.toUInt32 4 &&& Int32.toUInt32 31)).toInt32)) &&& 252645135) + ((Int32.toUInt32 (((((p0 - (((Int32.toUInt32 p0 >>> (Int32.toUInt32 1 &&& Int32.toUInt32 31)).toInt32) &&& 1431655765)) &&& 858993459) + (((Int32.toUInt32 (p0 - (((Int32.toUInt32 p0 >>> (Int32.toUInt32 1 &&& Int32.toUInt32 31)).toInt32) &&& 1431655765)) >>> (Int32.toUInt32 2 &&& Int32.toUInt32 31)).toInt32) &&& 858993459)) + ((Int32.toUInt32 (((p0 - (((Int32.toUInt32 p0 >>> (Int32.toUInt32 1 &&& Int32.toUInt32 31)).toInt32) &&& 1431655765)) &&& 858993459) + (((Int32.toUInt32 (p0 - (((Int32.toUInt32 p0 >>> (Int32.toUInt32 1 &&& Int32.toUInt32 31)).toInt32) &&& 1431655765)) >>> (Int32.toUInt32 2 &&& Int32.toUInt32 31)).toInt32) &&& 858993459)) >>> (Int32.toUInt32 4 &&& Int32.toUInt32 31)).toInt32)) &&& 252645135) >>> (Int32.toUInt32 8 &&& Int32.toUInt32 31)).toInt32))))]) rfl ?_
  refine ch_iload_n (i := 0) d_i_bitCount_41 rfl rfl ?_
  refine ch_iload_n (i := 0) d_i_bitCount_42 rfl rfl ?_
  refine ch_bipush (v := 16) d_i_bitCount_43 (by decide) ?_
  refine ch_iushr (v := ((Int32.toUInt32 ((((((p0 - (((Int32.toUInt32 p0 >>> (Int32.toUInt32 1 &&& Int32.toUInt32 31)).toInt32) &&& 1431655765)) &&& 858993459) + (((Int32.toUInt32 (p0 - (((Int32.toUInt32 p0 >>> (Int32.toUInt32 1 &&& Int32.toUInt32 31)).toInt32) &&& 1431655765)) >>> (Int32.toUInt32 2 &&& Int32.toUInt32 31)).toInt32) &&& 858993459)) + ((Int32.toUInt32 (((p0 - (((Int32.toUInt32 p0 >>> (Int32.toUInt32 1 &&& Int32.toUInt32 31)).toInt32) &&& 1431655765)) &&& 858993459) + (((Int32.toUInt32 (p0 - (((Int32.toUInt32 p0 >>> (Int32.toUInt32 1 &&& Int32.toUInt32 31)).toInt32) &&& 1431655765)) >>> (Int32.toUInt32 2 &&& Int32.toUInt32 31)).toInt32) &&& 858993459)) >>> (Int32.toUInt32 4 &&& Int32.toUInt32 31)).toInt32)) &&& 252645135) + ((Int32.toUInt32 (((((p0 - (((Int32.toUInt32 p0 >>> (Int32.toUInt32 1 &&& Int32.toUInt32 31)).toInt32) &&& 1431655765)) &&& 858993459) + (((Int32.toUInt32 (p0 - (((Int32.toUInt32 p0 >>> (Int32.toUInt32 1 &&& Int32.toUInt32 31)).toInt32) &&& 1431655765)) >>> (Int32.toUInt32 2 &&& Int32.toUInt32 31)).toInt32) &&& 858993459)) + ((Int32.toUInt32 (((p0 - (((Int32.toUInt32 p0 >>> (Int32.toUInt32 1 &&& Int32.toUInt32 31)).toInt32) &&& 1431655765)) &&& 858993459) + (((Int32.toUInt32 (p0 - (((Int32.toUInt32 p0 >>> (Int32.toUInt32 1 &&& Int32.toUInt32 31)).toInt32) &&& 1431655765)) >>> (Int32.toUInt32 2 &&& Int32.toUInt32 31)).toInt32) &&& 858993459)) >>> (Int32.toUInt32 4 &&& Int32.toUInt32 31)).toInt32)) &&& 252645135) >>> (Int32.toUInt32 8 &&& Int32.toUInt32 31)).toInt32)) >>> (Int32.toUInt32 16 &&& Int32.toUInt32 31)).toInt32)) d_i_bitCount_45 rfl ?_
  refine ch_iadd d_i_bitCount_46 ?_
  refine ch_istore_n (i := 0) d_i_bitCount_47 rfl (Nat.le_of_ble_eq_true rfl) (ls' := [some (.inl (.int (((((((p0 - (((Int32.toUInt32 p0 >>> (Int32.toUInt32 1 &&& Int32.toUInt32 31)).toInt32) &&& 1431655765)) &&& 858993459) + (((Int32.toUInt32 (p0 - (((Int32.toUInt32 p0 >>> (Int32.toUInt32 1 &&& Int32.toUInt32 31)).toInt32) &&& 1431655765)) >>> (Int32.toUInt32 2 &&& Int32.toUInt32 31)).toInt32) &&& 858993459)) + ((Int32.toUInt32 (((p0 - (((Int32.toUInt32 p0 >>> (Int32.toUInt32 1 &&& Int32.toUInt32 31)).toInt32) &&& 1431655765)) &&& 858993459) + (((Int32.toUInt32 (p0 - (((Int32.toUInt32 p0 >>> (Int32.toUInt32 1 &&& Int32.toUInt32 31)).toInt32) &&& 1431655765)) >>> (Int32.toUInt32 2 &&& Int32.toUInt32 31)).toInt32) &&& 858993459)) >>> (Int32.toUInt32 4 &&& Int32.toUInt32 31)).toInt32)) &&& 252645135) + ((Int32.toUInt32 (((((p0 - (((Int32.toUInt32 p0 >>> (Int32.toUInt32 1 &&& Int32.toUInt32 31)).toInt32) &&& 1431655765)) &&& 858993459) + (((Int32.toUInt32 (p0 - (((Int32.toUInt32 p0 >>> (Int32.toUInt32 1 &&& Int32.toUInt32 31)).toInt32) &&& 1431655765)) >>> (Int32.toUInt32 2 &&& Int32.toUInt32 31)).toInt32) &&& 858993459)) + ((Int32.toUInt32 (((p0 - (((Int32.toUInt32 p0 >>> (Int32.toUInt32 1 &&& Int32.toUInt32 31)).toInt32) &&& 1431655765)) &&& 858993459) + (((Int32.toUInt32 (p0 - (((Int32.toUInt32 p0 >>> (Int32.toUInt32 1 &&& Int32.toUInt32 31)).toInt32) &&& 1431655765)) >>> (Int32.toUInt32 2 &&& Int32.toUInt32 31)).toInt32) &&& 858993459)) >>> (Int32.toUInt32 4 &&& Int32.toUInt32 31)).toInt32)) &&& 252645135) >>> (Int32.toUInt32 8 &&& Int32.toUInt32 31)).toInt32)) + ((Int32.toUInt32 ((((((p0 - (((Int32.toUInt32 p0 >>> (Int32.toUInt32 1 &&& Int32.toUInt32 31)).toInt32) &&& 1431655765)) &&& 858993459) + (((Int32.toUInt32 (p0 - (((Int32.toUInt32 p0 >>> (Int32.toUInt32 1 &&& Int32.toUInt32 31)).toInt32) &&& 1431655765)) >>> (Int32.toUInt32 2 &&& Int32.toUInt32 31)).toInt32) &&& 858993459)) + ((Int32.toUInt32 (((p0 - (((Int32.toUInt32 p0 >>> (Int32.toUInt32 1 &&& Int32.toUInt32 31)).toInt32) &&& 1431655765)) &&& 858993459) + (((Int32.toUInt32 (p0 - (((Int32.toUInt32 p0 >>> (Int32.toUInt32 1 &&& Int32.toUInt32 31)).toInt32) &&& 1431655765)) >>> (Int32.toUInt32 2 &&& Int32.toUInt32 31)).toInt32) &&& 858993459)) >>> (Int32.toUInt32 4 &&& Int32.toUInt32 31)).toInt32)) &&& 252645135) + ((Int32.toUInt32 (((((p0 - (((Int32.toUInt32 p0 >>> (Int32.toUInt32 1 &&& Int32.toUInt32 31)).toInt32) &&& 1431655765)) &&& 858993459) + (((Int32.toUInt32 (p0 - (((Int32.toUInt32 p0 >>> (Int32.toUInt32 1 &&& Int32.toUInt32 31)).toInt32) &&& 1431655765)) >>> (Int32.toUInt32 2 &&& Int32.toUInt32 31)).toInt32) &&& 858993459)) + ((Int32.toUInt32 (((p0 - (((Int32.toUInt32 p0 >>> (Int32.toUInt32 1 &&& Int32.toUInt32 31)).toInt32) &&& 1431655765)) &&& 858993459) + (((Int32.toUInt32 (p0 - (((Int32.toUInt32 p0 >>> (Int32.toUInt32 1 &&& Int32.toUInt32 31)).toInt32) &&& 1431655765)) >>> (Int32.toUInt32 2 &&& Int32.toUInt32 31)).toInt32) &&& 858993459)) >>> (Int32.toUInt32 4 &&& Int32.toUInt32 31)).toInt32)) &&& 252645135) >>> (Int32.toUInt32 8 &&& Int32.toUInt32 31)).toInt32)) >>> (Int32.toUInt32 16 &&& Int32.toUInt32 31)).toInt32))))]) rfl ?_
  refine ch_iload_n (i := 0) d_i_bitCount_48 rfl rfl ?_
  refine ch_bipush (v := 63) d_i_bitCount_49 (by decide) ?_
  refine ch_iand d_i_bitCount_51 ?_
  exact ch_iret (ty := .int) d_i_bitCount_52 rfl rfl (Nat.le_of_ble_eq_true rfl) h
theorem e_t_put (g : ch_G) (Q : ch_O → ch_M → Prop) (j : Nat) (p1 : Int32) (m : ch_M) (h : ch_J g m_t_put (ch_rm m_t_put) (ch_E g m_t_put Q) 0 [some (.inr (6, j, 0)), some (.inl (.int p1))] [] m 0) : ch_C g m_t_put [.inr (6, j, 0), .inl (.int p1)] m Q :=
  ch_enter mf_t_put (by intro v hv; simp only [List.mem_cons, List.not_mem_nil, or_false] at hv; rcases hv with rfl | rfl <;> rfl) (Nat.le_of_ble_eq_true rfl) h
set_option maxHeartbeats 1600000 in
theorem g_t_put_0 (g : ch_G) (Q : ch_O → ch_M → Prop) (j : Nat) (p1 : Int32) (m : ch_M) (h : ((60 ≤ (m (6, j, 0) 1) → Q (.inl none) m) ∧ (¬ 60 ≤ (m (6, j, 0) 1) → (vp_in (m (6, j, 0) 1) 60) ∧ (∀ m2 : ch_M, m2 = ch_wr m (6, j, 1) (Int32.toNatClampNeg (m (6, j, 0) 1)) (vp_nar .char p1) → (∀ m3 : ch_M, m3 = ch_wr m2 (6, j, 0) 1 ((m2 (6, j, 0) 1) + 1) → Q (.inl none) m3))))) : ch_J g m_t_put (ch_rm m_t_put) (ch_E g m_t_put Q) 0 [some (.inr (6, j, 0)), some (.inl (.int p1))] [] m 0 := by
  refine ch_aload_n (i := 0) d_t_put_0 rfl rfl ?_
  refine ch_get (v := .inl (.int (m (6, j, 0) 1))) d_t_put_1 fl_t_15 rfl ?_
  refine ch_aload_n (i := 0) d_t_put_4 rfl rfl ?_
  refine ch_get (v := .inr (6, j, 1)) d_t_put_5 fl_t_9 rfl ?_
  refine ch_alen (v := 60) d_t_put_8 (by decide) (t := 1) (by decide) rfl rfl ?_
  refine ch_icmp_ge (tgt := 32) d_t_put_9 (by decide) (fun c => ?_) (fun c => ?_)
  · replace h := h.1 c
    exact ch_vret d_t_put_32 rfl (Nat.le_of_ble_eq_true rfl) h
  · replace h := h.2 c
    refine ch_aload_n (i := 0) d_t_put_12 rfl rfl ?_
    refine ch_get (v := .inr (6, j, 1)) d_t_put_13 fl_t_9 rfl ?_
    refine ch_aload_n (i := 0) d_t_put_16 rfl rfl ?_
    refine ch_get (v := .inl (.int (m (6, j, 0) 1))) d_t_put_17 fl_t_15 rfl ?_
    refine ch_iload_n (i := 1) d_t_put_20 rfl rfl ?_
    have b1 := h.1
    replace h := h.2
    refine ch_cast (n := 60) d_t_put_21 (by decide) rfl b1 ?_
    generalize hmm2 : ch_wr m (6, j, 1) (Int32.toNatClampNeg (m (6, j, 0) 1)) (vp_nar .char p1) = m2
    replace h := h m2 hmm2.symm
    refine ch_aload_n (i := 0) d_t_put_22 rfl rfl ?_
    refine ch_dup d_t_put_23 rfl ?_
    refine ch_get (v := .inl (.int (m2 (6, j, 0) 1))) d_t_put_24 fl_t_15 rfl ?_
    refine ch_iconst (v := 1) d_t_put_27 (by decide) ?_
    refine ch_iadd d_t_put_28 ?_
    refine ch_put d_t_put_29 fp_t_15 rfl rfl rfl ?_
    generalize hmm3 : ch_wr m2 (6, j, 0) 1 ((m2 (6, j, 0) 1) + 1) = m3
    replace h := h m3 hmm3.symm
    exact ch_vret d_t_put_32 rfl (Nat.le_of_ble_eq_true rfl) h
theorem e_s_add (g : ch_G) (Q : ch_O → ch_M → Prop) (j : Nat) (p1 : Int32) (m : ch_M) (h : ch_J g m_s_add (ch_rm m_s_add) (ch_E g m_s_add Q) 0 [some (.inr (5, j, 0)), some (.inl (.int p1))] [] m 0) : ch_C g m_s_add [.inr (5, j, 0), .inl (.int p1)] m Q :=
  ch_enter mf_s_add (by intro v hv; simp only [List.mem_cons, List.not_mem_nil, or_false] at hv; rcases hv with rfl | rfl <;> rfl) (Nat.le_of_ble_eq_true rfl) h
set_option maxHeartbeats 1600000 in
theorem g_s_add_0 (g : ch_G) (Q : ch_O → ch_M → Prop) (j : Nat) (p1 : Int32) (m : ch_M) (h : ((12 ≤ (m (5, j, 0) 1) → Q (.inl none) m) ∧ (¬ 12 ≤ (m (5, j, 0) 1) → (vp_in (m (5, j, 0) 1) 12) ∧ (∀ m2 : ch_M, m2 = ch_wr m (5, j, 1) (Int32.toNatClampNeg (m (5, j, 0) 1)) p1 → (∀ m3 : ch_M, m3 = ch_wr m2 (5, j, 0) 1 ((m2 (5, j, 0) 1) + 1) → Q (.inl none) m3))))) : ch_J g m_s_add (ch_rm m_s_add) (ch_E g m_s_add Q) 0 [some (.inr (5, j, 0)), some (.inl (.int p1))] [] m 0 := by
  refine ch_aload_n (i := 0) d_s_add_0 rfl rfl ?_
  refine ch_get (v := .inl (.int (m (5, j, 0) 1))) d_s_add_1 fl_s_15 rfl ?_
  refine ch_aload_n (i := 0) d_s_add_4 rfl rfl ?_
  refine ch_get (v := .inr (5, j, 1)) d_s_add_5 fl_s_9 rfl ?_
  refine ch_alen (v := 12) d_s_add_8 (by decide) (t := 0) (by decide) rfl rfl ?_
  refine ch_icmp_ge (tgt := 32) d_s_add_9 (by decide) (fun c => ?_) (fun c => ?_)
  · replace h := h.1 c
    exact ch_vret d_s_add_32 rfl (Nat.le_of_ble_eq_true rfl) h
  · replace h := h.2 c
    refine ch_aload_n (i := 0) d_s_add_12 rfl rfl ?_
    refine ch_get (v := .inr (5, j, 1)) d_s_add_13 fl_s_9 rfl ?_
    refine ch_aload_n (i := 0) d_s_add_16 rfl rfl ?_
    refine ch_get (v := .inl (.int (m (5, j, 0) 1))) d_s_add_17 fl_s_15 rfl ?_
    refine ch_iload_n (i := 1) d_s_add_20 rfl rfl ?_
    have b1 := h.1
    replace h := h.2
    refine ch_iast (n := 12) d_s_add_21 (by decide) rfl b1 ?_
    generalize hmm2 : ch_wr m (5, j, 1) (Int32.toNatClampNeg (m (5, j, 0) 1)) p1 = m2
    replace h := h m2 hmm2.symm
    refine ch_aload_n (i := 0) d_s_add_22 rfl rfl ?_
    refine ch_dup d_s_add_23 rfl ?_
    refine ch_get (v := .inl (.int (m2 (5, j, 0) 1))) d_s_add_24 fl_s_15 rfl ?_
    refine ch_iconst (v := 1) d_s_add_27 (by decide) ?_
    refine ch_iadd d_s_add_28 ?_
    refine ch_put d_s_add_29 fp_s_15 rfl rfl rfl ?_
    generalize hmm3 : ch_wr m2 (5, j, 0) 1 ((m2 (5, j, 0) 1) + 1) = m3
    replace h := h m3 hmm3.symm
    exact ch_vret d_s_add_32 rfl (Nat.le_of_ble_eq_true rfl) h
theorem e_s_readFrom (g : ch_G) (Q : ch_O → ch_M → Prop) (j : Nat) (p1 : Int32) (m : ch_M) (h : ch_J g m_s_readFrom (ch_rm m_s_readFrom) (ch_E g m_s_readFrom Q) 0 [some (.inr (5, j, 0)), some (.inl (.int p1)), none, none, none] [] m 0) : ch_C g m_s_readFrom [.inr (5, j, 0), .inl (.int p1)] m Q :=
  ch_enter mf_s_readFrom (by intro v hv; simp only [List.mem_cons, List.not_mem_nil, or_false] at hv; rcases hv with rfl | rfl <;> rfl) (Nat.le_of_ble_eq_true rfl) h
set_option maxHeartbeats 1600000 in
theorem g_s_readFrom_0 (g : ch_G) (Q : ch_O → ch_M → Prop) (j : Nat) (p1 : Int32) (m : ch_M) (h : ch_J g m_s_readFrom (ch_rm m_s_readFrom) (ch_E g m_s_readFrom Q) 9 [some (.inr (5, j, 0)), some (.inl (.int p1)), some (.inl (.int p1)), some (.inl (.int 9)), some (.inl (.int 8))] [] m 0) : ch_J g m_s_readFrom (ch_rm m_s_readFrom) (ch_E g m_s_readFrom Q) 0 [some (.inr (5, j, 0)), some (.inl (.int p1)), none, none, none] [] m 0 := by
  refine ch_iload_n (i := 1) d_s_readFrom_0 rfl rfl ?_
  refine ch_istore_n (i := 2) d_s_readFrom_1 rfl (Nat.le_of_ble_eq_true rfl) (ls' := [some (.inr (5, j, 0)), some (.inl (.int p1)), some (.inl (.int p1)), none, none]) rfl ?_
  refine ch_bipush (v := 9) d_s_readFrom_2 (by decide) ?_
  refine ch_istore_n (i := 3) d_s_readFrom_4 rfl (Nat.le_of_ble_eq_true rfl) (ls' := [some (.inr (5, j, 0)), some (.inl (.int p1)), some (.inl (.int p1)), some (.inl (.int 9)), none]) rfl ?_
  refine ch_bipush (v := 8) d_s_readFrom_5 (by decide) ?_
  refine ch_istore (i := 4) d_s_readFrom_7 (Nat.le_of_ble_eq_true rfl) (ls' := [some (.inr (5, j, 0)), some (.inl (.int p1)), some (.inl (.int p1)), some (.inl (.int 9)), some (.inl (.int 8))]) rfl ?_
  exact h
set_option maxHeartbeats 1600000 in
theorem g_s_readFrom_9 (g : ch_G) (Q : ch_O → ch_M → Prop) (j : Nat) (x1 : Int32) (x2 : Int32) (x3 : Int32) (x4 : Int32) (m : ch_M) (h : ((x4 < 0 → ch_J g m_s_readFrom (ch_rm m_s_readFrom) (ch_E g m_s_readFrom Q) 43 [some (.inr (5, j, 0)), some (.inl (.int x1)), some (.inl (.int x2)), some (.inl (.int x3)), some (.inl (.int x4))] [] m 0) ∧ (¬ x4 < 0 → ((x2 ≤ 0 → ch_J g m_s_readFrom (ch_rm m_s_readFrom) (ch_E g m_s_readFrom Q) 43 [some (.inr (5, j, 0)), some (.inl (.int x1)), some (.inl (.int x2)), some (.inl (.int x3)), some (.inl (.int x4))] [] m 0) ∧ (¬ x2 ≤ 0 → (vp_in x4 12) ∧ (∀ m2 : ch_M, m2 = ch_wr m (5, j, 1) (Int32.toNatClampNeg x4) (x2 - x2 / 10 * 10) → ch_J g m_s_readFrom (ch_rm m_s_readFrom) (ch_E g m_s_readFrom Q) 9 [some (.inr (5, j, 0)), some (.inl (.int x1)), some (.inl (.int (x2 / 10))), some (.inl (.int x4)), some (.inl (.int (x4 + (-1))))] [] m2 0)))))) : ch_J g m_s_readFrom (ch_rm m_s_readFrom) (ch_E g m_s_readFrom Q) 9 [some (.inr (5, j, 0)), some (.inl (.int x1)), some (.inl (.int x2)), some (.inl (.int x3)), some (.inl (.int x4))] [] m 0 := by
  refine ch_iload d_s_readFrom_9 rfl ?_
  refine ch_if_lt (tgt := 43) d_s_readFrom_11 (by decide) (fun c => ?_) (fun c => ?_)
  · replace h := h.1 c
    exact h
  · replace h := h.2 c
    refine ch_iload_n (i := 2) d_s_readFrom_14 rfl rfl ?_
    refine ch_if_le (tgt := 43) d_s_readFrom_15 (by decide) (fun c => ?_) (fun c => ?_)
    · replace h := h.1 c
      exact h
    · replace h := h.2 c
      refine ch_aload_n (i := 0) d_s_readFrom_18 rfl rfl ?_
      refine ch_get (v := .inr (5, j, 1)) d_s_readFrom_19 fl_s_9 rfl ?_
      refine ch_iload d_s_readFrom_22 rfl ?_
      refine ch_iload_n (i := 2) d_s_readFrom_24 rfl rfl ?_
      refine ch_bipush (v := 10) d_s_readFrom_25 (by decide) ?_
      refine ch_irem d_s_readFrom_27 (by decide) ?_
      have b1 := h.1
      replace h := h.2
      refine ch_iast (n := 12) d_s_readFrom_28 (by decide) rfl b1 ?_
      generalize hmm2 : ch_wr m (5, j, 1) (Int32.toNatClampNeg x4) (x2 - x2 / 10 * 10) = m2
      replace h := h m2 hmm2.symm
      refine ch_iload_n (i := 2) d_s_readFrom_29 rfl rfl ?_
      refine ch_bipush (v := 10) d_s_readFrom_30 (by decide) ?_
      refine ch_idiv d_s_readFrom_32 (by decide) ?_
      refine ch_istore_n (i := 2) d_s_readFrom_33 rfl (Nat.le_of_ble_eq_true rfl) (ls' := [some (.inr (5, j, 0)), some (.inl (.int x1)), some (.inl (.int (x2 / 10))), some (.inl (.int x3)), some (.inl (.int x4))]) rfl ?_
      refine ch_iload d_s_readFrom_34 rfl ?_
      refine ch_istore_n (i := 3) d_s_readFrom_36 rfl (Nat.le_of_ble_eq_true rfl) (ls' := [some (.inr (5, j, 0)), some (.inl (.int x1)), some (.inl (.int (x2 / 10))), some (.inl (.int x4)), some (.inl (.int x4))]) rfl ?_
      refine ch_iinc (i := 4) (v := (x4 + (-1))) d_s_readFrom_37 rfl rfl (Nat.le_of_ble_eq_true rfl) (ls' := [some (.inr (5, j, 0)), some (.inl (.int x1)), some (.inl (.int (x2 / 10))), some (.inl (.int x4)), some (.inl (.int (x4 + (-1))))]) rfl ?_
      refine ch_goto (tgt := 9) d_s_readFrom_40 (by decide) ?_
      exact h
set_option maxHeartbeats 1600000 in
theorem g_s_readFrom_43 (g : ch_G) (Q : ch_O → ch_M → Prop) (j : Nat) (x1 : Int32) (x2 : Int32) (x3 : Int32) (x4 : Int32) (m : ch_M) (h : ((¬ x2 = 0 → (∀ m1 : ch_M, m1 = ch_wr m (5, j, 0) 1 0 → (¬ x3 < 0) ∧ (¬ (m1 (5, j, 0) 1) < 0) ∧ ((Int32.toNatClampNeg x3) + (Int32.toNatClampNeg (m1 (5, j, 0) 1)) ≤ 12) ∧ (0 + (Int32.toNatClampNeg (m1 (5, j, 0) 1)) ≤ 12) ∧ (∀ m2 : ch_M, m2 = ch_cpy m1 (5, j, 1) (5, j, 1) (Int32.toNatClampNeg x3) 0 (Int32.toNatClampNeg (m1 (5, j, 0) 1)) → ch_J g m_s_readFrom (ch_rm m_s_readFrom) (ch_E g m_s_readFrom Q) 79 [some (.inr (5, j, 0)), some (.inl (.int x1)), some (.inl (.int x2)), some (.inl (.int x3)), some (.inl (.int 0))] [] m2 0))) ∧ (x2 = 0 → (∀ m7 : ch_M, m7 = ch_wr m (5, j, 0) 1 (9 - x3) → (¬ x3 < 0) ∧ (¬ (m7 (5, j, 0) 1) < 0) ∧ ((Int32.toNatClampNeg x3) + (Int32.toNatClampNeg (m7 (5, j, 0) 1)) ≤ 12) ∧ (0 + (Int32.toNatClampNeg (m7 (5, j, 0) 1)) ≤ 12) ∧ (∀ m8 : ch_M, m8 = ch_cpy m7 (5, j, 1) (5, j, 1) (Int32.toNatClampNeg x3) 0 (Int32.toNatClampNeg (m7 (5, j, 0) 1)) → ch_J g m_s_readFrom (ch_rm m_s_readFrom) (ch_E g m_s_readFrom Q) 79 [some (.inr (5, j, 0)), some (.inl (.int x1)), some (.inl (.int x2)), some (.inl (.int x3)), some (.inl (.int 0))] [] m8 0))))) : ch_J g m_s_readFrom (ch_rm m_s_readFrom) (ch_E g m_s_readFrom Q) 43 [some (.inr (5, j, 0)), some (.inl (.int x1)), some (.inl (.int x2)), some (.inl (.int x3)), some (.inl (.int x4))] [] m 0 := by
  refine ch_aload_n (i := 0) d_s_readFrom_43 rfl rfl ?_
  refine ch_iload_n (i := 2) d_s_readFrom_44 rfl rfl ?_
  refine ch_if_ne (tgt := 55) d_s_readFrom_45 (by decide) (fun c => ?_) (fun c => ?_)
  · replace h := h.1 c
    refine ch_iconst (v := 0) d_s_readFrom_55 (by decide) ?_
    refine ch_put d_s_readFrom_56 fp_s_15 rfl rfl rfl ?_
    generalize hmm1 : ch_wr m (5, j, 0) 1 0 = m1
    replace h := h m1 hmm1.symm
    refine ch_aload_n (i := 0) d_s_readFrom_59 rfl rfl ?_
    refine ch_get (v := .inr (5, j, 1)) d_s_readFrom_60 fl_s_9 rfl ?_
    refine ch_iload_n (i := 3) d_s_readFrom_63 rfl rfl ?_
    refine ch_aload_n (i := 0) d_s_readFrom_64 rfl rfl ?_
    refine ch_get (v := .inr (5, j, 1)) d_s_readFrom_65 fl_s_9 rfl ?_
    refine ch_iconst (v := 0) d_s_readFrom_68 (by decide) ?_
    refine ch_aload_n (i := 0) d_s_readFrom_69 rfl rfl ?_
    refine ch_get (v := .inl (.int (m1 (5, j, 0) 1))) d_s_readFrom_70 fl_s_15 rfl ?_
    have b3 := h.1
    replace h := h.2
    have b4 := h.1
    replace h := h.2
    have b5 := h.1
    replace h := h.2
    have b6 := h.1
    replace h := h.2
    refine ch_copy (n1 := 12) (n2 := 12) d_s_readFrom_73 lk_s_19 (by decide) (by decide) rfl rfl ⟨Nat.le_of_ble_eq_true rfl, Nat.le_of_ble_eq_true rfl⟩ (Nat.le_of_ble_eq_true rfl) b3 (by decide) b4 b5 b6 ?_
    show ch_J g _ _ _ _ _ _ (ch_cpy m1 (5, j, 1) (5, j, 1) (Int32.toNatClampNeg x3) 0 (Int32.toNatClampNeg (m1 (5, j, 0) 1))) _
    generalize hmm2 : ch_cpy m1 (5, j, 1) (5, j, 1) (Int32.toNatClampNeg x3) 0 (Int32.toNatClampNeg (m1 (5, j, 0) 1)) = m2
    replace h := h m2 hmm2.symm
    refine ch_iconst (v := 0) d_s_readFrom_76 (by decide) ?_
    refine ch_istore (i := 4) d_s_readFrom_77 (Nat.le_of_ble_eq_true rfl) (ls' := [some (.inr (5, j, 0)), some (.inl (.int x1)), some (.inl (.int x2)), some (.inl (.int x3)), some (.inl (.int 0))]) rfl ?_
    exact h
  · replace h := h.2 c
    refine ch_bipush (v := 9) d_s_readFrom_48 (by decide) ?_
    refine ch_iload_n (i := 3) d_s_readFrom_50 rfl rfl ?_
    refine ch_isub d_s_readFrom_51 ?_
    refine ch_goto (tgt := 56) d_s_readFrom_52 (by decide) ?_
    refine ch_put d_s_readFrom_56 fp_s_15 rfl rfl rfl ?_
    generalize hmm7 : ch_wr m (5, j, 0) 1 (9 - x3) = m7
    replace h := h m7 hmm7.symm
    refine ch_aload_n (i := 0) d_s_readFrom_59 rfl rfl ?_
    refine ch_get (v := .inr (5, j, 1)) d_s_readFrom_60 fl_s_9 rfl ?_
    refine ch_iload_n (i := 3) d_s_readFrom_63 rfl rfl ?_
    refine ch_aload_n (i := 0) d_s_readFrom_64 rfl rfl ?_
    refine ch_get (v := .inr (5, j, 1)) d_s_readFrom_65 fl_s_9 rfl ?_
    refine ch_iconst (v := 0) d_s_readFrom_68 (by decide) ?_
    refine ch_aload_n (i := 0) d_s_readFrom_69 rfl rfl ?_
    refine ch_get (v := .inl (.int (m7 (5, j, 0) 1))) d_s_readFrom_70 fl_s_15 rfl ?_
    have b9 := h.1
    replace h := h.2
    have b10 := h.1
    replace h := h.2
    have b11 := h.1
    replace h := h.2
    have b12 := h.1
    replace h := h.2
    refine ch_copy (n1 := 12) (n2 := 12) d_s_readFrom_73 lk_s_19 (by decide) (by decide) rfl rfl ⟨Nat.le_of_ble_eq_true rfl, Nat.le_of_ble_eq_true rfl⟩ (Nat.le_of_ble_eq_true rfl) b9 (by decide) b10 b11 b12 ?_
    show ch_J g _ _ _ _ _ _ (ch_cpy m7 (5, j, 1) (5, j, 1) (Int32.toNatClampNeg x3) 0 (Int32.toNatClampNeg (m7 (5, j, 0) 1))) _
    generalize hmm8 : ch_cpy m7 (5, j, 1) (5, j, 1) (Int32.toNatClampNeg x3) 0 (Int32.toNatClampNeg (m7 (5, j, 0) 1)) = m8
    replace h := h m8 hmm8.symm
    refine ch_iconst (v := 0) d_s_readFrom_76 (by decide) ?_
    refine ch_istore (i := 4) d_s_readFrom_77 (Nat.le_of_ble_eq_true rfl) (ls' := [some (.inr (5, j, 0)), some (.inl (.int x1)), some (.inl (.int x2)), some (.inl (.int x3)), some (.inl (.int 0))]) rfl ?_
    exact h
set_option maxHeartbeats 1600000 in
theorem g_s_readFrom_79 (g : ch_G) (Q : ch_O → ch_M → Prop) (j : Nat) (x1 : Int32) (x2 : Int32) (x3 : Int32) (x4 : Int32) (m : ch_M) (h : (((m (5, j, 0) 1) ≤ x4 → Q (.inl none) m) ∧ (¬ (m (5, j, 0) 1) ≤ x4 → (vp_in x4 12) ∧ (((m (5, j, 1) (Int32.toNatClampNeg x4)) < 1 → (∀ m2 : ch_M, m2 = ch_wr m (5, j, 0) 1 0 → ch_J g m_s_readFrom (ch_rm m_s_readFrom) (ch_E g m_s_readFrom Q) 79 [some (.inr (5, j, 0)), some (.inl (.int x1)), some (.inl (.int x2)), some (.inl (.int x3)), some (.inl (.int (x4 + 1)))] [] m2 0)) ∧ (¬ (m (5, j, 1) (Int32.toNatClampNeg x4)) < 1 → (((m (5, j, 1) (Int32.toNatClampNeg x4)) ≤ 3 → ch_J g m_s_readFrom (ch_rm m_s_readFrom) (ch_E g m_s_readFrom Q) 79 [some (.inr (5, j, 0)), some (.inl (.int x1)), some (.inl (.int x2)), some (.inl (.int x3)), some (.inl (.int (x4 + 1)))] [] m 0) ∧ (¬ (m (5, j, 1) (Int32.toNatClampNeg x4)) ≤ 3 → (∀ m3 : ch_M, m3 = ch_wr m (5, j, 0) 1 0 → ch_J g m_s_readFrom (ch_rm m_s_readFrom) (ch_E g m_s_readFrom Q) 79 [some (.inr (5, j, 0)), some (.inl (.int x1)), some (.inl (.int x2)), some (.inl (.int x3)), some (.inl (.int (x4 + 1)))] [] m3 0)))))))) : ch_J g m_s_readFrom (ch_rm m_s_readFrom) (ch_E g m_s_readFrom Q) 79 [some (.inr (5, j, 0)), some (.inl (.int x1)), some (.inl (.int x2)), some (.inl (.int x3)), some (.inl (.int x4))] [] m 0 := by
  refine ch_iload d_s_readFrom_79 rfl ?_
  refine ch_aload_n (i := 0) d_s_readFrom_81 rfl rfl ?_
  refine ch_get (v := .inl (.int (m (5, j, 0) 1))) d_s_readFrom_82 fl_s_15 rfl ?_
  refine ch_icmp_ge (tgt := 121) d_s_readFrom_85 (by decide) (fun c => ?_) (fun c => ?_)
  · replace h := h.1 c
    exact ch_vret d_s_readFrom_121 rfl (Nat.le_of_ble_eq_true rfl) h
  · replace h := h.2 c
    refine ch_aload_n (i := 0) d_s_readFrom_88 rfl rfl ?_
    refine ch_get (v := .inr (5, j, 1)) d_s_readFrom_89 fl_s_9 rfl ?_
    refine ch_iload d_s_readFrom_92 rfl ?_
    have b1 := h.1
    replace h := h.2
    refine ch_iald (n := 12) d_s_readFrom_94 (by decide) rfl b1 ?_
    refine ch_iconst (v := 1) d_s_readFrom_95 (by decide) ?_
    refine ch_icmp_lt (tgt := 110) d_s_readFrom_96 (by decide) (fun c => ?_) (fun c => ?_)
    · replace h := h.1 c
      refine ch_aload_n (i := 0) d_s_readFrom_110 rfl rfl ?_
      refine ch_iconst (v := 0) d_s_readFrom_111 (by decide) ?_
      refine ch_put d_s_readFrom_112 fp_s_15 rfl rfl rfl ?_
      generalize hmm2 : ch_wr m (5, j, 0) 1 0 = m2
      replace h := h m2 hmm2.symm
      refine ch_iinc (i := 4) (v := (x4 + 1)) d_s_readFrom_115 rfl rfl (Nat.le_of_ble_eq_true rfl) (ls' := [some (.inr (5, j, 0)), some (.inl (.int x1)), some (.inl (.int x2)), some (.inl (.int x3)), some (.inl (.int (x4 + 1)))]) rfl ?_
      refine ch_goto (tgt := 79) d_s_readFrom_118 (by decide) ?_
      exact h
    · replace h := h.2 c
      refine ch_aload_n (i := 0) d_s_readFrom_99 rfl rfl ?_
      refine ch_get (v := .inr (5, j, 1)) d_s_readFrom_100 fl_s_9 rfl ?_
      refine ch_iload d_s_readFrom_103 rfl ?_
      refine ch_iald (n := 12) d_s_readFrom_105 (by decide) rfl b1 ?_
      refine ch_iconst (v := 3) d_s_readFrom_106 (by decide) ?_
      refine ch_icmp_le (tgt := 115) d_s_readFrom_107 (by decide) (fun c => ?_) (fun c => ?_)
      · replace h := h.1 c
        refine ch_iinc (i := 4) (v := (x4 + 1)) d_s_readFrom_115 rfl rfl (Nat.le_of_ble_eq_true rfl) (ls' := [some (.inr (5, j, 0)), some (.inl (.int x1)), some (.inl (.int x2)), some (.inl (.int x3)), some (.inl (.int (x4 + 1)))]) rfl ?_
        refine ch_goto (tgt := 79) d_s_readFrom_118 (by decide) ?_
        exact h
      · replace h := h.2 c
        refine ch_aload_n (i := 0) d_s_readFrom_110 rfl rfl ?_
        refine ch_iconst (v := 0) d_s_readFrom_111 (by decide) ?_
        refine ch_put d_s_readFrom_112 fp_s_15 rfl rfl rfl ?_
        generalize hmm3 : ch_wr m (5, j, 0) 1 0 = m3
        replace h := h m3 hmm3.symm
        refine ch_iinc (i := 4) (v := (x4 + 1)) d_s_readFrom_115 rfl rfl (Nat.le_of_ble_eq_true rfl) (ls' := [some (.inr (5, j, 0)), some (.inl (.int x1)), some (.inl (.int x2)), some (.inl (.int x3)), some (.inl (.int (x4 + 1)))]) rfl ?_
        refine ch_goto (tgt := 79) d_s_readFrom_118 (by decide) ?_
        exact h
theorem e_s_misfit (g : ch_G) (Q : ch_O → ch_M → Prop) (j : Nat) (m : ch_M) (h : ch_J g m_s_misfit (ch_rm m_s_misfit) (ch_E g m_s_misfit Q) 0 [some (.inr (5, j, 0)), none, none] [] m 0) : ch_C g m_s_misfit [.inr (5, j, 0)] m Q :=
  ch_enter mf_s_misfit (by intro v hv; simp only [List.mem_cons, List.not_mem_nil, or_false] at hv; rcases hv with rfl <;> rfl) (Nat.le_of_ble_eq_true rfl) h
set_option maxHeartbeats 1600000 in
theorem g_s_misfit_0 (g : ch_G) (Q : ch_O → ch_M → Prop) (j : Nat) (m : ch_M) (h : ch_J g m_s_misfit (ch_rm m_s_misfit) (ch_E g m_s_misfit Q) 4 [some (.inr (5, j, 0)), some (.inl (.int (-1))), some (.inl (.int 0))] [] m 0) : ch_J g m_s_misfit (ch_rm m_s_misfit) (ch_E g m_s_misfit Q) 0 [some (.inr (5, j, 0)), none, none] [] m 0 := by
  refine ch_iconst (v := (-1)) d_s_misfit_0 (by decide) ?_
  refine ch_istore_n (i := 1) d_s_misfit_1 rfl (Nat.le_of_ble_eq_true rfl) (ls' := [some (.inr (5, j, 0)), some (.inl (.int (-1))), none]) rfl ?_
  refine ch_iconst (v := 0) d_s_misfit_2 (by decide) ?_
  refine ch_istore_n (i := 2) d_s_misfit_3 rfl (Nat.le_of_ble_eq_true rfl) (ls' := [some (.inr (5, j, 0)), some (.inl (.int (-1))), some (.inl (.int 0))]) rfl ?_
  exact h
set_option maxHeartbeats 1600000 in
theorem g_s_misfit_4 (g : ch_G) (Q : ch_O → ch_M → Prop) (j : Nat) (x1 : Int32) (x2 : Int32) (m : ch_M) (h : (((m (5, j, 0) 1) ≤ x2 → ((x1 < 11 → Q (.inl (some (.inl (.int x1)))) m) ∧ (¬ x1 < 11 → Q (.inl (some (.inl (.int (-1))))) m))) ∧ (¬ (m (5, j, 0) 1) ≤ x2 → ((x1 < 11 → (vp_in x2 12) ∧ ch_J g m_s_misfit (ch_rm m_s_misfit) (ch_E g m_s_misfit Q) 4 [some (.inr (5, j, 0)), some (.inl (.int (x1 + (m (5, j, 1) (Int32.toNatClampNeg x2))))), some (.inl (.int (x2 + 1)))] [] m 0) ∧ (¬ x1 < 11 → Q (.inl (some (.inl (.int 12)))) m))))) : ch_J g m_s_misfit (ch_rm m_s_misfit) (ch_E g m_s_misfit Q) 4 [some (.inr (5, j, 0)), some (.inl (.int x1)), some (.inl (.int x2))] [] m 0 := by
  refine ch_iload_n (i := 2) d_s_misfit_4 rfl rfl ?_
  refine ch_aload_n (i := 0) d_s_misfit_5 rfl rfl ?_
  refine ch_get (v := .inl (.int (m (5, j, 0) 1))) d_s_misfit_6 fl_s_15 rfl ?_
  refine ch_icmp_ge (tgt := 36) d_s_misfit_9 (by decide) (fun c => ?_) (fun c => ?_)
  · replace h := h.1 c
    refine ch_iload_n (i := 1) d_s_misfit_36 rfl rfl ?_
    refine ch_bipush (v := 11) d_s_misfit_37 (by decide) ?_
    refine ch_icmp_lt (tgt := 46) d_s_misfit_39 (by decide) (fun c => ?_) (fun c => ?_)
    · replace h := h.1 c
      refine ch_iload_n (i := 1) d_s_misfit_46 rfl rfl ?_
      exact ch_iret (ty := .int) d_s_misfit_47 rfl rfl (Nat.le_of_ble_eq_true rfl) h
    · replace h := h.2 c
      refine ch_iconst (v := (-1)) d_s_misfit_42 (by decide) ?_
      refine ch_goto (tgt := 47) d_s_misfit_43 (by decide) ?_
      exact ch_iret (ty := .int) d_s_misfit_47 rfl rfl (Nat.le_of_ble_eq_true rfl) h
  · replace h := h.2 c
    refine ch_iload_n (i := 1) d_s_misfit_12 rfl rfl ?_
    refine ch_bipush (v := 11) d_s_misfit_13 (by decide) ?_
    refine ch_icmp_lt (tgt := 21) d_s_misfit_15 (by decide) (fun c => ?_) (fun c => ?_)
    · replace h := h.1 c
      refine ch_iload_n (i := 1) d_s_misfit_21 rfl rfl ?_
      refine ch_aload_n (i := 0) d_s_misfit_22 rfl rfl ?_
      refine ch_get (v := .inr (5, j, 1)) d_s_misfit_23 fl_s_9 rfl ?_
      refine ch_iload_n (i := 2) d_s_misfit_26 rfl rfl ?_
      have b1 := h.1
      replace h := h.2
      refine ch_iald (n := 12) d_s_misfit_27 (by decide) rfl b1 ?_
      refine ch_iadd d_s_misfit_28 ?_
      refine ch_istore_n (i := 1) d_s_misfit_29 rfl (Nat.le_of_ble_eq_true rfl) (ls' := [some (.inr (5, j, 0)), some (.inl (.int (x1 + (m (5, j, 1) (Int32.toNatClampNeg x2))))), some (.inl (.int x2))]) rfl ?_
      refine ch_iinc (i := 2) (v := (x2 + 1)) d_s_misfit_30 rfl rfl (Nat.le_of_ble_eq_true rfl) (ls' := [some (.inr (5, j, 0)), some (.inl (.int (x1 + (m (5, j, 1) (Int32.toNatClampNeg x2))))), some (.inl (.int (x2 + 1)))]) rfl ?_
      refine ch_goto (tgt := 4) d_s_misfit_33 (by decide) ?_
      exact h
    · replace h := h.2 c
      refine ch_bipush (v := 12) d_s_misfit_18 (by decide) ?_
      exact ch_iret (ty := .int) d_s_misfit_20 rfl rfl (Nat.le_of_ble_eq_true rfl) h
theorem e_c_set (g : ch_G) (Q : ch_O → ch_M → Prop) (p1 : Int32) (p2 : Int32) (p3 : Int32) (p4 : Int32) (m : ch_M) (h : ch_J g m_c_set (ch_rm m_c_set) (ch_E g m_c_set Q) 0 [some (.inr (4, 0, 0)), some (.inl (.int p1)), some (.inl (.int p2)), some (.inl (.int p3)), some (.inl (.int p4))] [] m 0) : ch_C g m_c_set [.inr (4, 0, 0), .inl (.int p1), .inl (.int p2), .inl (.int p3), .inl (.int p4)] m Q :=
  ch_enter mf_c_set (by intro v hv; simp only [List.mem_cons, List.not_mem_nil, or_false] at hv; rcases hv with rfl | rfl | rfl | rfl | rfl <;> rfl) (Nat.le_of_ble_eq_true rfl) h
set_option maxHeartbeats 1600000 in
theorem g_c_set_0 (g : ch_G) (Q : ch_O → ch_M → Prop) (p1 : Int32) (p2 : Int32) (p3 : Int32) (p4 : Int32) (m : ch_M) (h : (∀ m1 : ch_M, m1 = ch_wr m (4, 0, 0) 1 p1 → (∀ m2 : ch_M, m2 = ch_wr m1 (4, 0, 0) 2 p2 → (∀ m3 : ch_M, m3 = ch_wr m2 (4, 0, 0) 3 p3 → (∀ m4 : ch_M, m4 = ch_wr m3 (4, 0, 0) 4 p4 → Q (.inl none) m4))))) : ch_J g m_c_set (ch_rm m_c_set) (ch_E g m_c_set Q) 0 [some (.inr (4, 0, 0)), some (.inl (.int p1)), some (.inl (.int p2)), some (.inl (.int p3)), some (.inl (.int p4))] [] m 0 := by
  refine ch_aload_n (i := 0) d_c_set_0 rfl rfl ?_
  refine ch_iload_n (i := 1) d_c_set_1 rfl rfl ?_
  refine ch_put d_c_set_2 fp_c_16 rfl rfl rfl ?_
  generalize hmm1 : ch_wr m (4, 0, 0) 1 p1 = m1
  replace h := h m1 hmm1.symm
  refine ch_aload_n (i := 0) d_c_set_5 rfl rfl ?_
  refine ch_iload_n (i := 2) d_c_set_6 rfl rfl ?_
  refine ch_put d_c_set_7 fp_c_20 rfl rfl rfl ?_
  generalize hmm2 : ch_wr m1 (4, 0, 0) 2 p2 = m2
  replace h := h m2 hmm2.symm
  refine ch_aload_n (i := 0) d_c_set_10 rfl rfl ?_
  refine ch_iload_n (i := 3) d_c_set_11 rfl rfl ?_
  refine ch_put d_c_set_12 fp_c_23 rfl rfl rfl ?_
  generalize hmm3 : ch_wr m2 (4, 0, 0) 3 p3 = m3
  replace h := h m3 hmm3.symm
  refine ch_aload_n (i := 0) d_c_set_15 rfl rfl ?_
  refine ch_iload d_c_set_16 rfl ?_
  refine ch_put d_c_set_18 fp_c_26 rfl rfl rfl ?_
  generalize hmm4 : ch_wr m3 (4, 0, 0) 4 p4 = m4
  replace h := h m4 hmm4.symm
  exact ch_vret d_c_set_21 rfl (Nat.le_of_ble_eq_true rfl) h
