theorem e_k_charAt (g : ch_G) (Q : ch_O → ch_M → Prop) (j : Nat) (p1 : Int32) (m : ch_M) (h : ch_J g m_k_charAt (ch_rm m_k_charAt) (ch_E g m_k_charAt Q) 0 [some (.inr (13, j, 0)), some (.inl (.int p1))] [] m 0) : ch_C g m_k_charAt [.inr (13, j, 0), .inl (.int p1)] m Q :=
  ch_enter mf_k_charAt (by intro v hv; simp only [List.mem_cons, List.not_mem_nil, or_false] at hv; rcases hv with rfl | rfl <;> rfl) (Nat.le_of_ble_eq_true rfl) h
set_option maxHeartbeats 1600000 in
theorem g_k_charAt_0 (g : ch_G) (Q : ch_O → ch_M → Prop) (j : Nat) (p1 : Int32) (m : ch_M) (h : (¬ p1 < 0) ∧ (p1 < (nI (ch_tn g j))) ∧ ((vp_in p1 (ch_tn g j)) ∧ (narrow .char (.int ((Int32.toUInt32 ((ch_tb g j (Int32.toNatClampNeg p1)) &&& 255) % 65536).toInt32)) = .int ((Int32.toUInt32 ((ch_tb g j (Int32.toNatClampNeg p1)) &&& 255) % 65536).toInt32)) ∧ Q (.inl (some (.inl (.int ((Int32.toUInt32 ((ch_tb g j (Int32.toNatClampNeg p1)) &&& 255) % 65536).toInt32))))) m)) : ch_J g m_k_charAt (ch_rm m_k_charAt) (ch_E g m_k_charAt Q) 0 [some (.inr (13, j, 0)), some (.inl (.int p1))] [] m 0 := by
  refine ch_iload_n (i := 1) d_k_charAt_0 rfl rfl ?_
  refine ch_aload_n (i := 0) d_k_charAt_1 rfl rfl ?_
  refine ch_blen d_k_charAt_2 ?_
  have b4 := h.1
  replace h := h.2
  have b5 := h.1
  replace h := h.2
  refine ch_callS (as := [.inl (.int p1), .inl (.int (nI (ch_tn g j)))]) d_k_charAt_3 lk_k_9 ms_q_checkIndex rfl rfl ⟨Nat.le_of_ble_eq_true rfl, Nat.le_of_ble_eq_true rfl⟩ (Nat.le_of_ble_eq_true rfl) ⟨Nat.le_of_ble_eq_true rfl, Nat.le_of_ble_eq_true rfl⟩ (ch_mono (ch_Kv (fun m2 q3 => ?_)) (s_q_checkIndex g (fun (m_ : ch_M) => (m = m_)) (p1) ((nI (ch_tn g j))) m ⟨b4, b5, rfl⟩))
  obtain rfl := q3
  replace h := h
  refine ch_aload_n (i := 0) d_k_charAt_6 rfl rfl ?_
  refine ch_iload_n (i := 1) d_k_charAt_7 rfl rfl ?_
  have b6 := h.1
  replace h := h.2
  refine ch_bald d_k_charAt_8 b6 ?_
  refine ch_sipush (v := 255) d_k_charAt_9 (by decide) ?_
  refine ch_iand d_k_charAt_12 ?_
  refine ch_i2c d_k_charAt_13 ?_
  exact ch_iret (ty := .char) d_k_charAt_14 rfl h.1 (Nat.le_of_ble_eq_true rfl) h.2
