theorem e_q_charAt (g : ch_G) (Q : ch_O → ch_M → Prop) (j : Nat) (p1 : Int32) (m : ch_M) (h : ch_J g m_q_charAt (ch_rm m_q_charAt) (ch_E g m_q_charAt Q) 0 [some (.inr (12, j, 0)), some (.inl (.int p1))] [] m 0) : ch_C g m_q_charAt [.inr (12, j, 0), .inl (.int p1)] m Q :=
  ch_enter mf_q_charAt (by intro v hv; simp only [List.mem_cons, List.not_mem_nil, or_false] at hv; rcases hv with rfl | rfl <;> rfl) (Nat.le_of_ble_eq_true rfl) h
set_option maxHeartbeats 1600000 in
theorem g_q_charAt_0 (g : ch_G) (Q : ch_O → ch_M → Prop) (j : Nat) (p1 : Int32) (m : ch_M) (h : ((vp_in p1 (ch_tn g j)) ∧ (ch_tn g j < 2 ^ 31) ∧ ((narrow .char (.int (k_ch (ch_tb g j (Int32.toNatClampNeg p1)))) = .int (k_ch (ch_tb g j (Int32.toNatClampNeg p1)))) ∧ Q (.inl (some (.inl (.int (k_ch (ch_tb g j (Int32.toNatClampNeg p1))))))) m))) : ch_J g m_q_charAt (ch_rm m_q_charAt) (ch_E g m_q_charAt Q) 0 [some (.inr (12, j, 0)), some (.inl (.int p1))] [] m 0 := by
  refine ch_aload_n (i := 0) d_q_charAt_0 rfl rfl ?_
  refine ch_callT (as := []) d_q_charAt_1 lk_q_492 mi_q_isLatin1 me_q_isLatin1 rfl rfl rfl ⟨Nat.le_of_ble_eq_true rfl, Nat.le_of_ble_eq_true rfl⟩ (Nat.le_of_ble_eq_true rfl) ⟨Nat.le_of_ble_eq_true rfl, Nat.le_of_ble_eq_true rfl⟩ (ch_mono (ch_Ki (fun r1 m2 q3 => ?_)) (s_q_isLatin1 g (fun (r_ : Int32) (m_ : ch_M) => (1 = r_ ∧ m = m_)) (j) m ⟨rfl, rfl⟩))
  obtain ⟨rfl, rfl⟩ := q3
  replace h := h
  refine ch_if_eq (tgt := 16) d_q_charAt_4 (by decide) (fun c => absurd c (by decide)) (fun _ => ?_)
  refine ch_aload_n (i := 0) d_q_charAt_7 rfl rfl ?_
  refine ch_getVa d_q_charAt_8 fl_q_9 ?_
  refine ch_iload_n (i := 1) d_q_charAt_11 rfl rfl ?_
  have b7 := h.1
  replace h := h.2
  have b8 := h.1
  replace h := h.2
  refine ch_callS (as := [.inr (13, j, 0), .inl (.int p1)]) d_q_charAt_12 lk_q_495 ms_k_charAt rfl rfl ⟨Nat.le_of_ble_eq_true rfl, Nat.le_of_ble_eq_true rfl⟩ (Nat.le_of_ble_eq_true rfl) ⟨Nat.le_of_ble_eq_true rfl, Nat.le_of_ble_eq_true rfl⟩ (ch_mono (ch_Ki (fun r4 m5 q6 => ?_)) (s_k_charAt g (fun (r_ : Int32) (m_ : ch_M) => ((k_ch (ch_tb g j (Int32.toNatClampNeg p1))) = r_ ∧ m = m_)) (j) (p1) m ⟨b7, b8, ⟨rfl, rfl⟩⟩))
  obtain ⟨rfl, rfl⟩ := q6
  replace h := h
  exact ch_iret (ty := .char) d_q_charAt_15 rfl h.1 (Nat.le_of_ble_eq_true rfl) h.2
