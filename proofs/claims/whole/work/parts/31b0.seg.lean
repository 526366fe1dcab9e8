theorem e_m_pairs (g : ch_G) (Q : ch_O → ch_M → Prop) (p1 : Int32) (p2 : Int32) (p3 : Int32) (m : ch_M) (h : ch_J g m_m_pairs (ch_rm m_m_pairs) (ch_E g m_m_pairs Q) 0 [some (.inr (9, 0, 0)), some (.inl (.int p1)), some (.inl (.int p2)), some (.inl (.int p3))] [] m 0) : ch_C g m_m_pairs [.inr (9, 0, 0), .inl (.int p1), .inl (.int p2), .inl (.int p3)] m Q :=
  ch_enter mf_m_pairs (by intro v hv; simp only [List.mem_cons, List.not_mem_nil, or_false] at hv; rcases hv with rfl | rfl | rfl | rfl <;> rfl) (Nat.le_of_ble_eq_true rfl) h
set_option maxHeartbeats 1600000 in
theorem g_m_pairs_0 (g : ch_G) (Q : ch_O → ch_M → Prop) (p1 : Int32) (p2 : Int32) (p3 : Int32) (m : ch_M) (h : (vp_in (m (9, 0, 0) 8) 80) ∧ ((∀ m2 : ch_M, m2 = ch_os m 9 0 (m_sgB (ch_ob m 9 0) ((Int32.toUInt32 (48 + p1) % 65536).toInt32)) → (vp_in (m2 (9, 0, 0) 8) 80) ∧ ((∀ m6 : ch_M, m6 = ch_os m2 9 0 (m_sgB (ch_ob m2 9 0) p2) → (vp_in (m6 (9, 0, 0) 8) 80) ∧ ((∀ m10 : ch_M, m10 = ch_os m6 9 0 (m_sgB (ch_ob m6 9 0) ((Int32.toUInt32 (48 + p3) % 65536).toInt32)) → Q (.inl none) m10))))))) : ch_J g m_m_pairs (ch_rm m_m_pairs) (ch_E g m_m_pairs Q) 0 [some (.inr (9, 0, 0)), some (.inl (.int p1)), some (.inl (.int p2)), some (.inl (.int p3))] [] m 0 := by
  refine ch_aload_n (i := 0) d_m_pairs_0 rfl rfl ?_
  refine ch_bipush (v := 48) d_m_pairs_1 (by decide) ?_
  refine ch_iload_n (i := 1) d_m_pairs_3 rfl rfl ?_
  refine ch_iadd d_m_pairs_4 ?_
  refine ch_i2c d_m_pairs_5 ?_
  have b4 := h.1
  replace h := h.2
  refine ch_callV (as := [.inl (.int ((Int32.toUInt32 (48 + p1) % 65536).toInt32))]) d_m_pairs_6 lk_m_242 mi_m_signs me_m_signs rfl rfl rfl ⟨Nat.le_of_ble_eq_true rfl, Nat.le_of_ble_eq_true rfl⟩ (Nat.le_of_ble_eq_true rfl) ⟨Nat.le_of_ble_eq_true rfl, Nat.le_of_ble_eq_true rfl⟩ (ch_mono (ch_Kv (fun m2 q3 => ?_)) (s_m_signs g (fun (m_ : ch_M) => (m_ = ch_os m 9 0 (m_sgB (ch_ob m 9 0) ((Int32.toUInt32 (48 + p1) % 65536).toInt32)))) (((Int32.toUInt32 (48 + p1) % 65536).toInt32)) m ⟨b4, rfl⟩))
  have hm_ := q3
  replace h := h m2 hm_
  refine ch_aload_n (i := 0) d_m_pairs_9 rfl rfl ?_
  refine ch_iload_n (i := 2) d_m_pairs_10 rfl rfl ?_
  have b8 := h.1
  replace h := h.2
  refine ch_callV (as := [.inl (.int p2)]) d_m_pairs_11 lk_m_242 mi_m_signs me_m_signs rfl rfl rfl ⟨Nat.le_of_ble_eq_true rfl, Nat.le_of_ble_eq_true rfl⟩ (Nat.le_of_ble_eq_true rfl) ⟨Nat.le_of_ble_eq_true rfl, Nat.le_of_ble_eq_true rfl⟩ (ch_mono (ch_Kv (fun m6 q7 => ?_)) (s_m_signs g (fun (m_ : ch_M) => (m_ = ch_os m2 9 0 (m_sgB (ch_ob m2 9 0) p2))) (p2) m2 ⟨b8, rfl⟩))
  have hm_ := q7
  replace h := h m6 hm_
  refine ch_aload_n (i := 0) d_m_pairs_14 rfl rfl ?_
  refine ch_bipush (v := 48) d_m_pairs_15 (by decide) ?_
  refine ch_iload_n (i := 3) d_m_pairs_17 rfl rfl ?_
  refine ch_iadd d_m_pairs_18 ?_
  refine ch_i2c d_m_pairs_19 ?_
  have b12 := h.1
  replace h := h.2
  refine ch_callV (as := [.inl (.int ((Int32.toUInt32 (48 + p3) % 65536).toInt32))]) d_m_pairs_20 lk_m_242 mi_m_signs me_m_signs rfl rfl rfl ⟨Nat.le_of_ble_eq_true rfl, Nat.le_of_ble_eq_true rfl⟩ (Nat.le_of_ble_eq_true rfl) ⟨Nat.le_of_ble_eq_true rfl, Nat.le_of_ble_eq_true rfl⟩ (ch_mono (ch_Kv (fun m10 q11 => ?_)) (s_m_signs g (fun (m_ : ch_M) => (m_ = ch_os m6 9 0 (m_sgB (ch_ob m6 9 0) ((Int32.toUInt32 (48 + p3) % 65536).toInt32)))) (((Int32.toUInt32 (48 + p3) % 65536).toInt32)) m6 ⟨b12, rfl⟩))
  have hm_ := q11
  replace h := h m10 hm_
  exact ch_vret d_m_pairs_23 rfl (Nat.le_of_ble_eq_true rfl) h
