theorem e_d_passDigit (g : ch_G) (Q : ch_O → ch_M → Prop) (j1 : Nat) (m : ch_M) (h : ch_J g m_d_passDigit (ch_rm m_d_passDigit) (ch_E g m_d_passDigit Q) 0 [some (.inr (7, 0, 0)), some (.inr (6, j1, 0))] [] m 0) : ch_C g m_d_passDigit [.inr (7, 0, 0), .inr (6, j1, 0)] m Q :=
  ch_enter mf_d_passDigit (by intro v hv; simp only [List.mem_cons, List.not_mem_nil, or_false] at hv; rcases hv with rfl | rfl <;> rfl) (Nat.le_of_ble_eq_true rfl) h
set_option maxHeartbeats 1600000 in
theorem g_d_passDigit_0 (g : ch_G) (Q : ch_O → ch_M → Prop) (j1 : Nat) (m : ch_M) (h : (((0 ≤ (d_dg (ch_ob m 6 j1) (m (7, 0, 0) 0)) → (∀ m4 : ch_M, m4 = ch_wr m (7, 0, 0) 0 ((m (7, 0, 0) 0) + 1) → Q (.inl (some (.inl (.int 1)))) m4)) ∧ (¬ 0 ≤ (d_dg (ch_ob m 6 j1) (m (7, 0, 0) 0)) → Q (.inl (some (.inl (.int 0)))) m)))) : ch_J g m_d_passDigit (ch_rm m_d_passDigit) (ch_E g m_d_passDigit Q) 0 [some (.inr (7, 0, 0)), some (.inr (6, j1, 0))] [] m 0 := by
  refine ch_aload_n (i := 0) d_d_passDigit_0 rfl rfl ?_
  refine ch_aload_n (i := 1) d_d_passDigit_1 rfl rfl ?_
  refine ch_callV (as := [.inr (6, j1, 0)]) d_d_passDigit_2 lk_d_62 mi_d_digitAt me_d_digitAt rfl rfl rfl ⟨Nat.le_of_ble_eq_true rfl, Nat.le_of_ble_eq_true rfl⟩ (Nat.le_of_ble_eq_true rfl) ⟨Nat.le_of_ble_eq_true rfl, Nat.le_of_ble_eq_true rfl⟩ (ch_mono (ch_Ki (fun r1 m2 q3 => ?_)) (s_d_digitAt g (fun (r_ : Int32) (m_ : ch_M) => ((d_dg (ch_ob m 6 j1) (m (7, 0, 0) 0)) = r_ ∧ m = m_)) (j1) m ⟨rfl, rfl⟩))
  obtain ⟨rfl, rfl⟩ := q3
  replace h := h
  refine ch_if_ge (tgt := 10) d_d_passDigit_5 (by decide) (fun c => ?_) (fun c => ?_)
  · replace h := h.1 c
    refine ch_aload_n (i := 0) d_d_passDigit_10 rfl rfl ?_
    refine ch_dup d_d_passDigit_11 rfl ?_
    refine ch_get (v := .inl (.int (m (7, 0, 0) 0))) d_d_passDigit_12 fl_d_9 rfl ?_
    refine ch_iconst (v := 1) d_d_passDigit_15 (by decide) ?_
    refine ch_iadd d_d_passDigit_16 ?_
    refine ch_put d_d_passDigit_17 fp_d_9 rfl rfl rfl ?_
    generalize hmm4 : ch_wr m (7, 0, 0) 0 ((m (7, 0, 0) 0) + 1) = m4
    replace h := h m4 hmm4.symm
    refine ch_iconst (v := 1) d_d_passDigit_20 (by decide) ?_
    exact ch_iret (ty := .boolean) d_d_passDigit_21 rfl rfl (Nat.le_of_ble_eq_true rfl) h
  · replace h := h.2 c
    refine ch_iconst (v := 0) d_d_passDigit_8 (by decide) ?_
    exact ch_iret (ty := .boolean) d_d_passDigit_9 rfl rfl (Nat.le_of_ble_eq_true rfl) h
