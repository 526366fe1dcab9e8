theorem e_d_digitAt (g : ch_G) (Q : ch_O → ch_M → Prop) (j1 : Nat) (m : ch_M) (h : ch_J g m_d_digitAt (ch_rm m_d_digitAt) (ch_E g m_d_digitAt Q) 0 [some (.inr (7, 0, 0)), some (.inr (6, j1, 0)), none] [] m 0) : ch_C g m_d_digitAt [.inr (7, 0, 0), .inr (6, j1, 0)] m Q :=
  ch_enter mf_d_digitAt (by intro v hv; simp only [List.mem_cons, List.not_mem_nil, or_false] at hv; rcases hv with rfl | rfl <;> rfl) (Nat.le_of_ble_eq_true rfl) h
set_option maxHeartbeats 1600000 in
theorem g_d_digitAt_0 (g : ch_G) (Q : ch_O → ch_M → Prop) (j1 : Nat) (m : ch_M) (h : ((((d_sg (ch_ob m 6 j1) (m (7, 0, 0) 0)) < 48 → Q (.inl (some (.inl (.int (-1))))) m) ∧ (¬ (d_sg (ch_ob m 6 j1) (m (7, 0, 0) 0)) < 48 → ((57 < (d_sg (ch_ob m 6 j1) (m (7, 0, 0) 0)) → Q (.inl (some (.inl (.int (-1))))) m) ∧ (¬ 57 < (d_sg (ch_ob m 6 j1) (m (7, 0, 0) 0)) → Q (.inl (some (.inl (.int ((d_sg (ch_ob m 6 j1) (m (7, 0, 0) 0)) - 48))))) m)))))) : ch_J g m_d_digitAt (ch_rm m_d_digitAt) (ch_E g m_d_digitAt Q) 0 [some (.inr (7, 0, 0)), some (.inr (6, j1, 0)), none] [] m 0 := by
  refine ch_aload_n (i := 0) d_d_digitAt_0 rfl rfl ?_
  refine ch_aload_n (i := 1) d_d_digitAt_1 rfl rfl ?_
  refine ch_callV (as := [.inr (6, j1, 0)]) d_d_digitAt_2 lk_d_28 mi_d_signAt me_d_signAt rfl rfl rfl ⟨Nat.le_of_ble_eq_true rfl, Nat.le_of_ble_eq_true rfl⟩ (Nat.le_of_ble_eq_true rfl) ⟨Nat.le_of_ble_eq_true rfl, Nat.le_of_ble_eq_true rfl⟩ (ch_mono (ch_Ki (fun r1 m2 q3 => ?_)) (s_d_signAt g (fun (r_ : Int32) (m_ : ch_M) => ((d_sg (ch_ob m 6 j1) (m (7, 0, 0) 0)) = r_ ∧ m = m_)) (j1) m ⟨rfl, rfl⟩))
  obtain ⟨rfl, rfl⟩ := q3
  replace h := h
  refine ch_istore_n (i := 2) d_d_digitAt_5 rfl (Nat.le_of_ble_eq_true rfl) (ls' := [some (.inr (7, 0, 0)), some (.inr (6, j1, 0)), some (.inl (.int (d_sg (ch_ob m 6 j1) (m (7, 0, 0) 0))))]) rfl ?_
  refine ch_iload_n (i := 2) d_d_digitAt_6 rfl rfl ?_
  refine ch_bipush (v := 48) d_d_digitAt_7 (by decide) ?_
  refine ch_icmp_lt (tgt := 25) d_d_digitAt_9 (by decide) (fun c => ?_) (fun c => ?_)
  · replace h := h.1 c
    refine ch_iconst (v := (-1)) d_d_digitAt_25 (by decide) ?_
    exact ch_iret (ty := .int) d_d_digitAt_26 rfl rfl (Nat.le_of_ble_eq_true rfl) h
  · replace h := h.2 c
    refine ch_iload_n (i := 2) d_d_digitAt_12 rfl rfl ?_
    refine ch_bipush (v := 57) d_d_digitAt_13 (by decide) ?_
    refine ch_icmp_gt (tgt := 25) d_d_digitAt_15 (by decide) (fun c => ?_) (fun c => ?_)
    · replace h := h.1 c
      refine ch_iconst (v := (-1)) d_d_digitAt_25 (by decide) ?_
      exact ch_iret (ty := .int) d_d_digitAt_26 rfl rfl (Nat.le_of_ble_eq_true rfl) h
    · replace h := h.2 c
      refine ch_iload_n (i := 2) d_d_digitAt_18 rfl rfl ?_
      refine ch_bipush (v := 48) d_d_digitAt_19 (by decide) ?_
      refine ch_isub d_d_digitAt_21 ?_
      refine ch_goto (tgt := 26) d_d_digitAt_22 (by decide) ?_
      exact ch_iret (ty := .int) d_d_digitAt_26 rfl rfl (Nat.le_of_ble_eq_true rfl) h
theorem e_d_takeSign (g : ch_G) (Q : ch_O → ch_M → Prop) (j1 : Nat) (p2 : Int32) (m : ch_M) (h : ch_J g m_d_takeSign (ch_rm m_d_takeSign) (ch_E g m_d_takeSign Q) 0 [some (.inr (7, 0, 0)), some (.inr (6, j1, 0)), some (.inl (.int p2))] [] m 0) : ch_C g m_d_takeSign [.inr (7, 0, 0), .inr (6, j1, 0), .inl (.int p2)] m Q :=
  ch_enter mf_d_takeSign (by intro v hv; simp only [List.mem_cons, List.not_mem_nil, or_false] at hv; rcases hv with rfl | rfl | rfl <;> rfl) (Nat.le_of_ble_eq_true rfl) h
set_option maxHeartbeats 1600000 in
theorem g_d_takeSign_0 (g : ch_G) (Q : ch_O → ch_M → Prop) (j1 : Nat) (p2 : Int32) (m : ch_M) (h : ((((d_sg (ch_ob m 6 j1) (m (7, 0, 0) 0)) = p2 → (∀ m4 : ch_M, m4 = ch_wr m (7, 0, 0) 0 ((m (7, 0, 0) 0) + 1) → Q (.inl (some (.inl (.int 1)))) m4)) ∧ (¬ (d_sg (ch_ob m 6 j1) (m (7, 0, 0) 0)) = p2 → Q (.inl (some (.inl (.int 0)))) m)))) : ch_J g m_d_takeSign (ch_rm m_d_takeSign) (ch_E g m_d_takeSign Q) 0 [some (.inr (7, 0, 0)), some (.inr (6, j1, 0)), some (.inl (.int p2))] [] m 0 := by
  refine ch_aload_n (i := 0) d_d_takeSign_0 rfl rfl ?_
  refine ch_aload_n (i := 1) d_d_takeSign_1 rfl rfl ?_
  refine ch_callV (as := [.inr (6, j1, 0)]) d_d_takeSign_2 lk_d_28 mi_d_signAt me_d_signAt rfl rfl rfl ⟨Nat.le_of_ble_eq_true rfl, Nat.le_of_ble_eq_true rfl⟩ (Nat.le_of_ble_eq_true rfl) ⟨Nat.le_of_ble_eq_true rfl, Nat.le_of_ble_eq_true rfl⟩ (ch_mono (ch_Ki (fun r1 m2 q3 => ?_)) (s_d_signAt g (fun (r_ : Int32) (m_ : ch_M) => ((d_sg (ch_ob m 6 j1) (m (7, 0, 0) 0)) = r_ ∧ m = m_)) (j1) m ⟨rfl, rfl⟩))
  obtain ⟨rfl, rfl⟩ := q3
  replace h := h
  refine ch_iload_n (i := 2) d_d_takeSign_5 rfl rfl ?_
  refine ch_icmp_eq (tgt := 11) d_d_takeSign_6 (by decide) (fun c => ?_) (fun c => ?_)
  · replace h := h.1 c
    refine ch_aload_n (i := 0) d_d_takeSign_11 rfl rfl ?_
    refine ch_dup d_d_takeSign_12 rfl ?_
    refine ch_get (v := .inl (.int (m (7, 0, 0) 0))) d_d_takeSign_13 fl_d_9 rfl ?_
    refine ch_iconst (v := 1) d_d_takeSign_16 (by decide) ?_
    refine ch_iadd d_d_takeSign_17 ?_
    refine ch_put d_d_takeSign_18 fp_d_9 rfl rfl rfl ?_
    generalize hmm4 : ch_wr m (7, 0, 0) 0 ((m (7, 0, 0) 0) + 1) = m4
    replace h := h m4 hmm4.symm
    refine ch_iconst (v := 1) d_d_takeSign_21 (by decide) ?_
    exact ch_iret (ty := .boolean) d_d_takeSign_22 rfl rfl (Nat.le_of_ble_eq_true rfl) h
  · replace h := h.2 c
    refine ch_iconst (v := 0) d_d_takeSign_9 (by decide) ?_
    exact ch_iret (ty := .boolean) d_d_takeSign_10 rfl rfl (Nat.le_of_ble_eq_true rfl) h
