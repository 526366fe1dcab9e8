theorem e_d_takeDigit (g : ch_G) (Q : ch_O → ch_M → Prop) (j1 : Nat) (m : ch_M) (h : ch_J g m_d_takeDigit (ch_rm m_d_takeDigit) (ch_E g m_d_takeDigit Q) 0 [some (.inr (7, 0, 0)), some (.inr (6, j1, 0)), some (.inr (4, 0, 0))] [] m 0) : ch_C g m_d_takeDigit [.inr (7, 0, 0), .inr (6, j1, 0), .inr (4, 0, 0)] m Q :=
  ch_enter mf_d_takeDigit (by intro v hv; simp only [List.mem_cons, List.not_mem_nil, or_false] at hv; rcases hv with rfl | rfl | rfl <;> rfl) (Nat.le_of_ble_eq_true rfl) h
set_option maxHeartbeats 1600000 in
theorem g_d_takeDigit_0 (g : ch_G) (Q : ch_O → ch_M → Prop) (j1 : Nat) (m : ch_M) (h : (ch_C g m_d_digitAt [.inr (7, 0, 0), .inr (6, j1, 0)] m (ch_oi (fun (r1 : Int32) (m2 : ch_M) => (∀ m3 : ch_M, m3 = ch_wr m2 (4, 0, 0) 4 r1 → (ch_C g m_d_passDigit [.inr (7, 0, 0), .inr (6, j1, 0)] m3 (ch_oi (fun (r4 : Int32) (m5 : ch_M) => (narrow .boolean (.int r4) = .int r4) ∧ Q (.inl (some (.inl (.int r4)))) m5)))))))) : ch_J g m_d_takeDigit (ch_rm m_d_takeDigit) (ch_E g m_d_takeDigit Q) 0 [some (.inr (7, 0, 0)), some (.inr (6, j1, 0)), some (.inr (4, 0, 0))] [] m 0 := by
  refine ch_aload_n (i := 2) d_d_takeDigit_0 rfl rfl ?_
  refine ch_aload_n (i := 0) d_d_takeDigit_1 rfl rfl ?_
  refine ch_aload_n (i := 1) d_d_takeDigit_2 rfl rfl ?_
  refine ch_callV (as := [.inr (6, j1, 0)]) d_d_takeDigit_3 lk_d_62 mi_d_digitAt me_d_digitAt rfl rfl rfl ⟨Nat.le_of_ble_eq_true rfl, Nat.le_of_ble_eq_true rfl⟩ (Nat.le_of_ble_eq_true rfl) ⟨Nat.le_of_ble_eq_true rfl, Nat.le_of_ble_eq_true rfl⟩ (ch_mono (ch_Ki (fun r1 m2 h => ?_)) h)
  refine ch_put d_d_takeDigit_6 fp_d_75 rfl rfl rfl ?_
  generalize hmm3 : ch_wr m2 (4, 0, 0) 4 r1 = m3
  replace h := h m3 hmm3.symm
  refine ch_aload_n (i := 0) d_d_takeDigit_9 rfl rfl ?_
  refine ch_aload_n (i := 1) d_d_takeDigit_10 rfl rfl ?_
  refine ch_callV (as := [.inr (6, j1, 0)]) d_d_takeDigit_11 lk_d_68 mi_d_passDigit me_d_passDigit rfl rfl rfl ⟨Nat.le_of_ble_eq_true rfl, Nat.le_of_ble_eq_true rfl⟩ (Nat.le_of_ble_eq_true rfl) ⟨Nat.le_of_ble_eq_true rfl, Nat.le_of_ble_eq_true rfl⟩ (ch_mono (ch_Ki (fun r4 m5 h => ?_)) h)
  exact ch_iret (ty := .boolean) d_d_takeDigit_14 rfl h.1 (Nat.le_of_ble_eq_true rfl) h.2
theorem e_d_takeNumber (g : ch_G) (Q : ch_O → ch_M → Prop) (j1 : Nat) (m : ch_M) (h : ch_J g m_d_takeNumber (ch_rm m_d_takeNumber) (ch_E g m_d_takeNumber Q) 0 [some (.inr (7, 0, 0)), some (.inr (6, j1, 0)), some (.inr (4, 0, 0)), none] [] m 0) : ch_C g m_d_takeNumber [.inr (7, 0, 0), .inr (6, j1, 0), .inr (4, 0, 0)] m Q :=
  ch_enter mf_d_takeNumber (by intro v hv; simp only [List.mem_cons, List.not_mem_nil, or_false] at hv; rcases hv with rfl | rfl | rfl <;> rfl) (Nat.le_of_ble_eq_true rfl) h
set_option maxHeartbeats 1600000 in
theorem g_d_takeNumber_0 (g : ch_G) (Q : ch_O → ch_M → Prop) (j1 : Nat) (m : ch_M) (h : (ch_C g m_d_takeDigit [.inr (7, 0, 0), .inr (6, j1, 0), .inr (4, 0, 0)] m (ch_oi (fun (r1 : Int32) (m2 : ch_M) => ((¬ r1 = 0 → (ch_C g m_d_digitAt [.inr (7, 0, 0), .inr (6, j1, 0)] m2 (ch_oi (fun (r3 : Int32) (m4 : ch_M) => (ch_C g m_d_passDigit [.inr (7, 0, 0), .inr (6, j1, 0)] m4 (ch_oi (fun (r5 : Int32) (m6 : ch_M) => ((r5 = 0 → Q (.inl (some (.inl (.int 1)))) m6) ∧ (¬ r5 = 0 → (∀ m7 : ch_M, m7 = ch_wr m6 (4, 0, 0) 4 (((m6 (4, 0, 0) 4) * 10) + r3) → Q (.inl (some (.inl (.int 1)))) m7)))))))))) ∧ (r1 = 0 → Q (.inl (some (.inl (.int 0)))) m2)))))) : ch_J g m_d_takeNumber (ch_rm m_d_takeNumber) (ch_E g m_d_takeNumber Q) 0 [some (.inr (7, 0, 0)), some (.inr (6, j1, 0)), some (.inr (4, 0, 0)), none] [] m 0 := by
  refine ch_aload_n (i := 0) d_d_takeNumber_0 rfl rfl ?_
  refine ch_aload_n (i := 1) d_d_takeNumber_1 rfl rfl ?_
  refine ch_aload_n (i := 2) d_d_takeNumber_2 rfl rfl ?_
  refine ch_callV (as := [.inr (6, j1, 0), .inr (4, 0, 0)]) d_d_takeNumber_3 lk_d_56 mi_d_takeDigit me_d_takeDigit rfl rfl rfl ⟨Nat.le_of_ble_eq_true rfl, Nat.le_of_ble_eq_true rfl⟩ (Nat.le_of_ble_eq_true rfl) ⟨Nat.le_of_ble_eq_true rfl, Nat.le_of_ble_eq_true rfl⟩ (ch_mono (ch_Ki (fun r1 m2 h => ?_)) h)
  refine ch_if_ne (tgt := 11) d_d_takeNumber_6 (by decide) (fun c => ?_) (fun c => ?_)
  · replace h := h.1 c
    refine ch_aload_n (i := 0) d_d_takeNumber_11 rfl rfl ?_
    refine ch_aload_n (i := 1) d_d_takeNumber_12 rfl rfl ?_
    refine ch_callV (as := [.inr (6, j1, 0)]) d_d_takeNumber_13 lk_d_62 mi_d_digitAt me_d_digitAt rfl rfl rfl ⟨Nat.le_of_ble_eq_true rfl, Nat.le_of_ble_eq_true rfl⟩ (Nat.le_of_ble_eq_true rfl) ⟨Nat.le_of_ble_eq_true rfl, Nat.le_of_ble_eq_true rfl⟩ (ch_mono (ch_Ki (fun r3 m4 h => ?_)) h)
    refine ch_istore_n (i := 3) d_d_takeNumber_16 rfl (Nat.le_of_ble_eq_true rfl) (ls' := [some (.inr (7, 0, 0)), some (.inr (6, j1, 0)), some (.inr (4, 0, 0)), some (.inl (.int r3))]) rfl ?_
    refine ch_aload_n (i := 0) d_d_takeNumber_17 rfl rfl ?_
    refine ch_aload_n (i := 1) d_d_takeNumber_18 rfl rfl ?_
    refine ch_callV (as := [.inr (6, j1, 0)]) d_d_takeNumber_19 lk_d_68 mi_d_passDigit me_d_passDigit rfl rfl rfl ⟨Nat.le_of_ble_eq_true rfl, Nat.le_of_ble_eq_true rfl⟩ (Nat.le_of_ble_eq_true rfl) ⟨Nat.le_of_ble_eq_true rfl, Nat.le_of_ble_eq_true rfl⟩ (ch_mono (ch_Ki (fun r5 m6 h => ?_)) h)
    refine ch_if_eq (tgt := 38) d_d_takeNumber_22 (by decide) (fun c => ?_) (fun c => ?_)
    · replace h := h.1 c
      refine ch_iconst (v := 1) d_d_takeNumber_38 (by decide) ?_
      exact ch_iret (ty := .boolean) d_d_takeNumber_39 rfl rfl (Nat.le_of_ble_eq_true rfl) h
    · replace h := h.2 c
      refine ch_aload_n (i := 2) d_d_takeNumber_25 rfl rfl ?_
      refine ch_aload_n (i := 2) d_d_takeNumber_26 rfl rfl ?_
      refine ch_get (v := .inl (.int (m6 (4, 0, 0) 4))) d_d_takeNumber_27 fl_d_75 rfl ?_
      refine ch_bipush (v := 10) d_d_takeNumber_30 (by decide) ?_
      refine ch_imul d_d_takeNumber_32 ?_
      refine ch_iload_n (i := 3) d_d_takeNumber_33 rfl rfl ?_
      refine ch_iadd d_d_takeNumber_34 ?_
      refine ch_put d_d_takeNumber_35 fp_d_75 rfl rfl rfl ?_
      generalize hmm7 : ch_wr m6 (4, 0, 0) 4 (((m6 (4, 0, 0) 4) * 10) + r3) = m7
      replace h := h m7 hmm7.symm
      refine ch_iconst (v := 1) d_d_takeNumber_38 (by decide) ?_
      exact ch_iret (ty := .boolean) d_d_takeNumber_39 rfl rfl (Nat.le_of_ble_eq_true rfl) h
  · replace h := h.2 c
    refine ch_iconst (v := 0) d_d_takeNumber_9 (by decide) ?_
    exact ch_iret (ty := .boolean) d_d_takeNumber_10 rfl rfl (Nat.le_of_ble_eq_true rfl) h
theorem e_d_takeSteps (g : ch_G) (Q : ch_O → ch_M → Prop) (j1 : Nat) (j2 : Nat) (m : ch_M) (h : ch_J g m_d_takeSteps (ch_rm m_d_takeSteps) (ch_E g m_d_takeSteps Q) 0 [some (.inr (7, 0, 0)), some (.inr (6, j1, 0)), some (.inr (5, j2, 0)), none, none] [] m 0) : ch_C g m_d_takeSteps [.inr (7, 0, 0), .inr (6, j1, 0), .inr (5, j2, 0)] m Q :=
  ch_enter mf_d_takeSteps (by intro v hv; simp only [List.mem_cons, List.not_mem_nil, or_false] at hv; rcases hv with rfl | rfl | rfl <;> rfl) (Nat.le_of_ble_eq_true rfl) h
set_option maxHeartbeats 1600000 in
theorem g_d_takeSteps_0 (g : ch_G) (Q : ch_O → ch_M → Prop) (j1 : Nat) (j2 : Nat) (m : ch_M) (h : (∀ m1 : ch_M, m1 = ch_wr m (5, j2, 0) 1 0 → ch_J g m_d_takeSteps (ch_rm m_d_takeSteps) (ch_E g m_d_takeSteps Q) 7 [some (.inr (7, 0, 0)), some (.inr (6, j1, 0)), some (.inr (5, j2, 0)), some (.inl (.int 0)), none] [] m1 0)) : ch_J g m_d_takeSteps (ch_rm m_d_takeSteps) (ch_E g m_d_takeSteps Q) 0 [some (.inr (7, 0, 0)), some (.inr (6, j1, 0)), some (.inr (5, j2, 0)), none, none] [] m 0 := by
  refine ch_aload_n (i := 2) d_d_takeSteps_0 rfl rfl ?_
  refine ch_iconst (v := 0) d_d_takeSteps_1 (by decide) ?_
  refine ch_put d_d_takeSteps_2 fp_d_78 rfl rfl rfl ?_
  generalize hmm1 : ch_wr m (5, j2, 0) 1 0 = m1
  replace h := h m1 hmm1.symm
  refine ch_iconst (v := 0) d_d_takeSteps_5 (by decide) ?_
  refine ch_istore_n (i := 3) d_d_takeSteps_6 rfl (Nat.le_of_ble_eq_true rfl) (ls' := [some (.inr (7, 0, 0)), some (.inr (6, j1, 0)), some (.inr (5, j2, 0)), some (.inl (.int 0)), none]) rfl ?_
  exact h
set_option maxHeartbeats 1600000 in
theorem g_d_takeSteps_7 (g : ch_G) (Q : ch_O → ch_M → Prop) (j1 : Nat) (j2 : Nat) (x3 : Int32) (o4 : Option ch_V) (m : ch_M) (h : ((12 ≤ x3 → (((m (5, j2, 0) 1) ≤ 0 → Q (.inl (some (.inl (.int 0)))) m) ∧ (¬ (m (5, j2, 0) 1) ≤ 0 → Q (.inl (some (.inl (.int 1)))) m))) ∧ (¬ 12 ≤ x3 → (ch_C g m_d_digitAt [.inr (7, 0, 0), .inr (6, j1, 0)] m (ch_oi (fun (r1 : Int32) (m2 : ch_M) => ((r1 < 1 → (((m2 (5, j2, 0) 1) ≤ 0 → Q (.inl (some (.inl (.int 0)))) m2) ∧ (¬ (m2 (5, j2, 0) 1) ≤ 0 → Q (.inl (some (.inl (.int 1)))) m2))) ∧ (¬ r1 < 1 → ((r1 ≤ 3 → (ch_C g m_s_add [.inr (5, j2, 0), .inl (.int r1)] m2 (ch_ov (fun (m4 : ch_M) => (∀ m5 : ch_M, m5 = ch_wr m4 (7, 0, 0) 0 ((m4 (7, 0, 0) 0) + 1) → ch_J g m_d_takeSteps (ch_rm m_d_takeSteps) (ch_E g m_d_takeSteps Q) 7 [some (.inr (7, 0, 0)), some (.inr (6, j1, 0)), some (.inr (5, j2, 0)), some (.inl (.int (x3 + 1))), some (.inl (.int r1))] [] m5 0))))) ∧ (¬ r1 ≤ 3 → (((m2 (5, j2, 0) 1) ≤ 0 → Q (.inl (some (.inl (.int 0)))) m2) ∧ (¬ (m2 (5, j2, 0) 1) ≤ 0 → Q (.inl (some (.inl (.int 1)))) m2)))))))))))) : ch_J g m_d_takeSteps (ch_rm m_d_takeSteps) (ch_E g m_d_takeSteps Q) 7 [some (.inr (7, 0, 0)), some (.inr (6, j1, 0)), some (.inr (5, j2, 0)), some (.inl (.int x3)), o4] [] m 0 := by
  refine ch_iload_n (i := 3) d_d_takeSteps_7 rfl rfl ?_
  refine ch_bipush (v := 12) d_d_takeSteps_8 (by decide) ?_
  refine ch_icmp_ge (tgt := 57) d_d_takeSteps_10 (by decide) (fun c => ?_) (fun c => ?_)
  · replace h := h.1 c
    refine ch_aload_n (i := 2) d_d_takeSteps_57 rfl rfl ?_
    refine ch_get (v := .inl (.int (m (5, j2, 0) 1))) d_d_takeSteps_58 fl_d_78 rfl ?_
    refine ch_if_le (tgt := 68) d_d_takeSteps_61 (by decide) (fun c => ?_) (fun c => ?_)
    · replace h := h.1 c
      refine ch_iconst (v := 0) d_d_takeSteps_68 (by decide) ?_
      exact ch_iret (ty := .boolean) d_d_takeSteps_69 rfl rfl (Nat.le_of_ble_eq_true rfl) h
    · replace h := h.2 c
      refine ch_iconst (v := 1) d_d_takeSteps_64 (by decide) ?_
      refine ch_goto (tgt := 69) d_d_takeSteps_65 (by decide) ?_
      exact ch_iret (ty := .boolean) d_d_takeSteps_69 rfl rfl (Nat.le_of_ble_eq_true rfl) h
  · replace h := h.2 c
    refine ch_aload_n (i := 0) d_d_takeSteps_13 rfl rfl ?_
    refine ch_aload_n (i := 1) d_d_takeSteps_14 rfl rfl ?_
    refine ch_callV (as := [.inr (6, j1, 0)]) d_d_takeSteps_15 lk_d_62 mi_d_digitAt me_d_digitAt rfl rfl rfl ⟨Nat.le_of_ble_eq_true rfl, Nat.le_of_ble_eq_true rfl⟩ (Nat.le_of_ble_eq_true rfl) ⟨Nat.le_of_ble_eq_true rfl, Nat.le_of_ble_eq_true rfl⟩ (ch_mono (ch_Ki (fun r1 m2 h => ?_)) h)
    refine ch_istore (i := 4) d_d_takeSteps_18 (Nat.le_of_ble_eq_true rfl) (ls' := [some (.inr (7, 0, 0)), some (.inr (6, j1, 0)), some (.inr (5, j2, 0)), some (.inl (.int x3)), some (.inl (.int r1))]) rfl ?_
    refine ch_iload d_d_takeSteps_20 rfl ?_
    refine ch_iconst (v := 1) d_d_takeSteps_22 (by decide) ?_
    refine ch_icmp_lt (tgt := 57) d_d_takeSteps_23 (by decide) (fun c => ?_) (fun c => ?_)
    · replace h := h.1 c
      refine ch_aload_n (i := 2) d_d_takeSteps_57 rfl rfl ?_
      refine ch_get (v := .inl (.int (m2 (5, j2, 0) 1))) d_d_takeSteps_58 fl_d_78 rfl ?_
      refine ch_if_le (tgt := 68) d_d_takeSteps_61 (by decide) (fun c => ?_) (fun c => ?_)
      · replace h := h.1 c
        refine ch_iconst (v := 0) d_d_takeSteps_68 (by decide) ?_
        exact ch_iret (ty := .boolean) d_d_takeSteps_69 rfl rfl (Nat.le_of_ble_eq_true rfl) h
      · replace h := h.2 c
        refine ch_iconst (v := 1) d_d_takeSteps_64 (by decide) ?_
        refine ch_goto (tgt := 69) d_d_takeSteps_65 (by decide) ?_
        exact ch_iret (ty := .boolean) d_d_takeSteps_69 rfl rfl (Nat.le_of_ble_eq_true rfl) h
    · replace h := h.2 c
      refine ch_iload d_d_takeSteps_26 rfl ?_
      refine ch_iconst (v := 3) d_d_takeSteps_28 (by decide) ?_
      refine ch_icmp_le (tgt := 35) d_d_takeSteps_29 (by decide) (fun c => ?_) (fun c => ?_)
      · replace h := h.1 c
        refine ch_aload_n (i := 2) d_d_takeSteps_35 rfl rfl ?_
        refine ch_iload d_d_takeSteps_36 rfl ?_
        refine ch_callV (as := [.inl (.int r1)]) d_d_takeSteps_38 lk_d_83 mi_s_add me_s_add rfl rfl rfl ⟨Nat.le_of_ble_eq_true rfl, Nat.le_of_ble_eq_true rfl⟩ (Nat.le_of_ble_eq_true rfl) ⟨Nat.le_of_ble_eq_true rfl, Nat.le_of_ble_eq_true rfl⟩ (ch_mono (ch_Kv (fun m4 h => ?_)) h)
        refine ch_aload_n (i := 0) d_d_takeSteps_41 rfl rfl ?_
        refine ch_dup d_d_takeSteps_42 rfl ?_
        refine ch_get (v := .inl (.int (m4 (7, 0, 0) 0))) d_d_takeSteps_43 fl_d_9 rfl ?_
        refine ch_iconst (v := 1) d_d_takeSteps_46 (by decide) ?_
        refine ch_iadd d_d_takeSteps_47 ?_
        refine ch_put d_d_takeSteps_48 fp_d_9 rfl rfl rfl ?_
        generalize hmm5 : ch_wr m4 (7, 0, 0) 0 ((m4 (7, 0, 0) 0) + 1) = m5
        replace h := h m5 hmm5.symm
        refine ch_iinc (i := 3) (v := (x3 + 1)) d_d_takeSteps_51 rfl rfl (Nat.le_of_ble_eq_true rfl) (ls' := [some (.inr (7, 0, 0)), some (.inr (6, j1, 0)), some (.inr (5, j2, 0)), some (.inl (.int (x3 + 1))), some (.inl (.int r1))]) rfl ?_
        refine ch_goto (tgt := 7) d_d_takeSteps_54 (by decide) ?_
        exact h
      · replace h := h.2 c
        refine ch_goto (tgt := 57) d_d_takeSteps_32 (by decide) ?_
        refine ch_aload_n (i := 2) d_d_takeSteps_57 rfl rfl ?_
        refine ch_get (v := .inl (.int (m2 (5, j2, 0) 1))) d_d_takeSteps_58 fl_d_78 rfl ?_
        refine ch_if_le (tgt := 68) d_d_takeSteps_61 (by decide) (fun c => ?_) (fun c => ?_)
        · replace h := h.1 c
          refine ch_iconst (v := 0) d_d_takeSteps_68 (by decide) ?_
          exact ch_iret (ty := .boolean) d_d_takeSteps_69 rfl rfl (Nat.le_of_ble_eq_true rfl) h
        · replace h := h.2 c
          refine ch_iconst (v := 1) d_d_takeSteps_64 (by decide) ?_
          refine ch_goto (tgt := 69) d_d_takeSteps_65 (by decide) ?_
          exact ch_iret (ty := .boolean) d_d_takeSteps_69 rfl rfl (Nat.le_of_ble_eq_true rfl) h
theorem e_d_passDigit (g : ch_G) (Q : ch_O → ch_M → Prop) (j1 : Nat) (m : ch_M) (h : ch_J g m_d_passDigit (ch_rm m_d_passDigit) (ch_E g m_d_passDigit Q) 0 [some (.inr (7, 0, 0)), some (.inr (6, j1, 0))] [] m 0) : ch_C g m_d_passDigit [.inr (7, 0, 0), .inr (6, j1, 0)] m Q :=
  ch_enter mf_d_passDigit (by intro v hv; simp only [List.mem_cons, List.not_mem_nil, or_false] at hv; rcases hv with rfl | rfl <;> rfl) (Nat.le_of_ble_eq_true rfl) h
set_option maxHeartbeats 1600000 in
theorem g_d_passDigit_0 (g : ch_G) (Q : ch_O → ch_M → Prop) (j1 : Nat) (m : ch_M) (h : (ch_C g m_d_digitAt [.inr (7, 0, 0), .inr (6, j1, 0)] m (ch_oi (fun (r1 : Int32) (m2 : ch_M) => ((0 ≤ r1 → (∀ m3 : ch_M, m3 = ch_wr m2 (7, 0, 0) 0 ((m2 (7, 0, 0) 0) + 1) → Q (.inl (some (.inl (.int 1)))) m3)) ∧ (¬ 0 ≤ r1 → Q (.inl (some (.inl (.int 0)))) m2)))))) : ch_J g m_d_passDigit (ch_rm m_d_passDigit) (ch_E g m_d_passDigit Q) 0 [some (.inr (7, 0, 0)), some (.inr (6, j1, 0))] [] m 0 := by
  refine ch_aload_n (i := 0) d_d_passDigit_0 rfl rfl ?_
  refine ch_aload_n (i := 1) d_d_passDigit_1 rfl rfl ?_
  refine ch_callV (as := [.inr (6, j1, 0)]) d_d_passDigit_2 lk_d_62 mi_d_digitAt me_d_digitAt rfl rfl rfl ⟨Nat.le_of_ble_eq_true rfl, Nat.le_of_ble_eq_true rfl⟩ (Nat.le_of_ble_eq_true rfl) ⟨Nat.le_of_ble_eq_true rfl, Nat.le_of_ble_eq_true rfl⟩ (ch_mono (ch_Ki (fun r1 m2 h => ?_)) h)
  refine ch_if_ge (tgt := 10) d_d_passDigit_5 (by decide) (fun c => ?_) (fun c => ?_)
  · replace h := h.1 c
    refine ch_aload_n (i := 0) d_d_passDigit_10 rfl rfl ?_
    refine ch_dup d_d_passDigit_11 rfl ?_
    refine ch_get (v := .inl (.int (m2 (7, 0, 0) 0))) d_d_passDigit_12 fl_d_9 rfl ?_
    refine ch_iconst (v := 1) d_d_passDigit_15 (by decide) ?_
    refine ch_iadd d_d_passDigit_16 ?_
    refine ch_put d_d_passDigit_17 fp_d_9 rfl rfl rfl ?_
    generalize hmm3 : ch_wr m2 (7, 0, 0) 0 ((m2 (7, 0, 0) 0) + 1) = m3
    replace h := h m3 hmm3.symm
    refine ch_iconst (v := 1) d_d_passDigit_20 (by decide) ?_
    exact ch_iret (ty := .boolean) d_d_passDigit_21 rfl rfl (Nat.le_of_ble_eq_true rfl) h
  · replace h := h.2 c
    refine ch_iconst (v := 0) d_d_passDigit_8 (by decide) ?_
    exact ch_iret (ty := .boolean) d_d_passDigit_9 rfl rfl (Nat.le_of_ble_eq_true rfl) h
theorem e_d_digitAt (g : ch_G) (Q : ch_O → ch_M → Prop) (j1 : Nat) (m : ch_M) (h : ch_J g m_d_digitAt (ch_rm m_d_digitAt) (ch_E g m_d_digitAt Q) 0 [some (.inr (7, 0, 0)), some (.inr (6, j1, 0)), none] [] m 0) : ch_C g m_d_digitAt [.inr (7, 0, 0), .inr (6, j1, 0)] m Q :=
  ch_enter mf_d_digitAt (by intro v hv; simp only [List.mem_cons, List.not_mem_nil, or_false] at hv; rcases hv with rfl | rfl <;> rfl) (Nat.le_of_ble_eq_true rfl) h
set_option maxHeartbeats 1600000 in
theorem g_d_digitAt_0 (g : ch_G) (Q : ch_O → ch_M → Prop) (j1 : Nat) (m : ch_M) (h : (ch_C g m_d_signAt [.inr (7, 0, 0), .inr (6, j1, 0)] m (ch_oi (fun (r1 : Int32) (m2 : ch_M) => ((r1 < 48 → Q (.inl (some (.inl (.int (-1))))) m2) ∧ (¬ r1 < 48 → ((57 < r1 → Q (.inl (some (.inl (.int (-1))))) m2) ∧ (¬ 57 < r1 → Q (.inl (some (.inl (.int (r1 - 48))))) m2)))))))) : ch_J g m_d_digitAt (ch_rm m_d_digitAt) (ch_E g m_d_digitAt Q) 0 [some (.inr (7, 0, 0)), some (.inr (6, j1, 0)), none] [] m 0 := by
  refine ch_aload_n (i := 0) d_d_digitAt_0 rfl rfl ?_
  refine ch_aload_n (i := 1) d_d_digitAt_1 rfl rfl ?_
  refine ch_callV (as := [.inr (6, j1, 0)]) d_d_digitAt_2 lk_d_28 mi_d_signAt me_d_signAt rfl rfl rfl ⟨Nat.le_of_ble_eq_true rfl, Nat.le_of_ble_eq_true rfl⟩ (Nat.le_of_ble_eq_true rfl) ⟨Nat.le_of_ble_eq_true rfl, Nat.le_of_ble_eq_true rfl⟩ (ch_mono (ch_Ki (fun r1 m2 h => ?_)) h)
  refine ch_istore_n (i := 2) d_d_digitAt_5 rfl (Nat.le_of_ble_eq_true rfl) (ls' := [some (.inr (7, 0, 0)), some (.inr (6, j1, 0)), some (.inl (.int r1))]) rfl ?_
  refine ch_iload_n (i := 2) d_d_digitAt_6 rfl rfl ?_
  refine ch_bipush (v := 48) d_d_digitAt_7 (by decide) ?_
  refine ch_icmp_lt (tgt := 25) d_d_digitAt_9 (by decide) (fun c => ?_) (fun c => ?_)
  · replace h := h.1 c
    refine ch_iconst (v := (-1)) d_d_digitAt_25 (by decide) ?_
    exact ch_iret (ty := .int) d_d_digitAt_26 rfl rfl (Nat.le_of_ble_eq_true rfl) h
  · replace h := h.2 c
    refine ch_iload_n (i := 2) d_d_digitAt_12 rfl rfl ?_
    refine ch_bipush (v := 57) d_d_digitAt_13 (by decide) ?_
    refine ch_icmp_gt (tgt := 25) d_d_digitAt_15 (by decide) (fun c => ?_) (fun c => ?_)
    · replace h := h.1 c
      refine ch_iconst (v := (-1)) d_d_digitAt_25 (by decide) ?_
      exact ch_iret (ty := .int) d_d_digitAt_26 rfl rfl (Nat.le_of_ble_eq_true rfl) h
    · replace h := h.2 c
      refine ch_iload_n (i := 2) d_d_digitAt_18 rfl rfl ?_
      refine ch_bipush (v := 48) d_d_digitAt_19 (by decide) ?_
      refine ch_isub d_d_digitAt_21 ?_
      refine ch_goto (tgt := 26) d_d_digitAt_22 (by decide) ?_
      exact ch_iret (ty := .int) d_d_digitAt_26 rfl rfl (Nat.le_of_ble_eq_true rfl) h
theorem e_d_signAt (g : ch_G) (Q : ch_O → ch_M → Prop) (j1 : Nat) (m : ch_M) (h : ch_J g m_d_signAt (ch_rm m_d_signAt) (ch_E g m_d_signAt Q) 0 [some (.inr (7, 0, 0)), some (.inr (6, j1, 0))] [] m 0) : ch_C g m_d_signAt [.inr (7, 0, 0), .inr (6, j1, 0)] m Q :=
  ch_enter mf_d_signAt (by intro v hv; simp only [List.mem_cons, List.not_mem_nil, or_false] at hv; rcases hv with rfl | rfl <;> rfl) (Nat.le_of_ble_eq_true rfl) h
set_option maxHeartbeats 1600000 in
theorem g_d_signAt_0 (g : ch_G) (Q : ch_O → ch_M → Prop) (j1 : Nat) (m : ch_M) (h : (((m (7, 0, 0) 0) < 0 → Q (.inl (some (.inl (.int (-1))))) m) ∧ (¬ (m (7, 0, 0) 0) < 0 → (((m (6, j1, 0) 1) ≤ (m (7, 0, 0) 0) → Q (.inl (some (.inl (.int (-1))))) m) ∧ (¬ (m (6, j1, 0) 1) ≤ (m (7, 0, 0) 0) → ((60 ≤ (m (7, 0, 0) 0) → Q (.inl (some (.inl (.int (-1))))) m) ∧ (¬ 60 ≤ (m (7, 0, 0) 0) → (vp_in (m (7, 0, 0) 0) 60) ∧ Q (.inl (some (.inl (.int (m (6, j1, 1) (Int32.toNatClampNeg (m (7, 0, 0) 0))))))) m))))))) : ch_J g m_d_signAt (ch_rm m_d_signAt) (ch_E g m_d_signAt Q) 0 [some (.inr (7, 0, 0)), some (.inr (6, j1, 0))] [] m 0 := by
  refine ch_aload_n (i := 0) d_d_signAt_0 rfl rfl ?_
  refine ch_get (v := .inl (.int (m (7, 0, 0) 0))) d_d_signAt_1 fl_d_9 rfl ?_
  refine ch_if_lt (tgt := 42) d_d_signAt_4 (by decide) (fun c => ?_) (fun c => ?_)
  · replace h := h.1 c
    refine ch_iconst (v := (-1)) d_d_signAt_42 (by decide) ?_
    exact ch_iret (ty := .int) d_d_signAt_43 rfl rfl (Nat.le_of_ble_eq_true rfl) h
  · replace h := h.2 c
    refine ch_aload_n (i := 0) d_d_signAt_7 rfl rfl ?_
    refine ch_get (v := .inl (.int (m (7, 0, 0) 0))) d_d_signAt_8 fl_d_9 rfl ?_
    refine ch_aload_n (i := 1) d_d_signAt_11 rfl rfl ?_
    refine ch_get (v := .inl (.int (m (6, j1, 0) 1))) d_d_signAt_12 fl_d_19 rfl ?_
    refine ch_icmp_ge (tgt := 42) d_d_signAt_15 (by decide) (fun c => ?_) (fun c => ?_)
    · replace h := h.1 c
      refine ch_iconst (v := (-1)) d_d_signAt_42 (by decide) ?_
      exact ch_iret (ty := .int) d_d_signAt_43 rfl rfl (Nat.le_of_ble_eq_true rfl) h
    · replace h := h.2 c
      refine ch_aload_n (i := 0) d_d_signAt_18 rfl rfl ?_
      refine ch_get (v := .inl (.int (m (7, 0, 0) 0))) d_d_signAt_19 fl_d_9 rfl ?_
      refine ch_aload_n (i := 1) d_d_signAt_22 rfl rfl ?_
      refine ch_get (v := .inr (6, j1, 1)) d_d_signAt_23 fl_d_87 rfl ?_
      refine ch_alen (v := 60) d_d_signAt_26 (by decide) (t := 1) (by decide) rfl rfl ?_
      refine ch_icmp_ge (tgt := 42) d_d_signAt_27 (by decide) (fun c => ?_) (fun c => ?_)
      · replace h := h.1 c
        refine ch_iconst (v := (-1)) d_d_signAt_42 (by decide) ?_
        exact ch_iret (ty := .int) d_d_signAt_43 rfl rfl (Nat.le_of_ble_eq_true rfl) h
      · replace h := h.2 c
        refine ch_aload_n (i := 1) d_d_signAt_30 rfl rfl ?_
        refine ch_get (v := .inr (6, j1, 1)) d_d_signAt_31 fl_d_87 rfl ?_
        refine ch_aload_n (i := 0) d_d_signAt_34 rfl rfl ?_
        refine ch_get (v := .inl (.int (m (7, 0, 0) 0))) d_d_signAt_35 fl_d_9 rfl ?_
        have b1 := h.1
        replace h := h.2
        refine ch_cald (n := 60) d_d_signAt_38 (by decide) rfl b1 ?_
        refine ch_goto (tgt := 43) d_d_signAt_39 (by decide) ?_
        exact ch_iret (ty := .int) d_d_signAt_43 rfl rfl (Nat.le_of_ble_eq_true rfl) h
