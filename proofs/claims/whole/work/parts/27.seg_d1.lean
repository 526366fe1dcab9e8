theorem e_d_takeDigit (g : ch_G) (Q : ch_O → ch_M → Prop) (j1 : Nat) (m : ch_M) (h : ch_J g m_d_takeDigit (ch_rm m_d_takeDigit) (ch_E g m_d_takeDigit Q) 0 [some (.inr (7, 0, 0)), some (.inr (6, j1, 0)), some (.inr (4, 0, 0))] [] m 0) : ch_C g m_d_takeDigit [.inr (7, 0, 0), .inr (6, j1, 0), .inr (4, 0, 0)] m Q :=
  ch_enter mf_d_takeDigit (by intro v hv; simp only [List.mem_cons, List.not_mem_nil, or_false] at hv; rcases hv with rfl | rfl | rfl <;> rfl) (Nat.le_of_ble_eq_true rfl) h
set_option maxHeartbeats 1600000 in
theorem g_d_takeDigit_0 (g : ch_G) (Q : ch_O → ch_M → Prop) (j1 : Nat) (m : ch_M) (h : (ch_C g m_d_digitAt [.inr (7, 0, 0), .inr (6, j1, 0)] m (ch_oi (fun (r1 : Int32) (m2 : ch_M) => (∀ m3 : ch_M, m3 = ch_wr m2 (4, 0, 0) 4 r1 → (ch_C g m_d_passDigit [.inr (7, 0, 0), .inr (6, j1, 0)] m3 (ch_oi (fun (r4 : Int32) (m5 : ch_M) => (narrow .boolean (.int r4) = .int r4) ∧ Q (.inl (some (.inl (.int r4)))) m5)))))))) : ch_J g m_d_takeDigit (ch_rm m_d_takeDigit) (ch_E g m_d_takeDigit Q) 0 [some (.inr (7, 0, 0)), some (.inr (6, j1, 0)), some (.inr (4, 0, 0))] [] m 0 := by
  refine ch_aload_n (i := 2) d_d_takeDigit_0 rfl rfl ?_
  refine ch_aload_n (i := 0) d_d_takeDigit_1 rfl rfl ?_
  refine ch_aload_n (i := 1) d_d_takeDigit_2 rfl rfl ?_
  refine ch_callV (as := [.inr (6, j1, 0)]) d_d_takeDigit_3 lk_d_62 mi_d_digitAt me_d_digitAt rfl rfl rfl ⟨Nat.le_of_ble_eq_true rfl, Nat.le_of_ble_eq_true rfl⟩ (Nat.le_of_ble_eq_true rfl) ⟨Nat.le_of_ble_eq_true rfl, Nat.le_of_ble_eq_true rfl⟩ (ch_mono (ch_Ki (fun r1 m2 h => ?_)) h)
  refine ch_put d_d_takeDigit_6 fp_d_75 rfl rfl rfl ?_
  generalize hmm3 : ch_wr m2 (4, 0, 0) 4 r1 = m3
  replace h := h m3 hmm3.symm
  refine ch_aload_n (i := 0) d_d_takeDigit_9 rfl rfl ?_
  refine ch_aload_n (i := 1) d_d_takeDigit_10 rfl rfl ?_
  refine ch_callV (as := [.inr (6, j1, 0)]) d_d_takeDigit_11 lk_d_68 mi_d_passDigit me_d_passDigit rfl rfl rfl ⟨Nat.le_of_ble_eq_true rfl, Nat.le_of_ble_eq_true rfl⟩ (Nat.le_of_ble_eq_true rfl) ⟨Nat.le_of_ble_eq_true rfl, Nat.le_of_ble_eq_true rfl⟩ (ch_mono (ch_Ki (fun r4 m5 h => ?_)) h)
  exact ch_iret (ty := .boolean) d_d_takeDigit_14 rfl h.1 (Nat.le_of_ble_eq_true rfl) h.2
theorem e_d_takeNumber (g : ch_G) (Q : ch_O → ch_M → Prop) (j1 : Nat) (m : ch_M) (h : ch_J g m_d_takeNumber (ch_rm m_d_takeNumber) (ch_E g m_d_takeNumber Q) 0 [some (.inr (7, 0, 0)), some (.inr (6, j1, 0)), some (.inr (4, 0, 0)), none] [] m 0) : ch_C g m_d_takeNumber [.inr (7, 0, 0), .inr (6, j1, 0), .inr (4, 0, 0)] m Q :=
  ch_enter mf_d_takeNumber (by intro v hv; simp only [List.mem_cons, List.not_mem_nil, or_false] at hv; rcases hv with rfl | rfl | rfl <;> rfl) (Nat.le_of_ble_eq_true rfl) h
set_option maxHeartbeats 1600000 in
theorem g_d_takeNumber_0 (g : ch_G) (Q : ch_O → ch_M → Prop) (j1 : Nat) (m : ch_M) (h : (ch_C g m_d_takeDigit [.inr (7, 0, 0), .inr (6, j1, 0), .inr (4, 0, 0)] m (ch_oi (fun (r1 : Int32) (m2 : ch_M) => ((¬ r1 = 0 → (ch_C g m_d_digitAt [.inr (7, 0, 0), .inr (6, j1, 0)] m2 (ch_oi (fun (r3 : Int32) (m4 : ch_M) => (ch_C g m_d_passDigit [.inr (7, 0, 0), .inr (6, j1, 0)] m4 (ch_oi (fun (r5 : Int32) (m6 : ch_M) => ((r5 = 0 → Q (.inl (some (.inl (.int 1)))) m6) ∧ (¬ r5 = 0 → (∀ m7 : ch_M, m7 = ch_wr m6 (4, 0, 0) 4 (((m6 (4, 0, 0) 4) * 10) + r3) → Q (.inl (some (.inl (.int 1)))) m7)))))))))) ∧ (r1 = 0 → Q (.inl (some (.inl (.int 0)))) m2)))))) : ch_J g m_d_takeNumber (ch_rm m_d_takeNumber) (ch_E g m_d_takeNumber Q) 0 [some (.inr (7, 0, 0)), some (.inr (6, j1, 0)), some (.inr (4, 0, 0)), none] [] m 0 := by
  refine ch_aload_n (i := 0) d_d_takeNumber_0 rfl rfl ?_
  refine ch_aload_n (i := 1) d_d_takeNumber_1 rfl rfl ?_
  refine ch_aload_n (i := 2) d_d_takeNumber_2 rfl rfl ?_
  refine ch_callV (as := [.inr (6, j1, 0), .inr (4, 0, 0)]) d_d_takeNumber_3 lk_d_56 mi_d_takeDigit me_d_takeDigit rfl rfl rfl ⟨Nat.le_of_ble_eq_true rfl, Nat.le_of_ble_eq_true rfl⟩ (Nat.le_of_ble_eq_true rfl) ⟨Nat.le_of_ble_eq_true rfl, Nat.le_of_ble_eq_true rfl⟩ (ch_mono (ch_Ki (fun r1 m2 h => ?_)) h)
  refine ch_if_ne (tgt := 11) d_d_takeNumber_6 (by decide) (fun c => ?_) (fun c => ?_)
  · replace h := h.1 c
    refine ch_aload_n (i := 0) d_d_takeNumber_11 rfl rfl ?_
    refine ch_aload_n (i := 1) d_d_takeNumber_12 rfl rfl ?_
    refine ch_callV (as := [.inr (6, j1, 0)]) d_d_takeNumber_13 lk_d_62 mi_d_digitAt me_d_digitAt rfl rfl rfl ⟨Nat.le_of_ble_eq_true rfl, Nat.le_of_ble_eq_true rfl⟩ (Nat.le_of_ble_eq_true rfl) ⟨Nat.le_of_ble_eq_true rfl, Nat.le_of_ble_eq_true rfl⟩ (ch_mono (ch_Ki (fun r3 m4 h => ?_)) h)
    refine ch_istore_n (i := 3) d_d_takeNumber_16 rfl (Nat.le_of_ble_eq_true rfl) (ls' := [some (.inr (7, 0, 0)), some (.inr (6, j1, 0)), some (.inr (4, 0, 0)), some (.inl (.int r3))]) rfl ?_
    refine ch_aload_n (i := 0) d_d_takeNumber_17 rfl rfl ?_
    refine ch_aload_n (i := 1) d_d_takeNumber_18 rfl rfl ?_
    refine ch_callV (as := [.inr (6, j1, 0)]) d_d_takeNumber_19 lk_d_68 mi_d_passDigit me_d_passDigit rfl rfl rfl ⟨Nat.le_of_ble_eq_true rfl, Nat.le_of_ble_eq_true rfl⟩ (Nat.le_of_ble_eq_true rfl) ⟨Nat.le_of_ble_eq_true rfl, Nat.le_of_ble_eq_true rfl⟩ (ch_mono (ch_Ki (fun r5 m6 h => ?_)) h)
    refine ch_if_eq (tgt := 38) d_d_takeNumber_22 (by decide) (fun c => ?_) (fun c => ?_)
    · replace h := h.1 c
      refine ch_iconst (v := 1) d_d_takeNumber_38 (by decide) ?_
      exact ch_iret (ty := .boolean) d_d_takeNumber_39 rfl rfl (Nat.le_of_ble_eq_true rfl) h
    · replace h := h.2 c
      refine ch_aload_n (i := 2) d_d_takeNumber_25 rfl rfl ?_
      refine ch_aload_n (i := 2) d_d_takeNumber_26 rfl rfl ?_
      refine ch_get (v := .inl (.int (m6 (4, 0, 0) 4))) d_d_takeNumber_27 fl_d_75 rfl ?_
      refine ch_bipush (v := 10) d_d_takeNumber_30 (by decide) ?_
      refine ch_imul d_d_takeNumber_32 ?_
      refine ch_iload_n (i := 3) d_d_takeNumber_33 rfl rfl ?_
      refine ch_iadd d_d_takeNumber_34 ?_
      refine ch_put d_d_takeNumber_35 fp_d_75 rfl rfl rfl ?_
      generalize hmm7 : ch_wr m6 (4, 0, 0) 4 (((m6 (4, 0, 0) 4) * 10) + r3) = m7
      replace h := h m7 hmm7.symm
      refine ch_iconst (v := 1) d_d_takeNumber_38 (by decide) ?_
      exact ch_iret (ty := .boolean) d_d_takeNumber_39 rfl rfl (Nat.le_of_ble_eq_true rfl) h
  · replace h := h.2 c
    refine ch_iconst (v := 0) d_d_takeNumber_9 (by decide) ?_
    exact ch_iret (ty := .boolean) d_d_takeNumber_10 rfl rfl (Nat.le_of_ble_eq_true rfl) h
theorem e_d_takeSteps (g : ch_G) (Q : ch_O → ch_M → Prop) (j1 : Nat) (j2 : Nat) (m : ch_M) (h : ch_J g m_d_takeSteps (ch_rm m_d_takeSteps) (ch_E g m_d_takeSteps Q) 0 [some (.inr (7, 0, 0)), some (.inr (6, j1, 0)), some (.inr (5, j2, 0)), none, none] [] m 0) : ch_C g m_d_takeSteps [.inr (7, 0, 0), .inr (6, j1, 0), .inr (5, j2, 0)] m Q :=
  ch_enter mf_d_takeSteps (by intro v hv; simp only [List.mem_cons, List.not_mem_nil, or_false] at hv; rcases hv with rfl | rfl | rfl <;> rfl) (Nat.le_of_ble_eq_true rfl) h
set_option maxHeartbeats 1600000 in
theorem g_d_takeSteps_0 (g : ch_G) (Q : ch_O → ch_M → Prop) (j1 : Nat) (j2 : Nat) (m : ch_M) (h : (∀ m1 : ch_M, m1 = ch_wr m (5, j2, 0) 1 0 → ch_J g m_d_takeSteps (ch_rm m_d_takeSteps) (ch_E g m_d_takeSteps Q) 7 [some (.inr (7, 0, 0)), some (.inr (6, j1, 0)), some (.inr (5, j2, 0)), some (.inl (.int 0)), none] [] m1 0)) : ch_J g m_d_takeSteps (ch_rm m_d_takeSteps) (ch_E g m_d_takeSteps Q) 0 [some (.inr (7, 0, 0)), some (.inr (6, j1, 0)), some (.inr (5, j2, 0)), none, none] [] m 0 := by
  refine ch_aload_n (i := 2) d_d_takeSteps_0 rfl rfl ?_
  refine ch_iconst (v := 0) d_d_takeSteps_1 (by decide) ?_
  refine ch_put d_d_takeSteps_2 fp_d_78 rfl rfl rfl ?_
  generalize hmm1 : ch_wr m (5, j2, 0) 1 0 = m1
  replace h := h m1 hmm1.symm
  refine ch_iconst (v := 0) d_d_takeSteps_5 (by decide) ?_
  refine ch_istore_n (i := 3) d_d_takeSteps_6 rfl (Nat.le_of_ble_eq_true rfl) (ls' := [some (.inr (7, 0, 0)), some (.inr (6, j1, 0)), some (.inr (5, j2, 0)), some (.inl (.int 0)), none]) rfl ?_
  exact h
set_option maxHeartbeats 1600000 in
theorem g_d_takeSteps_7 (g : ch_G) (Q : ch_O → ch_M → Prop) (j1 : Nat) (j2 : Nat) (x3 : Int32) (o4 : Option ch_V) (m : ch_M) (h : ((12 ≤ x3 → (((m (5, j2, 0) 1) ≤ 0 → Q (.inl (some (.inl (.int 0)))) m) ∧ (¬ (m (5, j2, 0) 1) ≤ 0 → Q (.inl (some (.inl (.int 1)))) m))) ∧ (¬ 12 ≤ x3 → (ch_C g m_d_digitAt [.inr (7, 0, 0), .inr (6, j1, 0)] m (ch_oi (fun (r1 : Int32) (m2 : ch_M) => ((r1 < 1 → (((m2 (5, j2, 0) 1) ≤ 0 → Q (.inl (some (.inl (.int 0)))) m2) ∧ (¬ (m2 (5, j2, 0) 1) ≤ 0 → Q (.inl (some (.inl (.int 1)))) m2))) ∧ (¬ r1 < 1 → ((r1 ≤ 3 → (ch_C g m_s_add [.inr (5, j2, 0), .inl (.int r1)] m2 (ch_ov (fun (m4 : ch_M) => (∀ m5 : ch_M, m5 = ch_wr m4 (7, 0, 0) 0 ((m4 (7, 0, 0) 0) + 1) → ch_J g m_d_takeSteps (ch_rm m_d_takeSteps) (ch_E g m_d_takeSteps Q) 7 [some (.inr (7, 0, 0)), some (.inr (6, j1, 0)), some (.inr (5, j2, 0)), some (.inl (.int (x3 + 1))), some (.inl (.int r1))] [] m5 0))))) ∧ (¬ r1 ≤ 3 → (((m2 (5, j2, 0) 1) ≤ 0 → Q (.inl (some (.inl (.int 0)))) m2) ∧ (¬ (m2 (5, j2, 0) 1) ≤ 0 → Q (.inl (some (.inl (.int 1)))) m2)))))))))))) : ch_J g m_d_takeSteps (ch_rm m_d_takeSteps) (ch_E g m_d_takeSteps Q) 7 [some (.inr (7, 0, 0)), some (.inr (6, j1, 0)), some (.inr (5, j2, 0)), some (.inl (.int x3)), o4] [] m 0 := by
  refine ch_iload_n (i := 3) d_d_takeSteps_7 rfl rfl ?_
  refine ch_bipush (v := 12) d_d_takeSteps_8 (by decide) ?_
  refine ch_icmp_ge (tgt := 57) d_d_takeSteps_10 (by decide) (fun c => ?_) (fun c => ?_)
  · replace h := h.1 c
    refine ch_aload_n (i := 2) d_d_takeSteps_57 rfl rfl ?_
    refine ch_get (v := .inl (.int (m (5, j2, 0) 1))) d_d_takeSteps_58 fl_d_78 rfl ?_
    refine ch_if_le (tgt := 68) d_d_takeSteps_61 (by decide) (fun c => ?_) (fun c => ?_)
    · replace h := h.1 c
      refine ch_iconst (v := 0) d_d_takeSteps_68 (by decide) ?_
      exact ch_iret (ty := .boolean) d_d_takeSteps_69 rfl rfl (Nat.le_of_ble_eq_true rfl) h
    · replace h := h.2 c
      refine ch_iconst (v := 1) d_d_takeSteps_64 (by decide) ?_
      refine ch_goto (tgt := 69) d_d_takeSteps_65 (by decide) ?_
      exact ch_iret (ty := .boolean) d_d_takeSteps_69 rfl rfl (Nat.le_of_ble_eq_true rfl) h
  · replace h := h.2 c
    refine ch_aload_n (i := 0) d_d_takeSteps_13 rfl rfl ?_
    refine ch_aload_n (i := 1) d_d_takeSteps_14 rfl rfl ?_
    refine ch_callV (as := [.inr (6, j1, 0)]) d_d_takeSteps_15 lk_d_62 mi_d_digitAt me_d_digitAt rfl rfl rfl ⟨Nat.le_of_ble_eq_true rfl, Nat.le_of_ble_eq_true rfl⟩ (Nat.le_of_ble_eq_true rfl) ⟨Nat.le_of_ble_eq_true rfl, Nat.le_of_ble_eq_true rfl⟩ (ch_mono (ch_Ki (fun r1 m2 h => ?_)) h)
    refine ch_istore (i := 4) d_d_takeSteps_18 (Nat.le_of_ble_eq_true rfl) (ls' := [some (.inr (7, 0, 0)), some (.inr (6, j1, 0)), some (.inr (5, j2, 0)), some (.inl (.int x3)), some (.inl (.int r1))]) rfl ?_
    refine ch_iload d_d_takeSteps_20 rfl ?_
    refine ch_iconst (v := 1) d_d_takeSteps_22 (by decide) ?_
    refine ch_icmp_lt (tgt := 57) d_d_takeSteps_23 (by decide) (fun c => ?_) (fun c => ?_)
    · replace h := h.1 c
      refine ch_aload_n (i := 2) d_d_takeSteps_57 rfl rfl ?_
      refine ch_get (v := .inl (.int (m2 (5, j2, 0) 1))) d_d_takeSteps_58 fl_d_78 rfl ?_
      refine ch_if_le (tgt := 68) d_d_takeSteps_61 (by decide) (fun c => ?_) (fun c => ?_)
      · replace h := h.1 c
        refine ch_iconst (v := 0) d_d_takeSteps_68 (by decide) ?_
        exact ch_iret (ty := .boolean) d_d_takeSteps_69 rfl rfl (Nat.le_of_ble_eq_true rfl) h
      · replace h := h.2 c
        refine ch_iconst (v := 1) d_d_takeSteps_64 (by decide) ?_
        refine ch_goto (tgt := 69) d_d_takeSteps_65 (by decide) ?_
        exact ch_iret (ty := .boolean) d_d_takeSteps_69 rfl rfl (Nat.le_of_ble_eq_true rfl) h
    · replace h := h.2 c
      refine ch_iload d_d_takeSteps_26 rfl ?_
      refine ch_iconst (v := 3) d_d_takeSteps_28 (by decide) ?_
      refine ch_icmp_le (tgt := 35) d_d_takeSteps_29 (by decide) (fun c => ?_) (fun c => ?_)
      · replace h := h.1 c
        refine ch_aload_n (i := 2) d_d_takeSteps_35 rfl rfl ?_
        refine ch_iload d_d_takeSteps_36 rfl ?_
        refine ch_callV (as := [.inl (.int r1)]) d_d_takeSteps_38 lk_d_83 mi_s_add me_s_add rfl rfl rfl ⟨Nat.le_of_ble_eq_true rfl, Nat.le_of_ble_eq_true rfl⟩ (Nat.le_of_ble_eq_true rfl) ⟨Nat.le_of_ble_eq_true rfl, Nat.le_of_ble_eq_true rfl⟩ (ch_mono (ch_Kv (fun m4 h => ?_)) h)
        refine ch_aload_n (i := 0) d_d_takeSteps_41 rfl rfl ?_
        refine ch_dup d_d_takeSteps_42 rfl ?_
        refine ch_get (v := .inl (.int (m4 (7, 0, 0) 0))) d_d_takeSteps_43 fl_d_9 rfl ?_
        refine ch_iconst (v := 1) d_d_takeSteps_46 (by decide) ?_
        refine ch_iadd d_d_takeSteps_47 ?_
        refine ch_put d_d_takeSteps_48 fp_d_9 rfl rfl rfl ?_
        generalize hmm5 : ch_wr m4 (7, 0, 0) 0 ((m4 (7, 0, 0) 0) + 1) = m5
        replace h := h m5 hmm5.symm
        refine ch_iinc (i := 3) (v := (x3 + 1)) d_d_takeSteps_51 rfl rfl (Nat.le_of_ble_eq_true rfl) (ls' := [some (.inr (7, 0, 0)), some (.inr (6, j1, 0)), some (.inr (5, j2, 0)), some (.inl (.int (x3 + 1))), some (.inl (.int r1))]) rfl ?_
        refine ch_goto (tgt := 7) d_d_takeSteps_54 (by decide) ?_
        exact h
      · replace h := h.2 c
        refine ch_goto (tgt := 57) d_d_takeSteps_32 (by decide) ?_
        refine ch_aload_n (i := 2) d_d_takeSteps_57 rfl rfl ?_
        refine ch_get (v := .inl (.int (m2 (5, j2, 0) 1))) d_d_takeSteps_58 fl_d_78 rfl ?_
        refine ch_if_le (tgt := 68) d_d_takeSteps_61 (by decide) (fun c => ?_) (fun c => ?_)
        · replace h := h.1 c
          refine ch_iconst (v := 0) d_d_takeSteps_68 (by decide) ?_
          exact ch_iret (ty := .boolean) d_d_takeSteps_69 rfl rfl (Nat.le_of_ble_eq_true rfl) h
        · replace h := h.2 c
          refine ch_iconst (v := 1) d_d_takeSteps_64 (by decide) ?_
          refine ch_goto (tgt := 69) d_d_takeSteps_65 (by decide) ?_
          exact ch_iret (ty := .boolean) d_d_takeSteps_69 rfl rfl (Nat.le_of_ble_eq_true rfl) h
theorem e_d_passDigit (g : ch_G) (Q : ch_O → ch_M → Prop) (j1 : Nat) (m : ch_M) (h : ch_J g m_d_passDigit (ch_rm m_d_passDigit) (ch_E g m_d_passDigit Q) 0 [some (.inr (7, 0, 0)), some (.inr (6, j1, 0))] [] m 0) : ch_C g m_d_passDigit [.inr (7, 0, 0), .inr (6, j1, 0)] m Q :=
  ch_enter mf_d_passDigit (by intro v hv; simp only [List.mem_cons, List.not_mem_nil, or_false] at hv; rcases hv with rfl | rfl <;> rfl) (Nat.le_of_ble_eq_true rfl) h
set_option maxHeartbeats 1600000 in
theorem g_d_passDigit_0 (g : ch_G) (Q : ch_O → ch_M → Prop) (j1 : Nat) (m : ch_M) (h : (ch_C g m_d_digitAt [.inr (7, 0, 0), .inr (6, j1, 0)] m (ch_oi (fun (r1 : Int32) (m2 : ch_M) => ((0 ≤ r1 → (∀ m3 : ch_M, m3 = ch_wr m2 (7, 0, 0) 0 ((m2 (7, 0, 0) 0) + 1) → Q (.inl (some (.inl (.int 1)))) m3)) ∧ (¬ 0 ≤ r1 → Q (.inl (some (.inl (.int 0)))) m2)))))) : ch_J g m_d_passDigit (ch_rm m_d_passDigit) (ch_E g m_d_passDigit Q) 0 [some (.inr (7, 0, 0)), some (.inr (6, j1, 0))] [] m 0 := by
  refine ch_aload_n (i := 0) d_d_passDigit_0 rfl rfl ?_
  refine ch_aload_n (i := 1) d_d_passDigit_1 rfl rfl ?_
  refine ch_callV (as := [.inr (6, j1, 0)]) d_d_passDigit_2 lk_d_62 mi_d_digitAt me_d_digitAt rfl rfl rfl ⟨Nat.le_of_ble_eq_true rfl, Nat.le_of_ble_eq_true rfl⟩ (Nat.le_of_ble_eq_true rfl) ⟨Nat.le_of_ble_eq_true rfl, Nat.le_of_ble_eq_true rfl⟩ (ch_mono (ch_Ki (fun r1 m2 h => ?_)) h)
  refine ch_if_ge (tgt := 10) d_d_passDigit_5 (by decide) (fun c => ?_) (fun c => ?_)
  · replace h := h.1 c
    refine ch_aload_n (i := 0) d_d_passDigit_10 rfl rfl ?_
    refine ch_dup d_d_passDigit_11 rfl ?_
    refine ch_get (v := .inl (.int (m2 (7, 0, 0) 0))) d_d_passDigit_12 fl_d_9 rfl ?_
    refine ch_iconst (v := 1) d_d_passDigit_15 (by decide) ?_
    refine ch_iadd d_d_passDigit_16 ?_
    refine ch_put d_d_passDigit_17 fp_d_9 rfl rfl rfl ?_
    generalize hmm3 : ch_wr m2 (7, 0, 0) 0 ((m2 (7, 0, 0) 0) + 1) = m3
    replace h := h m3 hmm3.symm
    refine ch_iconst (v := 1) d_d_passDigit_20 (by decide) ?_
    exact ch_iret (ty := .boolean) d_d_passDigit_21 rfl rfl (Nat.le_of_ble_eq_true rfl) h
  · replace h := h.2 c
    refine ch_iconst (v := 0) d_d_passDigit_8 (by decide) ?_
    exact ch_iret (ty := .boolean) d_d_passDigit_9 rfl rfl (Nat.le_of_ble_eq_true rfl) h
theorem e_d_digitAt (g : ch_G) (Q : ch_O → ch_M → Prop) (j1 : Nat) (m : ch_M) (h : ch_J g m_d_digitAt (ch_rm m_d_digitAt) (ch_E g m_d_digitAt Q) 0 [some (.inr (7, 0, 0)), some (.inr (6, j1, 0)), none] [] m 0) : ch_C g m_d_digitAt [.inr (7, 0, 0), .inr (6, j1, 0)] m Q :=
  ch_enter mf_d_digitAt (by intro v hv; simp only [List.mem_cons, List.not_mem_nil, or_false] at hv; rcases hv with rfl | rfl <;> rfl) (Nat.le_of_ble_eq_true rfl) h
set_option maxHeartbeats 1600000 in
theorem g_d_digitAt_0 (g : ch_G) (Q : ch_O → ch_M → Prop) (j1 : Nat) (m : ch_M) (h : (ch_C g m_d_signAt [.inr (7, 0, 0), .inr (6, j1, 0)] m (ch_oi (fun (r1 : Int32) (m2 : ch_M) => ((r1 < 48 → Q (.inl (some (.inl (.int (-1))))) m2) ∧ (¬ r1 < 48 → ((57 < r1 → Q (.inl (some (.inl (.int (-1))))) m2) ∧ (¬ 57 < r1 → Q (.inl (some (.inl (.int (r1 - 48))))) m2)))))))) : ch_J g m_d_digitAt (ch_rm m_d_digitAt) (ch_E g m_d_digitAt Q) 0 [some (.inr (7, 0, 0)), some (.inr (6, j1, 0)), none] [] m 0 := by
  refine ch_aload_n (i := 0) d_d_digitAt_0 rfl rfl ?_
  refine ch_aload_n (i := 1) d_d_digitAt_1 rfl rfl ?_
  refine ch_callV (as := [.inr (6, j1, 0)]) d_d_digitAt_2 lk_d_28 mi_d_signAt me_d_signAt rfl rfl rfl ⟨Nat.le_of_ble_eq_true rfl, Nat.le_of_ble_eq_true rfl⟩ (Nat.le_of_ble_eq_true rfl) ⟨Nat.le_of_ble_eq_true rfl, Nat.le_of_ble_eq_true rfl⟩ (ch_mono (ch_Ki (fun r1 m2 h => ?_)) h)
  refine ch_istore_n (i := 2) d_d_digitAt_5 rfl (Nat.le_of_ble_eq_true rfl) (ls' := [some (.inr (7, 0, 0)), some (.inr (6, j1, 0)), some (.inl (.int r1))]) rfl ?_
  refine ch_iload_n (i := 2) d_d_digitAt_6 rfl rfl ?_
  refine ch_bipush (v := 48) d_d_digitAt_7 (by decide) ?_
  refine ch_icmp_lt (tgt := 25) d_d_digitAt_9 (by decide) (fun c => ?_) (fun c => ?_)
  · replace h := h.1 c
    refine ch_iconst (v := (-1)) d_d_digitAt_25 (by decide) ?_
    exact ch_iret (ty := .int) d_d_digitAt_26 rfl rfl (Nat.le_of_ble_eq_true rfl) h
  · replace h := h.2 c
    refine ch_iload_n (i := 2) d_d_digitAt_12 rfl rfl ?_
    refine ch_bipush (v := 57) d_d_digitAt_13 (by decide) ?_
    refine ch_icmp_gt (tgt := 25) d_d_digitAt_15 (by decide) (fun c => ?_) (fun c => ?_)
    · replace h := h.1 c
      refine ch_iconst (v := (-1)) d_d_digitAt_25 (by decide) ?_
      exact ch_iret (ty := .int) d_d_digitAt_26 rfl rfl (Nat.le_of_ble_eq_true rfl) h
    · replace h := h.2 c
      refine ch_iload_n (i := 2) d_d_digitAt_18 rfl rfl ?_
      refine ch_bipush (v := 48) d_d_digitAt_19 (by decide) ?_
      refine ch_isub d_d_digitAt_21 ?_
      refine ch_goto (tgt := 26) d_d_digitAt_22 (by decide) ?_
      exact ch_iret (ty := .int) d_d_digitAt_26 rfl rfl (Nat.le_of_ble_eq_true rfl) h
theorem e_d_signAt (g : ch_G) (Q : ch_O → ch_M → Prop) (j1 : Nat) (m : ch_M) (h : ch_J g m_d_signAt (ch_rm m_d_signAt) (ch_E g m_d_signAt Q) 0 [some (.inr (7, 0, 0)), some (.inr (6, j1, 0))] [] m 0) : ch_C g m_d_signAt [.inr (7, 0, 0), .inr (6, j1, 0)] m Q :=
  ch_enter mf_d_signAt (by intro v hv; simp only [List.mem_cons, List.not_mem_nil, or_false] at hv; rcases hv with rfl | rfl <;> rfl) (Nat.le_of_ble_eq_true rfl) h
set_option maxHeartbeats 1600000 in
theorem g_d_signAt_0 (g : ch_G) (Q : ch_O → ch_M → Prop) (j1 : Nat) (m : ch_M) (h : (((m (7, 0, 0) 0) < 0 → Q (.inl (some (.inl (.int (-1))))) m) ∧ (¬ (m (7, 0, 0) 0) < 0 → (((m (6, j1, 0) 1) ≤ (m (7, 0, 0) 0) → Q (.inl (some (.inl (.int (-1))))) m) ∧ (¬ (m (6, j1, 0) 1) ≤ (m (7, 0, 0) 0) → ((60 ≤ (m (7, 0, 0) 0) → Q (.inl (some (.inl (.int (-1))))) m) ∧ (¬ 60 ≤ (m (7, 0, 0) 0) → (vp_in (m (7, 0, 0) 0) 60) ∧ Q (.inl (some (.inl (.int (m (6, j1, 1) (Int32.toNatClampNeg (m (7, 0, 0) 0))))))) m))))))) : ch_J g m_d_signAt (ch_rm m_d_signAt) (ch_E g m_d_signAt Q) 0 [some (.inr (7, 0, 0)), some (.inr (6, j1, 0))] [] m 0 := by
  refine ch_aload_n (i := 0) d_d_signAt_0 rfl rfl ?_
  refine ch_get (v := .inl (.int (m (7, 0, 0) 0))) d_d_signAt_1 fl_d_9 rfl ?_
  refine ch_if_lt (tgt := 42) d_d_signAt_4 (by decide) (fun c => ?_) (fun c => ?_)
  · replace h := h.1 c
    refine ch_iconst (v := (-1)) d_d_signAt_42 (by decide) ?_
    exact ch_iret (ty := .int) d_d_signAt_43 rfl rfl (Nat.le_of_ble_eq_true rfl) h
  · replace h := h.2 c
    refine ch_aload_n (i := 0) d_d_signAt_7 rfl rfl ?_
    refine ch_get (v := .inl (.int (m (7, 0, 0) 0))) d_d_signAt_8 fl_d_9 rfl ?_
    refine ch_aload_n (i := 1) d_d_signAt_11 rfl rfl ?_
    refine ch_get (v := .inl (.int (m (6, j1, 0) 1))) d_d_signAt_12 fl_d_19 rfl ?_
    refine ch_icmp_ge (tgt := 42) d_d_signAt_15 (by decide) (fun c => ?_) (fun c => ?_)
    · replace h := h.1 c
      refine ch_iconst (v := (-1)) d_d_signAt_42 (by decide) ?_
      exact ch_iret (ty := .int) d_d_signAt_43 rfl rfl (Nat.le_of_ble_eq_true rfl) h
    · replace h := h.2 c
      refine ch_aload_n (i := 0) d_d_signAt_18 rfl rfl ?_
      refine ch_get (v := .inl (.int (m (7, 0, 0) 0))) d_d_signAt_19 fl_d_9 rfl ?_
      refine ch_aload_n (i := 1) d_d_signAt_22 rfl rfl ?_
      refine ch_get (v := .inr (6, j1, 1)) d_d_signAt_23 fl_d_87 rfl ?_
      refine ch_alen (v := 60) d_d_signAt_26 (by decide) (t := 1) (by decide) rfl rfl ?_
      refine ch_icmp_ge (tgt := 42) d_d_signAt_27 (by decide) (fun c => ?_) (fun c => ?_)
      · replace h := h.1 c
        refine ch_iconst (v := (-1)) d_d_signAt_42 (by decide) ?_
        exact ch_iret (ty := .int) d_d_signAt_43 rfl rfl (Nat.le_of_ble_eq_true rfl) h
      · replace h := h.2 c
        refine ch_aload_n (i := 1) d_d_signAt_30 rfl rfl ?_
        refine ch_get (v := .inr (6, j1, 1)) d_d_signAt_31 fl_d_87 rfl ?_
        refine ch_aload_n (i := 0) d_d_signAt_34 rfl rfl ?_
        refine ch_get (v := .inl (.int (m (7, 0, 0) 0))) d_d_signAt_35 fl_d_9 rfl ?_
        have b1 := h.1
        replace h := h.2
        refine ch_cald (n := 60) d_d_signAt_38 (by decide) rfl b1 ?_
        refine ch_goto (tgt := 43) d_d_signAt_39 (by decide) ?_
        exact ch_iret (ty := .int) d_d_signAt_43 rfl rfl (Nat.le_of_ble_eq_true rfl) h
theorem e_w_fewestBack (g : ch_G) (Q : ch_O → ch_M → Prop) (j1 : Nat) (p2 : Int32) (m : ch_M) (h : ch_J g m_w_fewestBack (ch_rm m_w_fewestBack) (ch_E g m_w_fewestBack Q) 0 [some (.inr (8, 0, 0)), some (.inr (1, j1, 0)), some (.inl (.int p2)), none, none] [] m 0) : ch_C g m_w_fewestBack [.inr (8, 0, 0), .inr (1, j1, 0), .inl (.int p2)] m Q :=
  ch_enter mf_w_fewestBack (by intro v hv; simp only [List.mem_cons, List.not_mem_nil, or_false] at hv; rcases hv with rfl | rfl | rfl <;> rfl) (Nat.le_of_ble_eq_true rfl) h
set_option maxHeartbeats 1600000 in
theorem g_w_fewestBack_0 (g : ch_G) (Q : ch_O → ch_M → Prop) (j1 : Nat) (p2 : Int32) (m : ch_M) (h : ch_J g m_w_fewestBack (ch_rm m_w_fewestBack) (ch_E g m_w_fewestBack Q) 3 [some (.inr (8, 0, 0)), some (.inr (1, j1, 0)), some (.inl (.int p2)), some (.inl (.int 12)), none] [] m 0) : ch_J g m_w_fewestBack (ch_rm m_w_fewestBack) (ch_E g m_w_fewestBack Q) 0 [some (.inr (8, 0, 0)), some (.inr (1, j1, 0)), some (.inl (.int p2)), none, none] [] m 0 := by
  refine ch_bipush (v := 12) d_w_fewestBack_0 (by decide) ?_
  refine ch_istore_n (i := 3) d_w_fewestBack_2 rfl (Nat.le_of_ble_eq_true rfl) (ls' := [some (.inr (8, 0, 0)), some (.inr (1, j1, 0)), some (.inl (.int p2)), some (.inl (.int 12)), none]) rfl ?_
  exact h
set_option maxHeartbeats 1600000 in
theorem g_w_fewestBack_3 (g : ch_G) (Q : ch_O → ch_M → Prop) (j1 : Nat) (x2 : Int32) (x3 : Int32) (o4 : Option ch_V) (m : ch_M) (h : ((15 ≤ x3 → ch_J g m_w_fewestBack (ch_rm m_w_fewestBack) (ch_E g m_w_fewestBack Q) 32 [some (.inr (8, 0, 0)), some (.inr (1, j1, 0)), some (.inl (.int x2)), some (.inl (.int 11)), o4] [] m 0) ∧ (¬ 15 ≤ x3 → (vp_in x3 15) ∧ (∀ m2 : ch_M, m2 = ch_wr m (8, 0, 1) (Int32.toNatClampNeg x3) 0 → (∀ m3 : ch_M, m3 = ch_wr m2 (8, 0, 2) (Int32.toNatClampNeg x3) 0 → ch_J g m_w_fewestBack (ch_rm m_w_fewestBack) (ch_E g m_w_fewestBack Q) 3 [some (.inr (8, 0, 0)), some (.inr (1, j1, 0)), some (.inl (.int x2)), some (.inl (.int (x3 + 1))), o4] [] m3 0))))) : ch_J g m_w_fewestBack (ch_rm m_w_fewestBack) (ch_E g m_w_fewestBack Q) 3 [some (.inr (8, 0, 0)), some (.inr (1, j1, 0)), some (.inl (.int x2)), some (.inl (.int x3)), o4] [] m 0 := by
  refine ch_iload_n (i := 3) d_w_fewestBack_3 rfl rfl ?_
  refine ch_bipush (v := 15) d_w_fewestBack_4 (by decide) ?_
  refine ch_icmp_ge (tgt := 29) d_w_fewestBack_6 (by decide) (fun c => ?_) (fun c => ?_)
  · replace h := h.1 c
    refine ch_bipush (v := 11) d_w_fewestBack_29 (by decide) ?_
    refine ch_istore_n (i := 3) d_w_fewestBack_31 rfl (Nat.le_of_ble_eq_true rfl) (ls' := [some (.inr (8, 0, 0)), some (.inr (1, j1, 0)), some (.inl (.int x2)), some (.inl (.int 11)), o4]) rfl ?_
    exact h
  · replace h := h.2 c
    refine ch_aload_n (i := 0) d_w_fewestBack_9 rfl rfl ?_
    refine ch_get (v := .inr (8, 0, 1)) d_w_fewestBack_10 fl_w_11 rfl ?_
    refine ch_iload_n (i := 3) d_w_fewestBack_13 rfl rfl ?_
    refine ch_iconst (v := 0) d_w_fewestBack_14 (by decide) ?_
    have b1 := h.1
    replace h := h.2
    refine ch_iast (n := 15) d_w_fewestBack_15 (by decide) rfl b1 ?_
    generalize hmm2 : ch_wr m (8, 0, 1) (Int32.toNatClampNeg x3) 0 = m2
    replace h := h m2 hmm2.symm
    refine ch_aload_n (i := 0) d_w_fewestBack_16 rfl rfl ?_
    refine ch_get (v := .inr (8, 0, 2)) d_w_fewestBack_17 fl_w_15 rfl ?_
    refine ch_iload_n (i := 3) d_w_fewestBack_20 rfl rfl ?_
    refine ch_iconst (v := 0) d_w_fewestBack_21 (by decide) ?_
    refine ch_iast (n := 15) d_w_fewestBack_22 (by decide) rfl b1 ?_
    generalize hmm3 : ch_wr m2 (8, 0, 2) (Int32.toNatClampNeg x3) 0 = m3
    replace h := h m3 hmm3.symm
    refine ch_iinc (i := 3) (v := (x3 + 1)) d_w_fewestBack_23 rfl rfl (Nat.le_of_ble_eq_true rfl) (ls' := [some (.inr (8, 0, 0)), some (.inr (1, j1, 0)), some (.inl (.int x2)), some (.inl (.int (x3 + 1))), o4]) rfl ?_
    refine ch_goto (tgt := 3) d_w_fewestBack_26 (by decide) ?_
    exact h
set_option maxHeartbeats 1600000 in
theorem g_w_fewestBack_32 (g : ch_G) (Q : ch_O → ch_M → Prop) (j1 : Nat) (x2 : Int32) (x3 : Int32) (o4 : Option ch_V) (m : ch_M) (h : ((x3 < 0 → Q (.inl (some (.inl (.int (m (8, 0, 1) (0)))))) m) ∧ (¬ x3 < 0 → (vp_in x3 15) ∧ (∀ m2 : ch_M, m2 = ch_wr m (8, 0, 3) (Int32.toNatClampNeg x3) 0 → ch_J g m_w_fewestBack (ch_rm m_w_fewestBack) (ch_E g m_w_fewestBack Q) 46 [some (.inr (8, 0, 0)), some (.inr (1, j1, 0)), some (.inl (.int x2)), some (.inl (.int x3)), some (.inl (.int 3))] [] m2 0)))) : ch_J g m_w_fewestBack (ch_rm m_w_fewestBack) (ch_E g m_w_fewestBack Q) 32 [some (.inr (8, 0, 0)), some (.inr (1, j1, 0)), some (.inl (.int x2)), some (.inl (.int x3)), o4] [] m 0 := by
  refine ch_iload_n (i := 3) d_w_fewestBack_32 rfl rfl ?_
  refine ch_if_lt (tgt := 73) d_w_fewestBack_33 (by decide) (fun c => ?_) (fun c => ?_)
  · replace h := h.1 c
    refine ch_aload_n (i := 0) d_w_fewestBack_73 rfl rfl ?_
    refine ch_get (v := .inr (8, 0, 1)) d_w_fewestBack_74 fl_w_11 rfl ?_
    refine ch_iconst (v := 0) d_w_fewestBack_77 (by decide) ?_
    refine ch_iald (n := 15) d_w_fewestBack_78 (by decide) rfl (vp_in_nI (n := 0) (by decide) (by decide)) ?_
    exact ch_iret (ty := .int) d_w_fewestBack_79 rfl rfl (Nat.le_of_ble_eq_true rfl) h
  · replace h := h.2 c
    refine ch_aload_n (i := 0) d_w_fewestBack_36 rfl rfl ?_
    refine ch_get (v := .inr (8, 0, 3)) d_w_fewestBack_37 fl_w_18 rfl ?_
    refine ch_iload_n (i := 3) d_w_fewestBack_40 rfl rfl ?_
    refine ch_iconst (v := 0) d_w_fewestBack_41 (by decide) ?_
    have b1 := h.1
    replace h := h.2
    refine ch_iast (n := 15) d_w_fewestBack_42 (by decide) rfl b1 ?_
    generalize hmm2 : ch_wr m (8, 0, 3) (Int32.toNatClampNeg x3) 0 = m2
    replace h := h m2 hmm2.symm
    refine ch_iconst (v := 3) d_w_fewestBack_43 (by decide) ?_
    refine ch_istore (i := 4) d_w_fewestBack_44 (Nat.le_of_ble_eq_true rfl) (ls' := [some (.inr (8, 0, 0)), some (.inr (1, j1, 0)), some (.inl (.int x2)), some (.inl (.int x3)), some (.inl (.int 3))]) rfl ?_
    exact h
set_option maxHeartbeats 1600000 in
theorem g_w_fewestBack_46 (g : ch_G) (Q : ch_O → ch_M → Prop) (j1 : Nat) (x2 : Int32) (x3 : Int32) (x4 : Int32) (m : ch_M) (h : ((x4 < 1 → ch_J g m_w_fewestBack (ch_rm m_w_fewestBack) (ch_E g m_w_fewestBack Q) 32 [some (.inr (8, 0, 0)), some (.inr (1, j1, 0)), some (.inl (.int x2)), some (.inl (.int (x3 + (-1)))), some (.inl (.int x4))] [] m 0) ∧ (¬ x4 < 1 → (ch_C g m_w_tryStep [.inr (8, 0, 0), .inr (1, j1, 0), .inl (.int x2), .inl (.int x3), .inl (.int x4)] m (ch_ov (fun (m2 : ch_M) => ch_J g m_w_fewestBack (ch_rm m_w_fewestBack) (ch_E g m_w_fewestBack Q) 46 [some (.inr (8, 0, 0)), some (.inr (1, j1, 0)), some (.inl (.int x2)), some (.inl (.int x3)), some (.inl (.int (x4 + (-1))))] [] m2 0)))))) : ch_J g m_w_fewestBack (ch_rm m_w_fewestBack) (ch_E g m_w_fewestBack Q) 46 [some (.inr (8, 0, 0)), some (.inr (1, j1, 0)), some (.inl (.int x2)), some (.inl (.int x3)), some (.inl (.int x4))] [] m 0 := by
  refine ch_iload d_w_fewestBack_46 rfl ?_
  refine ch_iconst (v := 1) d_w_fewestBack_48 (by decide) ?_
  refine ch_icmp_lt (tgt := 67) d_w_fewestBack_49 (by decide) (fun c => ?_) (fun c => ?_)
  · replace h := h.1 c
    refine ch_iinc (i := 3) (v := (x3 + (-1))) d_w_fewestBack_67 rfl rfl (Nat.le_of_ble_eq_true rfl) (ls' := [some (.inr (8, 0, 0)), some (.inr (1, j1, 0)), some (.inl (.int x2)), some (.inl (.int (x3 + (-1)))), some (.inl (.int x4))]) rfl ?_
    refine ch_goto (tgt := 32) d_w_fewestBack_70 (by decide) ?_
    exact h
  · replace h := h.2 c
    refine ch_aload_n (i := 0) d_w_fewestBack_52 rfl rfl ?_
    refine ch_aload_n (i := 1) d_w_fewestBack_53 rfl rfl ?_
    refine ch_iload_n (i := 2) d_w_fewestBack_54 rfl rfl ?_
    refine ch_iload_n (i := 3) d_w_fewestBack_55 rfl rfl ?_
    refine ch_iload d_w_fewestBack_56 rfl ?_
    refine ch_callV (as := [.inr (1, j1, 0), .inl (.int x2), .inl (.int x3), .inl (.int x4)]) d_w_fewestBack_58 lk_w_21 mi_w_tryStep me_w_tryStep rfl rfl rfl ⟨Nat.le_of_ble_eq_true rfl, Nat.le_of_ble_eq_true rfl⟩ (Nat.le_of_ble_eq_true rfl) ⟨Nat.le_of_ble_eq_true rfl, Nat.le_of_ble_eq_true rfl⟩ (ch_mono (ch_Kv (fun m2 h => ?_)) h)
    refine ch_iinc (i := 4) (v := (x4 + (-1))) d_w_fewestBack_61 rfl rfl (Nat.le_of_ble_eq_true rfl) (ls' := [some (.inr (8, 0, 0)), some (.inr (1, j1, 0)), some (.inl (.int x2)), some (.inl (.int x3)), some (.inl (.int (x4 + (-1))))]) rfl ?_
    refine ch_goto (tgt := 46) d_w_fewestBack_64 (by decide) ?_
    exact h
theorem e_w_tryStep (g : ch_G) (Q : ch_O → ch_M → Prop) (j1 : Nat) (p2 : Int32) (p3 : Int32) (p4 : Int32) (m : ch_M) (h : ch_J g m_w_tryStep (ch_rm m_w_tryStep) (ch_E g m_w_tryStep Q) 0 [some (.inr (8, 0, 0)), some (.inr (1, j1, 0)), some (.inl (.int p2)), some (.inl (.int p3)), some (.inl (.int p4)), none, none, none] [] m 0) : ch_C g m_w_tryStep [.inr (8, 0, 0), .inr (1, j1, 0), .inl (.int p2), .inl (.int p3), .inl (.int p4)] m Q :=
  ch_enter mf_w_tryStep (by intro v hv; simp only [List.mem_cons, List.not_mem_nil, or_false] at hv; rcases hv with rfl | rfl | rfl | rfl | rfl <;> rfl) (Nat.le_of_ble_eq_true rfl) h
set_option maxHeartbeats 1600000 in
theorem g_w_tryStep_0 (g : ch_G) (Q : ch_O → ch_M → Prop) (j1 : Nat) (p2 : Int32) (p3 : Int32) (p4 : Int32) (m : ch_M) (h : (vp_in (p3 + p4) 15) ∧ (ch_C g m_w_lineAt [.inr (8, 0, 0), .inr (1, j1, 0), .inl (.int p2), .inl (.int (p3 + p4))] m (ch_oi (fun (r2 : Int32) (m3 : ch_M) => (vp_in p3 15) ∧ (((m3 (8, 0, 3) (Int32.toNatClampNeg p3)) = 0 → (∀ m5 : ch_M, m5 = ch_wr m3 (8, 0, 1) (Int32.toNatClampNeg p3) ((m (8, 0, 1) (Int32.toNatClampNeg (p3 + p4))) + r2) → (∀ m6 : ch_M, m6 = ch_wr m5 (8, 0, 2) (Int32.toNatClampNeg p3) ((m3 (8, 0, 2) (Int32.toNatClampNeg (p3 + p4))) + 1) → (∀ m7 : ch_M, m7 = ch_wr m6 (8, 0, 3) (Int32.toNatClampNeg p3) p4 → Q (.inl none) m7)))) ∧ (¬ (m3 (8, 0, 3) (Int32.toNatClampNeg p3)) = 0 → ((((m (8, 0, 1) (Int32.toNatClampNeg (p3 + p4))) + r2) < (m3 (8, 0, 1) (Int32.toNatClampNeg p3)) → (∀ m8 : ch_M, m8 = ch_wr m3 (8, 0, 1) (Int32.toNatClampNeg p3) ((m (8, 0, 1) (Int32.toNatClampNeg (p3 + p4))) + r2) → (∀ m9 : ch_M, m9 = ch_wr m8 (8, 0, 2) (Int32.toNatClampNeg p3) ((m3 (8, 0, 2) (Int32.toNatClampNeg (p3 + p4))) + 1) → (∀ m10 : ch_M, m10 = ch_wr m9 (8, 0, 3) (Int32.toNatClampNeg p3) p4 → Q (.inl none) m10)))) ∧ (¬ ((m (8, 0, 1) (Int32.toNatClampNeg (p3 + p4))) + r2) < (m3 (8, 0, 1) (Int32.toNatClampNeg p3)) → ((¬ ((m (8, 0, 1) (Int32.toNatClampNeg (p3 + p4))) + r2) = (m3 (8, 0, 1) (Int32.toNatClampNeg p3)) → Q (.inl none) m3) ∧ (((m (8, 0, 1) (Int32.toNatClampNeg (p3 + p4))) + r2) = (m3 (8, 0, 1) (Int32.toNatClampNeg p3)) → (((m3 (8, 0, 2) (Int32.toNatClampNeg p3)) ≤ ((m3 (8, 0, 2) (Int32.toNatClampNeg (p3 + p4))) + 1) → Q (.inl none) m3) ∧ (¬ (m3 (8, 0, 2) (Int32.toNatClampNeg p3)) ≤ ((m3 (8, 0, 2) (Int32.toNatClampNeg (p3 + p4))) + 1) → (∀ m11 : ch_M, m11 = ch_wr m3 (8, 0, 1) (Int32.toNatClampNeg p3) ((m (8, 0, 1) (Int32.toNatClampNeg (p3 + p4))) + r2) → (∀ m12 : ch_M, m12 = ch_wr m11 (8, 0, 2) (Int32.toNatClampNeg p3) ((m3 (8, 0, 2) (Int32.toNatClampNeg (p3 + p4))) + 1) → (∀ m13 : ch_M, m13 = ch_wr m12 (8, 0, 3) (Int32.toNatClampNeg p3) p4 → Q (.inl none) m13))))))))))))))) : ch_J g m_w_tryStep (ch_rm m_w_tryStep) (ch_E g m_w_tryStep Q) 0 [some (.inr (8, 0, 0)), some (.inr (1, j1, 0)), some (.inl (.int p2)), some (.inl (.int p3)), some (.inl (.int p4)), none, none, none] [] m 0 := by
  refine ch_iload_n (i := 3) d_w_tryStep_0 rfl rfl ?_
  refine ch_iload d_w_tryStep_1 rfl ?_
  refine ch_iadd d_w_tryStep_3 ?_
  refine ch_istore (i := 5) d_w_tryStep_4 (Nat.le_of_ble_eq_true rfl) (ls' := [some (.inr (8, 0, 0)), some (.inr (1, j1, 0)), some (.inl (.int p2)), some (.inl (.int p3)), some (.inl (.int p4)), some (.inl (.int (p3 + p4))), none, none]) rfl ?_
  refine ch_aload_n (i := 0) d_w_tryStep_6 rfl rfl ?_
  refine ch_get (v := .inr (8, 0, 1)) d_w_tryStep_7 fl_w_11 rfl ?_
  refine ch_iload d_w_tryStep_10 rfl ?_
  have b1 := h.1
  replace h := h.2
  refine ch_iald (n := 15) d_w_tryStep_12 (by decide) rfl b1 ?_
  refine ch_aload_n (i := 0) d_w_tryStep_13 rfl rfl ?_
  refine ch_aload_n (i := 1) d_w_tryStep_14 rfl rfl ?_
  refine ch_iload_n (i := 2) d_w_tryStep_15 rfl rfl ?_
  refine ch_iload d_w_tryStep_16 rfl ?_
  refine ch_callV (as := [.inr (1, j1, 0), .inl (.int p2), .inl (.int (p3 + p4))]) d_w_tryStep_18 lk_w_25 mi_w_lineAt me_w_lineAt rfl rfl rfl ⟨Nat.le_of_ble_eq_true rfl, Nat.le_of_ble_eq_true rfl⟩ (Nat.le_of_ble_eq_true rfl) ⟨Nat.le_of_ble_eq_true rfl, Nat.le_of_ble_eq_true rfl⟩ (ch_mono (ch_Ki (fun r2 m3 h => ?_)) h)
  refine ch_iadd d_w_tryStep_21 ?_
  refine ch_istore (i := 6) d_w_tryStep_22 (Nat.le_of_ble_eq_true rfl) (ls' := [some (.inr (8, 0, 0)), some (.inr (1, j1, 0)), some (.inl (.int p2)), some (.inl (.int p3)), some (.inl (.int p4)), some (.inl (.int (p3 + p4))), some (.inl (.int ((m (8, 0, 1) (Int32.toNatClampNeg (p3 + p4))) + r2))), none]) rfl ?_
  refine ch_aload_n (i := 0) d_w_tryStep_24 rfl rfl ?_
  refine ch_get (v := .inr (8, 0, 2)) d_w_tryStep_25 fl_w_15 rfl ?_
  refine ch_iload d_w_tryStep_28 rfl ?_
  refine ch_iald (n := 15) d_w_tryStep_30 (by decide) rfl b1 ?_
  refine ch_iconst (v := 1) d_w_tryStep_31 (by decide) ?_
  refine ch_iadd d_w_tryStep_32 ?_
  refine ch_istore (i := 7) d_w_tryStep_33 (Nat.le_of_ble_eq_true rfl) (ls' := [some (.inr (8, 0, 0)), some (.inr (1, j1, 0)), some (.inl (.int p2)), some (.inl (.int p3)), some (.inl (.int p4)), some (.inl (.int (p3 + p4))), some (.inl (.int ((m (8, 0, 1) (Int32.toNatClampNeg (p3 + p4))) + r2))), some (.inl (.int ((m3 (8, 0, 2) (Int32.toNatClampNeg (p3 + p4))) + 1)))]) rfl ?_
  refine ch_aload_n (i := 0) d_w_tryStep_35 rfl rfl ?_
  refine ch_get (v := .inr (8, 0, 3)) d_w_tryStep_36 fl_w_18 rfl ?_
  refine ch_iload_n (i := 3) d_w_tryStep_39 rfl rfl ?_
  have b4 := h.1
  replace h := h.2
  refine ch_iald (n := 15) d_w_tryStep_40 (by decide) rfl b4 ?_
  refine ch_if_eq (tgt := 77) d_w_tryStep_41 (by decide) (fun c => ?_) (fun c => ?_)
  · replace h := h.1 c
    refine ch_aload_n (i := 0) d_w_tryStep_77 rfl rfl ?_
    refine ch_get (v := .inr (8, 0, 1)) d_w_tryStep_78 fl_w_11 rfl ?_
    refine ch_iload_n (i := 3) d_w_tryStep_81 rfl rfl ?_
    refine ch_iload d_w_tryStep_82 rfl ?_
    refine ch_iast (n := 15) d_w_tryStep_84 (by decide) rfl b4 ?_
    generalize hmm5 : ch_wr m3 (8, 0, 1) (Int32.toNatClampNeg p3) ((m (8, 0, 1) (Int32.toNatClampNeg (p3 + p4))) + r2) = m5
    replace h := h m5 hmm5.symm
    refine ch_aload_n (i := 0) d_w_tryStep_85 rfl rfl ?_
    refine ch_get (v := .inr (8, 0, 2)) d_w_tryStep_86 fl_w_15 rfl ?_
    refine ch_iload_n (i := 3) d_w_tryStep_89 rfl rfl ?_
    refine ch_iload d_w_tryStep_90 rfl ?_
    refine ch_iast (n := 15) d_w_tryStep_92 (by decide) rfl b4 ?_
    generalize hmm6 : ch_wr m5 (8, 0, 2) (Int32.toNatClampNeg p3) ((m3 (8, 0, 2) (Int32.toNatClampNeg (p3 + p4))) + 1) = m6
    replace h := h m6 hmm6.symm
    refine ch_aload_n (i := 0) d_w_tryStep_93 rfl rfl ?_
    refine ch_get (v := .inr (8, 0, 3)) d_w_tryStep_94 fl_w_18 rfl ?_
    refine ch_iload_n (i := 3) d_w_tryStep_97 rfl rfl ?_
    refine ch_iload d_w_tryStep_98 rfl ?_
    refine ch_iast (n := 15) d_w_tryStep_100 (by decide) rfl b4 ?_
    generalize hmm7 : ch_wr m6 (8, 0, 3) (Int32.toNatClampNeg p3) p4 = m7
    replace h := h m7 hmm7.symm
    exact ch_vret d_w_tryStep_101 rfl (Nat.le_of_ble_eq_true rfl) h
  · replace h := h.2 c
    refine ch_iload d_w_tryStep_44 rfl ?_
    refine ch_aload_n (i := 0) d_w_tryStep_46 rfl rfl ?_
    refine ch_get (v := .inr (8, 0, 1)) d_w_tryStep_47 fl_w_11 rfl ?_
    refine ch_iload_n (i := 3) d_w_tryStep_50 rfl rfl ?_
    refine ch_iald (n := 15) d_w_tryStep_51 (by decide) rfl b4 ?_
    refine ch_icmp_lt (tgt := 77) d_w_tryStep_52 (by decide) (fun c => ?_) (fun c => ?_)
    · replace h := h.1 c
      refine ch_aload_n (i := 0) d_w_tryStep_77 rfl rfl ?_
      refine ch_get (v := .inr (8, 0, 1)) d_w_tryStep_78 fl_w_11 rfl ?_
      refine ch_iload_n (i := 3) d_w_tryStep_81 rfl rfl ?_
      refine ch_iload d_w_tryStep_82 rfl ?_
      refine ch_iast (n := 15) d_w_tryStep_84 (by decide) rfl b4 ?_
      generalize hmm8 : ch_wr m3 (8, 0, 1) (Int32.toNatClampNeg p3) ((m (8, 0, 1) (Int32.toNatClampNeg (p3 + p4))) + r2) = m8
      replace h := h m8 hmm8.symm
      refine ch_aload_n (i := 0) d_w_tryStep_85 rfl rfl ?_
      refine ch_get (v := .inr (8, 0, 2)) d_w_tryStep_86 fl_w_15 rfl ?_
      refine ch_iload_n (i := 3) d_w_tryStep_89 rfl rfl ?_
      refine ch_iload d_w_tryStep_90 rfl ?_
      refine ch_iast (n := 15) d_w_tryStep_92 (by decide) rfl b4 ?_
      generalize hmm9 : ch_wr m8 (8, 0, 2) (Int32.toNatClampNeg p3) ((m3 (8, 0, 2) (Int32.toNatClampNeg (p3 + p4))) + 1) = m9
      replace h := h m9 hmm9.symm
      refine ch_aload_n (i := 0) d_w_tryStep_93 rfl rfl ?_
      refine ch_get (v := .inr (8, 0, 3)) d_w_tryStep_94 fl_w_18 rfl ?_
      refine ch_iload_n (i := 3) d_w_tryStep_97 rfl rfl ?_
      refine ch_iload d_w_tryStep_98 rfl ?_
      refine ch_iast (n := 15) d_w_tryStep_100 (by decide) rfl b4 ?_
      generalize hmm10 : ch_wr m9 (8, 0, 3) (Int32.toNatClampNeg p3) p4 = m10
      replace h := h m10 hmm10.symm
      exact ch_vret d_w_tryStep_101 rfl (Nat.le_of_ble_eq_true rfl) h
    · replace h := h.2 c
      refine ch_iload d_w_tryStep_55 rfl ?_
      refine ch_aload_n (i := 0) d_w_tryStep_57 rfl rfl ?_
      refine ch_get (v := .inr (8, 0, 1)) d_w_tryStep_58 fl_w_11 rfl ?_
      refine ch_iload_n (i := 3) d_w_tryStep_61 rfl rfl ?_
      refine ch_iald (n := 15) d_w_tryStep_62 (by decide) rfl b4 ?_
      refine ch_icmp_ne (tgt := 101) d_w_tryStep_63 (by decide) (fun c => ?_) (fun c => ?_)
      · replace h := h.1 c
        exact ch_vret d_w_tryStep_101 rfl (Nat.le_of_ble_eq_true rfl) h
      · replace h := h.2 c
        refine ch_iload d_w_tryStep_66 rfl ?_
        refine ch_aload_n (i := 0) d_w_tryStep_68 rfl rfl ?_
        refine ch_get (v := .inr (8, 0, 2)) d_w_tryStep_69 fl_w_15 rfl ?_
        refine ch_iload_n (i := 3) d_w_tryStep_72 rfl rfl ?_
        refine ch_iald (n := 15) d_w_tryStep_73 (by decide) rfl b4 ?_
        refine ch_icmp_ge (tgt := 101) d_w_tryStep_74 (by decide) (fun c => ?_) (fun c => ?_)
        · replace h := h.1 c
          exact ch_vret d_w_tryStep_101 rfl (Nat.le_of_ble_eq_true rfl) h
        · replace h := h.2 c
          refine ch_aload_n (i := 0) d_w_tryStep_77 rfl rfl ?_
          refine ch_get (v := .inr (8, 0, 1)) d_w_tryStep_78 fl_w_11 rfl ?_
          refine ch_iload_n (i := 3) d_w_tryStep_81 rfl rfl ?_
          refine ch_iload d_w_tryStep_82 rfl ?_
          refine ch_iast (n := 15) d_w_tryStep_84 (by decide) rfl b4 ?_
          generalize hmm11 : ch_wr m3 (8, 0, 1) (Int32.toNatClampNeg p3) ((m (8, 0, 1) (Int32.toNatClampNeg (p3 + p4))) + r2) = m11
          replace h := h m11 hmm11.symm
          refine ch_aload_n (i := 0) d_w_tryStep_85 rfl rfl ?_
          refine ch_get (v := .inr (8, 0, 2)) d_w_tryStep_86 fl_w_15 rfl ?_
          refine ch_iload_n (i := 3) d_w_tryStep_89 rfl rfl ?_
          refine ch_iload d_w_tryStep_90 rfl ?_
          refine ch_iast (n := 15) d_w_tryStep_92 (by decide) rfl b4 ?_
          generalize hmm12 : ch_wr m11 (8, 0, 2) (Int32.toNatClampNeg p3) ((m3 (8, 0, 2) (Int32.toNatClampNeg (p3 + p4))) + 1) = m12
          replace h := h m12 hmm12.symm
          refine ch_aload_n (i := 0) d_w_tryStep_93 rfl rfl ?_
          refine ch_get (v := .inr (8, 0, 3)) d_w_tryStep_94 fl_w_18 rfl ?_
          refine ch_iload_n (i := 3) d_w_tryStep_97 rfl rfl ?_
          refine ch_iload d_w_tryStep_98 rfl ?_
          refine ch_iast (n := 15) d_w_tryStep_100 (by decide) rfl b4 ?_
          generalize hmm13 : ch_wr m12 (8, 0, 3) (Int32.toNatClampNeg p3) p4 = m13
          replace h := h m13 hmm13.symm
          exact ch_vret d_w_tryStep_101 rfl (Nat.le_of_ble_eq_true rfl) h
theorem e_w_tellBest (g : ch_G) (Q : ch_O → ch_M → Prop) (j1 : Nat) (m : ch_M) (h : ch_J g m_w_tellBest (ch_rm m_w_tellBest) (ch_E g m_w_tellBest Q) 0 [some (.inr (8, 0, 0)), some (.inr (5, j1, 0)), none, none] [] m 0) : ch_C g m_w_tellBest [.inr (8, 0, 0), .inr (5, j1, 0)] m Q :=
  ch_enter mf_w_tellBest (by intro v hv; simp only [List.mem_cons, List.not_mem_nil, or_false] at hv; rcases hv with rfl | rfl <;> rfl) (Nat.le_of_ble_eq_true rfl) h
set_option maxHeartbeats 1600000 in
theorem g_w_tellBest_0 (g : ch_G) (Q : ch_O → ch_M → Prop) (j1 : Nat) (m : ch_M) (h : (∀ m1 : ch_M, m1 = ch_wr m (5, j1, 0) 1 0 → ch_J g m_w_tellBest (ch_rm m_w_tellBest) (ch_E g m_w_tellBest Q) 9 [some (.inr (8, 0, 0)), some (.inr (5, j1, 0)), some (.inl (.int 0)), some (.inl (.int 0))] [] m1 0)) : ch_J g m_w_tellBest (ch_rm m_w_tellBest) (ch_E g m_w_tellBest Q) 0 [some (.inr (8, 0, 0)), some (.inr (5, j1, 0)), none, none] [] m 0 := by
  refine ch_aload_n (i := 1) d_w_tellBest_0 rfl rfl ?_
  refine ch_iconst (v := 0) d_w_tellBest_1 (by decide) ?_
  refine ch_put d_w_tellBest_2 fp_w_29 rfl rfl rfl ?_
  generalize hmm1 : ch_wr m (5, j1, 0) 1 0 = m1
  replace h := h m1 hmm1.symm
  refine ch_iconst (v := 0) d_w_tellBest_5 (by decide) ?_
  refine ch_istore_n (i := 2) d_w_tellBest_6 rfl (Nat.le_of_ble_eq_true rfl) (ls' := [some (.inr (8, 0, 0)), some (.inr (5, j1, 0)), some (.inl (.int 0)), none]) rfl ?_
  refine ch_iconst (v := 0) d_w_tellBest_7 (by decide) ?_
  refine ch_istore_n (i := 3) d_w_tellBest_8 rfl (Nat.le_of_ble_eq_true rfl) (ls' := [some (.inr (8, 0, 0)), some (.inr (5, j1, 0)), some (.inl (.int 0)), some (.inl (.int 0))]) rfl ?_
  exact h
set_option maxHeartbeats 1600000 in
theorem g_w_tellBest_9 (g : ch_G) (Q : ch_O → ch_M → Prop) (j1 : Nat) (x2 : Int32) (x3 : Int32) (m : ch_M) (h : ((12 ≤ x3 → Q (.inl none) m) ∧ (¬ 12 ≤ x3 → ((12 ≤ x2 → Q (.inl none) m) ∧ (¬ 12 ≤ x2 → (vp_in x2 15) ∧ (ch_C g m_s_add [.inr (5, j1, 0), .inl (.int (m (8, 0, 3) (Int32.toNatClampNeg x2)))] m (ch_ov (fun (m3 : ch_M) => ch_J g m_w_tellBest (ch_rm m_w_tellBest) (ch_E g m_w_tellBest Q) 9 [some (.inr (8, 0, 0)), some (.inr (5, j1, 0)), some (.inl (.int (x2 + (m3 (8, 0, 3) (Int32.toNatClampNeg x2))))), some (.inl (.int (x3 + 1)))] [] m3 0)))))))) : ch_J g m_w_tellBest (ch_rm m_w_tellBest) (ch_E g m_w_tellBest Q) 9 [some (.inr (8, 0, 0)), some (.inr (5, j1, 0)), some (.inl (.int x2)), some (.inl (.int x3))] [] m 0 := by
  refine ch_iload_n (i := 3) d_w_tellBest_9 rfl rfl ?_
  refine ch_bipush (v := 12) d_w_tellBest_10 (by decide) ?_
  refine ch_icmp_ge (tgt := 46) d_w_tellBest_12 (by decide) (fun c => ?_) (fun c => ?_)
  · replace h := h.1 c
    exact ch_vret d_w_tellBest_46 rfl (Nat.le_of_ble_eq_true rfl) h
  · replace h := h.2 c
    refine ch_iload_n (i := 2) d_w_tellBest_15 rfl rfl ?_
    refine ch_bipush (v := 12) d_w_tellBest_16 (by decide) ?_
    refine ch_icmp_ge (tgt := 46) d_w_tellBest_18 (by decide) (fun c => ?_) (fun c => ?_)
    · replace h := h.1 c
      exact ch_vret d_w_tellBest_46 rfl (Nat.le_of_ble_eq_true rfl) h
    · replace h := h.2 c
      refine ch_aload_n (i := 1) d_w_tellBest_21 rfl rfl ?_
      refine ch_aload_n (i := 0) d_w_tellBest_22 rfl rfl ?_
      refine ch_get (v := .inr (8, 0, 3)) d_w_tellBest_23 fl_w_18 rfl ?_
      refine ch_iload_n (i := 2) d_w_tellBest_26 rfl rfl ?_
      have b1 := h.1
      replace h := h.2
      refine ch_iald (n := 15) d_w_tellBest_27 (by decide) rfl b1 ?_
      refine ch_callV (as := [.inl (.int (m (8, 0, 3) (Int32.toNatClampNeg x2)))]) d_w_tellBest_28 lk_w_35 mi_s_add me_s_add rfl rfl rfl ⟨Nat.le_of_ble_eq_true rfl, Nat.le_of_ble_eq_true rfl⟩ (Nat.le_of_ble_eq_true rfl) ⟨Nat.le_of_ble_eq_true rfl, Nat.le_of_ble_eq_true rfl⟩ (ch_mono (ch_Kv (fun m3 h => ?_)) h)
      refine ch_iload_n (i := 2) d_w_tellBest_31 rfl rfl ?_
      refine ch_aload_n (i := 0) d_w_tellBest_32 rfl rfl ?_
      refine ch_get (v := .inr (8, 0, 3)) d_w_tellBest_33 fl_w_18 rfl ?_
      refine ch_iload_n (i := 2) d_w_tellBest_36 rfl rfl ?_
      refine ch_iald (n := 15) d_w_tellBest_37 (by decide) rfl b1 ?_
      refine ch_iadd d_w_tellBest_38 ?_
      refine ch_istore_n (i := 2) d_w_tellBest_39 rfl (Nat.le_of_ble_eq_true rfl) (ls' := [some (.inr (8, 0, 0)), some (.inr (5, j1, 0)), some (.inl (.int (x2 + (m3 (8, 0, 3) (Int32.toNatClampNeg x2))))), some (.inl (.int x3))]) rfl ?_
      refine ch_iinc (i := 3) (v := (x3 + 1)) d_w_tellBest_40 rfl rfl (Nat.le_of_ble_eq_true rfl) (ls' := [some (.inr (8, 0, 0)), some (.inr (5, j1, 0)), some (.inl (.int (x2 + (m3 (8, 0, 3) (Int32.toNatClampNeg x2))))), some (.inl (.int (x3 + 1)))]) rfl ?_
      refine ch_goto (tgt := 9) d_w_tellBest_43 (by decide) ?_
      exact h
theorem e_w_fewestOn (g : ch_G) (Q : ch_O → ch_M → Prop) (j1 : Nat) (p2 : Int32) (m : ch_M) (h : ch_J g m_w_fewestOn (ch_rm m_w_fewestOn) (ch_E g m_w_fewestOn Q) 0 [some (.inr (8, 0, 0)), some (.inr (1, j1, 0)), some (.inl (.int p2)), none, none, none, none] [] m 0) : ch_C g m_w_fewestOn [.inr (8, 0, 0), .inr (1, j1, 0), .inl (.int p2)] m Q :=
  ch_enter mf_w_fewestOn (by intro v hv; simp only [List.mem_cons, List.not_mem_nil, or_false] at hv; rcases hv with rfl | rfl | rfl <;> rfl) (Nat.le_of_ble_eq_true rfl) h
set_option maxHeartbeats 1600000 in
theorem g_w_fewestOn_0 (g : ch_G) (Q : ch_O → ch_M → Prop) (j1 : Nat) (p2 : Int32) (m : ch_M) (h : (∀ m1 : ch_M, m1 = ch_wr m (8, 0, 1) (0) 0 → ch_J g m_w_fewestOn (ch_rm m_w_fewestOn) (ch_E g m_w_fewestOn Q) 13 [some (.inr (8, 0, 0)), some (.inr (1, j1, 0)), some (.inl (.int p2)), some (.inl (.int 12)), some (.inl (.int 1)), none, none] [] m1 0)) : ch_J g m_w_fewestOn (ch_rm m_w_fewestOn) (ch_E g m_w_fewestOn Q) 0 [some (.inr (8, 0, 0)), some (.inr (1, j1, 0)), some (.inl (.int p2)), none, none, none, none] [] m 0 := by
  refine ch_aload_n (i := 0) d_w_fewestOn_0 rfl rfl ?_
  refine ch_get (v := .inr (8, 0, 1)) d_w_fewestOn_1 fl_w_11 rfl ?_
  refine ch_iconst (v := 0) d_w_fewestOn_4 (by decide) ?_
  refine ch_iconst (v := 0) d_w_fewestOn_5 (by decide) ?_
  refine ch_iast (n := 15) d_w_fewestOn_6 (by decide) rfl (vp_in_nI (n := 0) (by decide) (by decide)) ?_
  show ch_J g _ _ _ _ _ _ (ch_wr m (8, 0, 1) (0) 0) _
  generalize hmm1 : ch_wr m (8, 0, 1) (0) 0 = m1
  replace h := h m1 hmm1.symm
  refine ch_bipush (v := 12) d_w_fewestOn_7 (by decide) ?_
  refine ch_istore_n (i := 3) d_w_fewestOn_9 rfl (Nat.le_of_ble_eq_true rfl) (ls' := [some (.inr (8, 0, 0)), some (.inr (1, j1, 0)), some (.inl (.int p2)), some (.inl (.int 12)), none, none, none]) rfl ?_
  refine ch_iconst (v := 1) d_w_fewestOn_10 (by decide) ?_
  refine ch_istore (i := 4) d_w_fewestOn_11 (Nat.le_of_ble_eq_true rfl) (ls' := [some (.inr (8, 0, 0)), some (.inr (1, j1, 0)), some (.inl (.int p2)), some (.inl (.int 12)), some (.inl (.int 1)), none, none]) rfl ?_
  exact h
set_option maxHeartbeats 1600000 in
theorem g_w_fewestOn_13 (g : ch_G) (Q : ch_O → ch_M → Prop) (j1 : Nat) (x2 : Int32) (x3 : Int32) (x4 : Int32) (o5 : Option ch_V) (o6 : Option ch_V) (m : ch_M) (h : ((15 ≤ x4 → Q (.inl (some (.inl (.int x3)))) m) ∧ (¬ 15 ≤ x4 → ch_J g m_w_fewestOn (ch_rm m_w_fewestOn) (ch_E g m_w_fewestOn Q) 34 [some (.inr (8, 0, 0)), some (.inr (1, j1, 0)), some (.inl (.int x2)), some (.inl (.int x3)), some (.inl (.int x4)), some (.inl (.int 12)), some (.inl (.int (if (x4 - 3) < 0 then 0 else (x4 - 3))))] [] m 0))) : ch_J g m_w_fewestOn (ch_rm m_w_fewestOn) (ch_E g m_w_fewestOn Q) 13 [some (.inr (8, 0, 0)), some (.inr (1, j1, 0)), some (.inl (.int x2)), some (.inl (.int x3)), some (.inl (.int x4)), o5, o6] [] m 0 := by
  refine ch_iload d_w_fewestOn_13 rfl ?_
  refine ch_bipush (v := 15) d_w_fewestOn_15 (by decide) ?_
  refine ch_icmp_ge (tgt := 115) d_w_fewestOn_17 (by decide) (fun c => ?_) (fun c => ?_)
  · replace h := h.1 c
    refine ch_iload_n (i := 3) d_w_fewestOn_115 rfl rfl ?_
    exact ch_iret (ty := .int) d_w_fewestOn_116 rfl rfl (Nat.le_of_ble_eq_true rfl) h
  · replace h := h.2 c
    refine ch_bipush (v := 12) d_w_fewestOn_20 (by decide) ?_
    refine ch_istore (i := 5) d_w_fewestOn_22 (Nat.le_of_ble_eq_true rfl) (ls' := [some (.inr (8, 0, 0)), some (.inr (1, j1, 0)), some (.inl (.int x2)), some (.inl (.int x3)), some (.inl (.int x4)), some (.inl (.int 12)), o6]) rfl ?_
    refine ch_iload d_w_fewestOn_24 rfl ?_
    refine ch_iconst (v := 3) d_w_fewestOn_26 (by decide) ?_
    refine ch_isub d_w_fewestOn_27 ?_
    refine ch_iconst (v := 0) d_w_fewestOn_28 (by decide) ?_
    refine ch_max d_w_fewestOn_29 lk_w_39 ⟨Nat.le_of_ble_eq_true rfl, Nat.le_of_ble_eq_true rfl⟩ ⟨Nat.le_of_ble_eq_true rfl, Nat.le_of_ble_eq_true rfl⟩ (Nat.le_of_ble_eq_true rfl) ?_
    refine ch_istore (i := 6) d_w_fewestOn_32 (Nat.le_of_ble_eq_true rfl) (ls' := [some (.inr (8, 0, 0)), some (.inr (1, j1, 0)), some (.inl (.int x2)), some (.inl (.int x3)), some (.inl (.int x4)), some (.inl (.int 12)), some (.inl (.int (if (x4 - 3) < 0 then 0 else (x4 - 3))))]) rfl ?_
    exact h
set_option maxHeartbeats 1600000 in
theorem g_w_fewestOn_34 (g : ch_G) (Q : ch_O → ch_M → Prop) (j1 : Nat) (x2 : Int32) (x3 : Int32) (x4 : Int32) (x5 : Int32) (x6 : Int32) (m : ch_M) (h : ((x4 ≤ x6 → ch_J g m_w_fewestOn (ch_rm m_w_fewestOn) (ch_E g m_w_fewestOn Q) 68 [some (.inr (8, 0, 0)), some (.inr (1, j1, 0)), some (.inl (.int x2)), some (.inl (.int x3)), some (.inl (.int x4)), some (.inl (.int x5)), some (.inl (.int x6))] [] m 0) ∧ (¬ x4 ≤ x6 → ((12 ≤ x6 → ch_J g m_w_fewestOn (ch_rm m_w_fewestOn) (ch_E g m_w_fewestOn Q) 68 [some (.inr (8, 0, 0)), some (.inr (1, j1, 0)), some (.inl (.int x2)), some (.inl (.int x3)), some (.inl (.int x4)), some (.inl (.int x5)), some (.inl (.int x6))] [] m 0) ∧ (¬ 12 ≤ x6 → (vp_in x6 15) ∧ ch_J g m_w_fewestOn (ch_rm m_w_fewestOn) (ch_E g m_w_fewestOn Q) 34 [some (.inr (8, 0, 0)), some (.inr (1, j1, 0)), some (.inl (.int x2)), some (.inl (.int x3)), some (.inl (.int x4)), some (.inl (.int (if (m (8, 0, 1) (Int32.toNatClampNeg x6)) < x5 then (m (8, 0, 1) (Int32.toNatClampNeg x6)) else x5))), some (.inl (.int (x6 + 1)))] [] m 0))))) : ch_J g m_w_fewestOn (ch_rm m_w_fewestOn) (ch_E g m_w_fewestOn Q) 34 [some (.inr (8, 0, 0)), some (.inr (1, j1, 0)), some (.inl (.int x2)), some (.inl (.int x3)), some (.inl (.int x4)), some (.inl (.int x5)), some (.inl (.int x6))] [] m 0 := by
  refine ch_iload d_w_fewestOn_34 rfl ?_
  refine ch_iload d_w_fewestOn_36 rfl ?_
  refine ch_icmp_ge (tgt := 68) d_w_fewestOn_38 (by decide) (fun c => ?_) (fun c => ?_)
  · replace h := h.1 c
    exact h
  · replace h := h.2 c
    refine ch_iload d_w_fewestOn_41 rfl ?_
    refine ch_bipush (v := 12) d_w_fewestOn_43 (by decide) ?_
    refine ch_icmp_ge (tgt := 68) d_w_fewestOn_45 (by decide) (fun c => ?_) (fun c => ?_)
    · replace h := h.1 c
      exact h
    · replace h := h.2 c
      refine ch_iload d_w_fewestOn_48 rfl ?_
      refine ch_aload_n (i := 0) d_w_fewestOn_50 rfl rfl ?_
      refine ch_get (v := .inr (8, 0, 1)) d_w_fewestOn_51 fl_w_11 rfl ?_
      refine ch_iload d_w_fewestOn_54 rfl ?_
      have b1 := h.1
      replace h := h.2
      refine ch_iald (n := 15) d_w_fewestOn_56 (by decide) rfl b1 ?_
      refine ch_min d_w_fewestOn_57 lk_w_45 ⟨Nat.le_of_ble_eq_true rfl, Nat.le_of_ble_eq_true rfl⟩ ⟨Nat.le_of_ble_eq_true rfl, Nat.le_of_ble_eq_true rfl⟩ (Nat.le_of_ble_eq_true rfl) ?_
      refine ch_istore (i := 5) d_w_fewestOn_60 (Nat.le_of_ble_eq_true rfl) (ls' := [some (.inr (8, 0, 0)), some (.inr (1, j1, 0)), some (.inl (.int x2)), some (.inl (.int x3)), some (.inl (.int x4)), some (.inl (.int (if (m (8, 0, 1) (Int32.toNatClampNeg x6)) < x5 then (m (8, 0, 1) (Int32.toNatClampNeg x6)) else x5))), some (.inl (.int x6))]) rfl ?_
      refine ch_iinc (i := 6) (v := (x6 + 1)) d_w_fewestOn_62 rfl rfl (Nat.le_of_ble_eq_true rfl) (ls' := [some (.inr (8, 0, 0)), some (.inr (1, j1, 0)), some (.inl (.int x2)), some (.inl (.int x3)), some (.inl (.int x4)), some (.inl (.int (if (m (8, 0, 1) (Int32.toNatClampNeg x6)) < x5 then (m (8, 0, 1) (Int32.toNatClampNeg x6)) else x5))), some (.inl (.int (x6 + 1)))]) rfl ?_
      refine ch_goto (tgt := 34) d_w_fewestOn_65 (by decide) ?_
      exact h
set_option maxHeartbeats 1600000 in
theorem g_w_fewestOn_68 (g : ch_G) (Q : ch_O → ch_M → Prop) (j1 : Nat) (x2 : Int32) (x3 : Int32) (x4 : Int32) (x5 : Int32) (x6 : Int32) (m : ch_M) (h : (ch_C g m_w_lineAt [.inr (8, 0, 0), .inr (1, j1, 0), .inl (.int x2), .inl (.int x4)] m (ch_oi (fun (r1 : Int32) (m2 : ch_M) => (vp_in x4 15) ∧ (∀ m4 : ch_M, m4 = ch_wr m2 (8, 0, 1) (Int32.toNatClampNeg x4) (x5 + r1) → ((x4 < 12 → ch_J g m_w_fewestOn (ch_rm m_w_fewestOn) (ch_E g m_w_fewestOn Q) 13 [some (.inr (8, 0, 0)), some (.inr (1, j1, 0)), some (.inl (.int x2)), some (.inl (.int x3)), some (.inl (.int (x4 + 1))), some (.inl (.int x5)), some (.inl (.int x6))] [] m4 0) ∧ (¬ x4 < 12 → ch_J g m_w_fewestOn (ch_rm m_w_fewestOn) (ch_E g m_w_fewestOn Q) 13 [some (.inr (8, 0, 0)), some (.inr (1, j1, 0)), some (.inl (.int x2)), some (.inl (.int (if (m4 (8, 0, 1) (Int32.toNatClampNeg x4)) < x3 then (m4 (8, 0, 1) (Int32.toNatClampNeg x4)) else x3))), some (.inl (.int (x4 + 1))), some (.inl (.int x5)), some (.inl (.int x6))] [] m4 0))))))) : ch_J g m_w_fewestOn (ch_rm m_w_fewestOn) (ch_E g m_w_fewestOn Q) 68 [some (.inr (8, 0, 0)), some (.inr (1, j1, 0)), some (.inl (.int x2)), some (.inl (.int x3)), some (.inl (.int x4)), some (.inl (.int x5)), some (.inl (.int x6))] [] m 0 := by
  refine ch_aload_n (i := 0) d_w_fewestOn_68 rfl rfl ?_
  refine ch_get (v := .inr (8, 0, 1)) d_w_fewestOn_69 fl_w_11 rfl ?_
  refine ch_iload d_w_fewestOn_72 rfl ?_
  refine ch_iload d_w_fewestOn_74 rfl ?_
  refine ch_aload_n (i := 0) d_w_fewestOn_76 rfl rfl ?_
  refine ch_aload_n (i := 1) d_w_fewestOn_77 rfl rfl ?_
  refine ch_iload_n (i := 2) d_w_fewestOn_78 rfl rfl ?_
  refine ch_iload d_w_fewestOn_79 rfl ?_
  refine ch_callV (as := [.inr (1, j1, 0), .inl (.int x2), .inl (.int x4)]) d_w_fewestOn_81 lk_w_25 mi_w_lineAt me_w_lineAt rfl rfl rfl ⟨Nat.le_of_ble_eq_true rfl, Nat.le_of_ble_eq_true rfl⟩ (Nat.le_of_ble_eq_true rfl) ⟨Nat.le_of_ble_eq_true rfl, Nat.le_of_ble_eq_true rfl⟩ (ch_mono (ch_Ki (fun r1 m2 h => ?_)) h)
  refine ch_iadd d_w_fewestOn_84 ?_
  have b3 := h.1
  replace h := h.2
  refine ch_iast (n := 15) d_w_fewestOn_85 (by decide) rfl b3 ?_
  generalize hmm4 : ch_wr m2 (8, 0, 1) (Int32.toNatClampNeg x4) (x5 + r1) = m4
  replace h := h m4 hmm4.symm
  refine ch_iload d_w_fewestOn_86 rfl ?_
  refine ch_bipush (v := 12) d_w_fewestOn_88 (by decide) ?_
  refine ch_icmp_lt (tgt := 107) d_w_fewestOn_90 (by decide) (fun c => ?_) (fun c => ?_)
  · replace h := h.1 c
    refine ch_iload_n (i := 3) d_w_fewestOn_107 rfl rfl ?_
    refine ch_istore_n (i := 3) d_w_fewestOn_108 rfl (Nat.le_of_ble_eq_true rfl) (ls' := [some (.inr (8, 0, 0)), some (.inr (1, j1, 0)), some (.inl (.int x2)), some (.inl (.int x3)), some (.inl (.int x4)), some (.inl (.int x5)), some (.inl (.int x6))]) rfl ?_
    refine ch_iinc (i := 4) (v := (x4 + 1)) d_w_fewestOn_109 rfl rfl (Nat.le_of_ble_eq_true rfl) (ls' := [some (.inr (8, 0, 0)), some (.inr (1, j1, 0)), some (.inl (.int x2)), some (.inl (.int x3)), some (.inl (.int (x4 + 1))), some (.inl (.int x5)), some (.inl (.int x6))]) rfl ?_
    refine ch_goto (tgt := 13) d_w_fewestOn_112 (by decide) ?_
    exact h
  · replace h := h.2 c
    refine ch_iload_n (i := 3) d_w_fewestOn_93 rfl rfl ?_
    refine ch_aload_n (i := 0) d_w_fewestOn_94 rfl rfl ?_
    refine ch_get (v := .inr (8, 0, 1)) d_w_fewestOn_95 fl_w_11 rfl ?_
    refine ch_iload d_w_fewestOn_98 rfl ?_
    refine ch_iald (n := 15) d_w_fewestOn_100 (by decide) rfl b3 ?_
    refine ch_min d_w_fewestOn_101 lk_w_45 ⟨Nat.le_of_ble_eq_true rfl, Nat.le_of_ble_eq_true rfl⟩ ⟨Nat.le_of_ble_eq_true rfl, Nat.le_of_ble_eq_true rfl⟩ (Nat.le_of_ble_eq_true rfl) ?_
    refine ch_goto (tgt := 108) d_w_fewestOn_104 (by decide) ?_
    refine ch_istore_n (i := 3) d_w_fewestOn_108 rfl (Nat.le_of_ble_eq_true rfl) (ls' := [some (.inr (8, 0, 0)), some (.inr (1, j1, 0)), some (.inl (.int x2)), some (.inl (.int (if (m4 (8, 0, 1) (Int32.toNatClampNeg x4)) < x3 then (m4 (8, 0, 1) (Int32.toNatClampNeg x4)) else x3))), some (.inl (.int x4)), some (.inl (.int x5)), some (.inl (.int x6))]) rfl ?_
    refine ch_iinc (i := 4) (v := (x4 + 1)) d_w_fewestOn_109 rfl rfl (Nat.le_of_ble_eq_true rfl) (ls' := [some (.inr (8, 0, 0)), some (.inr (1, j1, 0)), some (.inl (.int x2)), some (.inl (.int (if (m4 (8, 0, 1) (Int32.toNatClampNeg x4)) < x3 then (m4 (8, 0, 1) (Int32.toNatClampNeg x4)) else x3))), some (.inl (.int (x4 + 1))), some (.inl (.int x5)), some (.inl (.int x6))]) rfl ?_
    refine ch_goto (tgt := 13) d_w_fewestOn_112 (by decide) ?_
    exact h
theorem e_w_lineAt (g : ch_G) (Q : ch_O → ch_M → Prop) (j1 : Nat) (p2 : Int32) (p3 : Int32) (m : ch_M) (h : ch_J g m_w_lineAt (ch_rm m_w_lineAt) (ch_E g m_w_lineAt Q) 0 [some (.inr (8, 0, 0)), some (.inr (1, j1, 0)), some (.inl (.int p2)), some (.inl (.int p3))] [] m 0) : ch_C g m_w_lineAt [.inr (8, 0, 0), .inr (1, j1, 0), .inl (.int p2), .inl (.int p3)] m Q :=
  ch_enter mf_w_lineAt (by intro v hv; simp only [List.mem_cons, List.not_mem_nil, or_false] at hv; rcases hv with rfl | rfl | rfl | rfl <;> rfl) (Nat.le_of_ble_eq_true rfl) h
set_option maxHeartbeats 1600000 in
theorem g_w_lineAt_0 (g : ch_G) (Q : ch_O → ch_M → Prop) (j1 : Nat) (p2 : Int32) (p3 : Int32) (m : ch_M) (h : (ch_C g m_y_isLineFor [.inr (1, j1, 0), .inl (.int p2), .inl (.int (p3 - 1))] m (ch_oi (fun (r1 : Int32) (m2 : ch_M) => ((r1 = 0 → Q (.inl (some (.inl (.int 0)))) m2) ∧ (¬ r1 = 0 → Q (.inl (some (.inl (.int 1)))) m2)))))) : ch_J g m_w_lineAt (ch_rm m_w_lineAt) (ch_E g m_w_lineAt Q) 0 [some (.inr (8, 0, 0)), some (.inr (1, j1, 0)), some (.inl (.int p2)), some (.inl (.int p3))] [] m 0 := by
  refine ch_aload_n (i := 1) d_w_lineAt_0 rfl rfl ?_
  refine ch_iload_n (i := 2) d_w_lineAt_1 rfl rfl ?_
  refine ch_iload_n (i := 3) d_w_lineAt_2 rfl rfl ?_
  refine ch_iconst (v := 1) d_w_lineAt_3 (by decide) ?_
  refine ch_isub d_w_lineAt_4 ?_
  refine ch_callV (as := [.inl (.int p2), .inl (.int (p3 - 1))]) d_w_lineAt_5 lk_w_48 mi_y_isLineFor me_y_isLineFor rfl rfl rfl ⟨Nat.le_of_ble_eq_true rfl, Nat.le_of_ble_eq_true rfl⟩ (Nat.le_of_ble_eq_true rfl) ⟨Nat.le_of_ble_eq_true rfl, Nat.le_of_ble_eq_true rfl⟩ (ch_mono (ch_Ki (fun r1 m2 h => ?_)) h)
  refine ch_if_eq (tgt := 15) d_w_lineAt_8 (by decide) (fun c => ?_) (fun c => ?_)
  · replace h := h.1 c
    refine ch_iconst (v := 0) d_w_lineAt_15 (by decide) ?_
    exact ch_iret (ty := .int) d_w_lineAt_16 rfl rfl (Nat.le_of_ble_eq_true rfl) h
  · replace h := h.2 c
    refine ch_iconst (v := 1) d_w_lineAt_11 (by decide) ?_
    refine ch_goto (tgt := 16) d_w_lineAt_12 (by decide) ?_
    exact ch_iret (ty := .int) d_w_lineAt_16 rfl rfl (Nat.le_of_ble_eq_true rfl) h
