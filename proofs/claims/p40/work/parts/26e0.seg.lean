theorem e_d_takeNumber (g : ch_G) (Q : ch_O → ch_M → Prop) (j1 : Nat) (m : ch_M) (h : ch_J g m_d_takeNumber (ch_rm m_d_takeNumber) (ch_E g m_d_takeNumber Q) 0 [some (.inr (7, 0, 0)), some (.inr (6, j1, 0)), some (.inr (4, 0, 0)), none] [] m 0) : ch_C g m_d_takeNumber [.inr (7, 0, 0), .inr (6, j1, 0), .inr (4, 0, 0)] m Q :=
  ch_enter mf_d_takeNumber (by intro v hv; simp only [List.mem_cons, List.not_mem_nil, or_false] at hv; rcases hv with rfl | rfl | rfl <;> rfl) (Nat.le_of_ble_eq_true rfl) h
set_option maxHeartbeats 1600000 in
theorem g_d_takeNumber_0 (g : ch_G) (Q : ch_O → ch_M → Prop) (j1 : Nat) (m : ch_M) (h : ((((d_tk 4 m j1).1 = true) → (∀ m2 : ch_M, m2 = ((d_tk 4 m j1).2) → (((((d_pd m2 j1).1 = true) → (∀ m8 : ch_M, m8 = ((d_pd m2 j1).2) → (∀ m10 : ch_M, m10 = ch_wr m8 (4, 0, 0) 4 (((m8 (4, 0, 0) 4) * 10) + (d_dg (ch_ob m2 6 j1) (m2 (7, 0, 0) 0))) → Q (.inl (some (.inl (.int 1)))) m10))) ∧ ((¬ (d_pd m2 j1).1 = true) → (∀ m8 : ch_M, m8 = ((d_pd m2 j1).2) → Q (.inl (some (.inl (.int 1)))) m8)))))) ∧ ((¬ (d_tk 4 m j1).1 = true) → (∀ m2 : ch_M, m2 = ((d_tk 4 m j1).2) → Q (.inl (some (.inl (.int 0)))) m2)))) : ch_J g m_d_takeNumber (ch_rm m_d_takeNumber) (ch_E g m_d_takeNumber Q) 0 [some (.inr (7, 0, 0)), some (.inr (6, j1, 0)), some (.inr (4, 0, 0)), none] [] m 0 := by
  refine ch_aload_n (i := 0) d_d_takeNumber_0 rfl rfl ?_
  refine ch_aload_n (i := 1) d_d_takeNumber_1 rfl rfl ?_
  refine ch_aload_n (i := 2) d_d_takeNumber_2 rfl rfl ?_
  refine ch_callV (as := [.inr (6, j1, 0), .inr (4, 0, 0)]) d_d_takeNumber_3 lk_d_56 mi_d_takeDigit me_d_takeDigit rfl rfl rfl ⟨Nat.le_of_ble_eq_true rfl, Nat.le_of_ble_eq_true rfl⟩ (Nat.le_of_ble_eq_true rfl) ⟨Nat.le_of_ble_eq_true rfl, Nat.le_of_ble_eq_true rfl⟩ (ch_mono (ch_Ki (fun r1 m2 q3 => ?_)) (s_d_takeDigit g (fun (r_ : Int32) (m_ : ch_M) => (((d_tk 4 m j1).1 = true) ∧ 1 = r_ ∧ m_ = ((d_tk 4 m j1).2)) ∨ ((¬ (d_tk 4 m j1).1 = true) ∧ 0 = r_ ∧ m_ = ((d_tk 4 m j1).2))) (j1) m ⟨(fun c_ => (Or.inl ⟨c_, rfl, rfl⟩)), (fun c_ => (Or.inr ⟨c_, rfl, rfl⟩))⟩))
  rcases q3 with ⟨c_, rfl, hm_⟩ | ⟨c_, rfl, hm_⟩
  · replace h := h.1 c_ m2 hm_
    refine ch_if_ne (tgt := 11) d_d_takeNumber_6 (by decide) (fun _ => ?_) (fun c => absurd c (by decide))
    refine ch_aload_n (i := 0) d_d_takeNumber_11 rfl rfl ?_
    refine ch_aload_n (i := 1) d_d_takeNumber_12 rfl rfl ?_
    refine ch_callV (as := [.inr (6, j1, 0)]) d_d_takeNumber_13 lk_d_62 mi_d_digitAt me_d_digitAt rfl rfl rfl ⟨Nat.le_of_ble_eq_true rfl, Nat.le_of_ble_eq_true rfl⟩ (Nat.le_of_ble_eq_true rfl) ⟨Nat.le_of_ble_eq_true rfl, Nat.le_of_ble_eq_true rfl⟩ (ch_mono (ch_Ki (fun r4 m5 q6 => ?_)) (s_d_digitAt g (fun (r_ : Int32) (m_ : ch_M) => ((d_dg (ch_ob m2 6 j1) (m2 (7, 0, 0) 0)) = r_ ∧ m2 = m_)) (j1) m2 ⟨rfl, rfl⟩))
    obtain ⟨rfl, rfl⟩ := q6
    replace h := h
    refine ch_istore_n (i := 3) d_d_takeNumber_16 rfl (Nat.le_of_ble_eq_true rfl) (ls' := [some (.inr (7, 0, 0)), some (.inr (6, j1, 0)), some (.inr (4, 0, 0)), some (.inl (.int (d_dg (ch_ob m2 6 j1) (m2 (7, 0, 0) 0))))]) rfl ?_
    refine ch_aload_n (i := 0) d_d_takeNumber_17 rfl rfl ?_
    refine ch_aload_n (i := 1) d_d_takeNumber_18 rfl rfl ?_
    refine ch_callV (as := [.inr (6, j1, 0)]) d_d_takeNumber_19 lk_d_68 mi_d_passDigit me_d_passDigit rfl rfl rfl ⟨Nat.le_of_ble_eq_true rfl, Nat.le_of_ble_eq_true rfl⟩ (Nat.le_of_ble_eq_true rfl) ⟨Nat.le_of_ble_eq_true rfl, Nat.le_of_ble_eq_true rfl⟩ (ch_mono (ch_Ki (fun r7 m8 q9 => ?_)) (s_d_passDigit g (fun (r_ : Int32) (m_ : ch_M) => (((d_pd m2 j1).1 = true) ∧ 1 = r_ ∧ m_ = ((d_pd m2 j1).2)) ∨ ((¬ (d_pd m2 j1).1 = true) ∧ 0 = r_ ∧ m_ = ((d_pd m2 j1).2))) (j1) m2 ⟨(fun c_ => (Or.inl ⟨c_, rfl, rfl⟩)), (fun c_ => (Or.inr ⟨c_, rfl, rfl⟩))⟩))
    rcases q9 with ⟨c_, rfl, hm_⟩ | ⟨c_, rfl, hm_⟩
    · replace h := h.1 c_ m8 hm_
      refine ch_if_eq (tgt := 38) d_d_takeNumber_22 (by decide) (fun c => absurd c (by decide)) (fun _ => ?_)
      refine ch_aload_n (i := 2) d_d_takeNumber_25 rfl rfl ?_
      refine ch_aload_n (i := 2) d_d_takeNumber_26 rfl rfl ?_
      refine ch_get (v := .inl (.int (m8 (4, 0, 0) 4))) d_d_takeNumber_27 fl_d_75 rfl ?_
      refine ch_bipush (v := 10) d_d_takeNumber_30 (by decide) ?_
      refine ch_imul d_d_takeNumber_32 ?_
      refine ch_iload_n (i := 3) d_d_takeNumber_33 rfl rfl ?_
      refine ch_iadd d_d_takeNumber_34 ?_
      refine ch_put d_d_takeNumber_35 fp_d_75 rfl rfl rfl ?_
      generalize hmm10 : ch_wr m8 (4, 0, 0) 4 (((m8 (4, 0, 0) 4) * 10) + (d_dg (ch_ob m2 6 j1) (m2 (7, 0, 0) 0))) = m10
      replace h := h m10 hmm10.symm
      refine ch_iconst (v := 1) d_d_takeNumber_38 (by decide) ?_
      exact ch_iret (ty := .boolean) d_d_takeNumber_39 rfl rfl (Nat.le_of_ble_eq_true rfl) h
    · replace h := h.2 c_ m8 hm_
      refine ch_if_eq (tgt := 38) d_d_takeNumber_22 (by decide) (fun _ => ?_) (fun c => absurd c (by decide))
      refine ch_iconst (v := 1) d_d_takeNumber_38 (by decide) ?_
      exact ch_iret (ty := .boolean) d_d_takeNumber_39 rfl rfl (Nat.le_of_ble_eq_true rfl) h
  · replace h := h.2 c_ m2 hm_
    refine ch_if_ne (tgt := 11) d_d_takeNumber_6 (by decide) (fun c => absurd c (by decide)) (fun _ => ?_)
    refine ch_iconst (v := 0) d_d_takeNumber_9 (by decide) ?_
    exact ch_iret (ty := .boolean) d_d_takeNumber_10 rfl rfl (Nat.le_of_ble_eq_true rfl) h
theorem e_d_takeSteps (g : ch_G) (Q : ch_O → ch_M → Prop) (j1 : Nat) (j2 : Nat) (m : ch_M) (h : ch_J g m_d_takeSteps (ch_rm m_d_takeSteps) (ch_E g m_d_takeSteps Q) 0 [some (.inr (7, 0, 0)), some (.inr (6, j1, 0)), some (.inr (5, j2, 0)), none, none] [] m 0) : ch_C g m_d_takeSteps [.inr (7, 0, 0), .inr (6, j1, 0), .inr (5, j2, 0)] m Q :=
  ch_enter mf_d_takeSteps (by intro v hv; simp only [List.mem_cons, List.not_mem_nil, or_false] at hv; rcases hv with rfl | rfl | rfl <;> rfl) (Nat.le_of_ble_eq_true rfl) h
set_option maxHeartbeats 1600000 in
theorem g_d_takeSteps_0 (g : ch_G) (Q : ch_O → ch_M → Prop) (j1 : Nat) (j2 : Nat) (m : ch_M) (h : (∀ m1 : ch_M, m1 = ch_wr m (5, j2, 0) 1 0 → ch_J g m_d_takeSteps (ch_rm m_d_takeSteps) (ch_E g m_d_takeSteps Q) 7 [some (.inr (7, 0, 0)), some (.inr (6, j1, 0)), some (.inr (5, j2, 0)), some (.inl (.int 0)), none] [] m1 0)) : ch_J g m_d_takeSteps (ch_rm m_d_takeSteps) (ch_E g m_d_takeSteps Q) 0 [some (.inr (7, 0, 0)), some (.inr (6, j1, 0)), some (.inr (5, j2, 0)), none, none] [] m 0 := by
  refine ch_aload_n (i := 2) d_d_takeSteps_0 rfl rfl ?_
  refine ch_iconst (v := 0) d_d_takeSteps_1 (by decide) ?_
  refine ch_put d_d_takeSteps_2 fp_d_78 rfl rfl rfl ?_
  generalize hmm1 : ch_wr m (5, j2, 0) 1 0 = m1
  replace h := h m1 hmm1.symm
  refine ch_iconst (v := 0) d_d_takeSteps_5 (by decide) ?_
  refine ch_istore_n (i := 3) d_d_takeSteps_6 rfl (Nat.le_of_ble_eq_true rfl) (ls' := [some (.inr (7, 0, 0)), some (.inr (6, j1, 0)), some (.inr (5, j2, 0)), some (.inl (.int 0)), none]) rfl ?_
  exact h
set_option maxHeartbeats 1600000 in
theorem g_d_takeSteps_7 (g : ch_G) (Q : ch_O → ch_M → Prop) (j1 : Nat) (j2 : Nat) (x3 : Int32) (o4 : Option ch_V) (m : ch_M) (h : ((12 ≤ x3 → (((m (5, j2, 0) 1) ≤ 0 → Q (.inl (some (.inl (.int 0)))) m) ∧ (¬ (m (5, j2, 0) 1) ≤ 0 → Q (.inl (some (.inl (.int 1)))) m))) ∧ (¬ 12 ≤ x3 → ((((d_dg (ch_ob m 6 j1) (m (7, 0, 0) 0)) < 1 → (((m (5, j2, 0) 1) ≤ 0 → Q (.inl (some (.inl (.int 0)))) m) ∧ (¬ (m (5, j2, 0) 1) ≤ 0 → Q (.inl (some (.inl (.int 1)))) m))) ∧ (¬ (d_dg (ch_ob m 6 j1) (m (7, 0, 0) 0)) < 1 → (((d_dg (ch_ob m 6 j1) (m (7, 0, 0) 0)) ≤ 3 → (vp_in (m (5, j2, 0) 1) 13) ∧ ((∀ m5 : ch_M, m5 = ch_os m 5 j2 (s_addB (ch_ob m 5 j2) (d_dg (ch_ob m 6 j1) (m (7, 0, 0) 0))) → (∀ m8 : ch_M, m8 = ch_wr m5 (7, 0, 0) 0 ((m5 (7, 0, 0) 0) + 1) → ch_J g m_d_takeSteps (ch_rm m_d_takeSteps) (ch_E g m_d_takeSteps Q) 7 [some (.inr (7, 0, 0)), some (.inr (6, j1, 0)), some (.inr (5, j2, 0)), some (.inl (.int (x3 + 1))), some (.inl (.int (d_dg (ch_ob m 6 j1) (m (7, 0, 0) 0))))] [] m8 0)))) ∧ (¬ (d_dg (ch_ob m 6 j1) (m (7, 0, 0) 0)) ≤ 3 → (((m (5, j2, 0) 1) ≤ 0 → Q (.inl (some (.inl (.int 0)))) m) ∧ (¬ (m (5, j2, 0) 1) ≤ 0 → Q (.inl (some (.inl (.int 1)))) m)))))))))) : ch_J g m_d_takeSteps (ch_rm m_d_takeSteps) (ch_E g m_d_takeSteps Q) 7 [some (.inr (7, 0, 0)), some (.inr (6, j1, 0)), some (.inr (5, j2, 0)), some (.inl (.int x3)), o4] [] m 0 := by
  refine ch_iload_n (i := 3) d_d_takeSteps_7 rfl rfl ?_
  refine ch_bipush (v := 12) d_d_takeSteps_8 (by decide) ?_
  refine ch_icmp_ge (tgt := 57) d_d_takeSteps_10 (by decide) (fun c => ?_) (fun c => ?_)
  · replace h := h.1 c
    refine ch_aload_n (i := 2) d_d_takeSteps_57 rfl rfl ?_
    refine ch_get (v := .inl (.int (m (5, j2, 0) 1))) d_d_takeSteps_58 fl_d_78 rfl ?_
    refine ch_if_le (tgt := 68) d_d_takeSteps_61 (by decide) (fun c => ?_) (fun c => ?_)
    · replace h := h.1 c
      refine ch_iconst (v := 0) d_d_takeSteps_68 (by decide) ?_
      exact ch_iret (ty := .boolean) d_d_takeSteps_69 rfl rfl (Nat.le_of_ble_eq_true rfl) h
    · replace h := h.2 c
      refine ch_iconst (v := 1) d_d_takeSteps_64 (by decide) ?_
      refine ch_goto (tgt := 69) d_d_takeSteps_65 (by decide) ?_
      exact ch_iret (ty := .boolean) d_d_takeSteps_69 rfl rfl (Nat.le_of_ble_eq_true rfl) h
  · replace h := h.2 c
    refine ch_aload_n (i := 0) d_d_takeSteps_13 rfl rfl ?_
    refine ch_aload_n (i := 1) d_d_takeSteps_14 rfl rfl ?_
    refine ch_callV (as := [.inr (6, j1, 0)]) d_d_takeSteps_15 lk_d_62 mi_d_digitAt me_d_digitAt rfl rfl rfl ⟨Nat.le_of_ble_eq_true rfl, Nat.le_of_ble_eq_true rfl⟩ (Nat.le_of_ble_eq_true rfl) ⟨Nat.le_of_ble_eq_true rfl, Nat.le_of_ble_eq_true rfl⟩ (ch_mono (ch_Ki (fun r1 m2 q3 => ?_)) (s_d_digitAt g (fun (r_ : Int32) (m_ : ch_M) => ((d_dg (ch_ob m 6 j1) (m (7, 0, 0) 0)) = r_ ∧ m = m_)) (j1) m ⟨rfl, rfl⟩))
    obtain ⟨rfl, rfl⟩ := q3
    replace h := h
    refine ch_istore (i := 4) d_d_takeSteps_18 (Nat.le_of_ble_eq_true rfl) (ls' := [some (.inr (7, 0, 0)), some (.inr (6, j1, 0)), some (.inr (5, j2, 0)), some (.inl (.int x3)), some (.inl (.int (d_dg (ch_ob m 6 j1) (m (7, 0, 0) 0))))]) rfl ?_
    refine ch_iload d_d_takeSteps_20 rfl ?_
    refine ch_iconst (v := 1) d_d_takeSteps_22 (by decide) ?_
    refine ch_icmp_lt (tgt := 57) d_d_takeSteps_23 (by decide) (fun c => ?_) (fun c => ?_)
    · replace h := h.1 c
      refine ch_aload_n (i := 2) d_d_takeSteps_57 rfl rfl ?_
      refine ch_get (v := .inl (.int (m (5, j2, 0) 1))) d_d_takeSteps_58 fl_d_78 rfl ?_
      refine ch_if_le (tgt := 68) d_d_takeSteps_61 (by decide) (fun c => ?_) (fun c => ?_)
      · replace h := h.1 c
        refine ch_iconst (v := 0) d_d_takeSteps_68 (by decide) ?_
        exact ch_iret (ty := .boolean) d_d_takeSteps_69 rfl rfl (Nat.le_of_ble_eq_true rfl) h
      · replace h := h.2 c
        refine ch_iconst (v := 1) d_d_takeSteps_64 (by decide) ?_
        refine ch_goto (tgt := 69) d_d_takeSteps_65 (by decide) ?_
        exact ch_iret (ty := .boolean) d_d_takeSteps_69 rfl rfl (Nat.le_of_ble_eq_true rfl) h
    · replace h := h.2 c
      refine ch_iload d_d_takeSteps_26 rfl ?_
      refine ch_iconst (v := 3) d_d_takeSteps_28 (by decide) ?_
      refine ch_icmp_le (tgt := 35) d_d_takeSteps_29 (by decide) (fun c => ?_) (fun c => ?_)
      · replace h := h.1 c
        refine ch_aload_n (i := 2) d_d_takeSteps_35 rfl rfl ?_
        refine ch_iload d_d_takeSteps_36 rfl ?_
        have b7 := h.1
        replace h := h.2
        refine ch_callV (as := [.inl (.int (d_dg (ch_ob m 6 j1) (m (7, 0, 0) 0)))]) d_d_takeSteps_38 lk_d_83 mi_s_add me_s_add rfl rfl rfl ⟨Nat.le_of_ble_eq_true rfl, Nat.le_of_ble_eq_true rfl⟩ (Nat.le_of_ble_eq_true rfl) ⟨Nat.le_of_ble_eq_true rfl, Nat.le_of_ble_eq_true rfl⟩ (ch_mono (ch_Kv (fun m5 q6 => ?_)) (s_s_add g (fun (m_ : ch_M) => (m_ = ch_os m 5 j2 (s_addB (ch_ob m 5 j2) (d_dg (ch_ob m 6 j1) (m (7, 0, 0) 0))))) (j2) ((d_dg (ch_ob m 6 j1) (m (7, 0, 0) 0))) m ⟨b7, rfl⟩))
        have hm_ := q6
        replace h := h m5 hm_
        refine ch_aload_n (i := 0) d_d_takeSteps_41 rfl rfl ?_
        refine ch_dup d_d_takeSteps_42 rfl ?_
        refine ch_get (v := .inl (.int (m5 (7, 0, 0) 0))) d_d_takeSteps_43 fl_d_9 rfl ?_
        refine ch_iconst (v := 1) d_d_takeSteps_46 (by decide) ?_
        refine ch_iadd d_d_takeSteps_47 ?_
        refine ch_put d_d_takeSteps_48 fp_d_9 rfl rfl rfl ?_
        generalize hmm8 : ch_wr m5 (7, 0, 0) 0 ((m5 (7, 0, 0) 0) + 1) = m8
        replace h := h m8 hmm8.symm
        refine ch_iinc (i := 3) (v := (x3 + 1)) d_d_takeSteps_51 rfl rfl (Nat.le_of_ble_eq_true rfl) (ls' := [some (.inr (7, 0, 0)), some (.inr (6, j1, 0)), some (.inr (5, j2, 0)), some (.inl (.int (x3 + 1))), some (.inl (.int (d_dg (ch_ob m 6 j1) (m (7, 0, 0) 0))))]) rfl ?_
        refine ch_goto (tgt := 7) d_d_takeSteps_54 (by decide) ?_
        exact h
      · replace h := h.2 c
        refine ch_goto (tgt := 57) d_d_takeSteps_32 (by decide) ?_
        refine ch_aload_n (i := 2) d_d_takeSteps_57 rfl rfl ?_
        refine ch_get (v := .inl (.int (m (5, j2, 0) 1))) d_d_takeSteps_58 fl_d_78 rfl ?_
        refine ch_if_le (tgt := 68) d_d_takeSteps_61 (by decide) (fun c => ?_) (fun c => ?_)
        · replace h := h.1 c
          refine ch_iconst (v := 0) d_d_takeSteps_68 (by decide) ?_
          exact ch_iret (ty := .boolean) d_d_takeSteps_69 rfl rfl (Nat.le_of_ble_eq_true rfl) h
        · replace h := h.2 c
          refine ch_iconst (v := 1) d_d_takeSteps_64 (by decide) ?_
          refine ch_goto (tgt := 69) d_d_takeSteps_65 (by decide) ?_
          exact ch_iret (ty := .boolean) d_d_takeSteps_69 rfl rfl (Nat.le_of_ble_eq_true rfl) h
