theorem e_y_endTerm (g : ch_G) (Q : ch_O → ch_M → Prop) (j : Nat) (m : ch_M) (h : ch_J g m_y_endTerm (ch_rm m_y_endTerm) (ch_E g m_y_endTerm Q) 0 [some (.inr (1, j, 0)), none, none] [] m 0) : ch_C g m_y_endTerm [.inr (1, j, 0)] m Q :=
  ch_enter mf_y_endTerm (by intro v hv; simp only [List.mem_cons, List.not_mem_nil, or_false] at hv; rcases hv with rfl <;> rfl) (Nat.le_of_ble_eq_true rfl) h
set_option maxHeartbeats 1600000 in
theorem g_y_endTerm_0 (g : ch_G) (Q : ch_O → ch_M → Prop) (j : Nat) (m : ch_M) (h : ch_J g m_y_endTerm (ch_rm m_y_endTerm) (ch_E g m_y_endTerm Q) 4 [some (.inr (1, j, 0)), some (.inl (.int 0)), some (.inl (.int 0))] [] m 0) : ch_J g m_y_endTerm (ch_rm m_y_endTerm) (ch_E g m_y_endTerm Q) 0 [some (.inr (1, j, 0)), none, none] [] m 0 := by
  refine ch_iconst (v := 0) d_y_endTerm_0 (by decide) ?_
  refine ch_istore_n (i := 1) d_y_endTerm_1 rfl (Nat.le_of_ble_eq_true rfl) (ls' := [some (.inr (1, j, 0)), some (.inl (.int 0)), none]) rfl ?_
  refine ch_iconst (v := 0) d_y_endTerm_2 (by decide) ?_
  refine ch_istore_n (i := 2) d_y_endTerm_3 rfl (Nat.le_of_ble_eq_true rfl) (ls' := [some (.inr (1, j, 0)), some (.inl (.int 0)), some (.inl (.int 0))]) rfl ?_
  exact h
set_option maxHeartbeats 1600000 in
theorem g_y_endTerm_4 (g : ch_G) (Q : ch_O → ch_M → Prop) (j : Nat) (x1 : Int32) (x2 : Int32) (m : ch_M) (h : (((m (1, j, 0) 8) ≤ x2 → ch_J g m_y_endTerm (ch_rm m_y_endTerm) (ch_E g m_y_endTerm Q) 28 [some (.inr (1, j, 0)), some (.inl (.int x1)), some (.inl (.int 0))] [] m 0) ∧ (¬ (m (1, j, 0) 8) ≤ x2 → (vp_in x2 5) ∧ ((∀ m2 : ch_M, m2 = ch_os m 1 j ((y_p12 (ch_ob m 1 j) x2).1) → ch_J g m_y_endTerm (ch_rm m_y_endTerm) (ch_E g m_y_endTerm Q) 4 [some (.inr (1, j, 0)), some (.inl (.int (x1 + ((y_p12 (ch_ob m 1 j) x2).2)))), some (.inl (.int (x2 + 1)))] [] m2 0))))) : ch_J g m_y_endTerm (ch_rm m_y_endTerm) (ch_E g m_y_endTerm Q) 4 [some (.inr (1, j, 0)), some (.inl (.int x1)), some (.inl (.int x2))] [] m 0 := by
  refine ch_iload_n (i := 2) d_y_endTerm_4 rfl rfl ?_
  refine ch_aload_n (i := 0) d_y_endTerm_5 rfl rfl ?_
  refine ch_get (v := .inl (.int (m (1, j, 0) 8))) d_y_endTerm_6 fl_y_42 rfl ?_
  refine ch_icmp_ge (tgt := 26) d_y_endTerm_9 (by decide) (fun c => ?_) (fun c => ?_)
  · replace h := h.1 c
    refine ch_iconst (v := 0) d_y_endTerm_26 (by decide) ?_
    refine ch_istore_n (i := 2) d_y_endTerm_27 rfl (Nat.le_of_ble_eq_true rfl) (ls' := [some (.inr (1, j, 0)), some (.inl (.int x1)), some (.inl (.int 0))]) rfl ?_
    exact h
  · replace h := h.2 c
    refine ch_iload_n (i := 1) d_y_endTerm_12 rfl rfl ?_
    refine ch_aload_n (i := 0) d_y_endTerm_13 rfl rfl ?_
    refine ch_iload_n (i := 2) d_y_endTerm_14 rfl rfl ?_
    have b4 := h.1
    replace h := h.2
    refine ch_callV (as := [.inl (.int x2)]) d_y_endTerm_15 lk_y_146 mi_y_payRents me_y_payRents rfl rfl rfl ⟨Nat.le_of_ble_eq_true rfl, Nat.le_of_ble_eq_true rfl⟩ (Nat.le_of_ble_eq_true rfl) ⟨Nat.le_of_ble_eq_true rfl, Nat.le_of_ble_eq_true rfl⟩ (ch_mono (ch_Ki (fun r1 m2 q3 => ?_)) (s_y_payRents g (fun (r_ : Int32) (m_ : ch_M) => (((y_p12 (ch_ob m 1 j) x2).2) = r_ ∧ m_ = ch_os m 1 j ((y_p12 (ch_ob m 1 j) x2).1))) (j) (x2) m ⟨b4, ⟨rfl, rfl⟩⟩))
    obtain ⟨rfl, hm_⟩ := q3
    replace h := h m2 hm_
    refine ch_iadd d_y_endTerm_18 ?_
    refine ch_istore_n (i := 1) d_y_endTerm_19 rfl (Nat.le_of_ble_eq_true rfl) (ls' := [some (.inr (1, j, 0)), some (.inl (.int (x1 + ((y_p12 (ch_ob m 1 j) x2).2)))), some (.inl (.int x2))]) rfl ?_
    refine ch_iinc (i := 2) (v := (x2 + 1)) d_y_endTerm_20 rfl rfl (Nat.le_of_ble_eq_true rfl) (ls' := [some (.inr (1, j, 0)), some (.inl (.int (x1 + ((y_p12 (ch_ob m 1 j) x2).2)))), some (.inl (.int (x2 + 1)))]) rfl ?_
    refine ch_goto (tgt := 4) d_y_endTerm_23 (by decide) ?_
    exact h
set_option maxHeartbeats 1600000 in
theorem g_y_endTerm_28 (g : ch_G) (Q : ch_O → ch_M → Prop) (j : Nat) (x1 : Int32) (x2 : Int32) (m : ch_M) (h : (((m (1, j, 0) 8) ≤ x2 → (∀ m1 : ch_M, m1 = ch_wr m (1, j, 0) 15 ((m (1, j, 0) 15) + x1) → (∀ m2 : ch_M, m2 = ch_wr m1 (1, j, 0) 16 ((m1 (1, j, 0) 16) + 1) → Q (.inl (some (.inl (.int x1)))) m2))) ∧ (¬ (m (1, j, 0) 8) ≤ x2 → (((m (1, j, 0) 10) ≤ 0 → (∀ m3 : ch_M, m3 = ch_wr m (1, j, 0) 15 ((m (1, j, 0) 15) + x1) → (∀ m4 : ch_M, m4 = ch_wr m3 (1, j, 0) 16 ((m3 (1, j, 0) 16) + 1) → Q (.inl (some (.inl (.int x1)))) m4))) ∧ (¬ (m (1, j, 0) 10) ≤ 0 → (∀ m5 : ch_M, m5 = ch_wr m (1, j, 0) 10 ((m (1, j, 0) 10) - 1) → (vp_in x2 5) ∧ (∀ m7 : ch_M, m7 = ch_wr m5 (1, j, 3) (Int32.toNatClampNeg x2) ((m5 (1, j, 3) (Int32.toNatClampNeg x2)) + 1) → ch_J g m_y_endTerm (ch_rm m_y_endTerm) (ch_E g m_y_endTerm Q) 28 [some (.inr (1, j, 0)), some (.inl (.int x1)), some (.inl (.int (x2 + 1)))] [] m7 0))))))) : ch_J g m_y_endTerm (ch_rm m_y_endTerm) (ch_E g m_y_endTerm Q) 28 [some (.inr (1, j, 0)), some (.inl (.int x1)), some (.inl (.int x2))] [] m 0 := by
  refine ch_iload_n (i := 2) d_y_endTerm_28 rfl rfl ?_
  refine ch_aload_n (i := 0) d_y_endTerm_29 rfl rfl ?_
  refine ch_get (v := .inl (.int (m (1, j, 0) 8))) d_y_endTerm_30 fl_y_42 rfl ?_
  refine ch_icmp_ge (tgt := 69) d_y_endTerm_33 (by decide) (fun c => ?_) (fun c => ?_)
  · replace h := h.1 c
    refine ch_aload_n (i := 0) d_y_endTerm_69 rfl rfl ?_
    refine ch_dup d_y_endTerm_70 rfl ?_
    refine ch_get (v := .inl (.int (m (1, j, 0) 15))) d_y_endTerm_71 fl_y_64 rfl ?_
    refine ch_iload_n (i := 1) d_y_endTerm_74 rfl rfl ?_
    refine ch_iadd d_y_endTerm_75 ?_
    refine ch_put d_y_endTerm_76 fp_y_64 rfl rfl rfl ?_
    generalize hmm1 : ch_wr m (1, j, 0) 15 ((m (1, j, 0) 15) + x1) = m1
    replace h := h m1 hmm1.symm
    refine ch_aload_n (i := 0) d_y_endTerm_79 rfl rfl ?_
    refine ch_dup d_y_endTerm_80 rfl ?_
    refine ch_get (v := .inl (.int (m1 (1, j, 0) 16))) d_y_endTerm_81 fl_y_67 rfl ?_
    refine ch_iconst (v := 1) d_y_endTerm_84 (by decide) ?_
    refine ch_iadd d_y_endTerm_85 ?_
    refine ch_put d_y_endTerm_86 fp_y_67 rfl rfl rfl ?_
    generalize hmm2 : ch_wr m1 (1, j, 0) 16 ((m1 (1, j, 0) 16) + 1) = m2
    replace h := h m2 hmm2.symm
    refine ch_iload_n (i := 1) d_y_endTerm_89 rfl rfl ?_
    exact ch_iret (ty := .int) d_y_endTerm_90 rfl rfl (Nat.le_of_ble_eq_true rfl) h
  · replace h := h.2 c
    refine ch_aload_n (i := 0) d_y_endTerm_36 rfl rfl ?_
    refine ch_get (v := .inl (.int (m (1, j, 0) 10))) d_y_endTerm_37 fl_y_49 rfl ?_
    refine ch_if_le (tgt := 69) d_y_endTerm_40 (by decide) (fun c => ?_) (fun c => ?_)
    · replace h := h.1 c
      refine ch_aload_n (i := 0) d_y_endTerm_69 rfl rfl ?_
      refine ch_dup d_y_endTerm_70 rfl ?_
      refine ch_get (v := .inl (.int (m (1, j, 0) 15))) d_y_endTerm_71 fl_y_64 rfl ?_
      refine ch_iload_n (i := 1) d_y_endTerm_74 rfl rfl ?_
      refine ch_iadd d_y_endTerm_75 ?_
      refine ch_put d_y_endTerm_76 fp_y_64 rfl rfl rfl ?_
      generalize hmm3 : ch_wr m (1, j, 0) 15 ((m (1, j, 0) 15) + x1) = m3
      replace h := h m3 hmm3.symm
      refine ch_aload_n (i := 0) d_y_endTerm_79 rfl rfl ?_
      refine ch_dup d_y_endTerm_80 rfl ?_
      refine ch_get (v := .inl (.int (m3 (1, j, 0) 16))) d_y_endTerm_81 fl_y_67 rfl ?_
      refine ch_iconst (v := 1) d_y_endTerm_84 (by decide) ?_
      refine ch_iadd d_y_endTerm_85 ?_
      refine ch_put d_y_endTerm_86 fp_y_67 rfl rfl rfl ?_
      generalize hmm4 : ch_wr m3 (1, j, 0) 16 ((m3 (1, j, 0) 16) + 1) = m4
      replace h := h m4 hmm4.symm
      refine ch_iload_n (i := 1) d_y_endTerm_89 rfl rfl ?_
      exact ch_iret (ty := .int) d_y_endTerm_90 rfl rfl (Nat.le_of_ble_eq_true rfl) h
    · replace h := h.2 c
      refine ch_aload_n (i := 0) d_y_endTerm_43 rfl rfl ?_
      refine ch_dup d_y_endTerm_44 rfl ?_
      refine ch_get (v := .inl (.int (m (1, j, 0) 10))) d_y_endTerm_45 fl_y_49 rfl ?_
      refine ch_iconst (v := 1) d_y_endTerm_48 (by decide) ?_
      refine ch_isub d_y_endTerm_49 ?_
      refine ch_put d_y_endTerm_50 fp_y_49 rfl rfl rfl ?_
      generalize hmm5 : ch_wr m (1, j, 0) 10 ((m (1, j, 0) 10) - 1) = m5
      replace h := h m5 hmm5.symm
      refine ch_aload_n (i := 0) d_y_endTerm_53 rfl rfl ?_
      refine ch_get (v := .inr (1, j, 3)) d_y_endTerm_54 fl_y_18 rfl ?_
      refine ch_iload_n (i := 2) d_y_endTerm_57 rfl rfl ?_
      refine ch_dup2 d_y_endTerm_58 rfl rfl ?_
      have b6 := h.1
      replace h := h.2
      refine ch_iald (n := 5) d_y_endTerm_59 (by decide) rfl b6 ?_
      refine ch_iconst (v := 1) d_y_endTerm_60 (by decide) ?_
      refine ch_iadd d_y_endTerm_61 ?_
      refine ch_iast (n := 5) d_y_endTerm_62 (by decide) rfl b6 ?_
      show ch_J g _ _ _ _ _ _ (ch_wr m5 (1, j, 3) (Int32.toNatClampNeg x2) ((m5 (1, j, 3) (Int32.toNatClampNeg x2)) + 1)) _
      generalize hmm7 : ch_wr m5 (1, j, 3) (Int32.toNatClampNeg x2) ((m5 (1, j, 3) (Int32.toNatClampNeg x2)) + 1) = m7
      replace h := h m7 hmm7.symm
      refine ch_iinc (i := 2) (v := (x2 + 1)) d_y_endTerm_63 rfl rfl (Nat.le_of_ble_eq_true rfl) (ls' := [some (.inr (1, j, 0)), some (.inl (.int x1)), some (.inl (.int (x2 + 1)))]) rfl ?_
      refine ch_goto (tgt := 28) d_y_endTerm_66 (by decide) ?_
      exact h
