theorem e_m_in (g : ch_G) (Q : ch_O → ch_M → Prop) (p0 : Int32) (p1 : Int32) (p2 : Int32) (m : ch_M) (h : ch_J g m_m_in (ch_rm m_m_in) (ch_E g m_m_in Q) 0 [some (.inl (.int p0)), some (.inl (.int p1)), some (.inl (.int p2))] [] m 0) : ch_C g m_m_in [.inl (.int p0), .inl (.int p1), .inl (.int p2)] m Q :=
  ch_enter mf_m_in (by intro v hv; simp only [List.mem_cons, List.not_mem_nil, or_false] at hv; rcases hv with rfl | rfl | rfl <;> rfl) (Nat.le_of_ble_eq_true rfl) h
set_option maxHeartbeats 1600000 in
theorem g_m_in_0 (g : ch_G) (Q : ch_O → ch_M → Prop) (p0 : Int32) (p1 : Int32) (p2 : Int32) (m : ch_M) (h : ((p0 < p1 → Q (.inl (some (.inl (.int 0)))) m) ∧ (¬ p0 < p1 → ((p2 < p0 → Q (.inl (some (.inl (.int 0)))) m) ∧ (¬ p2 < p0 → Q (.inl (some (.inl (.int 1)))) m))))) : ch_J g m_m_in (ch_rm m_m_in) (ch_E g m_m_in Q) 0 [some (.inl (.int p0)), some (.inl (.int p1)), some (.inl (.int p2))] [] m 0 := by
  refine ch_iload_n (i := 0) d_m_in_0 rfl rfl ?_
  refine ch_iload_n (i := 1) d_m_in_1 rfl rfl ?_
  refine ch_icmp_lt (tgt := 14) d_m_in_2 (by decide) (fun c => ?_) (fun c => ?_)
  · replace h := h.1 c
    refine ch_iconst (v := 0) d_m_in_14 (by decide) ?_
    exact ch_iret (ty := .boolean) d_m_in_15 rfl rfl (Nat.le_of_ble_eq_true rfl) h
  · replace h := h.2 c
    refine ch_iload_n (i := 0) d_m_in_5 rfl rfl ?_
    refine ch_iload_n (i := 2) d_m_in_6 rfl rfl ?_
    refine ch_icmp_gt (tgt := 14) d_m_in_7 (by decide) (fun c => ?_) (fun c => ?_)
    · replace h := h.1 c
      refine ch_iconst (v := 0) d_m_in_14 (by decide) ?_
      exact ch_iret (ty := .boolean) d_m_in_15 rfl rfl (Nat.le_of_ble_eq_true rfl) h
    · replace h := h.2 c
      refine ch_iconst (v := 1) d_m_in_10 (by decide) ?_
      refine ch_goto (tgt := 15) d_m_in_11 (by decide) ?_
      exact ch_iret (ty := .boolean) d_m_in_15 rfl rfl (Nat.le_of_ble_eq_true rfl) h
theorem e_m_raises (g : ch_G) (Q : ch_O → ch_M → Prop) (p1 : Int32) (m : ch_M) (h : ch_J g m_m_raises (ch_rm m_m_raises) (ch_E g m_m_raises Q) 0 [some (.inr (9, 0, 0)), some (.inl (.int p1))] [] m 0) : ch_C g m_m_raises [.inr (9, 0, 0), .inl (.int p1)] m Q :=
  ch_enter mf_m_raises (by intro v hv; simp only [List.mem_cons, List.not_mem_nil, or_false] at hv; rcases hv with rfl | rfl <;> rfl) (Nat.le_of_ble_eq_true rfl) h
set_option maxHeartbeats 1600000 in
theorem g_m_raises_0 (g : ch_G) (Q : ch_O → ch_M → Prop) (p1 : Int32) (m : ch_M) (h : (∀ m1 : ch_M, m1 = ch_wr m (9, 0, 0) 19 p1 → Q (.inl (some (.inl (.int 0)))) m1)) : ch_J g m_m_raises (ch_rm m_m_raises) (ch_E g m_m_raises Q) 0 [some (.inr (9, 0, 0)), some (.inl (.int p1))] [] m 0 := by
  refine ch_aload_n (i := 0) d_m_raises_0 rfl rfl ?_
  refine ch_iload_n (i := 1) d_m_raises_1 rfl rfl ?_
  refine ch_put d_m_raises_2 fp_m_48 rfl rfl rfl ?_
  generalize hmm1 : ch_wr m (9, 0, 0) 19 p1 = m1
  replace h := h m1 hmm1.symm
  refine ch_iconst (v := 0) d_m_raises_5 (by decide) ?_
  exact ch_iret (ty := .int) d_m_raises_6 rfl rfl (Nat.le_of_ble_eq_true rfl) h
theorem e_m_does (g : ch_G) (Q : ch_O → ch_M → Prop) (p1 : Int32) (m : ch_M) (h : ch_J g m_m_does (ch_rm m_m_does) (ch_E g m_m_does Q) 0 [some (.inr (9, 0, 0)), some (.inl (.int p1))] [] m 0) : ch_C g m_m_does [.inr (9, 0, 0), .inl (.int p1)] m Q :=
  ch_enter mf_m_does (by intro v hv; simp only [List.mem_cons, List.not_mem_nil, or_false] at hv; rcases hv with rfl | rfl <;> rfl) (Nat.le_of_ble_eq_true rfl) h
set_option maxHeartbeats 1600000 in
theorem g_m_does_0 (g : ch_G) (Q : ch_O → ch_M → Prop) (p1 : Int32) (m : ch_M) (h : (∀ m1 : ch_M, m1 = ch_wr m (9, 0, 0) 18 p1 → Q (.inl (some (.inl (.int 1)))) m1)) : ch_J g m_m_does (ch_rm m_m_does) (ch_E g m_m_does Q) 0 [some (.inr (9, 0, 0)), some (.inl (.int p1))] [] m 0 := by
  refine ch_aload_n (i := 0) d_m_does_0 rfl rfl ?_
  refine ch_iload_n (i := 1) d_m_does_1 rfl rfl ?_
  refine ch_put d_m_does_2 fp_m_54 rfl rfl rfl ?_
  generalize hmm1 : ch_wr m (9, 0, 0) 18 p1 = m1
  replace h := h m1 hmm1.symm
  refine ch_iconst (v := 1) d_m_does_5 (by decide) ?_
  exact ch_iret (ty := .boolean) d_m_does_6 rfl rfl (Nat.le_of_ble_eq_true rfl) h
theorem e_m_refuses (g : ch_G) (Q : ch_O → ch_M → Prop) (p1 : Int32) (p2 : Int32) (m : ch_M) (h : ch_J g m_m_refuses (ch_rm m_m_refuses) (ch_E g m_m_refuses Q) 0 [some (.inr (9, 0, 0)), some (.inl (.int p1)), some (.inl (.int p2))] [] m 0) : ch_C g m_m_refuses [.inr (9, 0, 0), .inl (.int p1), .inl (.int p2)] m Q :=
  ch_enter mf_m_refuses (by intro v hv; simp only [List.mem_cons, List.not_mem_nil, or_false] at hv; rcases hv with rfl | rfl | rfl <;> rfl) (Nat.le_of_ble_eq_true rfl) h
set_option maxHeartbeats 1600000 in
theorem g_m_refuses_0 (g : ch_G) (Q : ch_O → ch_M → Prop) (p1 : Int32) (p2 : Int32) (m : ch_M) (h : (∀ m1 : ch_M, m1 = ch_wr m (9, 0, 0) 15 p1 → (∀ m2 : ch_M, m2 = ch_wr m1 (9, 0, 0) 16 p2 → (∀ m3 : ch_M, m3 = ch_wr m2 (9, 0, 0) 17 0 → Q (.inl (some (.inl (.int 0)))) m3)))) : ch_J g m_m_refuses (ch_rm m_m_refuses) (ch_E g m_m_refuses Q) 0 [some (.inr (9, 0, 0)), some (.inl (.int p1)), some (.inl (.int p2))] [] m 0 := by
  refine ch_aload_n (i := 0) d_m_refuses_0 rfl rfl ?_
  refine ch_iload_n (i := 1) d_m_refuses_1 rfl rfl ?_
  refine ch_put d_m_refuses_2 fp_m_57 rfl rfl rfl ?_
  generalize hmm1 : ch_wr m (9, 0, 0) 15 p1 = m1
  replace h := h m1 hmm1.symm
  refine ch_aload_n (i := 0) d_m_refuses_5 rfl rfl ?_
  refine ch_iload_n (i := 2) d_m_refuses_6 rfl rfl ?_
  refine ch_put d_m_refuses_7 fp_m_60 rfl rfl rfl ?_
  generalize hmm2 : ch_wr m1 (9, 0, 0) 16 p2 = m2
  replace h := h m2 hmm2.symm
  refine ch_aload_n (i := 0) d_m_refuses_10 rfl rfl ?_
  refine ch_iconst (v := 0) d_m_refuses_11 (by decide) ?_
  refine ch_put d_m_refuses_12 fp_m_63 rfl rfl rfl ?_
  generalize hmm3 : ch_wr m2 (9, 0, 0) 17 0 = m3
  replace h := h m3 hmm3.symm
  refine ch_iconst (v := 0) d_m_refuses_15 (by decide) ?_
  exact ch_iret (ty := .boolean) d_m_refuses_16 rfl rfl (Nat.le_of_ble_eq_true rfl) h
theorem e_m_owner (g : ch_G) (Q : ch_O → ch_M → Prop) (p1 : Int32) (m : ch_M) (h : ch_J g m_m_owner (ch_rm m_m_owner) (ch_E g m_m_owner Q) 0 [some (.inr (9, 0, 0)), some (.inl (.int p1))] [] m 0) : ch_C g m_m_owner [.inr (9, 0, 0), .inl (.int p1)] m Q :=
  ch_enter mf_m_owner (by intro v hv; simp only [List.mem_cons, List.not_mem_nil, or_false] at hv; rcases hv with rfl | rfl <;> rfl) (Nat.le_of_ble_eq_true rfl) h
set_option maxHeartbeats 1600000 in
theorem g_m_owner_0 (g : ch_G) (Q : ch_O → ch_M → Prop) (p1 : Int32) (m : ch_M) (h : (vp_in (14 + (2 * p1)) 63) ∧ Q (.inl (some (.inl (.int ((m (9, 0, 1) (Int32.toNatClampNeg (14 + (2 * p1)))) - 1))))) m) : ch_J g m_m_owner (ch_rm m_m_owner) (ch_E g m_m_owner Q) 0 [some (.inr (9, 0, 0)), some (.inl (.int p1))] [] m 0 := by
  refine ch_aload_n (i := 0) d_m_owner_0 rfl rfl ?_
  refine ch_get (v := .inr (9, 0, 1)) d_m_owner_1 fl_m_9 rfl ?_
  refine ch_bipush (v := 14) d_m_owner_4 (by decide) ?_
  refine ch_iconst (v := 2) d_m_owner_6 (by decide) ?_
  refine ch_iload_n (i := 1) d_m_owner_7 rfl rfl ?_
  refine ch_imul d_m_owner_8 ?_
  refine ch_iadd d_m_owner_9 ?_
  have b1 := h.1
  replace h := h.2
  refine ch_iald (n := 63) d_m_owner_10 (by decide) rfl b1 ?_
  refine ch_iconst (v := 1) d_m_owner_11 (by decide) ?_
  refine ch_isub d_m_owner_12 ?_
  exact ch_iret (ty := .int) d_m_owner_13 rfl rfl (Nat.le_of_ble_eq_true rfl) h
theorem e_m_chalkOf (g : ch_G) (Q : ch_O → ch_M → Prop) (p1 : Int32) (m : ch_M) (h : ch_J g m_m_chalkOf (ch_rm m_m_chalkOf) (ch_E g m_m_chalkOf Q) 0 [some (.inr (9, 0, 0)), some (.inl (.int p1))] [] m 0) : ch_C g m_m_chalkOf [.inr (9, 0, 0), .inl (.int p1)] m Q :=
  ch_enter mf_m_chalkOf (by intro v hv; simp only [List.mem_cons, List.not_mem_nil, or_false] at hv; rcases hv with rfl | rfl <;> rfl) (Nat.le_of_ble_eq_true rfl) h
set_option maxHeartbeats 1600000 in
theorem g_m_chalkOf_0 (g : ch_G) (Q : ch_O → ch_M → Prop) (p1 : Int32) (m : ch_M) (h : (vp_in ((14 + (2 * p1)) + 1) 63) ∧ Q (.inl (some (.inl (.int (m (9, 0, 1) (Int32.toNatClampNeg ((14 + (2 * p1)) + 1))))))) m) : ch_J g m_m_chalkOf (ch_rm m_m_chalkOf) (ch_E g m_m_chalkOf Q) 0 [some (.inr (9, 0, 0)), some (.inl (.int p1))] [] m 0 := by
  refine ch_aload_n (i := 0) d_m_chalkOf_0 rfl rfl ?_
  refine ch_get (v := .inr (9, 0, 1)) d_m_chalkOf_1 fl_m_9 rfl ?_
  refine ch_bipush (v := 14) d_m_chalkOf_4 (by decide) ?_
  refine ch_iconst (v := 2) d_m_chalkOf_6 (by decide) ?_
  refine ch_iload_n (i := 1) d_m_chalkOf_7 rfl rfl ?_
  refine ch_imul d_m_chalkOf_8 ?_
  refine ch_iadd d_m_chalkOf_9 ?_
  refine ch_iconst (v := 1) d_m_chalkOf_10 (by decide) ?_
  refine ch_iadd d_m_chalkOf_11 ?_
  have b1 := h.1
  replace h := h.2
  refine ch_iald (n := 63) d_m_chalkOf_12 (by decide) rfl b1 ?_
  exact ch_iret (ty := .int) d_m_chalkOf_13 rfl rfl (Nat.le_of_ble_eq_true rfl) h
theorem e_m_frees (g : ch_G) (Q : ch_O → ch_M → Prop) (p1 : Int32) (m : ch_M) (h : ch_J g m_m_frees (ch_rm m_m_frees) (ch_E g m_m_frees Q) 0 [some (.inr (9, 0, 0)), some (.inl (.int p1))] [] m 0) : ch_C g m_m_frees [.inr (9, 0, 0), .inl (.int p1)] m Q :=
  ch_enter mf_m_frees (by intro v hv; simp only [List.mem_cons, List.not_mem_nil, or_false] at hv; rcases hv with rfl | rfl <;> rfl) (Nat.le_of_ble_eq_true rfl) h
set_option maxHeartbeats 1600000 in
theorem g_m_frees_0 (g : ch_G) (Q : ch_O → ch_M → Prop) (p1 : Int32) (m : ch_M) (h : (vp_in (14 + (2 * p1)) 63) ∧ (∀ m2 : ch_M, m2 = ch_wr m (9, 0, 1) (Int32.toNatClampNeg (14 + (2 * p1))) 0 → (vp_in ((14 + (2 * p1)) + 1) 63) ∧ (∀ m4 : ch_M, m4 = ch_wr m2 (9, 0, 1) (Int32.toNatClampNeg ((14 + (2 * p1)) + 1)) 0 → Q (.inl none) m4))) : ch_J g m_m_frees (ch_rm m_m_frees) (ch_E g m_m_frees Q) 0 [some (.inr (9, 0, 0)), some (.inl (.int p1))] [] m 0 := by
  refine ch_aload_n (i := 0) d_m_frees_0 rfl rfl ?_
  refine ch_get (v := .inr (9, 0, 1)) d_m_frees_1 fl_m_9 rfl ?_
  refine ch_bipush (v := 14) d_m_frees_4 (by decide) ?_
  refine ch_iconst (v := 2) d_m_frees_6 (by decide) ?_
  refine ch_iload_n (i := 1) d_m_frees_7 rfl rfl ?_
  refine ch_imul d_m_frees_8 ?_
  refine ch_iadd d_m_frees_9 ?_
  refine ch_iconst (v := 0) d_m_frees_10 (by decide) ?_
  have b1 := h.1
  replace h := h.2
  refine ch_iast (n := 63) d_m_frees_11 (by decide) rfl b1 ?_
  show ch_J g _ _ _ _ _ _ (ch_wr m (9, 0, 1) (Int32.toNatClampNeg (14 + (2 * p1))) 0) _
  generalize hmm2 : ch_wr m (9, 0, 1) (Int32.toNatClampNeg (14 + (2 * p1))) 0 = m2
  replace h := h m2 hmm2.symm
  refine ch_aload_n (i := 0) d_m_frees_12 rfl rfl ?_
  refine ch_get (v := .inr (9, 0, 1)) d_m_frees_13 fl_m_9 rfl ?_
  refine ch_bipush (v := 14) d_m_frees_16 (by decide) ?_
  refine ch_iconst (v := 2) d_m_frees_18 (by decide) ?_
  refine ch_iload_n (i := 1) d_m_frees_19 rfl rfl ?_
  refine ch_imul d_m_frees_20 ?_
  refine ch_iadd d_m_frees_21 ?_
  refine ch_iconst (v := 1) d_m_frees_22 (by decide) ?_
  refine ch_iadd d_m_frees_23 ?_
  refine ch_iconst (v := 0) d_m_frees_24 (by decide) ?_
  have b3 := h.1
  replace h := h.2
  refine ch_iast (n := 63) d_m_frees_25 (by decide) rfl b3 ?_
  show ch_J g _ _ _ _ _ _ (ch_wr m2 (9, 0, 1) (Int32.toNatClampNeg ((14 + (2 * p1)) + 1)) 0) _
  generalize hmm4 : ch_wr m2 (9, 0, 1) (Int32.toNatClampNeg ((14 + (2 * p1)) + 1)) 0 = m4
  replace h := h m4 hmm4.symm
  exact ch_vret d_m_frees_26 rfl (Nat.le_of_ble_eq_true rfl) h
theorem e_m_of (g : ch_G) (Q : ch_O → ch_M → Prop) (p1 : Int32) (p2 : Int32) (m : ch_M) (h : ch_J g m_m_of (ch_rm m_m_of) (ch_E g m_m_of Q) 0 [some (.inr (9, 0, 0)), some (.inl (.int p1)), some (.inl (.int p2))] [] m 0) : ch_C g m_m_of [.inr (9, 0, 0), .inl (.int p1), .inl (.int p2)] m Q :=
  ch_enter mf_m_of (by intro v hv; simp only [List.mem_cons, List.not_mem_nil, or_false] at hv; rcases hv with rfl | rfl | rfl <;> rfl) (Nat.le_of_ble_eq_true rfl) h
set_option maxHeartbeats 1600000 in
theorem g_m_of_0 (g : ch_G) (Q : ch_O → ch_M → Prop) (p1 : Int32) (p2 : Int32) (m : ch_M) (h : (vp_in ((38 + (5 * p1)) + p2) 63) ∧ Q (.inl (some (.inl (.int (m (9, 0, 1) (Int32.toNatClampNeg ((38 + (5 * p1)) + p2))))))) m) : ch_J g m_m_of (ch_rm m_m_of) (ch_E g m_m_of Q) 0 [some (.inr (9, 0, 0)), some (.inl (.int p1)), some (.inl (.int p2))] [] m 0 := by
  refine ch_aload_n (i := 0) d_m_of_0 rfl rfl ?_
  refine ch_get (v := .inr (9, 0, 1)) d_m_of_1 fl_m_9 rfl ?_
  refine ch_bipush (v := 38) d_m_of_4 (by decide) ?_
  refine ch_iconst (v := 5) d_m_of_6 (by decide) ?_
  refine ch_iload_n (i := 1) d_m_of_7 rfl rfl ?_
  refine ch_imul d_m_of_8 ?_
  refine ch_iadd d_m_of_9 ?_
  refine ch_iload_n (i := 2) d_m_of_10 rfl rfl ?_
  refine ch_iadd d_m_of_11 ?_
  have b1 := h.1
  replace h := h.2
  refine ch_iald (n := 63) d_m_of_12 (by decide) rfl b1 ?_
  exact ch_iret (ty := .int) d_m_of_13 rfl rfl (Nat.le_of_ble_eq_true rfl) h
theorem e_m_sets (g : ch_G) (Q : ch_O → ch_M → Prop) (p1 : Int32) (p2 : Int32) (p3 : Int32) (m : ch_M) (h : ch_J g m_m_sets (ch_rm m_m_sets) (ch_E g m_m_sets Q) 0 [some (.inr (9, 0, 0)), some (.inl (.int p1)), some (.inl (.int p2)), some (.inl (.int p3))] [] m 0) : ch_C g m_m_sets [.inr (9, 0, 0), .inl (.int p1), .inl (.int p2), .inl (.int p3)] m Q :=
  ch_enter mf_m_sets (by intro v hv; simp only [List.mem_cons, List.not_mem_nil, or_false] at hv; rcases hv with rfl | rfl | rfl | rfl <;> rfl) (Nat.le_of_ble_eq_true rfl) h
set_option maxHeartbeats 1600000 in
theorem g_m_sets_0 (g : ch_G) (Q : ch_O → ch_M → Prop) (p1 : Int32) (p2 : Int32) (p3 : Int32) (m : ch_M) (h : (vp_in ((38 + (5 * p1)) + p2) 63) ∧ (∀ m2 : ch_M, m2 = ch_wr m (9, 0, 1) (Int32.toNatClampNeg ((38 + (5 * p1)) + p2)) p3 → Q (.inl none) m2)) : ch_J g m_m_sets (ch_rm m_m_sets) (ch_E g m_m_sets Q) 0 [some (.inr (9, 0, 0)), some (.inl (.int p1)), some (.inl (.int p2)), some (.inl (.int p3))] [] m 0 := by
  refine ch_aload_n (i := 0) d_m_sets_0 rfl rfl ?_
  refine ch_get (v := .inr (9, 0, 1)) d_m_sets_1 fl_m_9 rfl ?_
  refine ch_bipush (v := 38) d_m_sets_4 (by decide) ?_
  refine ch_iconst (v := 5) d_m_sets_6 (by decide) ?_
  refine ch_iload_n (i := 1) d_m_sets_7 rfl rfl ?_
  refine ch_imul d_m_sets_8 ?_
  refine ch_iadd d_m_sets_9 ?_
  refine ch_iload_n (i := 2) d_m_sets_10 rfl rfl ?_
  refine ch_iadd d_m_sets_11 ?_
  refine ch_iload_n (i := 3) d_m_sets_12 rfl rfl ?_
  have b1 := h.1
  replace h := h.2
  refine ch_iast (n := 63) d_m_sets_13 (by decide) rfl b1 ?_
  show ch_J g _ _ _ _ _ _ (ch_wr m (9, 0, 1) (Int32.toNatClampNeg ((38 + (5 * p1)) + p2)) p3) _
  generalize hmm2 : ch_wr m (9, 0, 1) (Int32.toNatClampNeg ((38 + (5 * p1)) + p2)) p3 = m2
  replace h := h m2 hmm2.symm
  exact ch_vret d_m_sets_14 rfl (Nat.le_of_ble_eq_true rfl) h
theorem e_y_hasChild (g : ch_G) (Q : ch_O → ch_M → Prop) (j : Nat) (p1 : Int32) (m : ch_M) (h : ch_J g m_y_hasChild (ch_rm m_y_hasChild) (ch_E g m_y_hasChild Q) 0 [some (.inr (1, j, 0)), some (.inl (.int p1))] [] m 0) : ch_C g m_y_hasChild [.inr (1, j, 0), .inl (.int p1)] m Q :=
  ch_enter mf_y_hasChild (by intro v hv; simp only [List.mem_cons, List.not_mem_nil, or_false] at hv; rcases hv with rfl | rfl <;> rfl) (Nat.le_of_ble_eq_true rfl) h
set_option maxHeartbeats 1600000 in
theorem g_y_hasChild_0 (g : ch_G) (Q : ch_O → ch_M → Prop) (j : Nat) (p1 : Int32) (m : ch_M) (h : ((p1 < 0 → Q (.inl (some (.inl (.int 0)))) m) ∧ (¬ p1 < 0 → (((m (1, j, 0) 8) ≤ p1 → Q (.inl (some (.inl (.int 0)))) m) ∧ (¬ (m (1, j, 0) 8) ≤ p1 → Q (.inl (some (.inl (.int 1)))) m))))) : ch_J g m_y_hasChild (ch_rm m_y_hasChild) (ch_E g m_y_hasChild Q) 0 [some (.inr (1, j, 0)), some (.inl (.int p1))] [] m 0 := by
  refine ch_iload_n (i := 1) d_y_hasChild_0 rfl rfl ?_
  refine ch_if_lt (tgt := 16) d_y_hasChild_1 (by decide) (fun c => ?_) (fun c => ?_)
  · replace h := h.1 c
    refine ch_iconst (v := 0) d_y_hasChild_16 (by decide) ?_
    exact ch_iret (ty := .boolean) d_y_hasChild_17 rfl rfl (Nat.le_of_ble_eq_true rfl) h
  · replace h := h.2 c
    refine ch_iload_n (i := 1) d_y_hasChild_4 rfl rfl ?_
    refine ch_aload_n (i := 0) d_y_hasChild_5 rfl rfl ?_
    refine ch_get (v := .inl (.int (m (1, j, 0) 8))) d_y_hasChild_6 fl_y_42 rfl ?_
    refine ch_icmp_ge (tgt := 16) d_y_hasChild_9 (by decide) (fun c => ?_) (fun c => ?_)
    · replace h := h.1 c
      refine ch_iconst (v := 0) d_y_hasChild_16 (by decide) ?_
      exact ch_iret (ty := .boolean) d_y_hasChild_17 rfl rfl (Nat.le_of_ble_eq_true rfl) h
    · replace h := h.2 c
      refine ch_iconst (v := 1) d_y_hasChild_12 (by decide) ?_
      refine ch_goto (tgt := 17) d_y_hasChild_13 (by decide) ?_
      exact ch_iret (ty := .boolean) d_y_hasChild_17 rfl rfl (Nat.le_of_ble_eq_true rfl) h
theorem e_y_isLineFor (g : ch_G) (Q : ch_O → ch_M → Prop) (j : Nat) (p1 : Int32) (p2 : Int32) (m : ch_M) (h : ch_J g m_y_isLineFor (ch_rm m_y_isLineFor) (ch_E g m_y_isLineFor Q) 0 [some (.inr (1, j, 0)), some (.inl (.int p1)), some (.inl (.int p2))] [] m 0) : ch_C g m_y_isLineFor [.inr (1, j, 0), .inl (.int p1), .inl (.int p2)] m Q :=
  ch_enter mf_y_isLineFor (by intro v hv; simp only [List.mem_cons, List.not_mem_nil, or_false] at hv; rcases hv with rfl | rfl | rfl <;> rfl) (Nat.le_of_ble_eq_true rfl) h
set_option maxHeartbeats 1600000 in
theorem g_y_isLineFor_0 (g : ch_G) (Q : ch_O → ch_M → Prop) (j : Nat) (p1 : Int32) (p2 : Int32) (m : ch_M) (h : ((p2 < 0 → Q (.inl (some (.inl (.int 0)))) m) ∧ (¬ p2 < 0 → ((12 ≤ p2 → Q (.inl (some (.inl (.int 0)))) m) ∧ (¬ 12 ≤ p2 → (vp_in p2 12) ∧ (((m (1, j, 1) (Int32.toNatClampNeg p2)) = (-1) → Q (.inl (some (.inl (.int 0)))) m) ∧ (¬ (m (1, j, 1) (Int32.toNatClampNeg p2)) = (-1) → (((m (1, j, 1) (Int32.toNatClampNeg p2)) = p1 → Q (.inl (some (.inl (.int 0)))) m) ∧ (¬ (m (1, j, 1) (Int32.toNatClampNeg p2)) = p1 → Q (.inl (some (.inl (.int 1)))) m))))))))) : ch_J g m_y_isLineFor (ch_rm m_y_isLineFor) (ch_E g m_y_isLineFor Q) 0 [some (.inr (1, j, 0)), some (.inl (.int p1)), some (.inl (.int p2))] [] m 0 := by
  refine ch_iload_n (i := 2) d_y_isLineFor_0 rfl rfl ?_
  refine ch_if_lt (tgt := 34) d_y_isLineFor_1 (by decide) (fun c => ?_) (fun c => ?_)
  · replace h := h.1 c
    refine ch_iconst (v := 0) d_y_isLineFor_34 (by decide) ?_
    exact ch_iret (ty := .boolean) d_y_isLineFor_35 rfl rfl (Nat.le_of_ble_eq_true rfl) h
  · replace h := h.2 c
    refine ch_iload_n (i := 2) d_y_isLineFor_4 rfl rfl ?_
    refine ch_bipush (v := 12) d_y_isLineFor_5 (by decide) ?_
    refine ch_icmp_ge (tgt := 34) d_y_isLineFor_7 (by decide) (fun c => ?_) (fun c => ?_)
    · replace h := h.1 c
      refine ch_iconst (v := 0) d_y_isLineFor_34 (by decide) ?_
      exact ch_iret (ty := .boolean) d_y_isLineFor_35 rfl rfl (Nat.le_of_ble_eq_true rfl) h
    · replace h := h.2 c
      refine ch_aload_n (i := 0) d_y_isLineFor_10 rfl rfl ?_
      refine ch_get (v := .inr (1, j, 1)) d_y_isLineFor_11 fl_y_9 rfl ?_
      refine ch_iload_n (i := 2) d_y_isLineFor_14 rfl rfl ?_
      have b1 := h.1
      replace h := h.2
      refine ch_iald (n := 12) d_y_isLineFor_15 (by decide) rfl b1 ?_
      refine ch_iconst (v := (-1)) d_y_isLineFor_16 (by decide) ?_
      refine ch_icmp_eq (tgt := 34) d_y_isLineFor_17 (by decide) (fun c => ?_) (fun c => ?_)
      · replace h := h.1 c
        refine ch_iconst (v := 0) d_y_isLineFor_34 (by decide) ?_
        exact ch_iret (ty := .boolean) d_y_isLineFor_35 rfl rfl (Nat.le_of_ble_eq_true rfl) h
      · replace h := h.2 c
        refine ch_aload_n (i := 0) d_y_isLineFor_20 rfl rfl ?_
        refine ch_get (v := .inr (1, j, 1)) d_y_isLineFor_21 fl_y_9 rfl ?_
        refine ch_iload_n (i := 2) d_y_isLineFor_24 rfl rfl ?_
        refine ch_iald (n := 12) d_y_isLineFor_25 (by decide) rfl b1 ?_
        refine ch_iload_n (i := 1) d_y_isLineFor_26 rfl rfl ?_
        refine ch_icmp_eq (tgt := 34) d_y_isLineFor_27 (by decide) (fun c => ?_) (fun c => ?_)
        · replace h := h.1 c
          refine ch_iconst (v := 0) d_y_isLineFor_34 (by decide) ?_
          exact ch_iret (ty := .boolean) d_y_isLineFor_35 rfl rfl (Nat.le_of_ble_eq_true rfl) h
        · replace h := h.2 c
          refine ch_iconst (v := 1) d_y_isLineFor_30 (by decide) ?_
          refine ch_goto (tgt := 35) d_y_isLineFor_31 (by decide) ?_
          exact ch_iret (ty := .boolean) d_y_isLineFor_35 rfl rfl (Nat.le_of_ble_eq_true rfl) h
theorem e_y_countOwned (g : ch_G) (Q : ch_O → ch_M → Prop) (j : Nat) (p1 : Int32) (m : ch_M) (h : ch_J g m_y_countOwned (ch_rm m_y_countOwned) (ch_E g m_y_countOwned Q) 0 [some (.inr (1, j, 0)), some (.inl (.int p1)), none, none] [] m 0) : ch_C g m_y_countOwned [.inr (1, j, 0), .inl (.int p1)] m Q :=
  ch_enter mf_y_countOwned (by intro v hv; simp only [List.mem_cons, List.not_mem_nil, or_false] at hv; rcases hv with rfl | rfl <;> rfl) (Nat.le_of_ble_eq_true rfl) h
set_option maxHeartbeats 1600000 in
theorem g_y_countOwned_0 (g : ch_G) (Q : ch_O → ch_M → Prop) (j : Nat) (p1 : Int32) (m : ch_M) (h : ch_J g m_y_countOwned (ch_rm m_y_countOwned) (ch_E g m_y_countOwned Q) 4 [some (.inr (1, j, 0)), some (.inl (.int p1)), some (.inl (.int 0)), some (.inl (.int 0))] [] m 0) : ch_J g m_y_countOwned (ch_rm m_y_countOwned) (ch_E g m_y_countOwned Q) 0 [some (.inr (1, j, 0)), some (.inl (.int p1)), none, none] [] m 0 := by
  refine ch_iconst (v := 0) d_y_countOwned_0 (by decide) ?_
  refine ch_istore_n (i := 2) d_y_countOwned_1 rfl (Nat.le_of_ble_eq_true rfl) (ls' := [some (.inr (1, j, 0)), some (.inl (.int p1)), some (.inl (.int 0)), none]) rfl ?_
  refine ch_iconst (v := 0) d_y_countOwned_2 (by decide) ?_
  refine ch_istore_n (i := 3) d_y_countOwned_3 rfl (Nat.le_of_ble_eq_true rfl) (ls' := [some (.inr (1, j, 0)), some (.inl (.int p1)), some (.inl (.int 0)), some (.inl (.int 0))]) rfl ?_
  exact h
set_option maxHeartbeats 1600000 in
theorem g_y_countOwned_4 (g : ch_G) (Q : ch_O → ch_M → Prop) (j : Nat) (x1 : Int32) (x2 : Int32) (x3 : Int32) (m : ch_M) (h : ((12 ≤ x3 → Q (.inl (some (.inl (.int x2)))) m) ∧ (¬ 12 ≤ x3 → (vp_in x3 12) ∧ ((¬ (m (1, j, 1) (Int32.toNatClampNeg x3)) = x1 → ch_J g m_y_countOwned (ch_rm m_y_countOwned) (ch_E g m_y_countOwned Q) 4 [some (.inr (1, j, 0)), some (.inl (.int x1)), some (.inl (.int x2)), some (.inl (.int (x3 + 1)))] [] m 0) ∧ ((m (1, j, 1) (Int32.toNatClampNeg x3)) = x1 → ch_J g m_y_countOwned (ch_rm m_y_countOwned) (ch_E g m_y_countOwned Q) 4 [some (.inr (1, j, 0)), some (.inl (.int x1)), some (.inl (.int (x2 + 1))), some (.inl (.int (x3 + 1)))] [] m 0))))) : ch_J g m_y_countOwned (ch_rm m_y_countOwned) (ch_E g m_y_countOwned Q) 4 [some (.inr (1, j, 0)), some (.inl (.int x1)), some (.inl (.int x2)), some (.inl (.int x3))] [] m 0 := by
  refine ch_iload_n (i := 3) d_y_countOwned_4 rfl rfl ?_
  refine ch_bipush (v := 12) d_y_countOwned_5 (by decide) ?_
  refine ch_icmp_ge (tgt := 29) d_y_countOwned_7 (by decide) (fun c => ?_) (fun c => ?_)
  · replace h := h.1 c
    refine ch_iload_n (i := 2) d_y_countOwned_29 rfl rfl ?_
    exact ch_iret (ty := .int) d_y_countOwned_30 rfl rfl (Nat.le_of_ble_eq_true rfl) h
  · replace h := h.2 c
    refine ch_aload_n (i := 0) d_y_countOwned_10 rfl rfl ?_
    refine ch_get (v := .inr (1, j, 1)) d_y_countOwned_11 fl_y_9 rfl ?_
    refine ch_iload_n (i := 3) d_y_countOwned_14 rfl rfl ?_
    have b1 := h.1
    replace h := h.2
    refine ch_iald (n := 12) d_y_countOwned_15 (by decide) rfl b1 ?_
    refine ch_iload_n (i := 1) d_y_countOwned_16 rfl rfl ?_
    refine ch_icmp_ne (tgt := 23) d_y_countOwned_17 (by decide) (fun c => ?_) (fun c => ?_)
    · replace h := h.1 c
      refine ch_iinc (i := 3) (v := (x3 + 1)) d_y_countOwned_23 rfl rfl (Nat.le_of_ble_eq_true rfl) (ls' := [some (.inr (1, j, 0)), some (.inl (.int x1)), some (.inl (.int x2)), some (.inl (.int (x3 + 1)))]) rfl ?_
      refine ch_goto (tgt := 4) d_y_countOwned_26 (by decide) ?_
      exact h
    · replace h := h.2 c
      refine ch_iinc (i := 2) (v := (x2 + 1)) d_y_countOwned_20 rfl rfl (Nat.le_of_ble_eq_true rfl) (ls' := [some (.inr (1, j, 0)), some (.inl (.int x1)), some (.inl (.int (x2 + 1))), some (.inl (.int x3))]) rfl ?_
      refine ch_iinc (i := 3) (v := (x3 + 1)) d_y_countOwned_23 rfl rfl (Nat.le_of_ble_eq_true rfl) (ls' := [some (.inr (1, j, 0)), some (.inl (.int x1)), some (.inl (.int (x2 + 1))), some (.inl (.int (x3 + 1)))]) rfl ?_
      refine ch_goto (tgt := 4) d_y_countOwned_26 (by decide) ?_
      exact h
