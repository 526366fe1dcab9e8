theorem e_m_thrown (g : ch_G) (Q : ch_O → ch_M → Prop)  (m : ch_M) (h : ch_J g m_m_thrown (ch_rm m_m_thrown) (ch_E g m_m_thrown Q) 0 [some (.inr (9, 0, 0))] [] m 0) : ch_C g m_m_thrown [.inr (9, 0, 0)] m Q :=
  ch_enter mf_m_thrown (by intro v hv; simp only [List.mem_cons, List.not_mem_nil, or_false] at hv; rcases hv with rfl <;> rfl) (Nat.le_of_ble_eq_true rfl) h
set_option maxHeartbeats 1600000 in
theorem g_m_thrown_0 (g : ch_G) (Q : ch_O → ch_M → Prop)  (m : ch_M) (h : Q (.inl (some (.inl (.int (m (9, 0, 0) 19))))) m) : ch_J g m_m_thrown (ch_rm m_m_thrown) (ch_E g m_m_thrown Q) 0 [some (.inr (9, 0, 0))] [] m 0 := by
  refine ch_aload_n (i := 0) d_m_thrown_0 rfl rfl ?_
  refine ch_get (v := .inl (.int (m (9, 0, 0) 19))) d_m_thrown_1 fl_m_48 rfl ?_
  exact ch_iret (ty := .int) d_m_thrown_4 rfl rfl (Nat.le_of_ble_eq_true rfl) h
theorem e_m_raises (g : ch_G) (Q : ch_O → ch_M → Prop) (p1 : Int32) (m : ch_M) (h : ch_J g m_m_raises (ch_rm m_m_raises) (ch_E g m_m_raises Q) 0 [some (.inr (9, 0, 0)), some (.inl (.int p1))] [] m 0) : ch_C g m_m_raises [.inr (9, 0, 0), .inl (.int p1)] m Q :=
  ch_enter mf_m_raises (by intro v hv; simp only [List.mem_cons, List.not_mem_nil, or_false] at hv; rcases hv with rfl | rfl <;> rfl) (Nat.le_of_ble_eq_true rfl) h
set_option maxHeartbeats 1600000 in
theorem g_m_raises_0 (g : ch_G) (Q : ch_O → ch_M → Prop) (p1 : Int32) (m : ch_M) (h : (∀ m1 : ch_M, m1 = ch_wr m (9, 0, 0) 19 p1 → Q (.inl (some (.inl (.int 0)))) m1)) : ch_J g m_m_raises (ch_rm m_m_raises) (ch_E g m_m_raises Q) 0 [some (.inr (9, 0, 0)), some (.inl (.int p1))] [] m 0 := by
  refine ch_aload_n (i := 0) d_m_raises_0 rfl rfl ?_
  refine ch_iload_n (i := 1) d_m_raises_1 rfl rfl ?_
  refine ch_put d_m_raises_2 fp_m_48 rfl rfl rfl ?_
  generalize hmm1 : ch_wr m (9, 0, 0) 19 p1 = m1
  replace h := h m1 hmm1.symm
  refine ch_iconst (v := 0) d_m_raises_5 (by decide) ?_
  exact ch_iret (ty := .int) d_m_raises_6 rfl rfl (Nat.le_of_ble_eq_true rfl) h
theorem e_m_in (g : ch_G) (Q : ch_O → ch_M → Prop) (p0 : Int32) (p1 : Int32) (p2 : Int32) (m : ch_M) (h : ch_J g m_m_in (ch_rm m_m_in) (ch_E g m_m_in Q) 0 [some (.inl (.int p0)), some (.inl (.int p1)), some (.inl (.int p2))] [] m 0) : ch_C g m_m_in [.inl (.int p0), .inl (.int p1), .inl (.int p2)] m Q :=
  ch_enter mf_m_in (by intro v hv; simp only [List.mem_cons, List.not_mem_nil, or_false] at hv; rcases hv with rfl | rfl | rfl <;> rfl) (Nat.le_of_ble_eq_true rfl) h
set_option maxHeartbeats 1600000 in
theorem g_m_in_0 (g : ch_G) (Q : ch_O → ch_M → Prop) (p0 : Int32) (p1 : Int32) (p2 : Int32) (m : ch_M) (h : ((p0 < p1 → Q (.inl (some (.inl (.int 0)))) m) ∧ (¬ p0 < p1 → ((p2 < p0 → Q (.inl (some (.inl (.int 0)))) m) ∧ (¬ p2 < p0 → Q (.inl (some (.inl (.int 1)))) m))))) : ch_J g m_m_in (ch_rm m_m_in) (ch_E g m_m_in Q) 0 [some (.inl (.int p0)), some (.inl (.int p1)), some (.inl (.int p2))] [] m 0 := by
  refine ch_iload_n (i := 0) d_m_in_0 rfl rfl ?_
  refine ch_iload_n (i := 1) d_m_in_1 rfl rfl ?_
  refine ch_icmp_lt (tgt := 14) d_m_in_2 (by decide) (fun c => ?_) (fun c => ?_)
  · replace h := h.1 c
    refine ch_iconst (v := 0) d_m_in_14 (by decide) ?_
    exact ch_iret (ty := .boolean) d_m_in_15 rfl rfl (Nat.le_of_ble_eq_true rfl) h
  · replace h := h.2 c
    refine ch_iload_n (i := 0) d_m_in_5 rfl rfl ?_
    refine ch_iload_n (i := 2) d_m_in_6 rfl rfl ?_
    refine ch_icmp_gt (tgt := 14) d_m_in_7 (by decide) (fun c => ?_) (fun c => ?_)
    · replace h := h.1 c
      refine ch_iconst (v := 0) d_m_in_14 (by decide) ?_
      exact ch_iret (ty := .boolean) d_m_in_15 rfl rfl (Nat.le_of_ble_eq_true rfl) h
    · replace h := h.2 c
      refine ch_iconst (v := 1) d_m_in_10 (by decide) ?_
      refine ch_goto (tgt := 15) d_m_in_11 (by decide) ?_
      exact ch_iret (ty := .boolean) d_m_in_15 rfl rfl (Nat.le_of_ble_eq_true rfl) h
theorem e_m_tries (g : ch_G) (Q : ch_O → ch_M → Prop)  (m : ch_M) (h : ch_J g m_m_tries (ch_rm m_m_tries) (ch_E g m_m_tries Q) 0 [some (.inr (9, 0, 0)), none] [] m 0) : ch_C g m_m_tries [.inr (9, 0, 0)] m Q :=
  ch_enter mf_m_tries (by intro v hv; simp only [List.mem_cons, List.not_mem_nil, or_false] at hv; rcases hv with rfl <;> rfl) (Nat.le_of_ble_eq_true rfl) h
set_option maxHeartbeats 1600000 in
theorem g_m_tries_0 (g : ch_G) (Q : ch_O → ch_M → Prop)  (m : ch_M) (h : (∀ m1 : ch_M, m1 = ch_wr m (9, 0, 0) 19 0 → ch_J g m_m_tries (ch_rm m_m_tries) (ch_E g m_m_tries Q) 7 [some (.inr (9, 0, 0)), some (.inl (.int 0))] [] m1 0)) : ch_J g m_m_tries (ch_rm m_m_tries) (ch_E g m_m_tries Q) 0 [some (.inr (9, 0, 0)), none] [] m 0 := by
  refine ch_aload_n (i := 0) d_m_tries_0 rfl rfl ?_
  refine ch_iconst (v := 0) d_m_tries_1 (by decide) ?_
  refine ch_put d_m_tries_2 fp_m_48 rfl rfl rfl ?_
  generalize hmm1 : ch_wr m (9, 0, 0) 19 0 = m1
  replace h := h m1 hmm1.symm
  refine ch_iconst (v := 0) d_m_tries_5 (by decide) ?_
  refine ch_istore_n (i := 1) d_m_tries_6 rfl (Nat.le_of_ble_eq_true rfl) (ls' := [some (.inr (9, 0, 0)), some (.inl (.int 0))]) rfl ?_
  exact h
set_option maxHeartbeats 1600000 in
theorem g_m_tries_7 (g : ch_G) (Q : ch_O → ch_M → Prop) (x1 : Int32) (m : ch_M) (h : ((63 ≤ x1 → Q (.inl none) m) ∧ (¬ 63 ≤ x1 → (vp_in x1 63) ∧ (∀ m2 : ch_M, m2 = ch_wr m (9, 0, 2) (Int32.toNatClampNeg x1) (m (9, 0, 1) (Int32.toNatClampNeg x1)) → ch_J g m_m_tries (ch_rm m_m_tries) (ch_E g m_m_tries Q) 7 [some (.inr (9, 0, 0)), some (.inl (.int (x1 + 1)))] [] m2 0)))) : ch_J g m_m_tries (ch_rm m_m_tries) (ch_E g m_m_tries Q) 7 [some (.inr (9, 0, 0)), some (.inl (.int x1))] [] m 0 := by
  refine ch_iload_n (i := 1) d_m_tries_7 rfl rfl ?_
  refine ch_bipush (v := 63) d_m_tries_8 (by decide) ?_
  refine ch_icmp_ge (tgt := 31) d_m_tries_10 (by decide) (fun c => ?_) (fun c => ?_)
  · replace h := h.1 c
    exact ch_vret d_m_tries_31 rfl (Nat.le_of_ble_eq_true rfl) h
  · replace h := h.2 c
    refine ch_aload_n (i := 0) d_m_tries_13 rfl rfl ?_
    refine ch_get (v := .inr (9, 0, 2)) d_m_tries_14 fl_m_13 rfl ?_
    refine ch_iload_n (i := 1) d_m_tries_17 rfl rfl ?_
    refine ch_aload_n (i := 0) d_m_tries_18 rfl rfl ?_
    refine ch_get (v := .inr (9, 0, 1)) d_m_tries_19 fl_m_9 rfl ?_
    refine ch_iload_n (i := 1) d_m_tries_22 rfl rfl ?_
    have b1 := h.1
    replace h := h.2
    refine ch_iald (n := 63) d_m_tries_23 (by decide) rfl b1 ?_
    refine ch_iast (n := 63) d_m_tries_24 (by decide) rfl b1 ?_
    show ch_J g _ _ _ _ _ _ (ch_wr m (9, 0, 2) (Int32.toNatClampNeg x1) (m (9, 0, 1) (Int32.toNatClampNeg x1))) _
    generalize hmm2 : ch_wr m (9, 0, 2) (Int32.toNatClampNeg x1) (m (9, 0, 1) (Int32.toNatClampNeg x1)) = m2
    replace h := h m2 hmm2.symm
    refine ch_iinc (i := 1) (v := (x1 + 1)) d_m_tries_25 rfl rfl (Nat.le_of_ble_eq_true rfl) (ls' := [some (.inr (9, 0, 0)), some (.inl (.int (x1 + 1)))]) rfl ?_
    refine ch_goto (tgt := 7) d_m_tries_28 (by decide) ?_
    exact h
theorem e_m_keeps (g : ch_G) (Q : ch_O → ch_M → Prop) (p1 : Int32) (m : ch_M) (h : ch_J g m_m_keeps (ch_rm m_m_keeps) (ch_E g m_m_keeps Q) 0 [some (.inr (9, 0, 0)), some (.inl (.int p1)), none] [] m 0) : ch_C g m_m_keeps [.inr (9, 0, 0), .inl (.int p1)] m Q :=
  ch_enter mf_m_keeps (by intro v hv; simp only [List.mem_cons, List.not_mem_nil, or_false] at hv; rcases hv with rfl | rfl <;> rfl) (Nat.le_of_ble_eq_true rfl) h
set_option maxHeartbeats 1600000 in
theorem g_m_keeps_0 (g : ch_G) (Q : ch_O → ch_M → Prop) (p1 : Int32) (m : ch_M) (h : ((¬ (m (9, 0, 0) 4) = 8 → ch_J g m_m_keeps (ch_rm m_m_keeps) (ch_E g m_m_keeps Q) 51 [some (.inr (9, 0, 0)), some (.inl (.int p1)), some (.inl (.int 0))] [] m 0) ∧ ((m (9, 0, 0) 4) = 8 → ch_J g m_m_keeps (ch_rm m_m_keeps) (ch_E g m_m_keeps Q) 11 [some (.inr (9, 0, 0)), some (.inl (.int p1)), some (.inl (.int 0))] [] m 0))) : ch_J g m_m_keeps (ch_rm m_m_keeps) (ch_E g m_m_keeps Q) 0 [some (.inr (9, 0, 0)), some (.inl (.int p1)), none] [] m 0 := by
  refine ch_aload_n (i := 0) d_m_keeps_0 rfl rfl ?_
  refine ch_get (v := .inl (.int (m (9, 0, 0) 4))) d_m_keeps_1 fl_m_51 rfl ?_
  refine ch_bipush (v := 8) d_m_keeps_4 (by decide) ?_
  refine ch_icmp_ne (tgt := 49) d_m_keeps_6 (by decide) (fun c => ?_) (fun c => ?_)
  · replace h := h.1 c
    refine ch_iconst (v := 0) d_m_keeps_49 (by decide) ?_
    refine ch_istore_n (i := 2) d_m_keeps_50 rfl (Nat.le_of_ble_eq_true rfl) (ls' := [some (.inr (9, 0, 0)), some (.inl (.int p1)), some (.inl (.int 0))]) rfl ?_
    exact h
  · replace h := h.2 c
    refine ch_iconst (v := 0) d_m_keeps_9 (by decide) ?_
    refine ch_istore_n (i := 2) d_m_keeps_10 rfl (Nat.le_of_ble_eq_true rfl) (ls' := [some (.inr (9, 0, 0)), some (.inl (.int p1)), some (.inl (.int 0))]) rfl ?_
    exact h
set_option maxHeartbeats 1600000 in
theorem g_m_keeps_11 (g : ch_G) (Q : ch_O → ch_M → Prop) (x1 : Int32) (x2 : Int32) (m : ch_M) (h : ((441 ≤ x2 → (∀ m1 : ch_M, m1 = ch_wr m (9, 0, 0) 4 ((m (9, 0, 0) 4) - 1) → ch_J g m_m_keeps (ch_rm m_m_keeps) (ch_E g m_m_keeps Q) 51 [some (.inr (9, 0, 0)), some (.inl (.int x1)), some (.inl (.int 0))] [] m1 0)) ∧ (¬ 441 ≤ x2 → (vp_in (63 + x2) 504) ∧ (vp_in x2 504) ∧ (∀ m4 : ch_M, m4 = ch_wr m (9, 0, 4) (Int32.toNatClampNeg x2) (m (9, 0, 4) (Int32.toNatClampNeg (63 + x2))) → ch_J g m_m_keeps (ch_rm m_m_keeps) (ch_E g m_m_keeps Q) 11 [some (.inr (9, 0, 0)), some (.inl (.int x1)), some (.inl (.int (x2 + 1)))] [] m4 0)))) : ch_J g m_m_keeps (ch_rm m_m_keeps) (ch_E g m_m_keeps Q) 11 [some (.inr (9, 0, 0)), some (.inl (.int x1)), some (.inl (.int x2))] [] m 0 := by
  refine ch_iload_n (i := 2) d_m_keeps_11 rfl rfl ?_
  refine ch_sipush (v := 441) d_m_keeps_12 (by decide) ?_
  refine ch_icmp_ge (tgt := 39) d_m_keeps_15 (by decide) (fun c => ?_) (fun c => ?_)
  · replace h := h.1 c
    refine ch_aload_n (i := 0) d_m_keeps_39 rfl rfl ?_
    refine ch_dup d_m_keeps_40 rfl ?_
    refine ch_get (v := .inl (.int (m (9, 0, 0) 4))) d_m_keeps_41 fl_m_51 rfl ?_
    refine ch_iconst (v := 1) d_m_keeps_44 (by decide) ?_
    refine ch_isub d_m_keeps_45 ?_
    refine ch_put d_m_keeps_46 fp_m_51 rfl rfl rfl ?_
    generalize hmm1 : ch_wr m (9, 0, 0) 4 ((m (9, 0, 0) 4) - 1) = m1
    replace h := h m1 hmm1.symm
    refine ch_iconst (v := 0) d_m_keeps_49 (by decide) ?_
    refine ch_istore_n (i := 2) d_m_keeps_50 rfl (Nat.le_of_ble_eq_true rfl) (ls' := [some (.inr (9, 0, 0)), some (.inl (.int x1)), some (.inl (.int 0))]) rfl ?_
    exact h
  · replace h := h.2 c
    refine ch_aload_n (i := 0) d_m_keeps_18 rfl rfl ?_
    refine ch_get (v := .inr (9, 0, 4)) d_m_keeps_19 fl_m_19 rfl ?_
    refine ch_iload_n (i := 2) d_m_keeps_22 rfl rfl ?_
    refine ch_aload_n (i := 0) d_m_keeps_23 rfl rfl ?_
    refine ch_get (v := .inr (9, 0, 4)) d_m_keeps_24 fl_m_19 rfl ?_
    refine ch_bipush (v := 63) d_m_keeps_27 (by decide) ?_
    refine ch_iload_n (i := 2) d_m_keeps_29 rfl rfl ?_
    refine ch_iadd d_m_keeps_30 ?_
    have b2 := h.1
    replace h := h.2
    refine ch_iald (n := 504) d_m_keeps_31 (by decide) rfl b2 ?_
    have b3 := h.1
    replace h := h.2
    refine ch_iast (n := 504) d_m_keeps_32 (by decide) rfl b3 ?_
    show ch_J g _ _ _ _ _ _ (ch_wr m (9, 0, 4) (Int32.toNatClampNeg x2) (m (9, 0, 4) (Int32.toNatClampNeg (63 + x2)))) _
    generalize hmm4 : ch_wr m (9, 0, 4) (Int32.toNatClampNeg x2) (m (9, 0, 4) (Int32.toNatClampNeg (63 + x2))) = m4
    replace h := h m4 hmm4.symm
    refine ch_iinc (i := 2) (v := (x2 + 1)) d_m_keeps_33 rfl rfl (Nat.le_of_ble_eq_true rfl) (ls' := [some (.inr (9, 0, 0)), some (.inl (.int x1)), some (.inl (.int (x2 + 1)))]) rfl ?_
    refine ch_goto (tgt := 11) d_m_keeps_36 (by decide) ?_
    exact h
set_option maxHeartbeats 1600000 in
theorem g_m_keeps_51 (g : ch_G) (Q : ch_O → ch_M → Prop) (x1 : Int32) (x2 : Int32) (m : ch_M) (h : ((63 ≤ x2 → (∀ m1 : ch_M, m1 = ch_wr m (9, 0, 0) 4 ((m (9, 0, 0) 4) + 1) → Q (.inl (some (.inl (.int x1)))) m1)) ∧ (¬ 63 ≤ x2 → (vp_in x2 63) ∧ (vp_in ((63 * (m (9, 0, 0) 4)) + x2) 504) ∧ (∀ m4 : ch_M, m4 = ch_wr m (9, 0, 4) (Int32.toNatClampNeg ((63 * (m (9, 0, 0) 4)) + x2)) (m (9, 0, 2) (Int32.toNatClampNeg x2)) → ch_J g m_m_keeps (ch_rm m_m_keeps) (ch_E g m_m_keeps Q) 51 [some (.inr (9, 0, 0)), some (.inl (.int x1)), some (.inl (.int (x2 + 1)))] [] m4 0)))) : ch_J g m_m_keeps (ch_rm m_m_keeps) (ch_E g m_m_keeps Q) 51 [some (.inr (9, 0, 0)), some (.inl (.int x1)), some (.inl (.int x2))] [] m 0 := by
  refine ch_iload_n (i := 2) d_m_keeps_51 rfl rfl ?_
  refine ch_bipush (v := 63) d_m_keeps_52 (by decide) ?_
  refine ch_icmp_ge (tgt := 83) d_m_keeps_54 (by decide) (fun c => ?_) (fun c => ?_)
  · replace h := h.1 c
    refine ch_aload_n (i := 0) d_m_keeps_83 rfl rfl ?_
    refine ch_dup d_m_keeps_84 rfl ?_
    refine ch_get (v := .inl (.int (m (9, 0, 0) 4))) d_m_keeps_85 fl_m_51 rfl ?_
    refine ch_iconst (v := 1) d_m_keeps_88 (by decide) ?_
    refine ch_iadd d_m_keeps_89 ?_
    refine ch_put d_m_keeps_90 fp_m_51 rfl rfl rfl ?_
    generalize hmm1 : ch_wr m (9, 0, 0) 4 ((m (9, 0, 0) 4) + 1) = m1
    replace h := h m1 hmm1.symm
    refine ch_iload_n (i := 1) d_m_keeps_93 rfl rfl ?_
    exact ch_iret (ty := .int) d_m_keeps_94 rfl rfl (Nat.le_of_ble_eq_true rfl) h
  · replace h := h.2 c
    refine ch_aload_n (i := 0) d_m_keeps_57 rfl rfl ?_
    refine ch_get (v := .inr (9, 0, 4)) d_m_keeps_58 fl_m_19 rfl ?_
    refine ch_bipush (v := 63) d_m_keeps_61 (by decide) ?_
    refine ch_aload_n (i := 0) d_m_keeps_63 rfl rfl ?_
    refine ch_get (v := .inl (.int (m (9, 0, 0) 4))) d_m_keeps_64 fl_m_51 rfl ?_
    refine ch_imul d_m_keeps_67 ?_
    refine ch_iload_n (i := 2) d_m_keeps_68 rfl rfl ?_
    refine ch_iadd d_m_keeps_69 ?_
    refine ch_aload_n (i := 0) d_m_keeps_70 rfl rfl ?_
    refine ch_get (v := .inr (9, 0, 2)) d_m_keeps_71 fl_m_13 rfl ?_
    refine ch_iload_n (i := 2) d_m_keeps_74 rfl rfl ?_
    have b2 := h.1
    replace h := h.2
    refine ch_iald (n := 63) d_m_keeps_75 (by decide) rfl b2 ?_
    have b3 := h.1
    replace h := h.2
    refine ch_iast (n := 504) d_m_keeps_76 (by decide) rfl b3 ?_
    show ch_J g _ _ _ _ _ _ (ch_wr m (9, 0, 4) (Int32.toNatClampNeg ((63 * (m (9, 0, 0) 4)) + x2)) (m (9, 0, 2) (Int32.toNatClampNeg x2))) _
    generalize hmm4 : ch_wr m (9, 0, 4) (Int32.toNatClampNeg ((63 * (m (9, 0, 0) 4)) + x2)) (m (9, 0, 2) (Int32.toNatClampNeg x2)) = m4
    replace h := h m4 hmm4.symm
    refine ch_iinc (i := 2) (v := (x2 + 1)) d_m_keeps_77 rfl rfl (Nat.le_of_ble_eq_true rfl) (ls' := [some (.inr (9, 0, 0)), some (.inl (.int x1)), some (.inl (.int (x2 + 1)))]) rfl ?_
    refine ch_goto (tgt := 51) d_m_keeps_80 (by decide) ?_
    exact h
theorem e_m_does (g : ch_G) (Q : ch_O → ch_M → Prop) (p1 : Int32) (m : ch_M) (h : ch_J g m_m_does (ch_rm m_m_does) (ch_E g m_m_does Q) 0 [some (.inr (9, 0, 0)), some (.inl (.int p1))] [] m 0) : ch_C g m_m_does [.inr (9, 0, 0), .inl (.int p1)] m Q :=
  ch_enter mf_m_does (by intro v hv; simp only [List.mem_cons, List.not_mem_nil, or_false] at hv; rcases hv with rfl | rfl <;> rfl) (Nat.le_of_ble_eq_true rfl) h
set_option maxHeartbeats 1600000 in
theorem g_m_does_0 (g : ch_G) (Q : ch_O → ch_M → Prop) (p1 : Int32) (m : ch_M) (h : (∀ m1 : ch_M, m1 = ch_wr m (9, 0, 0) 18 p1 → Q (.inl (some (.inl (.int 1)))) m1)) : ch_J g m_m_does (ch_rm m_m_does) (ch_E g m_m_does Q) 0 [some (.inr (9, 0, 0)), some (.inl (.int p1))] [] m 0 := by
  refine ch_aload_n (i := 0) d_m_does_0 rfl rfl ?_
  refine ch_iload_n (i := 1) d_m_does_1 rfl rfl ?_
  refine ch_put d_m_does_2 fp_m_54 rfl rfl rfl ?_
  generalize hmm1 : ch_wr m (9, 0, 0) 18 p1 = m1
  replace h := h m1 hmm1.symm
  refine ch_iconst (v := 1) d_m_does_5 (by decide) ?_
  exact ch_iret (ty := .boolean) d_m_does_6 rfl rfl (Nat.le_of_ble_eq_true rfl) h
theorem e_m_refuses (g : ch_G) (Q : ch_O → ch_M → Prop) (p1 : Int32) (p2 : Int32) (m : ch_M) (h : ch_J g m_m_refuses (ch_rm m_m_refuses) (ch_E g m_m_refuses Q) 0 [some (.inr (9, 0, 0)), some (.inl (.int p1)), some (.inl (.int p2))] [] m 0) : ch_C g m_m_refuses [.inr (9, 0, 0), .inl (.int p1), .inl (.int p2)] m Q :=
  ch_enter mf_m_refuses (by intro v hv; simp only [List.mem_cons, List.not_mem_nil, or_false] at hv; rcases hv with rfl | rfl | rfl <;> rfl) (Nat.le_of_ble_eq_true rfl) h
set_option maxHeartbeats 1600000 in
theorem g_m_refuses_0 (g : ch_G) (Q : ch_O → ch_M → Prop) (p1 : Int32) (p2 : Int32) (m : ch_M) (h : (∀ m1 : ch_M, m1 = ch_wr m (9, 0, 0) 15 p1 → (∀ m2 : ch_M, m2 = ch_wr m1 (9, 0, 0) 16 p2 → (∀ m3 : ch_M, m3 = ch_wr m2 (9, 0, 0) 17 0 → Q (.inl (some (.inl (.int 0)))) m3)))) : ch_J g m_m_refuses (ch_rm m_m_refuses) (ch_E g m_m_refuses Q) 0 [some (.inr (9, 0, 0)), some (.inl (.int p1)), some (.inl (.int p2))] [] m 0 := by
  refine ch_aload_n (i := 0) d_m_refuses_0 rfl rfl ?_
  refine ch_iload_n (i := 1) d_m_refuses_1 rfl rfl ?_
  refine ch_put d_m_refuses_2 fp_m_57 rfl rfl rfl ?_
  generalize hmm1 : ch_wr m (9, 0, 0) 15 p1 = m1
  replace h := h m1 hmm1.symm
  refine ch_aload_n (i := 0) d_m_refuses_5 rfl rfl ?_
  refine ch_iload_n (i := 2) d_m_refuses_6 rfl rfl ?_
  refine ch_put d_m_refuses_7 fp_m_60 rfl rfl rfl ?_
  generalize hmm2 : ch_wr m1 (9, 0, 0) 16 p2 = m2
  replace h := h m2 hmm2.symm
  refine ch_aload_n (i := 0) d_m_refuses_10 rfl rfl ?_
  refine ch_iconst (v := 0) d_m_refuses_11 (by decide) ?_
  refine ch_put d_m_refuses_12 fp_m_63 rfl rfl rfl ?_
  generalize hmm3 : ch_wr m2 (9, 0, 0) 17 0 = m3
  replace h := h m3 hmm3.symm
  refine ch_iconst (v := 0) d_m_refuses_15 (by decide) ?_
  exact ch_iret (ty := .boolean) d_m_refuses_16 rfl rfl (Nat.le_of_ble_eq_true rfl) h
theorem e_m_ends (g : ch_G) (Q : ch_O → ch_M → Prop) (p1 : Int32) (m : ch_M) (h : ch_J g m_m_ends (ch_rm m_m_ends) (ch_E g m_m_ends Q) 0 [some (.inr (9, 0, 0)), some (.inl (.int p1))] [] m 0) : ch_C g m_m_ends [.inr (9, 0, 0), .inl (.int p1)] m Q :=
  ch_enter mf_m_ends (by intro v hv; simp only [List.mem_cons, List.not_mem_nil, or_false] at hv; rcases hv with rfl | rfl <;> rfl) (Nat.le_of_ble_eq_true rfl) h
set_option maxHeartbeats 1600000 in
theorem g_m_ends_0 (g : ch_G) (Q : ch_O → ch_M → Prop) (p1 : Int32) (m : ch_M) (h : ((p1 = 0 → (ch_C g m_m_raises [.inr (9, 0, 0), .inl (.int 1)] m (ch_oi (fun (r1 : Int32) (m2 : ch_M) => Q (.inl (some (.inl (.int r1)))) m2)))) ∧ (¬ p1 = 0 → (ch_C g m_m_keeps [.inr (9, 0, 0), .inl (.int (m (9, 0, 0) 18))] m (ch_oi (fun (r3 : Int32) (m4 : ch_M) => Q (.inl (some (.inl (.int r3)))) m4)))))) : ch_J g m_m_ends (ch_rm m_m_ends) (ch_E g m_m_ends Q) 0 [some (.inr (9, 0, 0)), some (.inl (.int p1))] [] m 0 := by
  refine ch_iload_n (i := 1) d_m_ends_0 rfl rfl ?_
  refine ch_if_eq (tgt := 15) d_m_ends_1 (by decide) (fun c => ?_) (fun c => ?_)
  · replace h := h.1 c
    refine ch_aload_n (i := 0) d_m_ends_15 rfl rfl ?_
    refine ch_iconst (v := 1) d_m_ends_16 (by decide) ?_
    refine ch_callV (as := [.inl (.int 1)]) d_m_ends_17 lk_m_70 mi_m_raises me_m_raises rfl rfl rfl ⟨Nat.le_of_ble_eq_true rfl, Nat.le_of_ble_eq_true rfl⟩ (Nat.le_of_ble_eq_true rfl) ⟨Nat.le_of_ble_eq_true rfl, Nat.le_of_ble_eq_true rfl⟩ (ch_mono (ch_Ki (fun r1 m2 h => ?_)) h)
    exact ch_iret (ty := .int) d_m_ends_20 rfl rfl (Nat.le_of_ble_eq_true rfl) h
  · replace h := h.2 c
    refine ch_aload_n (i := 0) d_m_ends_4 rfl rfl ?_
    refine ch_aload_n (i := 0) d_m_ends_5 rfl rfl ?_
    refine ch_get (v := .inl (.int (m (9, 0, 0) 18))) d_m_ends_6 fl_m_54 rfl ?_
    refine ch_callV (as := [.inl (.int (m (9, 0, 0) 18))]) d_m_ends_9 lk_m_66 mi_m_keeps me_m_keeps rfl rfl rfl ⟨Nat.le_of_ble_eq_true rfl, Nat.le_of_ble_eq_true rfl⟩ (Nat.le_of_ble_eq_true rfl) ⟨Nat.le_of_ble_eq_true rfl, Nat.le_of_ble_eq_true rfl⟩ (ch_mono (ch_Ki (fun r3 m4 h => ?_)) h)
    refine ch_goto (tgt := 20) d_m_ends_12 (by decide) ?_
    exact ch_iret (ty := .int) d_m_ends_20 rfl rfl (Nat.le_of_ble_eq_true rfl) h
theorem e_m_isChild (g : ch_G) (Q : ch_O → ch_M → Prop) (p1 : Int32) (m : ch_M) (h : ch_J g m_m_isChild (ch_rm m_m_isChild) (ch_E g m_m_isChild Q) 0 [some (.inr (9, 0, 0)), some (.inl (.int p1))] [] m 0) : ch_C g m_m_isChild [.inr (9, 0, 0), .inl (.int p1)] m Q :=
  ch_enter mf_m_isChild (by intro v hv; simp only [List.mem_cons, List.not_mem_nil, or_false] at hv; rcases hv with rfl | rfl <;> rfl) (Nat.le_of_ble_eq_true rfl) h
set_option maxHeartbeats 1600000 in
theorem g_m_isChild_0 (g : ch_G) (Q : ch_O → ch_M → Prop) (p1 : Int32) (m : ch_M) (h : (ch_C g m_m_in [.inl (.int p1), .inl (.int 0), .inl (.int ((m (9, 0, 1) (0)) - 1))] m (ch_oi (fun (r1 : Int32) (m2 : ch_M) => (narrow .boolean (.int r1) = .int r1) ∧ Q (.inl (some (.inl (.int r1)))) m2)))) : ch_J g m_m_isChild (ch_rm m_m_isChild) (ch_E g m_m_isChild Q) 0 [some (.inr (9, 0, 0)), some (.inl (.int p1))] [] m 0 := by
  refine ch_iload_n (i := 1) d_m_isChild_0 rfl rfl ?_
  refine ch_iconst (v := 0) d_m_isChild_1 (by decide) ?_
  refine ch_aload_n (i := 0) d_m_isChild_2 rfl rfl ?_
  refine ch_get (v := .inr (9, 0, 1)) d_m_isChild_3 fl_m_9 rfl ?_
  refine ch_iconst (v := 0) d_m_isChild_6 (by decide) ?_
  refine ch_iald (n := 63) d_m_isChild_7 (by decide) rfl (vp_in_nI (n := 0) (by decide) (by decide)) ?_
  refine ch_iconst (v := 1) d_m_isChild_8 (by decide) ?_
  refine ch_isub d_m_isChild_9 ?_
  refine ch_callS (as := [.inl (.int p1), .inl (.int 0), .inl (.int ((m (9, 0, 1) (0)) - 1))]) d_m_isChild_10 lk_m_73 ms_m_in rfl rfl ⟨Nat.le_of_ble_eq_true rfl, Nat.le_of_ble_eq_true rfl⟩ (Nat.le_of_ble_eq_true rfl) ⟨Nat.le_of_ble_eq_true rfl, Nat.le_of_ble_eq_true rfl⟩ (ch_mono (ch_Ki (fun r1 m2 h => ?_)) h)
  exact ch_iret (ty := .boolean) d_m_isChild_13 rfl h.1 (Nat.le_of_ble_eq_true rfl) h.2
theorem e_m_isThere (g : ch_G) (Q : ch_O → ch_M → Prop) (p1 : Int32) (m : ch_M) (h : ch_J g m_m_isThere (ch_rm m_m_isThere) (ch_E g m_m_isThere Q) 0 [some (.inr (9, 0, 0)), some (.inl (.int p1))] [] m 0) : ch_C g m_m_isThere [.inr (9, 0, 0), .inl (.int p1)] m Q :=
  ch_enter mf_m_isThere (by intro v hv; simp only [List.mem_cons, List.not_mem_nil, or_false] at hv; rcases hv with rfl | rfl <;> rfl) (Nat.le_of_ble_eq_true rfl) h
set_option maxHeartbeats 1600000 in
theorem g_m_isThere_0 (g : ch_G) (Q : ch_O → ch_M → Prop) (p1 : Int32) (m : ch_M) (h : (ch_C g m_m_isChild [.inr (9, 0, 0), .inl (.int p1)] m (ch_oi (fun (r1 : Int32) (m2 : ch_M) => ((¬ r1 = 0 → Q (.inl (some (.inl (.int 1)))) m2) ∧ (r1 = 0 → (ch_C g m_m_refuses [.inr (9, 0, 0), .inl (.int 3), .inl (.int (m2 (9, 0, 1) (0)))] m2 (ch_oi (fun (r3 : Int32) (m4 : ch_M) => ((r3 = 0 → Q (.inl (some (.inl (.int 0)))) m4) ∧ (¬ r3 = 0 → Q (.inl (some (.inl (.int 1)))) m4))))))))))) : ch_J g m_m_isThere (ch_rm m_m_isThere) (ch_E g m_m_isThere Q) 0 [some (.inr (9, 0, 0)), some (.inl (.int p1))] [] m 0 := by
  refine ch_aload_n (i := 0) d_m_isThere_0 rfl rfl ?_
  refine ch_iload_n (i := 1) d_m_isThere_1 rfl rfl ?_
  refine ch_callV (as := [.inl (.int p1)]) d_m_isThere_2 lk_m_77 mi_m_isChild me_m_isChild rfl rfl rfl ⟨Nat.le_of_ble_eq_true rfl, Nat.le_of_ble_eq_true rfl⟩ (Nat.le_of_ble_eq_true rfl) ⟨Nat.le_of_ble_eq_true rfl, Nat.le_of_ble_eq_true rfl⟩ (ch_mono (ch_Ki (fun r1 m2 h => ?_)) h)
  refine ch_if_ne (tgt := 22) d_m_isThere_5 (by decide) (fun c => ?_) (fun c => ?_)
  · replace h := h.1 c
    refine ch_iconst (v := 1) d_m_isThere_22 (by decide) ?_
    refine ch_goto (tgt := 27) d_m_isThere_23 (by decide) ?_
    exact ch_iret (ty := .boolean) d_m_isThere_27 rfl rfl (Nat.le_of_ble_eq_true rfl) h
  · replace h := h.2 c
    refine ch_aload_n (i := 0) d_m_isThere_8 rfl rfl ?_
    refine ch_iconst (v := 3) d_m_isThere_9 (by decide) ?_
    refine ch_aload_n (i := 0) d_m_isThere_10 rfl rfl ?_
    refine ch_get (v := .inr (9, 0, 1)) d_m_isThere_11 fl_m_9 rfl ?_
    refine ch_iconst (v := 0) d_m_isThere_14 (by decide) ?_
    refine ch_iald (n := 63) d_m_isThere_15 (by decide) rfl (vp_in_nI (n := 0) (by decide) (by decide)) ?_
    refine ch_callV (as := [.inl (.int 3), .inl (.int (m2 (9, 0, 1) (0)))]) d_m_isThere_16 lk_m_81 mi_m_refuses me_m_refuses rfl rfl rfl ⟨Nat.le_of_ble_eq_true rfl, Nat.le_of_ble_eq_true rfl⟩ (Nat.le_of_ble_eq_true rfl) ⟨Nat.le_of_ble_eq_true rfl, Nat.le_of_ble_eq_true rfl⟩ (ch_mono (ch_Ki (fun r3 m4 h => ?_)) h)
    refine ch_if_eq (tgt := 26) d_m_isThere_19 (by decide) (fun c => ?_) (fun c => ?_)
    · replace h := h.1 c
      refine ch_iconst (v := 0) d_m_isThere_26 (by decide) ?_
      exact ch_iret (ty := .boolean) d_m_isThere_27 rfl rfl (Nat.le_of_ble_eq_true rfl) h
    · replace h := h.2 c
      refine ch_iconst (v := 1) d_m_isThere_22 (by decide) ?_
      refine ch_goto (tgt := 27) d_m_isThere_23 (by decide) ?_
      exact ch_iret (ty := .boolean) d_m_isThere_27 rfl rfl (Nat.le_of_ble_eq_true rfl) h
theorem e_m_of (g : ch_G) (Q : ch_O → ch_M → Prop) (p1 : Int32) (p2 : Int32) (m : ch_M) (h : ch_J g m_m_of (ch_rm m_m_of) (ch_E g m_m_of Q) 0 [some (.inr (9, 0, 0)), some (.inl (.int p1)), some (.inl (.int p2))] [] m 0) : ch_C g m_m_of [.inr (9, 0, 0), .inl (.int p1), .inl (.int p2)] m Q :=
  ch_enter mf_m_of (by intro v hv; simp only [List.mem_cons, List.not_mem_nil, or_false] at hv; rcases hv with rfl | rfl | rfl <;> rfl) (Nat.le_of_ble_eq_true rfl) h
set_option maxHeartbeats 1600000 in
theorem g_m_of_0 (g : ch_G) (Q : ch_O → ch_M → Prop) (p1 : Int32) (p2 : Int32) (m : ch_M) (h : (vp_in ((38 + (5 * p1)) + p2) 63) ∧ Q (.inl (some (.inl (.int (m (9, 0, 1) (Int32.toNatClampNeg ((38 + (5 * p1)) + p2))))))) m) : ch_J g m_m_of (ch_rm m_m_of) (ch_E g m_m_of Q) 0 [some (.inr (9, 0, 0)), some (.inl (.int p1)), some (.inl (.int p2))] [] m 0 := by
  refine ch_aload_n (i := 0) d_m_of_0 rfl rfl ?_
  refine ch_get (v := .inr (9, 0, 1)) d_m_of_1 fl_m_9 rfl ?_
  refine ch_bipush (v := 38) d_m_of_4 (by decide) ?_
  refine ch_iconst (v := 5) d_m_of_6 (by decide) ?_
  refine ch_iload_n (i := 1) d_m_of_7 rfl rfl ?_
  refine ch_imul d_m_of_8 ?_
  refine ch_iadd d_m_of_9 ?_
  refine ch_iload_n (i := 2) d_m_of_10 rfl rfl ?_
  refine ch_iadd d_m_of_11 ?_
  have b1 := h.1
  replace h := h.2
  refine ch_iald (n := 63) d_m_of_12 (by decide) rfl b1 ?_
  exact ch_iret (ty := .int) d_m_of_13 rfl rfl (Nat.le_of_ble_eq_true rfl) h
theorem e_m_sets (g : ch_G) (Q : ch_O → ch_M → Prop) (p1 : Int32) (p2 : Int32) (p3 : Int32) (m : ch_M) (h : ch_J g m_m_sets (ch_rm m_m_sets) (ch_E g m_m_sets Q) 0 [some (.inr (9, 0, 0)), some (.inl (.int p1)), some (.inl (.int p2)), some (.inl (.int p3))] [] m 0) : ch_C g m_m_sets [.inr (9, 0, 0), .inl (.int p1), .inl (.int p2), .inl (.int p3)] m Q :=
  ch_enter mf_m_sets (by intro v hv; simp only [List.mem_cons, List.not_mem_nil, or_false] at hv; rcases hv with rfl | rfl | rfl | rfl <;> rfl) (Nat.le_of_ble_eq_true rfl) h
set_option maxHeartbeats 1600000 in
theorem g_m_sets_0 (g : ch_G) (Q : ch_O → ch_M → Prop) (p1 : Int32) (p2 : Int32) (p3 : Int32) (m : ch_M) (h : (vp_in ((38 + (5 * p1)) + p2) 63) ∧ (∀ m2 : ch_M, m2 = ch_wr m (9, 0, 1) (Int32.toNatClampNeg ((38 + (5 * p1)) + p2)) p3 → Q (.inl none) m2)) : ch_J g m_m_sets (ch_rm m_m_sets) (ch_E g m_m_sets Q) 0 [some (.inr (9, 0, 0)), some (.inl (.int p1)), some (.inl (.int p2)), some (.inl (.int p3))] [] m 0 := by
  refine ch_aload_n (i := 0) d_m_sets_0 rfl rfl ?_
  refine ch_get (v := .inr (9, 0, 1)) d_m_sets_1 fl_m_9 rfl ?_
  refine ch_bipush (v := 38) d_m_sets_4 (by decide) ?_
  refine ch_iconst (v := 5) d_m_sets_6 (by decide) ?_
  refine ch_iload_n (i := 1) d_m_sets_7 rfl rfl ?_
  refine ch_imul d_m_sets_8 ?_
  refine ch_iadd d_m_sets_9 ?_
  refine ch_iload_n (i := 2) d_m_sets_10 rfl rfl ?_
  refine ch_iadd d_m_sets_11 ?_
  refine ch_iload_n (i := 3) d_m_sets_12 rfl rfl ?_
  have b1 := h.1
  replace h := h.2
  refine ch_iast (n := 63) d_m_sets_13 (by decide) rfl b1 ?_
  show ch_J g _ _ _ _ _ _ (ch_wr m (9, 0, 1) (Int32.toNatClampNeg ((38 + (5 * p1)) + p2)) p3) _
  generalize hmm2 : ch_wr m (9, 0, 1) (Int32.toNatClampNeg ((38 + (5 * p1)) + p2)) p3 = m2
  replace h := h m2 hmm2.symm
  exact ch_vret d_m_sets_14 rfl (Nat.le_of_ble_eq_true rfl) h
theorem e_m_owner (g : ch_G) (Q : ch_O → ch_M → Prop) (p1 : Int32) (m : ch_M) (h : ch_J g m_m_owner (ch_rm m_m_owner) (ch_E g m_m_owner Q) 0 [some (.inr (9, 0, 0)), some (.inl (.int p1))] [] m 0) : ch_C g m_m_owner [.inr (9, 0, 0), .inl (.int p1)] m Q :=
  ch_enter mf_m_owner (by intro v hv; simp only [List.mem_cons, List.not_mem_nil, or_false] at hv; rcases hv with rfl | rfl <;> rfl) (Nat.le_of_ble_eq_true rfl) h
set_option maxHeartbeats 1600000 in
theorem g_m_owner_0 (g : ch_G) (Q : ch_O → ch_M → Prop) (p1 : Int32) (m : ch_M) (h : (vp_in (14 + (2 * p1)) 63) ∧ Q (.inl (some (.inl (.int ((m (9, 0, 1) (Int32.toNatClampNeg (14 + (2 * p1)))) - 1))))) m) : ch_J g m_m_owner (ch_rm m_m_owner) (ch_E g m_m_owner Q) 0 [some (.inr (9, 0, 0)), some (.inl (.int p1))] [] m 0 := by
  refine ch_aload_n (i := 0) d_m_owner_0 rfl rfl ?_
  refine ch_get (v := .inr (9, 0, 1)) d_m_owner_1 fl_m_9 rfl ?_
  refine ch_bipush (v := 14) d_m_owner_4 (by decide) ?_
  refine ch_iconst (v := 2) d_m_owner_6 (by decide) ?_
  refine ch_iload_n (i := 1) d_m_owner_7 rfl rfl ?_
  refine ch_imul d_m_owner_8 ?_
  refine ch_iadd d_m_owner_9 ?_
  have b1 := h.1
  replace h := h.2
  refine ch_iald (n := 63) d_m_owner_10 (by decide) rfl b1 ?_
  refine ch_iconst (v := 1) d_m_owner_11 (by decide) ?_
  refine ch_isub d_m_owner_12 ?_
  exact ch_iret (ty := .int) d_m_owner_13 rfl rfl (Nat.le_of_ble_eq_true rfl) h
theorem e_m_chalkOf (g : ch_G) (Q : ch_O → ch_M → Prop) (p1 : Int32) (m : ch_M) (h : ch_J g m_m_chalkOf (ch_rm m_m_chalkOf) (ch_E g m_m_chalkOf Q) 0 [some (.inr (9, 0, 0)), some (.inl (.int p1))] [] m 0) : ch_C g m_m_chalkOf [.inr (9, 0, 0), .inl (.int p1)] m Q :=
  ch_enter mf_m_chalkOf (by intro v hv; simp only [List.mem_cons, List.not_mem_nil, or_false] at hv; rcases hv with rfl | rfl <;> rfl) (Nat.le_of_ble_eq_true rfl) h
set_option maxHeartbeats 1600000 in
theorem g_m_chalkOf_0 (g : ch_G) (Q : ch_O → ch_M → Prop) (p1 : Int32) (m : ch_M) (h : (vp_in ((14 + (2 * p1)) + 1) 63) ∧ Q (.inl (some (.inl (.int (m (9, 0, 1) (Int32.toNatClampNeg ((14 + (2 * p1)) + 1))))))) m) : ch_J g m_m_chalkOf (ch_rm m_m_chalkOf) (ch_E g m_m_chalkOf Q) 0 [some (.inr (9, 0, 0)), some (.inl (.int p1))] [] m 0 := by
  refine ch_aload_n (i := 0) d_m_chalkOf_0 rfl rfl ?_
  refine ch_get (v := .inr (9, 0, 1)) d_m_chalkOf_1 fl_m_9 rfl ?_
  refine ch_bipush (v := 14) d_m_chalkOf_4 (by decide) ?_
  refine ch_iconst (v := 2) d_m_chalkOf_6 (by decide) ?_
  refine ch_iload_n (i := 1) d_m_chalkOf_7 rfl rfl ?_
  refine ch_imul d_m_chalkOf_8 ?_
  refine ch_iadd d_m_chalkOf_9 ?_
  refine ch_iconst (v := 1) d_m_chalkOf_10 (by decide) ?_
  refine ch_iadd d_m_chalkOf_11 ?_
  have b1 := h.1
  replace h := h.2
  refine ch_iald (n := 63) d_m_chalkOf_12 (by decide) rfl b1 ?_
  exact ch_iret (ty := .int) d_m_chalkOf_13 rfl rfl (Nat.le_of_ble_eq_true rfl) h
theorem e_m_frees (g : ch_G) (Q : ch_O → ch_M → Prop) (p1 : Int32) (m : ch_M) (h : ch_J g m_m_frees (ch_rm m_m_frees) (ch_E g m_m_frees Q) 0 [some (.inr (9, 0, 0)), some (.inl (.int p1))] [] m 0) : ch_C g m_m_frees [.inr (9, 0, 0), .inl (.int p1)] m Q :=
  ch_enter mf_m_frees (by intro v hv; simp only [List.mem_cons, List.not_mem_nil, or_false] at hv; rcases hv with rfl | rfl <;> rfl) (Nat.le_of_ble_eq_true rfl) h
set_option maxHeartbeats 1600000 in
theorem g_m_frees_0 (g : ch_G) (Q : ch_O → ch_M → Prop) (p1 : Int32) (m : ch_M) (h : (vp_in (14 + (2 * p1)) 63) ∧ (∀ m2 : ch_M, m2 = ch_wr m (9, 0, 1) (Int32.toNatClampNeg (14 + (2 * p1))) 0 → (vp_in ((14 + (2 * p1)) + 1) 63) ∧ (∀ m4 : ch_M, m4 = ch_wr m2 (9, 0, 1) (Int32.toNatClampNeg ((14 + (2 * p1)) + 1)) 0 → Q (.inl none) m4))) : ch_J g m_m_frees (ch_rm m_m_frees) (ch_E g m_m_frees Q) 0 [some (.inr (9, 0, 0)), some (.inl (.int p1))] [] m 0 := by
  refine ch_aload_n (i := 0) d_m_frees_0 rfl rfl ?_
  refine ch_get (v := .inr (9, 0, 1)) d_m_frees_1 fl_m_9 rfl ?_
  refine ch_bipush (v := 14) d_m_frees_4 (by decide) ?_
  refine ch_iconst (v := 2) d_m_frees_6 (by decide) ?_
  refine ch_iload_n (i := 1) d_m_frees_7 rfl rfl ?_
  refine ch_imul d_m_frees_8 ?_
  refine ch_iadd d_m_frees_9 ?_
  refine ch_iconst (v := 0) d_m_frees_10 (by decide) ?_
  have b1 := h.1
  replace h := h.2
  refine ch_iast (n := 63) d_m_frees_11 (by decide) rfl b1 ?_
  show ch_J g _ _ _ _ _ _ (ch_wr m (9, 0, 1) (Int32.toNatClampNeg (14 + (2 * p1))) 0) _
  generalize hmm2 : ch_wr m (9, 0, 1) (Int32.toNatClampNeg (14 + (2 * p1))) 0 = m2
  replace h := h m2 hmm2.symm
  refine ch_aload_n (i := 0) d_m_frees_12 rfl rfl ?_
  refine ch_get (v := .inr (9, 0, 1)) d_m_frees_13 fl_m_9 rfl ?_
  refine ch_bipush (v := 14) d_m_frees_16 (by decide) ?_
  refine ch_iconst (v := 2) d_m_frees_18 (by decide) ?_
  refine ch_iload_n (i := 1) d_m_frees_19 rfl rfl ?_
  refine ch_imul d_m_frees_20 ?_
  refine ch_iadd d_m_frees_21 ?_
  refine ch_iconst (v := 1) d_m_frees_22 (by decide) ?_
  refine ch_iadd d_m_frees_23 ?_
  refine ch_iconst (v := 0) d_m_frees_24 (by decide) ?_
  have b3 := h.1
  replace h := h.2
  refine ch_iast (n := 63) d_m_frees_25 (by decide) rfl b3 ?_
  show ch_J g _ _ _ _ _ _ (ch_wr m2 (9, 0, 1) (Int32.toNatClampNeg ((14 + (2 * p1)) + 1)) 0) _
  generalize hmm4 : ch_wr m2 (9, 0, 1) (Int32.toNatClampNeg ((14 + (2 * p1)) + 1)) 0 = m4
  replace h := h m4 hmm4.symm
  exact ch_vret d_m_frees_26 rfl (Nat.le_of_ble_eq_true rfl) h
theorem e_m_pays (g : ch_G) (Q : ch_O → ch_M → Prop) (p1 : Int32) (p2 : Int32) (m : ch_M) (h : ch_J g m_m_pays (ch_rm m_m_pays) (ch_E g m_m_pays Q) 0 [some (.inr (9, 0, 0)), some (.inl (.int p1)), some (.inl (.int p2))] [] m 0) : ch_C g m_m_pays [.inr (9, 0, 0), .inl (.int p1), .inl (.int p2)] m Q :=
  ch_enter mf_m_pays (by intro v hv; simp only [List.mem_cons, List.not_mem_nil, or_false] at hv; rcases hv with rfl | rfl | rfl <;> rfl) (Nat.le_of_ble_eq_true rfl) h
set_option maxHeartbeats 1600000 in
theorem g_m_pays_0 (g : ch_G) (Q : ch_O → ch_M → Prop) (p1 : Int32) (p2 : Int32) (m : ch_M) (h : (ch_C g m_m_of [.inr (9, 0, 0), .inl (.int p1), .inl (.int 0)] m (ch_oi (fun (r1 : Int32) (m2 : ch_M) => ((p2 ≤ r1 → (ch_C g m_m_of [.inr (9, 0, 0), .inl (.int p1), .inl (.int 0)] m2 (ch_oi (fun (r3 : Int32) (m4 : ch_M) => (ch_C g m_m_sets [.inr (9, 0, 0), .inl (.int p1), .inl (.int 0), .inl (.int (r3 - p2))] m4 (ch_ov (fun (m6 : ch_M) => (∀ m7 : ch_M, m7 = ch_wr m6 (9, 0, 1) (1) ((m6 (9, 0, 1) (1)) + p2) → Q (.inl (some (.inl (.int 1)))) m7)))))))) ∧ (¬ p2 ≤ r1 → (ch_C g m_m_of [.inr (9, 0, 0), .inl (.int p1), .inl (.int 0)] m2 (ch_oi (fun (r8 : Int32) (m9 : ch_M) => (ch_C g m_m_refuses [.inr (9, 0, 0), .inl (.int 5), .inl (.int (p2 - r8))] m9 (ch_oi (fun (r10 : Int32) (m11 : ch_M) => (narrow .boolean (.int r10) = .int r10) ∧ Q (.inl (some (.inl (.int r10)))) m11)))))))))))) : ch_J g m_m_pays (ch_rm m_m_pays) (ch_E g m_m_pays Q) 0 [some (.inr (9, 0, 0)), some (.inl (.int p1)), some (.inl (.int p2))] [] m 0 := by
  refine ch_aload_n (i := 0) d_m_pays_0 rfl rfl ?_
  refine ch_iload_n (i := 1) d_m_pays_1 rfl rfl ?_
  refine ch_iconst (v := 0) d_m_pays_2 (by decide) ?_
  refine ch_callV (as := [.inl (.int p1), .inl (.int 0)]) d_m_pays_3 lk_m_85 mi_m_of me_m_of rfl rfl rfl ⟨Nat.le_of_ble_eq_true rfl, Nat.le_of_ble_eq_true rfl⟩ (Nat.le_of_ble_eq_true rfl) ⟨Nat.le_of_ble_eq_true rfl, Nat.le_of_ble_eq_true rfl⟩ (ch_mono (ch_Ki (fun r1 m2 h => ?_)) h)
  refine ch_iload_n (i := 2) d_m_pays_6 rfl rfl ?_
  refine ch_icmp_ge (tgt := 24) d_m_pays_7 (by decide) (fun c => ?_) (fun c => ?_)
  · replace h := h.1 c
    refine ch_aload_n (i := 0) d_m_pays_24 rfl rfl ?_
    refine ch_iload_n (i := 1) d_m_pays_25 rfl rfl ?_
    refine ch_iconst (v := 0) d_m_pays_26 (by decide) ?_
    refine ch_aload_n (i := 0) d_m_pays_27 rfl rfl ?_
    refine ch_iload_n (i := 1) d_m_pays_28 rfl rfl ?_
    refine ch_iconst (v := 0) d_m_pays_29 (by decide) ?_
    refine ch_callV (as := [.inl (.int p1), .inl (.int 0)]) d_m_pays_30 lk_m_85 mi_m_of me_m_of rfl rfl rfl ⟨Nat.le_of_ble_eq_true rfl, Nat.le_of_ble_eq_true rfl⟩ (Nat.le_of_ble_eq_true rfl) ⟨Nat.le_of_ble_eq_true rfl, Nat.le_of_ble_eq_true rfl⟩ (ch_mono (ch_Ki (fun r3 m4 h => ?_)) h)
    refine ch_iload_n (i := 2) d_m_pays_33 rfl rfl ?_
    refine ch_isub d_m_pays_34 ?_
    refine ch_callV (as := [.inl (.int p1), .inl (.int 0), .inl (.int (r3 - p2))]) d_m_pays_35 lk_m_89 mi_m_sets me_m_sets rfl rfl rfl ⟨Nat.le_of_ble_eq_true rfl, Nat.le_of_ble_eq_true rfl⟩ (Nat.le_of_ble_eq_true rfl) ⟨Nat.le_of_ble_eq_true rfl, Nat.le_of_ble_eq_true rfl⟩ (ch_mono (ch_Kv (fun m6 h => ?_)) h)
    refine ch_aload_n (i := 0) d_m_pays_38 rfl rfl ?_
    refine ch_get (v := .inr (9, 0, 1)) d_m_pays_39 fl_m_9 rfl ?_
    refine ch_iconst (v := 1) d_m_pays_42 (by decide) ?_
    refine ch_dup2 d_m_pays_43 rfl rfl ?_
    refine ch_iald (n := 63) d_m_pays_44 (by decide) rfl (vp_in_nI (n := 1) (by decide) (by decide)) ?_
    refine ch_iload_n (i := 2) d_m_pays_45 rfl rfl ?_
    refine ch_iadd d_m_pays_46 ?_
    refine ch_iast (n := 63) d_m_pays_47 (by decide) rfl (vp_in_nI (n := 1) (by decide) (by decide)) ?_
    show ch_J g _ _ _ _ _ _ (ch_wr m6 (9, 0, 1) (1) ((m6 (9, 0, 1) (1)) + p2)) _
    generalize hmm7 : ch_wr m6 (9, 0, 1) (1) ((m6 (9, 0, 1) (1)) + p2) = m7
    replace h := h m7 hmm7.symm
    refine ch_iconst (v := 1) d_m_pays_48 (by decide) ?_
    exact ch_iret (ty := .boolean) d_m_pays_49 rfl rfl (Nat.le_of_ble_eq_true rfl) h
  · replace h := h.2 c
    refine ch_aload_n (i := 0) d_m_pays_10 rfl rfl ?_
    refine ch_iconst (v := 5) d_m_pays_11 (by decide) ?_
    refine ch_iload_n (i := 2) d_m_pays_12 rfl rfl ?_
    refine ch_aload_n (i := 0) d_m_pays_13 rfl rfl ?_
    refine ch_iload_n (i := 1) d_m_pays_14 rfl rfl ?_
    refine ch_iconst (v := 0) d_m_pays_15 (by decide) ?_
    refine ch_callV (as := [.inl (.int p1), .inl (.int 0)]) d_m_pays_16 lk_m_85 mi_m_of me_m_of rfl rfl rfl ⟨Nat.le_of_ble_eq_true rfl, Nat.le_of_ble_eq_true rfl⟩ (Nat.le_of_ble_eq_true rfl) ⟨Nat.le_of_ble_eq_true rfl, Nat.le_of_ble_eq_true rfl⟩ (ch_mono (ch_Ki (fun r8 m9 h => ?_)) h)
    refine ch_isub d_m_pays_19 ?_
    refine ch_callV (as := [.inl (.int 5), .inl (.int (p2 - r8))]) d_m_pays_20 lk_m_81 mi_m_refuses me_m_refuses rfl rfl rfl ⟨Nat.le_of_ble_eq_true rfl, Nat.le_of_ble_eq_true rfl⟩ (Nat.le_of_ble_eq_true rfl) ⟨Nat.le_of_ble_eq_true rfl, Nat.le_of_ble_eq_true rfl⟩ (ch_mono (ch_Ki (fun r10 m11 h => ?_)) h)
    exact ch_iret (ty := .boolean) d_m_pays_23 rfl h.1 (Nat.le_of_ble_eq_true rfl) h.2
theorem e_m_comes (g : ch_G) (Q : ch_O → ch_M → Prop) (p1 : Int32) (m : ch_M) (h : ch_J g m_m_comes (ch_rm m_m_comes) (ch_E g m_m_comes Q) 0 [some (.inr (9, 0, 0)), some (.inl (.int p1)), none, none] [] m 0) : ch_C g m_m_comes [.inr (9, 0, 0), .inl (.int p1)] m Q :=
  ch_enter mf_m_comes (by intro v hv; simp only [List.mem_cons, List.not_mem_nil, or_false] at hv; rcases hv with rfl | rfl <;> rfl) (Nat.le_of_ble_eq_true rfl) h
set_option maxHeartbeats 1600000 in
theorem g_m_comes_0 (g : ch_G) (Q : ch_O → ch_M → Prop) (p1 : Int32) (m : ch_M) (h : (ch_C g m_m_in [.inl (.int p1), .inl (.int 0), .inl (.int 99)] m (ch_oi (fun (r1 : Int32) (m2 : ch_M) => ((¬ r1 = 0 → ((¬ (m2 (9, 0, 1) (0)) = 5 → (∀ m3 : ch_M, m3 = ch_wr m2 (9, 0, 1) (0) ((m2 (9, 0, 1) (0)) + 1) → ch_J g m_m_comes (ch_rm m_m_comes) (ch_E g m_m_comes Q) 48 [some (.inr (9, 0, 0)), some (.inl (.int p1)), some (.inl (.int (m2 (9, 0, 1) (0)))), some (.inl (.int 0))] [] m3 0)) ∧ ((m2 (9, 0, 1) (0)) = 5 → (ch_C g m_m_refuses [.inr (9, 0, 0), .inl (.int 2), .inl (.int 5)] m2 (ch_oi (fun (r4 : Int32) (m5 : ch_M) => (narrow .boolean (.int r4) = .int r4) ∧ Q (.inl (some (.inl (.int r4)))) m5)))))) ∧ (r1 = 0 → (ch_C g m_m_refuses [.inr (9, 0, 0), .inl (.int 1), .inl (.int 0)] m2 (ch_oi (fun (r6 : Int32) (m7 : ch_M) => (narrow .boolean (.int r6) = .int r6) ∧ Q (.inl (some (.inl (.int r6)))) m7))))))))) : ch_J g m_m_comes (ch_rm m_m_comes) (ch_E g m_m_comes Q) 0 [some (.inr (9, 0, 0)), some (.inl (.int p1)), none, none] [] m 0 := by
  refine ch_iload_n (i := 1) d_m_comes_0 rfl rfl ?_
  refine ch_iconst (v := 0) d_m_comes_1 (by decide) ?_
  refine ch_bipush (v := 99) d_m_comes_2 (by decide) ?_
  refine ch_callS (as := [.inl (.int p1), .inl (.int 0), .inl (.int 99)]) d_m_comes_4 lk_m_73 ms_m_in rfl rfl ⟨Nat.le_of_ble_eq_true rfl, Nat.le_of_ble_eq_true rfl⟩ (Nat.le_of_ble_eq_true rfl) ⟨Nat.le_of_ble_eq_true rfl, Nat.le_of_ble_eq_true rfl⟩ (ch_mono (ch_Ki (fun r1 m2 h => ?_)) h)
  refine ch_if_ne (tgt := 17) d_m_comes_7 (by decide) (fun c => ?_) (fun c => ?_)
  · replace h := h.1 c
    refine ch_aload_n (i := 0) d_m_comes_17 rfl rfl ?_
    refine ch_get (v := .inr (9, 0, 1)) d_m_comes_18 fl_m_9 rfl ?_
    refine ch_iconst (v := 0) d_m_comes_21 (by decide) ?_
    refine ch_iald (n := 63) d_m_comes_22 (by decide) rfl (vp_in_nI (n := 0) (by decide) (by decide)) ?_
    refine ch_iconst (v := 5) d_m_comes_23 (by decide) ?_
    refine ch_icmp_ne (tgt := 34) d_m_comes_24 (by decide) (fun c => ?_) (fun c => ?_)
    · replace h := h.1 c
      refine ch_aload_n (i := 0) d_m_comes_34 rfl rfl ?_
      refine ch_get (v := .inr (9, 0, 1)) d_m_comes_35 fl_m_9 rfl ?_
      refine ch_iconst (v := 0) d_m_comes_38 (by decide) ?_
      refine ch_dup2 d_m_comes_39 rfl rfl ?_
      refine ch_iald (n := 63) d_m_comes_40 (by decide) rfl (vp_in_nI (n := 0) (by decide) (by decide)) ?_
      refine ch_dup_x2 d_m_comes_41 rfl rfl rfl ?_
      refine ch_iconst (v := 1) d_m_comes_42 (by decide) ?_
      refine ch_iadd d_m_comes_43 ?_
      refine ch_iast (n := 63) d_m_comes_44 (by decide) rfl (vp_in_nI (n := 0) (by decide) (by decide)) ?_
      show ch_J g _ _ _ _ _ _ (ch_wr m2 (9, 0, 1) (0) ((m2 (9, 0, 1) (0)) + 1)) _
      generalize hmm3 : ch_wr m2 (9, 0, 1) (0) ((m2 (9, 0, 1) (0)) + 1) = m3
      replace h := h m3 hmm3.symm
      refine ch_istore_n (i := 2) d_m_comes_45 rfl (Nat.le_of_ble_eq_true rfl) (ls' := [some (.inr (9, 0, 0)), some (.inl (.int p1)), some (.inl (.int (m2 (9, 0, 1) (0)))), none]) rfl ?_
      refine ch_iconst (v := 0) d_m_comes_46 (by decide) ?_
      refine ch_istore_n (i := 3) d_m_comes_47 rfl (Nat.le_of_ble_eq_true rfl) (ls' := [some (.inr (9, 0, 0)), some (.inl (.int p1)), some (.inl (.int (m2 (9, 0, 1) (0)))), some (.inl (.int 0))]) rfl ?_
      exact h
    · replace h := h.2 c
      refine ch_aload_n (i := 0) d_m_comes_27 rfl rfl ?_
      refine ch_iconst (v := 2) d_m_comes_28 (by decide) ?_
      refine ch_iconst (v := 5) d_m_comes_29 (by decide) ?_
      refine ch_callV (as := [.inl (.int 2), .inl (.int 5)]) d_m_comes_30 lk_m_81 mi_m_refuses me_m_refuses rfl rfl rfl ⟨Nat.le_of_ble_eq_true rfl, Nat.le_of_ble_eq_true rfl⟩ (Nat.le_of_ble_eq_true rfl) ⟨Nat.le_of_ble_eq_true rfl, Nat.le_of_ble_eq_true rfl⟩ (ch_mono (ch_Ki (fun r4 m5 h => ?_)) h)
      exact ch_iret (ty := .boolean) d_m_comes_33 rfl h.1 (Nat.le_of_ble_eq_true rfl) h.2
  · replace h := h.2 c
    refine ch_aload_n (i := 0) d_m_comes_10 rfl rfl ?_
    refine ch_iconst (v := 1) d_m_comes_11 (by decide) ?_
    refine ch_iconst (v := 0) d_m_comes_12 (by decide) ?_
    refine ch_callV (as := [.inl (.int 1), .inl (.int 0)]) d_m_comes_13 lk_m_81 mi_m_refuses me_m_refuses rfl rfl rfl ⟨Nat.le_of_ble_eq_true rfl, Nat.le_of_ble_eq_true rfl⟩ (Nat.le_of_ble_eq_true rfl) ⟨Nat.le_of_ble_eq_true rfl, Nat.le_of_ble_eq_true rfl⟩ (ch_mono (ch_Ki (fun r6 m7 h => ?_)) h)
    exact ch_iret (ty := .boolean) d_m_comes_16 rfl h.1 (Nat.le_of_ble_eq_true rfl) h.2
set_option maxHeartbeats 1600000 in
theorem g_m_comes_48 (g : ch_G) (Q : ch_O → ch_M → Prop) (x1 : Int32) (x2 : Int32) (x3 : Int32) (m : ch_M) (h : ((5 ≤ x3 → (ch_C g m_m_sets [.inr (9, 0, 0), .inl (.int x2), .inl (.int 0), .inl (.int x1)] m (ch_ov (fun (m2 : ch_M) => (∀ m3 : ch_M, m3 = ch_wr m2 (9, 0, 1) (2) ((m2 (9, 0, 1) (2)) + x1) → (ch_C g m_m_does [.inr (9, 0, 0), .inl (.int x2)] m3 (ch_oi (fun (r4 : Int32) (m5 : ch_M) => (narrow .boolean (.int r4) = .int r4) ∧ Q (.inl (some (.inl (.int r4)))) m5)))))))) ∧ (¬ 5 ≤ x3 → (ch_C g m_m_sets [.inr (9, 0, 0), .inl (.int x2), .inl (.int x3), .inl (.int 0)] m (ch_ov (fun (m7 : ch_M) => ch_J g m_m_comes (ch_rm m_m_comes) (ch_E g m_m_comes Q) 48 [some (.inr (9, 0, 0)), some (.inl (.int x1)), some (.inl (.int x2)), some (.inl (.int (x3 + 1)))] [] m7 0)))))) : ch_J g m_m_comes (ch_rm m_m_comes) (ch_E g m_m_comes Q) 48 [some (.inr (9, 0, 0)), some (.inl (.int x1)), some (.inl (.int x2)), some (.inl (.int x3))] [] m 0 := by
  refine ch_iload_n (i := 3) d_m_comes_48 rfl rfl ?_
  refine ch_iconst (v := 5) d_m_comes_49 (by decide) ?_
  refine ch_icmp_ge (tgt := 66) d_m_comes_50 (by decide) (fun c => ?_) (fun c => ?_)
  · replace h := h.1 c
    refine ch_aload_n (i := 0) d_m_comes_66 rfl rfl ?_
    refine ch_iload_n (i := 2) d_m_comes_67 rfl rfl ?_
    refine ch_iconst (v := 0) d_m_comes_68 (by decide) ?_
    refine ch_iload_n (i := 1) d_m_comes_69 rfl rfl ?_
    refine ch_callV (as := [.inl (.int x2), .inl (.int 0), .inl (.int x1)]) d_m_comes_70 lk_m_89 mi_m_sets me_m_sets rfl rfl rfl ⟨Nat.le_of_ble_eq_true rfl, Nat.le_of_ble_eq_true rfl⟩ (Nat.le_of_ble_eq_true rfl) ⟨Nat.le_of_ble_eq_true rfl, Nat.le_of_ble_eq_true rfl⟩ (ch_mono (ch_Kv (fun m2 h => ?_)) h)
    refine ch_aload_n (i := 0) d_m_comes_73 rfl rfl ?_
    refine ch_get (v := .inr (9, 0, 1)) d_m_comes_74 fl_m_9 rfl ?_
    refine ch_iconst (v := 2) d_m_comes_77 (by decide) ?_
    refine ch_dup2 d_m_comes_78 rfl rfl ?_
    refine ch_iald (n := 63) d_m_comes_79 (by decide) rfl (vp_in_nI (n := 2) (by decide) (by decide)) ?_
    refine ch_iload_n (i := 1) d_m_comes_80 rfl rfl ?_
    refine ch_iadd d_m_comes_81 ?_
    refine ch_iast (n := 63) d_m_comes_82 (by decide) rfl (vp_in_nI (n := 2) (by decide) (by decide)) ?_
    show ch_J g _ _ _ _ _ _ (ch_wr m2 (9, 0, 1) (2) ((m2 (9, 0, 1) (2)) + x1)) _
    generalize hmm3 : ch_wr m2 (9, 0, 1) (2) ((m2 (9, 0, 1) (2)) + x1) = m3
    replace h := h m3 hmm3.symm
    refine ch_aload_n (i := 0) d_m_comes_83 rfl rfl ?_
    refine ch_iload_n (i := 2) d_m_comes_84 rfl rfl ?_
    refine ch_callV (as := [.inl (.int x2)]) d_m_comes_85 lk_m_93 mi_m_does me_m_does rfl rfl rfl ⟨Nat.le_of_ble_eq_true rfl, Nat.le_of_ble_eq_true rfl⟩ (Nat.le_of_ble_eq_true rfl) ⟨Nat.le_of_ble_eq_true rfl, Nat.le_of_ble_eq_true rfl⟩ (ch_mono (ch_Ki (fun r4 m5 h => ?_)) h)
    exact ch_iret (ty := .boolean) d_m_comes_88 rfl h.1 (Nat.le_of_ble_eq_true rfl) h.2
  · replace h := h.2 c
    refine ch_aload_n (i := 0) d_m_comes_53 rfl rfl ?_
    refine ch_iload_n (i := 2) d_m_comes_54 rfl rfl ?_
    refine ch_iload_n (i := 3) d_m_comes_55 rfl rfl ?_
    refine ch_iconst (v := 0) d_m_comes_56 (by decide) ?_
    refine ch_callV (as := [.inl (.int x2), .inl (.int x3), .inl (.int 0)]) d_m_comes_57 lk_m_89 mi_m_sets me_m_sets rfl rfl rfl ⟨Nat.le_of_ble_eq_true rfl, Nat.le_of_ble_eq_true rfl⟩ (Nat.le_of_ble_eq_true rfl) ⟨Nat.le_of_ble_eq_true rfl, Nat.le_of_ble_eq_true rfl⟩ (ch_mono (ch_Kv (fun m7 h => ?_)) h)
    refine ch_iinc (i := 3) (v := (x3 + 1)) d_m_comes_60 rfl rfl (Nat.le_of_ble_eq_true rfl) (ls' := [some (.inr (9, 0, 0)), some (.inl (.int x1)), some (.inl (.int x2)), some (.inl (.int (x3 + 1)))]) rfl ?_
    refine ch_goto (tgt := 48) d_m_comes_63 (by decide) ?_
    exact h
theorem e_m_child (g : ch_G) (Q : ch_O → ch_M → Prop) (p1 : Int32) (m : ch_M) (h : ch_J g m_m_child (ch_rm m_m_child) (ch_E g m_m_child Q) 0 [some (.inr (9, 0, 0)), some (.inl (.int p1))] [] m 0) : ch_C g m_m_child [.inr (9, 0, 0), .inl (.int p1)] m Q :=
  ch_enter mf_m_child (by intro v hv; simp only [List.mem_cons, List.not_mem_nil, or_false] at hv; rcases hv with rfl | rfl <;> rfl) (Nat.le_of_ble_eq_true rfl) h
set_option maxHeartbeats 1600000 in
theorem g_m_child_0 (g : ch_G) (Q : ch_O → ch_M → Prop) (p1 : Int32) (m : ch_M) (h : (ch_C g m_m_tries [.inr (9, 0, 0)] m (ch_ov (fun (m2 : ch_M) => (ch_C g m_m_comes [.inr (9, 0, 0), .inl (.int p1)] m2 (ch_oi (fun (r3 : Int32) (m4 : ch_M) => (ch_C g m_m_ends [.inr (9, 0, 0), .inl (.int r3)] m4 (ch_oi (fun (r5 : Int32) (m6 : ch_M) => Q (.inl (some (.inl (.int r5)))) m6)))))))))) : ch_J g m_m_child (ch_rm m_m_child) (ch_E g m_m_child Q) 0 [some (.inr (9, 0, 0)), some (.inl (.int p1))] [] m 0 := by
  refine ch_aload_n (i := 0) d_m_child_0 rfl rfl ?_
  refine ch_callV (as := []) d_m_child_1 lk_m_96 mi_m_tries me_m_tries rfl rfl rfl ⟨Nat.le_of_ble_eq_true rfl, Nat.le_of_ble_eq_true rfl⟩ (Nat.le_of_ble_eq_true rfl) ⟨Nat.le_of_ble_eq_true rfl, Nat.le_of_ble_eq_true rfl⟩ (ch_mono (ch_Kv (fun m2 h => ?_)) h)
  refine ch_aload_n (i := 0) d_m_child_4 rfl rfl ?_
  refine ch_aload_n (i := 0) d_m_child_5 rfl rfl ?_
  refine ch_iload_n (i := 1) d_m_child_6 rfl rfl ?_
  refine ch_callV (as := [.inl (.int p1)]) d_m_child_7 lk_m_99 mi_m_comes me_m_comes rfl rfl rfl ⟨Nat.le_of_ble_eq_true rfl, Nat.le_of_ble_eq_true rfl⟩ (Nat.le_of_ble_eq_true rfl) ⟨Nat.le_of_ble_eq_true rfl, Nat.le_of_ble_eq_true rfl⟩ (ch_mono (ch_Ki (fun r3 m4 h => ?_)) h)
  refine ch_callV (as := [.inl (.int r3)]) d_m_child_10 lk_m_102 mi_m_ends me_m_ends rfl rfl rfl ⟨Nat.le_of_ble_eq_true rfl, Nat.le_of_ble_eq_true rfl⟩ (Nat.le_of_ble_eq_true rfl) ⟨Nat.le_of_ble_eq_true rfl, Nat.le_of_ble_eq_true rfl⟩ (ch_mono (ch_Ki (fun r5 m6 h => ?_)) h)
  exact ch_iret (ty := .int) d_m_child_13 rfl rfl (Nat.le_of_ble_eq_true rfl) h
