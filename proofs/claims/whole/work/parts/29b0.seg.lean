theorem e_m_keeps (g : ch_G) (Q : ch_O → ch_M → Prop) (p1 : Int32) (m : ch_M) (h : ch_J g m_m_keeps (ch_rm m_m_keeps) (ch_E g m_m_keeps Q) 0 [some (.inr (9, 0, 0)), some (.inl (.int p1)), none] [] m 0) : ch_C g m_m_keeps [.inr (9, 0, 0), .inl (.int p1)] m Q :=
  ch_enter mf_m_keeps (by intro v hv; simp only [List.mem_cons, List.not_mem_nil, or_false] at hv; rcases hv with rfl | rfl <;> rfl) (Nat.le_of_ble_eq_true rfl) h
set_option maxHeartbeats 1600000 in
theorem g_m_keeps_0 (g : ch_G) (Q : ch_O → ch_M → Prop) (p1 : Int32) (m : ch_M) (h : ((¬ (m (9, 0, 0) 4) = 8 → ch_J g m_m_keeps (ch_rm m_m_keeps) (ch_E g m_m_keeps Q) 51 [some (.inr (9, 0, 0)), some (.inl (.int p1)), some (.inl (.int 0))] [] m 0) ∧ ((m (9, 0, 0) 4) = 8 → ch_J g m_m_keeps (ch_rm m_m_keeps) (ch_E g m_m_keeps Q) 11 [some (.inr (9, 0, 0)), some (.inl (.int p1)), some (.inl (.int 0))] [] m 0))) : ch_J g m_m_keeps (ch_rm m_m_keeps) (ch_E g m_m_keeps Q) 0 [some (.inr (9, 0, 0)), some (.inl (.int p1)), none] [] m 0 := by
  refine ch_aload_n (i := 0) d_m_keeps_0 rfl rfl ?_
  refine ch_get (v := .inl (.int (m (9, 0, 0) 4))) d_m_keeps_1 fl_m_51 rfl ?_
  refine ch_bipush (v := 8) d_m_keeps_4 (by decide) ?_
  refine ch_icmp_ne (tgt := 49) d_m_keeps_6 (by decide) (fun c => ?_) (fun c => ?_)
  · replace h := h.1 c
    refine ch_iconst (v := 0) d_m_keeps_49 (by decide) ?_
    refine ch_istore_n (i := 2) d_m_keeps_50 rfl (Nat.le_of_ble_eq_true rfl) (ls' := [some (.inr (9, 0, 0)), some (.inl (.int p1)), some (.inl (.int 0))]) rfl ?_
    exact h
  · replace h := h.2 c
    refine ch_iconst (v := 0) d_m_keeps_9 (by decide) ?_
    refine ch_istore_n (i := 2) d_m_keeps_10 rfl (Nat.le_of_ble_eq_true rfl) (ls' := [some (.inr (9, 0, 0)), some (.inl (.int p1)), some (.inl (.int 0))]) rfl ?_
    exact h
set_option maxHeartbeats 1600000 in
theorem g_m_keeps_11 (g : ch_G) (Q : ch_O → ch_M → Prop) (x1 : Int32) (x2 : Int32) (m : ch_M) (h : ((441 ≤ x2 → (∀ m1 : ch_M, m1 = ch_wr m (9, 0, 0) 4 ((m (9, 0, 0) 4) - 1) → ch_J g m_m_keeps (ch_rm m_m_keeps) (ch_E g m_m_keeps Q) 51 [some (.inr (9, 0, 0)), some (.inl (.int x1)), some (.inl (.int 0))] [] m1 0)) ∧ (¬ 441 ≤ x2 → (vp_in (63 + x2) 504) ∧ (vp_in x2 504) ∧ (∀ m4 : ch_M, m4 = ch_wr m (9, 0, 4) (Int32.toNatClampNeg x2) (m (9, 0, 4) (Int32.toNatClampNeg (63 + x2))) → ch_J g m_m_keeps (ch_rm m_m_keeps) (ch_E g m_m_keeps Q) 11 [some (.inr (9, 0, 0)), some (.inl (.int x1)), some (.inl (.int (x2 + 1)))] [] m4 0)))) : ch_J g m_m_keeps (ch_rm m_m_keeps) (ch_E g m_m_keeps Q) 11 [some (.inr (9, 0, 0)), some (.inl (.int x1)), some (.inl (.int x2))] [] m 0 := by
  refine ch_iload_n (i := 2) d_m_keeps_11 rfl rfl ?_
  refine ch_sipush (v := 441) d_m_keeps_12 (by decide) ?_
  refine ch_icmp_ge (tgt := 39) d_m_keeps_15 (by decide) (fun c => ?_) (fun c => ?_)
  · replace h := h.1 c
    refine ch_aload_n (i := 0) d_m_keeps_39 rfl rfl ?_
    refine ch_dup d_m_keeps_40 rfl ?_
    refine ch_get (v := .inl (.int (m (9, 0, 0) 4))) d_m_keeps_41 fl_m_51 rfl ?_
    refine ch_iconst (v := 1) d_m_keeps_44 (by decide) ?_
    refine ch_isub d_m_keeps_45 ?_
    refine ch_put d_m_keeps_46 fp_m_51 rfl rfl rfl ?_
    generalize hmm1 : ch_wr m (9, 0, 0) 4 ((m (9, 0, 0) 4) - 1) = m1
    replace h := h m1 hmm1.symm
    refine ch_iconst (v := 0) d_m_keeps_49 (by decide) ?_
    refine ch_istore_n (i := 2) d_m_keeps_50 rfl (Nat.le_of_ble_eq_true rfl) (ls' := [some (.inr (9, 0, 0)), some (.inl (.int x1)), some (.inl (.int 0))]) rfl ?_
    exact h
  · replace h := h.2 c
    refine ch_aload_n (i := 0) d_m_keeps_18 rfl rfl ?_
    refine ch_get (v := .inr (9, 0, 4)) d_m_keeps_19 fl_m_19 rfl ?_
    refine ch_iload_n (i := 2) d_m_keeps_22 rfl rfl ?_
    refine ch_aload_n (i := 0) d_m_keeps_23 rfl rfl ?_
    refine ch_get (v := .inr (9, 0, 4)) d_m_keeps_24 fl_m_19 rfl ?_
    refine ch_bipush (v := 63) d_m_keeps_27 (by decide) ?_
    refine ch_iload_n (i := 2) d_m_keeps_29 rfl rfl ?_
    refine ch_iadd d_m_keeps_30 ?_
    have b2 := h.1
    replace h := h.2
    refine ch_iald (n := 504) d_m_keeps_31 (by decide) rfl b2 ?_
    have b3 := h.1
    replace h := h.2
    refine ch_iast (n := 504) d_m_keeps_32 (by decide) rfl b3 ?_
    show ch_J g _ _ _ _ _ _ (ch_wr m (9, 0, 4) (Int32.toNatClampNeg x2) (m (9, 0, 4) (Int32.toNatClampNeg (63 + x2)))) _
    generalize hmm4 : ch_wr m (9, 0, 4) (Int32.toNatClampNeg x2) (m (9, 0, 4) (Int32.toNatClampNeg (63 + x2))) = m4
    replace h := h m4 hmm4.symm
    refine ch_iinc (i := 2) (v := (x2 + 1)) d_m_keeps_33 rfl rfl (Nat.le_of_ble_eq_true rfl) (ls' := [some (.inr (9, 0, 0)), some (.inl (.int x1)), some (.inl (.int (x2 + 1)))]) rfl ?_
    refine ch_goto (tgt := 11) d_m_keeps_36 (by decide) ?_
    exact h
set_option maxHeartbeats 1600000 in
theorem g_m_keeps_51 (g : ch_G) (Q : ch_O → ch_M → Prop) (x1 : Int32) (x2 : Int32) (m : ch_M) (h : ((63 ≤ x2 → (∀ m1 : ch_M, m1 = ch_wr m (9, 0, 0) 4 ((m (9, 0, 0) 4) + 1) → Q (.inl (some (.inl (.int x1)))) m1)) ∧ (¬ 63 ≤ x2 → (vp_in x2 63) ∧ (vp_in ((63 * (m (9, 0, 0) 4)) + x2) 504) ∧ (∀ m4 : ch_M, m4 = ch_wr m (9, 0, 4) (Int32.toNatClampNeg ((63 * (m (9, 0, 0) 4)) + x2)) (m (9, 0, 2) (Int32.toNatClampNeg x2)) → ch_J g m_m_keeps (ch_rm m_m_keeps) (ch_E g m_m_keeps Q) 51 [some (.inr (9, 0, 0)), some (.inl (.int x1)), some (.inl (.int (x2 + 1)))] [] m4 0)))) : ch_J g m_m_keeps (ch_rm m_m_keeps) (ch_E g m_m_keeps Q) 51 [some (.inr (9, 0, 0)), some (.inl (.int x1)), some (.inl (.int x2))] [] m 0 := by
  refine ch_iload_n (i := 2) d_m_keeps_51 rfl rfl ?_
  refine ch_bipush (v := 63) d_m_keeps_52 (by decide) ?_
  refine ch_icmp_ge (tgt := 83) d_m_keeps_54 (by decide) (fun c => ?_) (fun c => ?_)
  · replace h := h.1 c
    refine ch_aload_n (i := 0) d_m_keeps_83 rfl rfl ?_
    refine ch_dup d_m_keeps_84 rfl ?_
    refine ch_get (v := .inl (.int (m (9, 0, 0) 4))) d_m_keeps_85 fl_m_51 rfl ?_
    refine ch_iconst (v := 1) d_m_keeps_88 (by decide) ?_
    refine ch_iadd d_m_keeps_89 ?_
    refine ch_put d_m_keeps_90 fp_m_51 rfl rfl rfl ?_
    generalize hmm1 : ch_wr m (9, 0, 0) 4 ((m (9, 0, 0) 4) + 1) = m1
    replace h := h m1 hmm1.symm
    refine ch_iload_n (i := 1) d_m_keeps_93 rfl rfl ?_
    exact ch_iret (ty := .int) d_m_keeps_94 rfl rfl (Nat.le_of_ble_eq_true rfl) h
  · replace h := h.2 c
    refine ch_aload_n (i := 0) d_m_keeps_57 rfl rfl ?_
    refine ch_get (v := .inr (9, 0, 4)) d_m_keeps_58 fl_m_19 rfl ?_
    refine ch_bipush (v := 63) d_m_keeps_61 (by decide) ?_
    refine ch_aload_n (i := 0) d_m_keeps_63 rfl rfl ?_
    refine ch_get (v := .inl (.int (m (9, 0, 0) 4))) d_m_keeps_64 fl_m_51 rfl ?_
    refine ch_imul d_m_keeps_67 ?_
    refine ch_iload_n (i := 2) d_m_keeps_68 rfl rfl ?_
    refine ch_iadd d_m_keeps_69 ?_
    refine ch_aload_n (i := 0) d_m_keeps_70 rfl rfl ?_
    refine ch_get (v := .inr (9, 0, 2)) d_m_keeps_71 fl_m_13 rfl ?_
    refine ch_iload_n (i := 2) d_m_keeps_74 rfl rfl ?_
    have b2 := h.1
    replace h := h.2
    refine ch_iald (n := 63) d_m_keeps_75 (by decide) rfl b2 ?_
    have b3 := h.1
    replace h := h.2
    refine ch_iast (n := 504) d_m_keeps_76 (by decide) rfl b3 ?_
    show ch_J g _ _ _ _ _ _ (ch_wr m (9, 0, 4) (Int32.toNatClampNeg ((63 * (m (9, 0, 0) 4)) + x2)) (m (9, 0, 2) (Int32.toNatClampNeg x2))) _
    generalize hmm4 : ch_wr m (9, 0, 4) (Int32.toNatClampNeg ((63 * (m (9, 0, 0) 4)) + x2)) (m (9, 0, 2) (Int32.toNatClampNeg x2)) = m4
    replace h := h m4 hmm4.symm
    refine ch_iinc (i := 2) (v := (x2 + 1)) d_m_keeps_77 rfl rfl (Nat.le_of_ble_eq_true rfl) (ls' := [some (.inr (9, 0, 0)), some (.inl (.int x1)), some (.inl (.int (x2 + 1)))]) rfl ?_
    refine ch_goto (tgt := 51) d_m_keeps_80 (by decide) ?_
    exact h
