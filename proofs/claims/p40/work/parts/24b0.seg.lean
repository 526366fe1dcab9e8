theorem e_s_readFrom (g : ch_G) (Q : ch_O → ch_M → Prop) (j : Nat) (p1 : Int32) (m : ch_M) (h : ch_J g m_s_readFrom (ch_rm m_s_readFrom) (ch_E g m_s_readFrom Q) 0 [some (.inr (5, j, 0)), some (.inl (.int p1)), none, none, none] [] m 0) : ch_C g m_s_readFrom [.inr (5, j, 0), .inl (.int p1)] m Q :=
  ch_enter mf_s_readFrom (by intro v hv; simp only [List.mem_cons, List.not_mem_nil, or_false] at hv; rcases hv with rfl | rfl <;> rfl) (Nat.le_of_ble_eq_true rfl) h
set_option maxHeartbeats 1600000 in
theorem g_s_readFrom_0 (g : ch_G) (Q : ch_O → ch_M → Prop) (j : Nat) (p1 : Int32) (m : ch_M) (h : ch_J g m_s_readFrom (ch_rm m_s_readFrom) (ch_E g m_s_readFrom Q) 9 [some (.inr (5, j, 0)), some (.inl (.int p1)), some (.inl (.int p1)), some (.inl (.int 9)), some (.inl (.int 8))] [] m 0) : ch_J g m_s_readFrom (ch_rm m_s_readFrom) (ch_E g m_s_readFrom Q) 0 [some (.inr (5, j, 0)), some (.inl (.int p1)), none, none, none] [] m 0 := by
  refine ch_iload_n (i := 1) d_s_readFrom_0 rfl rfl ?_
  refine ch_istore_n (i := 2) d_s_readFrom_1 rfl (Nat.le_of_ble_eq_true rfl) (ls' := [some (.inr (5, j, 0)), some (.inl (.int p1)), some (.inl (.int p1)), none, none]) rfl ?_
  refine ch_bipush (v := 9) d_s_readFrom_2 (by decide) ?_
  refine ch_istore_n (i := 3) d_s_readFrom_4 rfl (Nat.le_of_ble_eq_true rfl) (ls' := [some (.inr (5, j, 0)), some (.inl (.int p1)), some (.inl (.int p1)), some (.inl (.int 9)), none]) rfl ?_
  refine ch_bipush (v := 8) d_s_readFrom_5 (by decide) ?_
  refine ch_istore (i := 4) d_s_readFrom_7 (Nat.le_of_ble_eq_true rfl) (ls' := [some (.inr (5, j, 0)), some (.inl (.int p1)), some (.inl (.int p1)), some (.inl (.int 9)), some (.inl (.int 8))]) rfl ?_
  exact h
set_option maxHeartbeats 1600000 in
theorem g_s_readFrom_9 (g : ch_G) (Q : ch_O → ch_M → Prop) (j : Nat) (x1 : Int32) (x2 : Int32) (x3 : Int32) (x4 : Int32) (m : ch_M) (h : ((x4 < 0 → ch_J g m_s_readFrom (ch_rm m_s_readFrom) (ch_E g m_s_readFrom Q) 43 [some (.inr (5, j, 0)), some (.inl (.int x1)), some (.inl (.int x2)), some (.inl (.int x3)), some (.inl (.int x4))] [] m 0) ∧ (¬ x4 < 0 → ((x2 ≤ 0 → ch_J g m_s_readFrom (ch_rm m_s_readFrom) (ch_E g m_s_readFrom Q) 43 [some (.inr (5, j, 0)), some (.inl (.int x1)), some (.inl (.int x2)), some (.inl (.int x3)), some (.inl (.int x4))] [] m 0) ∧ (¬ x2 ≤ 0 → (vp_in x4 12) ∧ (∀ m2 : ch_M, m2 = ch_wr m (5, j, 1) (Int32.toNatClampNeg x4) (x2 - x2 / 10 * 10) → ch_J g m_s_readFrom (ch_rm m_s_readFrom) (ch_E g m_s_readFrom Q) 9 [some (.inr (5, j, 0)), some (.inl (.int x1)), some (.inl (.int (x2 / 10))), some (.inl (.int x4)), some (.inl (.int (x4 + (-1))))] [] m2 0)))))) : ch_J g m_s_readFrom (ch_rm m_s_readFrom) (ch_E g m_s_readFrom Q) 9 [some (.inr (5, j, 0)), some (.inl (.int x1)), some (.inl (.int x2)), some (.inl (.int x3)), some (.inl (.int x4))] [] m 0 := by
  refine ch_iload d_s_readFrom_9 rfl ?_
  refine ch_if_lt (tgt := 43) d_s_readFrom_11 (by decide) (fun c => ?_) (fun c => ?_)
  · replace h := h.1 c
    exact h
  · replace h := h.2 c
    refine ch_iload_n (i := 2) d_s_readFrom_14 rfl rfl ?_
    refine ch_if_le (tgt := 43) d_s_readFrom_15 (by decide) (fun c => ?_) (fun c => ?_)
    · replace h := h.1 c
      exact h
    · replace h := h.2 c
      refine ch_aload_n (i := 0) d_s_readFrom_18 rfl rfl ?_
      refine ch_get (v := .inr (5, j, 1)) d_s_readFrom_19 fl_s_9 rfl ?_
      refine ch_iload d_s_readFrom_22 rfl ?_
      refine ch_iload_n (i := 2) d_s_readFrom_24 rfl rfl ?_
      refine ch_bipush (v := 10) d_s_readFrom_25 (by decide) ?_
      refine ch_irem d_s_readFrom_27 (by decide) ?_
      have b1 := h.1
      replace h := h.2
      refine ch_iast (n := 12) d_s_readFrom_28 (by decide) rfl b1 ?_
      show ch_J g _ _ _ _ _ _ (ch_wr m (5, j, 1) (Int32.toNatClampNeg x4) (x2 - x2 / 10 * 10)) _
      generalize hmm2 : ch_wr m (5, j, 1) (Int32.toNatClampNeg x4) (x2 - x2 / 10 * 10) = m2
      replace h := h m2 hmm2.symm
      refine ch_iload_n (i := 2) d_s_readFrom_29 rfl rfl ?_
      refine ch_bipush (v := 10) d_s_readFrom_30 (by decide) ?_
      refine ch_idiv d_s_readFrom_32 (by decide) ?_
      refine ch_istore_n (i := 2) d_s_readFrom_33 rfl (Nat.le_of_ble_eq_true rfl) (ls' := [some (.inr (5, j, 0)), some (.inl (.int x1)), some (.inl (.int (x2 / 10))), some (.inl (.int x3)), some (.inl (.int x4))]) rfl ?_
      refine ch_iload d_s_readFrom_34 rfl ?_
      refine ch_istore_n (i := 3) d_s_readFrom_36 rfl (Nat.le_of_ble_eq_true rfl) (ls' := [some (.inr (5, j, 0)), some (.inl (.int x1)), some (.inl (.int (x2 / 10))), some (.inl (.int x4)), some (.inl (.int x4))]) rfl ?_
      refine ch_iinc (i := 4) (v := (x4 + (-1))) d_s_readFrom_37 rfl rfl (Nat.le_of_ble_eq_true rfl) (ls' := [some (.inr (5, j, 0)), some (.inl (.int x1)), some (.inl (.int (x2 / 10))), some (.inl (.int x4)), some (.inl (.int (x4 + (-1))))]) rfl ?_
      refine ch_goto (tgt := 9) d_s_readFrom_40 (by decide) ?_
      exact h
set_option maxHeartbeats 1600000 in
theorem g_s_readFrom_43 (g : ch_G) (Q : ch_O → ch_M → Prop) (j : Nat) (x1 : Int32) (x2 : Int32) (x3 : Int32) (x4 : Int32) (m : ch_M) (h : ((¬ x2 = 0 → (∀ m1 : ch_M, m1 = ch_wr m (5, j, 0) 1 0 → (¬ x3 < 0) ∧ (¬ (m1 (5, j, 0) 1) < 0) ∧ ((Int32.toNatClampNeg x3) + (Int32.toNatClampNeg (m1 (5, j, 0) 1)) ≤ 12) ∧ (0 + (Int32.toNatClampNeg (m1 (5, j, 0) 1)) ≤ 12) ∧ (∀ m2 : ch_M, m2 = ch_cpy m1 (5, j, 1) (5, j, 1) (Int32.toNatClampNeg x3) 0 (Int32.toNatClampNeg (m1 (5, j, 0) 1)) → ch_J g m_s_readFrom (ch_rm m_s_readFrom) (ch_E g m_s_readFrom Q) 79 [some (.inr (5, j, 0)), some (.inl (.int x1)), some (.inl (.int x2)), some (.inl (.int x3)), some (.inl (.int 0))] [] m2 0))) ∧ (x2 = 0 → (∀ m7 : ch_M, m7 = ch_wr m (5, j, 0) 1 (9 - x3) → (¬ x3 < 0) ∧ (¬ (m7 (5, j, 0) 1) < 0) ∧ ((Int32.toNatClampNeg x3) + (Int32.toNatClampNeg (m7 (5, j, 0) 1)) ≤ 12) ∧ (0 + (Int32.toNatClampNeg (m7 (5, j, 0) 1)) ≤ 12) ∧ (∀ m8 : ch_M, m8 = ch_cpy m7 (5, j, 1) (5, j, 1) (Int32.toNatClampNeg x3) 0 (Int32.toNatClampNeg (m7 (5, j, 0) 1)) → ch_J g m_s_readFrom (ch_rm m_s_readFrom) (ch_E g m_s_readFrom Q) 79 [some (.inr (5, j, 0)), some (.inl (.int x1)), some (.inl (.int x2)), some (.inl (.int x3)), some (.inl (.int 0))] [] m8 0))))) : ch_J g m_s_readFrom (ch_rm m_s_readFrom) (ch_E g m_s_readFrom Q) 43 [some (.inr (5, j, 0)), some (.inl (.int x1)), some (.inl (.int x2)), some (.inl (.int x3)), some (.inl (.int x4))] [] m 0 := by
  refine ch_aload_n (i := 0) d_s_readFrom_43 rfl rfl ?_
  refine ch_iload_n (i := 2) d_s_readFrom_44 rfl rfl ?_
  refine ch_if_ne (tgt := 55) d_s_readFrom_45 (by decide) (fun c => ?_) (fun c => ?_)
  · replace h := h.1 c
    refine ch_iconst (v := 0) d_s_readFrom_55 (by decide) ?_
    refine ch_put d_s_readFrom_56 fp_s_15 rfl rfl rfl ?_
    generalize hmm1 : ch_wr m (5, j, 0) 1 0 = m1
    replace h := h m1 hmm1.symm
    refine ch_aload_n (i := 0) d_s_readFrom_59 rfl rfl ?_
    refine ch_get (v := .inr (5, j, 1)) d_s_readFrom_60 fl_s_9 rfl ?_
    refine ch_iload_n (i := 3) d_s_readFrom_63 rfl rfl ?_
    refine ch_aload_n (i := 0) d_s_readFrom_64 rfl rfl ?_
    refine ch_get (v := .inr (5, j, 1)) d_s_readFrom_65 fl_s_9 rfl ?_
    refine ch_iconst (v := 0) d_s_readFrom_68 (by decide) ?_
    refine ch_aload_n (i := 0) d_s_readFrom_69 rfl rfl ?_
    refine ch_get (v := .inl (.int (m1 (5, j, 0) 1))) d_s_readFrom_70 fl_s_15 rfl ?_
    have b3 := h.1
    replace h := h.2
    have b4 := h.1
    replace h := h.2
    have b5 := h.1
    replace h := h.2
    have b6 := h.1
    replace h := h.2
    refine ch_copy (n1 := 12) (n2 := 12) d_s_readFrom_73 lk_s_19 (by decide) (by decide) rfl rfl ⟨Nat.le_of_ble_eq_true rfl, Nat.le_of_ble_eq_true rfl⟩ (Nat.le_of_ble_eq_true rfl) b3 (by decide) b4 b5 b6 ?_
    show ch_J g _ _ _ _ _ _ (ch_cpy m1 (5, j, 1) (5, j, 1) (Int32.toNatClampNeg x3) 0 (Int32.toNatClampNeg (m1 (5, j, 0) 1))) _
    generalize hmm2 : ch_cpy m1 (5, j, 1) (5, j, 1) (Int32.toNatClampNeg x3) 0 (Int32.toNatClampNeg (m1 (5, j, 0) 1)) = m2
    replace h := h m2 hmm2.symm
    refine ch_iconst (v := 0) d_s_readFrom_76 (by decide) ?_
    refine ch_istore (i := 4) d_s_readFrom_77 (Nat.le_of_ble_eq_true rfl) (ls' := [some (.inr (5, j, 0)), some (.inl (.int x1)), some (.inl (.int x2)), some (.inl (.int x3)), some (.inl (.int 0))]) rfl ?_
    exact h
  · replace h := h.2 c
    refine ch_bipush (v := 9) d_s_readFrom_48 (by decide) ?_
    refine ch_iload_n (i := 3) d_s_readFrom_50 rfl rfl ?_
    refine ch_isub d_s_readFrom_51 ?_
    refine ch_goto (tgt := 56) d_s_readFrom_52 (by decide) ?_
    refine ch_put d_s_readFrom_56 fp_s_15 rfl rfl rfl ?_
    generalize hmm7 : ch_wr m (5, j, 0) 1 (9 - x3) = m7
    replace h := h m7 hmm7.symm
    refine ch_aload_n (i := 0) d_s_readFrom_59 rfl rfl ?_
    refine ch_get (v := .inr (5, j, 1)) d_s_readFrom_60 fl_s_9 rfl ?_
    refine ch_iload_n (i := 3) d_s_readFrom_63 rfl rfl ?_
    refine ch_aload_n (i := 0) d_s_readFrom_64 rfl rfl ?_
    refine ch_get (v := .inr (5, j, 1)) d_s_readFrom_65 fl_s_9 rfl ?_
    refine ch_iconst (v := 0) d_s_readFrom_68 (by decide) ?_
    refine ch_aload_n (i := 0) d_s_readFrom_69 rfl rfl ?_
    refine ch_get (v := .inl (.int (m7 (5, j, 0) 1))) d_s_readFrom_70 fl_s_15 rfl ?_
    have b9 := h.1
    replace h := h.2
    have b10 := h.1
    replace h := h.2
    have b11 := h.1
    replace h := h.2
    have b12 := h.1
    replace h := h.2
    refine ch_copy (n1 := 12) (n2 := 12) d_s_readFrom_73 lk_s_19 (by decide) (by decide) rfl rfl ⟨Nat.le_of_ble_eq_true rfl, Nat.le_of_ble_eq_true rfl⟩ (Nat.le_of_ble_eq_true rfl) b9 (by decide) b10 b11 b12 ?_
    show ch_J g _ _ _ _ _ _ (ch_cpy m7 (5, j, 1) (5, j, 1) (Int32.toNatClampNeg x3) 0 (Int32.toNatClampNeg (m7 (5, j, 0) 1))) _
    generalize hmm8 : ch_cpy m7 (5, j, 1) (5, j, 1) (Int32.toNatClampNeg x3) 0 (Int32.toNatClampNeg (m7 (5, j, 0) 1)) = m8
    replace h := h m8 hmm8.symm
    refine ch_iconst (v := 0) d_s_readFrom_76 (by decide) ?_
    refine ch_istore (i := 4) d_s_readFrom_77 (Nat.le_of_ble_eq_true rfl) (ls' := [some (.inr (5, j, 0)), some (.inl (.int x1)), some (.inl (.int x2)), some (.inl (.int x3)), some (.inl (.int 0))]) rfl ?_
    exact h
set_option maxHeartbeats 1600000 in
theorem g_s_readFrom_79 (g : ch_G) (Q : ch_O → ch_M → Prop) (j : Nat) (x1 : Int32) (x2 : Int32) (x3 : Int32) (x4 : Int32) (m : ch_M) (h : (((m (5, j, 0) 1) ≤ x4 → Q (.inl none) m) ∧ (¬ (m (5, j, 0) 1) ≤ x4 → (vp_in x4 12) ∧ (((m (5, j, 1) (Int32.toNatClampNeg x4)) < 1 → (∀ m2 : ch_M, m2 = ch_wr m (5, j, 0) 1 0 → ch_J g m_s_readFrom (ch_rm m_s_readFrom) (ch_E g m_s_readFrom Q) 79 [some (.inr (5, j, 0)), some (.inl (.int x1)), some (.inl (.int x2)), some (.inl (.int x3)), some (.inl (.int (x4 + 1)))] [] m2 0)) ∧ (¬ (m (5, j, 1) (Int32.toNatClampNeg x4)) < 1 → (((m (5, j, 1) (Int32.toNatClampNeg x4)) ≤ 3 → ch_J g m_s_readFrom (ch_rm m_s_readFrom) (ch_E g m_s_readFrom Q) 79 [some (.inr (5, j, 0)), some (.inl (.int x1)), some (.inl (.int x2)), some (.inl (.int x3)), some (.inl (.int (x4 + 1)))] [] m 0) ∧ (¬ (m (5, j, 1) (Int32.toNatClampNeg x4)) ≤ 3 → (∀ m3 : ch_M, m3 = ch_wr m (5, j, 0) 1 0 → ch_J g m_s_readFrom (ch_rm m_s_readFrom) (ch_E g m_s_readFrom Q) 79 [some (.inr (5, j, 0)), some (.inl (.int x1)), some (.inl (.int x2)), some (.inl (.int x3)), some (.inl (.int (x4 + 1)))] [] m3 0)))))))) : ch_J g m_s_readFrom (ch_rm m_s_readFrom) (ch_E g m_s_readFrom Q) 79 [some (.inr (5, j, 0)), some (.inl (.int x1)), some (.inl (.int x2)), some (.inl (.int x3)), some (.inl (.int x4))] [] m 0 := by
  refine ch_iload d_s_readFrom_79 rfl ?_
  refine ch_aload_n (i := 0) d_s_readFrom_81 rfl rfl ?_
  refine ch_get (v := .inl (.int (m (5, j, 0) 1))) d_s_readFrom_82 fl_s_15 rfl ?_
  refine ch_icmp_ge (tgt := 121) d_s_readFrom_85 (by decide) (fun c => ?_) (fun c => ?_)
  · replace h := h.1 c
    exact ch_vret d_s_readFrom_121 rfl (Nat.le_of_ble_eq_true rfl) h
  · replace h := h.2 c
    refine ch_aload_n (i := 0) d_s_readFrom_88 rfl rfl ?_
    refine ch_get (v := .inr (5, j, 1)) d_s_readFrom_89 fl_s_9 rfl ?_
    refine ch_iload d_s_readFrom_92 rfl ?_
    have b1 := h.1
    replace h := h.2
    refine ch_iald (n := 12) d_s_readFrom_94 (by decide) rfl b1 ?_
    refine ch_iconst (v := 1) d_s_readFrom_95 (by decide) ?_
    refine ch_icmp_lt (tgt := 110) d_s_readFrom_96 (by decide) (fun c => ?_) (fun c => ?_)
    · replace h := h.1 c
      refine ch_aload_n (i := 0) d_s_readFrom_110 rfl rfl ?_
      refine ch_iconst (v := 0) d_s_readFrom_111 (by decide) ?_
      refine ch_put d_s_readFrom_112 fp_s_15 rfl rfl rfl ?_
      generalize hmm2 : ch_wr m (5, j, 0) 1 0 = m2
      replace h := h m2 hmm2.symm
      refine ch_iinc (i := 4) (v := (x4 + 1)) d_s_readFrom_115 rfl rfl (Nat.le_of_ble_eq_true rfl) (ls' := [some (.inr (5, j, 0)), some (.inl (.int x1)), some (.inl (.int x2)), some (.inl (.int x3)), some (.inl (.int (x4 + 1)))]) rfl ?_
      refine ch_goto (tgt := 79) d_s_readFrom_118 (by decide) ?_
      exact h
    · replace h := h.2 c
      refine ch_aload_n (i := 0) d_s_readFrom_99 rfl rfl ?_
      refine ch_get (v := .inr (5, j, 1)) d_s_readFrom_100 fl_s_9 rfl ?_
      refine ch_iload d_s_readFrom_103 rfl ?_
      refine ch_iald (n := 12) d_s_readFrom_105 (by decide) rfl b1 ?_
      refine ch_iconst (v := 3) d_s_readFrom_106 (by decide) ?_
      refine ch_icmp_le (tgt := 115) d_s_readFrom_107 (by decide) (fun c => ?_) (fun c => ?_)
      · replace h := h.1 c
        refine ch_iinc (i := 4) (v := (x4 + 1)) d_s_readFrom_115 rfl rfl (Nat.le_of_ble_eq_true rfl) (ls' := [some (.inr (5, j, 0)), some (.inl (.int x1)), some (.inl (.int x2)), some (.inl (.int x3)), some (.inl (.int (x4 + 1)))]) rfl ?_
        refine ch_goto (tgt := 79) d_s_readFrom_118 (by decide) ?_
        exact h
      · replace h := h.2 c
        refine ch_aload_n (i := 0) d_s_readFrom_110 rfl rfl ?_
        refine ch_iconst (v := 0) d_s_readFrom_111 (by decide) ?_
        refine ch_put d_s_readFrom_112 fp_s_15 rfl rfl rfl ?_
        generalize hmm3 : ch_wr m (5, j, 0) 1 0 = m3
        replace h := h m3 hmm3.symm
        refine ch_iinc (i := 4) (v := (x4 + 1)) d_s_readFrom_115 rfl rfl (Nat.le_of_ble_eq_true rfl) (ls' := [some (.inr (5, j, 0)), some (.inl (.int x1)), some (.inl (.int x2)), some (.inl (.int x3)), some (.inl (.int (x4 + 1)))]) rfl ?_
        refine ch_goto (tgt := 79) d_s_readFrom_118 (by decide) ?_
        exact h
