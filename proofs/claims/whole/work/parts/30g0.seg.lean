theorem e_m_closes (g : ch_G) (Q : ch_O → ch_M → Prop) (p1 : Int32) (m : ch_M) (h : ch_J g m_m_closes (ch_rm m_m_closes) (ch_E g m_m_closes Q) 0 [some (.inr (9, 0, 0)), some (.inl (.int p1)), none, none] [] m 0) : ch_C g m_m_closes [.inr (9, 0, 0), .inl (.int p1)] m Q :=
  ch_enter mf_m_closes (by intro v hv; simp only [List.mem_cons, List.not_mem_nil, or_false] at hv; rcases hv with rfl | rfl <;> rfl) (Nat.le_of_ble_eq_true rfl) h
set_option maxHeartbeats 1600000 in
theorem g_m_closes_0 (g : ch_G) (Q : ch_O → ch_M → Prop) (p1 : Int32) (m : ch_M) (h : (vp_in p1 5) ∧ ((∀ m2 : ch_M, m2 = ch_wr m (9, 0, 1) (38 + 5 * Int32.toNatClampNeg p1 + 2) 0 → ch_J g m_m_closes (ch_rm m_m_closes) (ch_E g m_m_closes Q) 11 [some (.inr (9, 0, 0)), some (.inl (.int p1)), some (.inl (.int 0)), some (.inl (.int 0))] [] m2 0))) : ch_J g m_m_closes (ch_rm m_m_closes) (ch_E g m_m_closes Q) 0 [some (.inr (9, 0, 0)), some (.inl (.int p1)), none, none] [] m 0 := by
  refine ch_aload_n (i := 0) d_m_closes_0 rfl rfl ?_
  refine ch_iload_n (i := 1) d_m_closes_1 rfl rfl ?_
  refine ch_iconst (v := 2) d_m_closes_2 (by decide) ?_
  refine ch_iconst (v := 0) d_m_closes_3 (by decide) ?_
  have b4 := h.1
  replace h := h.2
  refine ch_callV (as := [.inl (.int p1), .inl (.int 2), .inl (.int 0)]) d_m_closes_4 lk_m_89 mi_m_sets me_m_sets rfl rfl rfl ⟨Nat.le_of_ble_eq_true rfl, Nat.le_of_ble_eq_true rfl⟩ (Nat.le_of_ble_eq_true rfl) ⟨Nat.le_of_ble_eq_true rfl, Nat.le_of_ble_eq_true rfl⟩ (ch_mono (ch_Kv (fun m2 q3 => ?_)) (s_m_sets g (fun (m_ : ch_M) => (m_ = ch_wr m (9, 0, 1) (38 + 5 * Int32.toNatClampNeg p1 + 2) 0)) (p1) (2) (0) m ⟨b4, (vp_in_nI (n := 2) (by decide) (by decide)), rfl⟩))
  have hm_ := q3
  replace h := h m2 hm_
  refine ch_iconst (v := 0) d_m_closes_7 (by decide) ?_
  refine ch_istore_n (i := 2) d_m_closes_8 rfl (Nat.le_of_ble_eq_true rfl) (ls' := [some (.inr (9, 0, 0)), some (.inl (.int p1)), some (.inl (.int 0)), none]) rfl ?_
  refine ch_iconst (v := 0) d_m_closes_9 (by decide) ?_
  refine ch_istore_n (i := 3) d_m_closes_10 rfl (Nat.le_of_ble_eq_true rfl) (ls' := [some (.inr (9, 0, 0)), some (.inl (.int p1)), some (.inl (.int 0)), some (.inl (.int 0))]) rfl ?_
  exact h
set_option maxHeartbeats 1600000 in
theorem g_m_closes_11 (g : ch_G) (Q : ch_O → ch_M → Prop) (x1 : Int32) (x2 : Int32) (x3 : Int32) (m : ch_M) (h : (((m (9, 0, 1) (8)) ≤ x3 → (∀ m1 : ch_M, m1 = ch_wr m (9, 0, 1) (8) x2 → Q (.inl none) m1)) ∧ (¬ (m (9, 0, 1) (8)) ≤ x3 → (vp_in (9 + x3) 63) ∧ (((m (9, 0, 1) (Int32.toNatClampNeg (9 + x3))) = x1 → ch_J g m_m_closes (ch_rm m_m_closes) (ch_E g m_m_closes Q) 11 [some (.inr (9, 0, 0)), some (.inl (.int x1)), some (.inl (.int x2)), some (.inl (.int (x3 + 1)))] [] m 0) ∧ (¬ (m (9, 0, 1) (Int32.toNatClampNeg (9 + x3))) = x1 → (vp_in (9 + x2) 63) ∧ (∀ m4 : ch_M, m4 = ch_wr m (9, 0, 1) (Int32.toNatClampNeg (9 + x2)) (m (9, 0, 1) (Int32.toNatClampNeg (9 + x3))) → ch_J g m_m_closes (ch_rm m_m_closes) (ch_E g m_m_closes Q) 11 [some (.inr (9, 0, 0)), some (.inl (.int x1)), some (.inl (.int (x2 + 1))), some (.inl (.int (x3 + 1)))] [] m4 0)))))) : ch_J g m_m_closes (ch_rm m_m_closes) (ch_E g m_m_closes Q) 11 [some (.inr (9, 0, 0)), some (.inl (.int x1)), some (.inl (.int x2)), some (.inl (.int x3))] [] m 0 := by
  refine ch_iload_n (i := 3) d_m_closes_11 rfl rfl ?_
  refine ch_aload_n (i := 0) d_m_closes_12 rfl rfl ?_
  refine ch_get (v := .inr (9, 0, 1)) d_m_closes_13 fl_m_9 rfl ?_
  refine ch_bipush (v := 8) d_m_closes_16 (by decide) ?_
  refine ch_iald (n := 63) d_m_closes_18 (by decide) rfl (vp_in_nI (n := 8) (by decide) (by decide)) ?_
  refine ch_icmp_ge (tgt := 62) d_m_closes_19 (by decide) (fun c => ?_) (fun c => ?_)
  · replace h := h.1 c
    refine ch_aload_n (i := 0) d_m_closes_62 rfl rfl ?_
    refine ch_get (v := .inr (9, 0, 1)) d_m_closes_63 fl_m_9 rfl ?_
    refine ch_bipush (v := 8) d_m_closes_66 (by decide) ?_
    refine ch_iload_n (i := 2) d_m_closes_68 rfl rfl ?_
    refine ch_iast (n := 63) d_m_closes_69 (by decide) rfl (vp_in_nI (n := 8) (by decide) (by decide)) ?_
    show ch_J g _ _ _ _ _ _ (ch_wr m (9, 0, 1) (8) x2) _
    generalize hmm1 : ch_wr m (9, 0, 1) (8) x2 = m1
    replace h := h m1 hmm1.symm
    exact ch_vret d_m_closes_70 rfl (Nat.le_of_ble_eq_true rfl) h
  · replace h := h.2 c
    refine ch_aload_n (i := 0) d_m_closes_22 rfl rfl ?_
    refine ch_get (v := .inr (9, 0, 1)) d_m_closes_23 fl_m_9 rfl ?_
    refine ch_bipush (v := 9) d_m_closes_26 (by decide) ?_
    refine ch_iload_n (i := 3) d_m_closes_28 rfl rfl ?_
    refine ch_iadd d_m_closes_29 ?_
    have b2 := h.1
    replace h := h.2
    refine ch_iald (n := 63) d_m_closes_30 (by decide) rfl b2 ?_
    refine ch_iload_n (i := 1) d_m_closes_31 rfl rfl ?_
    refine ch_icmp_eq (tgt := 56) d_m_closes_32 (by decide) (fun c => ?_) (fun c => ?_)
    · replace h := h.1 c
      refine ch_iinc (i := 3) (v := (x3 + 1)) d_m_closes_56 rfl rfl (Nat.le_of_ble_eq_true rfl) (ls' := [some (.inr (9, 0, 0)), some (.inl (.int x1)), some (.inl (.int x2)), some (.inl (.int (x3 + 1)))]) rfl ?_
      refine ch_goto (tgt := 11) d_m_closes_59 (by decide) ?_
      exact h
    · replace h := h.2 c
      refine ch_aload_n (i := 0) d_m_closes_35 rfl rfl ?_
      refine ch_get (v := .inr (9, 0, 1)) d_m_closes_36 fl_m_9 rfl ?_
      refine ch_bipush (v := 9) d_m_closes_39 (by decide) ?_
      refine ch_iload_n (i := 2) d_m_closes_41 rfl rfl ?_
      refine ch_iinc (i := 2) (v := (x2 + 1)) d_m_closes_42 rfl rfl (Nat.le_of_ble_eq_true rfl) (ls' := [some (.inr (9, 0, 0)), some (.inl (.int x1)), some (.inl (.int (x2 + 1))), some (.inl (.int x3))]) rfl ?_
      refine ch_iadd d_m_closes_45 ?_
      refine ch_aload_n (i := 0) d_m_closes_46 rfl rfl ?_
      refine ch_get (v := .inr (9, 0, 1)) d_m_closes_47 fl_m_9 rfl ?_
      refine ch_bipush (v := 9) d_m_closes_50 (by decide) ?_
      refine ch_iload_n (i := 3) d_m_closes_52 rfl rfl ?_
      refine ch_iadd d_m_closes_53 ?_
      refine ch_iald (n := 63) d_m_closes_54 (by decide) rfl b2 ?_
      have b3 := h.1
      replace h := h.2
      refine ch_iast (n := 63) d_m_closes_55 (by decide) rfl b3 ?_
      show ch_J g _ _ _ _ _ _ (ch_wr m (9, 0, 1) (Int32.toNatClampNeg (9 + x2)) (m (9, 0, 1) (Int32.toNatClampNeg (9 + x3)))) _
      generalize hmm4 : ch_wr m (9, 0, 1) (Int32.toNatClampNeg (9 + x2)) (m (9, 0, 1) (Int32.toNatClampNeg (9 + x3))) = m4
      replace h := h m4 hmm4.symm
      refine ch_iinc (i := 3) (v := (x3 + 1)) d_m_closes_56 rfl rfl (Nat.le_of_ble_eq_true rfl) (ls' := [some (.inr (9, 0, 0)), some (.inl (.int x1)), some (.inl (.int (x2 + 1))), some (.inl (.int (x3 + 1)))]) rfl ?_
      refine ch_goto (tgt := 11) d_m_closes_59 (by decide) ?_
      exact h
