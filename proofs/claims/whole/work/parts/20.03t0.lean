theorem e_t_put (g : ch_G) (Q : ch_O → ch_M → Prop) (j : Nat) (p1 : Int32) (m : ch_M) (h : ch_J g m_t_put (ch_rm m_t_put) (ch_E g m_t_put Q) 0 [some (.inr (6, j, 0)), some (.inl (.int p1))] [] m 0) : ch_C g m_t_put [.inr (6, j, 0), .inl (.int p1)] m Q :=
  ch_enter mf_t_put (by intro v hv; simp only [List.mem_cons, List.not_mem_nil, or_false] at hv; rcases hv with rfl | rfl <;> rfl) (Nat.le_of_ble_eq_true rfl) h
set_option maxHeartbeats 1600000 in
theorem g_t_put_0 (g : ch_G) (Q : ch_O → ch_M → Prop) (j : Nat) (p1 : Int32) (m : ch_M) (h : ((60 ≤ (m (6, j, 0) 1) → Q (.inl none) m) ∧ (¬ 60 ≤ (m (6, j, 0) 1) → (vp_in (m (6, j, 0) 1) 60) ∧ (∀ m2 : ch_M, m2 = ch_wr m (6, j, 1) (Int32.toNatClampNeg (m (6, j, 0) 1)) (vp_nar .char p1) → (∀ m3 : ch_M, m3 = ch_wr m2 (6, j, 0) 1 ((m2 (6, j, 0) 1) + 1) → Q (.inl none) m3))))) : ch_J g m_t_put (ch_rm m_t_put) (ch_E g m_t_put Q) 0 [some (.inr (6, j, 0)), some (.inl (.int p1))] [] m 0 := by
  refine ch_aload_n (i := 0) d_t_put_0 rfl rfl ?_
  refine ch_get (v := .inl (.int (m (6, j, 0) 1))) d_t_put_1 fl_t_15 rfl ?_
  refine ch_aload_n (i := 0) d_t_put_4 rfl rfl ?_
  refine ch_get (v := .inr (6, j, 1)) d_t_put_5 fl_t_9 rfl ?_
  refine ch_alen (v := 60) d_t_put_8 (by decide) (t := 1) (by decide) rfl rfl ?_
  refine ch_icmp_ge (tgt := 32) d_t_put_9 (by decide) (fun c => ?_) (fun c => ?_)
  · replace h := h.1 c
    exact ch_vret d_t_put_32 rfl (Nat.le_of_ble_eq_true rfl) h
  · replace h := h.2 c
    refine ch_aload_n (i := 0) d_t_put_12 rfl rfl ?_
    refine ch_get (v := .inr (6, j, 1)) d_t_put_13 fl_t_9 rfl ?_
    refine ch_aload_n (i := 0) d_t_put_16 rfl rfl ?_
    refine ch_get (v := .inl (.int (m (6, j, 0) 1))) d_t_put_17 fl_t_15 rfl ?_
    refine ch_iload_n (i := 1) d_t_put_20 rfl rfl ?_
    have b1 := h.1
    replace h := h.2
    refine ch_cast (n := 60) d_t_put_21 (by decide) rfl b1 ?_
    show ch_J g _ _ _ _ _ _ (ch_wr m (6, j, 1) (Int32.toNatClampNeg (m (6, j, 0) 1)) (vp_nar .char p1)) _
    generalize hmm2 : ch_wr m (6, j, 1) (Int32.toNatClampNeg (m (6, j, 0) 1)) (vp_nar .char p1) = m2
    replace h := h m2 hmm2.symm
    refine ch_aload_n (i := 0) d_t_put_22 rfl rfl ?_
    refine ch_dup d_t_put_23 rfl ?_
    refine ch_get (v := .inl (.int (m2 (6, j, 0) 1))) d_t_put_24 fl_t_15 rfl ?_
    refine ch_iconst (v := 1) d_t_put_27 (by decide) ?_
    refine ch_iadd d_t_put_28 ?_
    refine ch_put d_t_put_29 fp_t_15 rfl rfl rfl ?_
    generalize hmm3 : ch_wr m2 (6, j, 0) 1 ((m2 (6, j, 0) 1) + 1) = m3
    replace h := h m3 hmm3.symm
    exact ch_vret d_t_put_32 rfl (Nat.le_of_ble_eq_true rfl) h
