theorem e_w_tellBest (g : ch_G) (Q : ch_O → ch_M → Prop) (j1 : Nat) (m : ch_M) (h : ch_J g m_w_tellBest (ch_rm m_w_tellBest) (ch_E g m_w_tellBest Q) 0 [some (.inr (8, 0, 0)), some (.inr (5, j1, 0)), none, none] [] m 0) : ch_C g m_w_tellBest [.inr (8, 0, 0), .inr (5, j1, 0)] m Q :=
  ch_enter mf_w_tellBest (by intro v hv; simp only [List.mem_cons, List.not_mem_nil, or_false] at hv; rcases hv with rfl | rfl <;> rfl) (Nat.le_of_ble_eq_true rfl) h
set_option maxHeartbeats 1600000 in
theorem g_w_tellBest_0 (g : ch_G) (Q : ch_O → ch_M → Prop) (j1 : Nat) (m : ch_M) (h : (∀ m1 : ch_M, m1 = ch_wr m (5, j1, 0) 1 0 → ch_J g m_w_tellBest (ch_rm m_w_tellBest) (ch_E g m_w_tellBest Q) 9 [some (.inr (8, 0, 0)), some (.inr (5, j1, 0)), some (.inl (.int 0)), some (.inl (.int 0))] [] m1 0)) : ch_J g m_w_tellBest (ch_rm m_w_tellBest) (ch_E g m_w_tellBest Q) 0 [some (.inr (8, 0, 0)), some (.inr (5, j1, 0)), none, none] [] m 0 := by
  refine ch_aload_n (i := 1) d_w_tellBest_0 rfl rfl ?_
  refine ch_iconst (v := 0) d_w_tellBest_1 (by decide) ?_
  refine ch_put d_w_tellBest_2 fp_w_29 rfl rfl rfl ?_
  generalize hmm1 : ch_wr m (5, j1, 0) 1 0 = m1
  replace h := h m1 hmm1.symm
  refine ch_iconst (v := 0) d_w_tellBest_5 (by decide) ?_
  refine ch_istore_n (i := 2) d_w_tellBest_6 rfl (Nat.le_of_ble_eq_true rfl) (ls' := [some (.inr (8, 0, 0)), some (.inr (5, j1, 0)), some (.inl (.int 0)), none]) rfl ?_
  refine ch_iconst (v := 0) d_w_tellBest_7 (by decide) ?_
  refine ch_istore_n (i := 3) d_w_tellBest_8 rfl (Nat.le_of_ble_eq_true rfl) (ls' := [some (.inr (8, 0, 0)), some (.inr (5, j1, 0)), some (.inl (.int 0)), some (.inl (.int 0))]) rfl ?_
  exact h
set_option maxHeartbeats 1600000 in
theorem g_w_tellBest_9 (g : ch_G) (Q : ch_O → ch_M → Prop) (j1 : Nat) (x2 : Int32) (x3 : Int32) (m : ch_M) (h : ((12 ≤ x3 → Q (.inl none) m) ∧ (¬ 12 ≤ x3 → ((12 ≤ x2 → Q (.inl none) m) ∧ (¬ 12 ≤ x2 → (vp_in x2 15) ∧ (vp_in (m (5, j1, 0) 1) 13) ∧ ((∀ m3 : ch_M, m3 = ch_os m 5 j1 (s_addB (ch_ob m 5 j1) (m (8, 0, 3) (Int32.toNatClampNeg x2))) → ch_J g m_w_tellBest (ch_rm m_w_tellBest) (ch_E g m_w_tellBest Q) 9 [some (.inr (8, 0, 0)), some (.inr (5, j1, 0)), some (.inl (.int (x2 + (m3 (8, 0, 3) (Int32.toNatClampNeg x2))))), some (.inl (.int (x3 + 1)))] [] m3 0))))))) : ch_J g m_w_tellBest (ch_rm m_w_tellBest) (ch_E g m_w_tellBest Q) 9 [some (.inr (8, 0, 0)), some (.inr (5, j1, 0)), some (.inl (.int x2)), some (.inl (.int x3))] [] m 0 := by
  refine ch_iload_n (i := 3) d_w_tellBest_9 rfl rfl ?_
  refine ch_bipush (v := 12) d_w_tellBest_10 (by decide) ?_
  refine ch_icmp_ge (tgt := 46) d_w_tellBest_12 (by decide) (fun c => ?_) (fun c => ?_)
  · replace h := h.1 c
    exact ch_vret d_w_tellBest_46 rfl (Nat.le_of_ble_eq_true rfl) h
  · replace h := h.2 c
    refine ch_iload_n (i := 2) d_w_tellBest_15 rfl rfl ?_
    refine ch_bipush (v := 12) d_w_tellBest_16 (by decide) ?_
    refine ch_icmp_ge (tgt := 46) d_w_tellBest_18 (by decide) (fun c => ?_) (fun c => ?_)
    · replace h := h.1 c
      exact ch_vret d_w_tellBest_46 rfl (Nat.le_of_ble_eq_true rfl) h
    · replace h := h.2 c
      refine ch_aload_n (i := 1) d_w_tellBest_21 rfl rfl ?_
      refine ch_aload_n (i := 0) d_w_tellBest_22 rfl rfl ?_
      refine ch_get (v := .inr (8, 0, 3)) d_w_tellBest_23 fl_w_18 rfl ?_
      refine ch_iload_n (i := 2) d_w_tellBest_26 rfl rfl ?_
      have b1 := h.1
      replace h := h.2
      refine ch_iald (n := 15) d_w_tellBest_27 (by decide) rfl b1 ?_
      have b5 := h.1
      replace h := h.2
      refine ch_callV (as := [.inl (.int (m (8, 0, 3) (Int32.toNatClampNeg x2)))]) d_w_tellBest_28 lk_w_35 mi_s_add me_s_add rfl rfl rfl ⟨Nat.le_of_ble_eq_true rfl, Nat.le_of_ble_eq_true rfl⟩ (Nat.le_of_ble_eq_true rfl) ⟨Nat.le_of_ble_eq_true rfl, Nat.le_of_ble_eq_true rfl⟩ (ch_mono (ch_Kv (fun m3 q4 => ?_)) (s_s_add g (fun (m_ : ch_M) => (m_ = ch_os m 5 j1 (s_addB (ch_ob m 5 j1) (m (8, 0, 3) (Int32.toNatClampNeg x2))))) (j1) ((m (8, 0, 3) (Int32.toNatClampNeg x2))) m ⟨b5, rfl⟩))
      have hm_ := q4
      replace h := h m3 hm_
      refine ch_iload_n (i := 2) d_w_tellBest_31 rfl rfl ?_
      refine ch_aload_n (i := 0) d_w_tellBest_32 rfl rfl ?_
      refine ch_get (v := .inr (8, 0, 3)) d_w_tellBest_33 fl_w_18 rfl ?_
      refine ch_iload_n (i := 2) d_w_tellBest_36 rfl rfl ?_
      refine ch_iald (n := 15) d_w_tellBest_37 (by decide) rfl b1 ?_
      refine ch_iadd d_w_tellBest_38 ?_
      refine ch_istore_n (i := 2) d_w_tellBest_39 rfl (Nat.le_of_ble_eq_true rfl) (ls' := [some (.inr (8, 0, 0)), some (.inr (5, j1, 0)), some (.inl (.int (x2 + (m3 (8, 0, 3) (Int32.toNatClampNeg x2))))), some (.inl (.int x3))]) rfl ?_
      refine ch_iinc (i := 3) (v := (x3 + 1)) d_w_tellBest_40 rfl rfl (Nat.le_of_ble_eq_true rfl) (ls' := [some (.inr (8, 0, 0)), some (.inr (5, j1, 0)), some (.inl (.int (x2 + (m3 (8, 0, 3) (Int32.toNatClampNeg x2))))), some (.inl (.int (x3 + 1)))]) rfl ?_
      refine ch_goto (tgt := 9) d_w_tellBest_43 (by decide) ?_
      exact h
