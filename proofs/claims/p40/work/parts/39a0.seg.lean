theorem e_l_runs (g : ch_G) (Q : ch_O → ch_M → Prop) (j1 : Nat) (m : ch_M) (h : ch_J g m_l_runs (ch_rm m_l_runs) (ch_E g m_l_runs Q) 0 [some (.inr (0, 0, 0)), some (.inr (12, j1, 0)), none] [] m 0) : ch_C g m_l_runs [.inr (0, 0, 0), .inr (12, j1, 0)] m Q :=
  ch_enter mf_l_runs (by intro v hv; simp only [List.mem_cons, List.not_mem_nil, or_false] at hv; rcases hv with rfl | rfl <;> rfl) (Nat.le_of_ble_eq_true rfl) h
set_option maxHeartbeats 1600000 in
theorem g_l_runs_0 (g : ch_G) (Q : ch_O → ch_M → Prop) (k : Nat) (hk : k + 0 ≤ 80) (j1 : Nat) (m : ch_M) (h : ch_J g m_l_runs (ch_rm m_l_runs) (ch_E g m_l_runs Q) 2 [some (.inr (0, 0, 0)), some (.inr (12, j1, 0)), some (.inl (.int 0))] [] m k) : ch_J g m_l_runs (ch_rm m_l_runs) (ch_E g m_l_runs Q) 0 [some (.inr (0, 0, 0)), some (.inr (12, j1, 0)), none] [] m k := by
  refine ch_iconst (v := 0) d_l_runs_0 (by decide) ?_
  refine ch_istore_n (i := 2) d_l_runs_1 rfl (Nat.le_of_ble_eq_true rfl) (ls' := [some (.inr (0, 0, 0)), some (.inr (12, j1, 0)), some (.inl (.int 0))]) rfl ?_
  exact h
set_option maxHeartbeats 1600000 in
theorem g_l_runs_2 (g : ch_G) (Q : ch_O → ch_M → Prop) (k : Nat) (hk : k + 1 ≤ 80) (j1 : Nat) (x2 : Int32) (m : ch_M) (h : ((((nI (ch_tn g j1)) ≤ x2 → (∃ A_4 : a_G, (a_S A_4 m) ∧ (A_4.1 + 720 < 2 ^ 31) ∧ (0 < A_4.1) ∧ ((((x_F m).1 = -1 ∧ ¬ (x_cc m).1 = 0) → (∀ (M5 : ch_M), (a_S (a_c0 (a_up A_4 (A_4.1 + 720) (ch_ob m 1 0))) M5) → ((0 : Int32) ≤ (x_cc m).1) → (∀ k_, M5 (14, 0, 1) k_ = m (14, 0, 1) k_) → (∀ m9 : ch_M, m9 = M5 → Q (.inl (some (.inl (.int ((x_cc m).1))))) m9))) ∧ ((¬ (x_F m).1 = -1) → (∀ (M6 : ch_M), (a_S (a_c0 A_4) M6) → (ch_ob M6 1 0 = ch_ob m 1 0) → (M6 (0, 0, 0) 13 = (x_F m).1) → (∀ k_, M6 (14, 0, 1) k_ = m (14, 0, 1) k_) → (∀ m9 : ch_M, m9 = M6 → Q (.inl (some (.inl (.int (-1001))))) m9))) ∧ (((x_F m).1 = -1 ∧ (x_cc m).1 = 0) → (∀ (M7 : ch_M), (a_S (a_c0 A_4) M7) → (y_sm (ch_ob m 1 0) (ch_ob M7 1 0)) → (M7 (0, 0, 0) 13 = -1) → (∀ i_, M7 (3, 0, 0) i_ = (x_cc m).2 (3, 0, 0) i_) → (∀ k_, M7 (14, 0, 1) k_ = m (14, 0, 1) k_) → (∀ m9 : ch_M, m9 = M7 → Q (.inl (some (.inl (.int (-1002))))) m9)))))) ∧ (¬ (nI (ch_tn g j1)) ≤ x2 → (vp_in x2 (ch_tn g j1)) ∧ (ch_tn g j1 < 2 ^ 31) ∧ ((vp_in (m (6, 0, 0) 1) 61) ∧ (((m (6, 0, 0) 1 < 60) → (∀ m20 : ch_M, m20 = ch_os m 6 0 (t_putB (ch_ob m 6 0) (k_ch (ch_tb g j1 (Int32.toNatClampNeg x2)))) → (((m (6, 0, 0) 1 + 1) = (x2 + 1) → ch_J g m_l_runs (ch_rm m_l_runs) (ch_E g m_l_runs Q) 2 [some (.inr (0, 0, 0)), some (.inr (12, j1, 0)), some (.inl (.int (x2 + 1)))] [] m20 (k + 1)) ∧ (¬ (m (6, 0, 0) 1 + 1) = (x2 + 1) → Q (.inl (some (.inl (.int (-9999))))) m20)))) ∧ ((¬ m (6, 0, 0) 1 < 60) → (((-1001) = (x2 + 1) → ch_J g m_l_runs (ch_rm m_l_runs) (ch_E g m_l_runs Q) 2 [some (.inr (0, 0, 0)), some (.inr (12, j1, 0)), some (.inl (.int (x2 + 1)))] [] m (k + 1)) ∧ (¬ (-1001) = (x2 + 1) → Q (.inl (some (.inl (.int (-9999))))) m))))))))) : ch_J g m_l_runs (ch_rm m_l_runs) (ch_E g m_l_runs Q) 2 [some (.inr (0, 0, 0)), some (.inr (12, j1, 0)), some (.inl (.int x2))] [] m k := by
  refine ch_iload_n (i := 2) d_l_runs_2 rfl rfl ?_
  refine ch_aload_n (i := 1) d_l_runs_3 rfl rfl ?_
  refine ch_callT (as := []) d_l_runs_4 lk_l_121 mi_q_length me_q_length rfl rfl rfl ⟨Nat.le_of_ble_eq_true rfl, Nat.le_of_ble_eq_true rfl⟩ (Nat.le_of_ble_eq_true rfl) (ch_rk0 (b := 0) hk (Nat.le_of_ble_eq_true rfl) (Nat.le_of_ble_eq_true rfl)) (ch_mono (ch_Ki (fun r1 m2 q3 => ?_)) (s_q_length g (fun (r_ : Int32) (m_ : ch_M) => ((nI (ch_tn g j1)) = r_ ∧ m = m_)) (j1) m ⟨rfl, rfl⟩))
  obtain ⟨rfl, rfl⟩ := q3
  replace h := h
  refine ch_icmp_ge (tgt := 35) d_l_runs_7 (by decide) (fun c => ?_) (fun c => ?_)
  · replace h := h.1 c
    refine ch_aload_n (i := 0) d_l_runs_35 rfl rfl ?_
    obtain ⟨A_4, h⟩ := h
    have b11 := h.1
    replace h := h.2
    have b12 := h.1
    replace h := h.2
    have b13 := h.1
    replace h := h.2
    refine ch_callSX (as := [.inr (0, 0, 0)]) d_l_runs_36 lk_l_134 ms_l_commands rfl rfl ⟨Nat.le_of_ble_eq_true rfl, Nat.le_of_ble_eq_true rfl⟩ (Nat.le_of_ble_eq_true rfl) (ch_rk0 (b := 1) hk (Nat.le_of_ble_eq_true rfl) (Nat.le_of_ble_eq_true rfl)) (ch_mono (ch_Ki (fun r8 m9 q10 => ?_)) (t_l_commands g (fun (r_ : Int32) (m_ : ch_M) => (∃ (M5 : ch_M), ((x_F m).1 = -1 ∧ ¬ (x_cc m).1 = 0) ∧ ((x_cc m).1) = r_ ∧ (a_S (a_c0 (a_up A_4 (A_4.1 + 720) (ch_ob m 1 0))) M5) ∧ ((0 : Int32) ≤ (x_cc m).1) ∧ (∀ k_, M5 (14, 0, 1) k_ = m (14, 0, 1) k_) ∧ m_ = M5) ∨ (∃ (M6 : ch_M), (¬ (x_F m).1 = -1) ∧ (-1001) = r_ ∧ (a_S (a_c0 A_4) M6) ∧ (ch_ob M6 1 0 = ch_ob m 1 0) ∧ (M6 (0, 0, 0) 13 = (x_F m).1) ∧ (∀ k_, M6 (14, 0, 1) k_ = m (14, 0, 1) k_) ∧ m_ = M6) ∨ (∃ (M7 : ch_M), ((x_F m).1 = -1 ∧ (x_cc m).1 = 0) ∧ (-1002) = r_ ∧ (a_S (a_c0 A_4) M7) ∧ (y_sm (ch_ob m 1 0) (ch_ob M7 1 0)) ∧ (M7 (0, 0, 0) 13 = -1) ∧ (∀ i_, M7 (3, 0, 0) i_ = (x_cc m).2 (3, 0, 0) i_) ∧ (∀ k_, M7 (14, 0, 1) k_ = m (14, 0, 1) k_) ∧ m_ = M7)) (A_4) m ⟨b11, b12, b13, (fun c_ M5 f0_ f1_ f2_ => (Or.inl ⟨M5, c_, rfl, f0_, f1_, f2_, rfl⟩)), (fun c_ M6 f0_ f1_ f2_ f3_ => (Or.inr (Or.inl ⟨M6, c_, rfl, f0_, f1_, f2_, f3_, rfl⟩))), (fun c_ M7 f0_ f1_ f2_ f3_ f4_ => (Or.inr (Or.inr ⟨M7, c_, rfl, f0_, f1_, f2_, f3_, f4_, rfl⟩)))⟩))
    rcases q10 with ⟨M5, c_, rfl, f0_, f1_, f2_, hm_⟩ | ⟨M6, c_, rfl, f0_, f1_, f2_, f3_, hm_⟩ | ⟨M7, c_, rfl, f0_, f1_, f2_, f3_, f4_, hm_⟩
    · replace h := h.1 c_ M5 f0_ f1_ f2_ m9 hm_
      exact ch_iret (ty := .int) d_l_runs_39 rfl rfl (show (k + 1) ≤ 80 by omega) h
    · replace h := h.2.1 c_ M6 f0_ f1_ f2_ f3_ m9 hm_
      exact ch_iret (ty := .int) d_l_runs_39 rfl rfl (show (k + 1) ≤ 80 by omega) h
    · replace h := h.2.2 c_ M7 f0_ f1_ f2_ f3_ f4_ m9 hm_
      exact ch_iret (ty := .int) d_l_runs_39 rfl rfl (show (k + 1) ≤ 80 by omega) h
  · replace h := h.2 c
    refine ch_aload_n (i := 0) d_l_runs_10 rfl rfl ?_
    refine ch_aload_n (i := 1) d_l_runs_11 rfl rfl ?_
    refine ch_iload_n (i := 2) d_l_runs_12 rfl rfl ?_
    have b17 := h.1
    replace h := h.2
    have b18 := h.1
    replace h := h.2
    refine ch_callT (as := [.inl (.int x2)]) d_l_runs_13 lk_l_126 mi_q_charAt me_q_charAt rfl rfl rfl ⟨Nat.le_of_ble_eq_true rfl, Nat.le_of_ble_eq_true rfl⟩ (Nat.le_of_ble_eq_true rfl) (ch_rk0 (b := 0) hk (Nat.le_of_ble_eq_true rfl) (Nat.le_of_ble_eq_true rfl)) (ch_mono (ch_Ki (fun r14 m15 q16 => ?_)) (s_q_charAt g (fun (r_ : Int32) (m_ : ch_M) => ((k_ch (ch_tb g j1 (Int32.toNatClampNeg x2))) = r_ ∧ m = m_)) (j1) (x2) m ⟨b17, b18, ⟨rfl, rfl⟩⟩))
    obtain ⟨rfl, rfl⟩ := q16
    replace h := h
    have b22 := h.1
    replace h := h.2
    refine ch_callSX (as := [.inr (0, 0, 0), .inl (.int (k_ch (ch_tb g j1 (Int32.toNatClampNeg x2))))]) d_l_runs_16 lk_l_129 ms_l_append rfl rfl ⟨Nat.le_of_ble_eq_true rfl, Nat.le_of_ble_eq_true rfl⟩ (Nat.le_of_ble_eq_true rfl) (ch_rk0 (b := 1) hk (Nat.le_of_ble_eq_true rfl) (Nat.le_of_ble_eq_true rfl)) (ch_mono (ch_Ki (fun r19 m20 q21 => ?_)) (s_l_append g (fun (r_ : Int32) (m_ : ch_M) => ((m (6, 0, 0) 1 < 60) ∧ (m (6, 0, 0) 1 + 1) = r_ ∧ m_ = ch_os m 6 0 (t_putB (ch_ob m 6 0) (k_ch (ch_tb g j1 (Int32.toNatClampNeg x2))))) ∨ ((¬ m (6, 0, 0) 1 < 60) ∧ (-1001) = r_ ∧ m = m_)) ((k_ch (ch_tb g j1 (Int32.toNatClampNeg x2)))) m ⟨b22, (fun c_ => (Or.inl ⟨c_, rfl, rfl⟩)), (fun c_ => (Or.inr ⟨c_, rfl, rfl⟩))⟩))
    rcases q21 with ⟨c_, rfl, hm_⟩ | ⟨c_, rfl, rfl⟩
    · replace h := h.1 c_ m20 hm_
      refine ch_iload_n (i := 2) d_l_runs_19 rfl rfl ?_
      refine ch_iconst (v := 1) d_l_runs_20 (by decide) ?_
      refine ch_iadd d_l_runs_21 ?_
      refine ch_icmp_eq (tgt := 29) d_l_runs_22 (by decide) (fun c => ?_) (fun c => ?_)
      · replace h := h.1 c
        refine ch_iinc (i := 2) (v := (x2 + 1)) d_l_runs_29 rfl rfl (Nat.le_of_ble_eq_true rfl) (ls' := [some (.inr (0, 0, 0)), some (.inr (12, j1, 0)), some (.inl (.int (x2 + 1)))]) rfl ?_
        refine ch_goto (tgt := 2) d_l_runs_32 (by decide) ?_
        exact h
      · replace h := h.2 c
        refine ch_sipush (v := (-9999)) d_l_runs_25 (by decide) ?_
        exact ch_iret (ty := .int) d_l_runs_28 rfl rfl (show (k + 1) ≤ 80 by omega) h
    · replace h := h.2 c_
      refine ch_iload_n (i := 2) d_l_runs_19 rfl rfl ?_
      refine ch_iconst (v := 1) d_l_runs_20 (by decide) ?_
      refine ch_iadd d_l_runs_21 ?_
      refine ch_icmp_eq (tgt := 29) d_l_runs_22 (by decide) (fun c => ?_) (fun c => ?_)
      · replace h := h.1 c
        refine ch_iinc (i := 2) (v := (x2 + 1)) d_l_runs_29 rfl rfl (Nat.le_of_ble_eq_true rfl) (ls' := [some (.inr (0, 0, 0)), some (.inr (12, j1, 0)), some (.inl (.int (x2 + 1)))]) rfl ?_
        refine ch_goto (tgt := 2) d_l_runs_32 (by decide) ?_
        exact h
      · replace h := h.2 c
        refine ch_sipush (v := (-9999)) d_l_runs_25 (by decide) ?_
        exact ch_iret (ty := .int) d_l_runs_28 rfl rfl (show (k + 1) ≤ 80 by omega) h
