theorem e_x_line (g : ch_G) (Q : ch_O → ch_M → Prop)  (m : ch_M) (h : ch_J g m_x_line (ch_rm m_x_line) (ch_E g m_x_line Q) 0 [some (.inr (0, 0, 0)), none] [] m 0) : ch_C g m_x_line [.inr (0, 0, 0)] m Q :=
  ch_enter mf_x_line (by intro v hv; simp only [List.mem_cons, List.not_mem_nil, or_false] at hv; rcases hv with rfl <;> rfl) (Nat.le_of_ble_eq_true rfl) h
set_option maxHeartbeats 1600000 in
theorem g_x_line_0 (g : ch_G) (Q : ch_O → ch_M → Prop)  (m : ch_M) (h : (∀ m1 : ch_M, m1 = ch_wr m (6, 1, 0) 1 0 → ch_J g m_x_line (ch_rm m_x_line) (ch_E g m_x_line Q) 10 [some (.inr (0, 0, 0)), some (.inl (.int 0))] [] m1 0)) : ch_J g m_x_line (ch_rm m_x_line) (ch_E g m_x_line Q) 0 [some (.inr (0, 0, 0)), none] [] m 0 := by
  refine ch_aload_n (i := 0) d_x_line_0 rfl rfl ?_
  refine ch_get (v := .inr (6, 1, 0)) d_x_line_1 fl_x_60 rfl ?_
  refine ch_iconst (v := 0) d_x_line_4 (by decide) ?_
  refine ch_put d_x_line_5 fp_x_203 rfl rfl rfl ?_
  generalize hmm1 : ch_wr m (6, 1, 0) 1 0 = m1
  replace h := h m1 hmm1.symm
  refine ch_iconst (v := 0) d_x_line_8 (by decide) ?_
  refine ch_istore_n (i := 1) d_x_line_9 rfl (Nat.le_of_ble_eq_true rfl) (ls' := [some (.inr (0, 0, 0)), some (.inl (.int 0))]) rfl ?_
  exact h
set_option maxHeartbeats 1600000 in
theorem g_x_line_10 (g : ch_G) (Q : ch_O → ch_M → Prop) (x1 : Int32) (m : ch_M) (h : ((12 ≤ x1 → Q (.inl (some (.inl (.int (m (6, 1, 0) 1))))) m) ∧ (¬ 12 ≤ x1 → (vp_in (m (6, 1, 0) 1) 61) ∧ ((∀ m2 : ch_M, m2 = ch_os m 6 1 (x_bB (ch_ob m 6 1)) → (vp_in x1 12) ∧ ((¬ (m2 (1, 0, 1) (Int32.toNatClampNeg x1)) = (-1) → (vp_in (m2 (6, 1, 0) 1) 61) ∧ ((∀ m7 : ch_M, m7 = ch_os m2 6 1 (x_pB (ch_ob m2 6 1) (m2 (1, 0, 1) (Int32.toNatClampNeg x1)) 47 (m2 (1, 0, 2) (Int32.toNatClampNeg x1))) → ch_J g m_x_line (ch_rm m_x_line) (ch_E g m_x_line Q) 10 [some (.inr (0, 0, 0)), some (.inl (.int (x1 + 1)))] [] m7 0))) ∧ ((m2 (1, 0, 1) (Int32.toNatClampNeg x1)) = (-1) → (vp_in (m2 (6, 1, 0) 1) 61) ∧ ((∀ m11 : ch_M, m11 = ch_os m2 6 1 (t_putB (ch_ob m2 6 1) 46) → ch_J g m_x_line (ch_rm m_x_line) (ch_E g m_x_line Q) 10 [some (.inr (0, 0, 0)), some (.inl (.int (x1 + 1)))] [] m11 0))))))))) : ch_J g m_x_line (ch_rm m_x_line) (ch_E g m_x_line Q) 10 [some (.inr (0, 0, 0)), some (.inl (.int x1))] [] m 0 := by
  refine ch_iload_n (i := 1) d_x_line_10 rfl rfl ?_
  refine ch_bipush (v := 12) d_x_line_11 (by decide) ?_
  refine ch_icmp_ge (tgt := 75) d_x_line_13 (by decide) (fun c => ?_) (fun c => ?_)
  · replace h := h.1 c
    refine ch_aload_n (i := 0) d_x_line_75 rfl rfl ?_
    refine ch_get (v := .inr (6, 1, 0)) d_x_line_76 fl_x_60 rfl ?_
    refine ch_get (v := .inl (.int (m (6, 1, 0) 1))) d_x_line_79 fl_x_203 rfl ?_
    exact ch_iret (ty := .int) d_x_line_82 rfl rfl (Nat.le_of_ble_eq_true rfl) h
  · replace h := h.2 c
    refine ch_aload_n (i := 0) d_x_line_16 rfl rfl ?_
    have b4 := h.1
    replace h := h.2
    refine ch_callV (as := []) d_x_line_17 lk_x_234 mi_x_putBlankBetween me_x_putBlankBetween rfl rfl rfl ⟨Nat.le_of_ble_eq_true rfl, Nat.le_of_ble_eq_true rfl⟩ (Nat.le_of_ble_eq_true rfl) ⟨Nat.le_of_ble_eq_true rfl, Nat.le_of_ble_eq_true rfl⟩ (ch_mono (ch_Kv (fun m2 q3 => ?_)) (s_x_putBlankBetween g (fun (m_ : ch_M) => (m_ = ch_os m 6 1 (x_bB (ch_ob m 6 1))))  m ⟨b4, rfl⟩))
    have hm_ := q3
    replace h := h m2 hm_
    refine ch_aload_n (i := 0) d_x_line_20 rfl rfl ?_
    refine ch_get (v := .inr (1, 0, 0)) d_x_line_21 fl_x_10 rfl ?_
    refine ch_get (v := .inr (1, 0, 1)) d_x_line_24 fl_x_103 rfl ?_
    refine ch_iload_n (i := 1) d_x_line_27 rfl rfl ?_
    have b5 := h.1
    replace h := h.2
    refine ch_iald (n := 12) d_x_line_28 (by decide) rfl b5 ?_
    refine ch_iconst (v := (-1)) d_x_line_29 (by decide) ?_
    refine ch_icmp_ne (tgt := 45) d_x_line_30 (by decide) (fun c => ?_) (fun c => ?_)
    · replace h := h.1 c
      refine ch_aload_n (i := 0) d_x_line_45 rfl rfl ?_
      refine ch_aload_n (i := 0) d_x_line_46 rfl rfl ?_
      refine ch_get (v := .inr (1, 0, 0)) d_x_line_47 fl_x_10 rfl ?_
      refine ch_get (v := .inr (1, 0, 1)) d_x_line_50 fl_x_103 rfl ?_
      refine ch_iload_n (i := 1) d_x_line_53 rfl rfl ?_
      refine ch_iald (n := 12) d_x_line_54 (by decide) rfl b5 ?_
      refine ch_bipush (v := 47) d_x_line_55 (by decide) ?_
      refine ch_aload_n (i := 0) d_x_line_57 rfl rfl ?_
      refine ch_get (v := .inr (1, 0, 0)) d_x_line_58 fl_x_10 rfl ?_
      refine ch_get (v := .inr (1, 0, 2)) d_x_line_61 fl_x_99 rfl ?_
      refine ch_iload_n (i := 1) d_x_line_64 rfl rfl ?_
      refine ch_iald (n := 12) d_x_line_65 (by decide) rfl b5 ?_
      have b9 := h.1
      replace h := h.2
      refine ch_callV (as := [.inl (.int (m2 (1, 0, 1) (Int32.toNatClampNeg x1))), .inl (.int 47), .inl (.int (m2 (1, 0, 2) (Int32.toNatClampNeg x1)))]) d_x_line_66 lk_x_237 mi_x_putPair me_x_putPair rfl rfl rfl ⟨Nat.le_of_ble_eq_true rfl, Nat.le_of_ble_eq_true rfl⟩ (Nat.le_of_ble_eq_true rfl) ⟨Nat.le_of_ble_eq_true rfl, Nat.le_of_ble_eq_true rfl⟩ (ch_mono (ch_Kv (fun m7 q8 => ?_)) (s_x_putPair g (fun (m_ : ch_M) => (m_ = ch_os m2 6 1 (x_pB (ch_ob m2 6 1) (m2 (1, 0, 1) (Int32.toNatClampNeg x1)) 47 (m2 (1, 0, 2) (Int32.toNatClampNeg x1))))) ((m2 (1, 0, 1) (Int32.toNatClampNeg x1))) (47) ((m2 (1, 0, 2) (Int32.toNatClampNeg x1))) m2 ⟨b9, rfl⟩))
      have hm_ := q8
      replace h := h m7 hm_
      refine ch_iinc (i := 1) (v := (x1 + 1)) d_x_line_69 rfl rfl (Nat.le_of_ble_eq_true rfl) (ls' := [some (.inr (0, 0, 0)), some (.inl (.int (x1 + 1)))]) rfl ?_
      refine ch_goto (tgt := 10) d_x_line_72 (by decide) ?_
      exact h
    · replace h := h.2 c
      refine ch_aload_n (i := 0) d_x_line_33 rfl rfl ?_
      refine ch_get (v := .inr (6, 1, 0)) d_x_line_34 fl_x_60 rfl ?_
      refine ch_bipush (v := 46) d_x_line_37 (by decide) ?_
      have b13 := h.1
      replace h := h.2
      refine ch_callV (as := [.inl (.int 46)]) d_x_line_39 lk_x_209 mi_t_put me_t_put rfl rfl rfl ⟨Nat.le_of_ble_eq_true rfl, Nat.le_of_ble_eq_true rfl⟩ (Nat.le_of_ble_eq_true rfl) ⟨Nat.le_of_ble_eq_true rfl, Nat.le_of_ble_eq_true rfl⟩ (ch_mono (ch_Kv (fun m11 q12 => ?_)) (s_t_put g (fun (m_ : ch_M) => (m_ = ch_os m2 6 1 (t_putB (ch_ob m2 6 1) 46))) (1) (46) m2 ⟨b13, rfl⟩))
      have hm_ := q12
      replace h := h m11 hm_
      refine ch_goto (tgt := 69) d_x_line_42 (by decide) ?_
      refine ch_iinc (i := 1) (v := (x1 + 1)) d_x_line_69 rfl rfl (Nat.le_of_ble_eq_true rfl) (ls' := [some (.inr (0, 0, 0)), some (.inl (.int (x1 + 1)))]) rfl ?_
      refine ch_goto (tgt := 10) d_x_line_72 (by decide) ?_
      exact h
theorem e_x_warrants (g : ch_G) (Q : ch_O → ch_M → Prop)  (m : ch_M) (h : ch_J g m_x_warrants (ch_rm m_x_warrants) (ch_E g m_x_warrants Q) 0 [some (.inr (0, 0, 0)), none, none] [] m 0) : ch_C g m_x_warrants [.inr (0, 0, 0)] m Q :=
  ch_enter mf_x_warrants (by intro v hv; simp only [List.mem_cons, List.not_mem_nil, or_false] at hv; rcases hv with rfl <;> rfl) (Nat.le_of_ble_eq_true rfl) h
set_option maxHeartbeats 1600000 in
theorem g_x_warrants_0 (g : ch_G) (Q : ch_O → ch_M → Prop)  (m : ch_M) (h : (∀ m1 : ch_M, m1 = ch_wr m (6, 1, 0) 1 0 → ch_J g m_x_warrants (ch_rm m_x_warrants) (ch_E g m_x_warrants Q) 10 [some (.inr (0, 0, 0)), some (.inl (.int 0)), none] [] m1 0)) : ch_J g m_x_warrants (ch_rm m_x_warrants) (ch_E g m_x_warrants Q) 0 [some (.inr (0, 0, 0)), none, none] [] m 0 := by
  refine ch_aload_n (i := 0) d_x_warrants_0 rfl rfl ?_
  refine ch_get (v := .inr (6, 1, 0)) d_x_warrants_1 fl_x_60 rfl ?_
  refine ch_iconst (v := 0) d_x_warrants_4 (by decide) ?_
  refine ch_put d_x_warrants_5 fp_x_203 rfl rfl rfl ?_
  generalize hmm1 : ch_wr m (6, 1, 0) 1 0 = m1
  replace h := h m1 hmm1.symm
  refine ch_iconst (v := 0) d_x_warrants_8 (by decide) ?_
  refine ch_istore_n (i := 1) d_x_warrants_9 rfl (Nat.le_of_ble_eq_true rfl) (ls' := [some (.inr (0, 0, 0)), some (.inl (.int 0)), none]) rfl ?_
  exact h
set_option maxHeartbeats 1600000 in
theorem g_x_warrants_10 (g : ch_G) (Q : ch_O → ch_M → Prop) (x1 : Int32) (o2 : Option ch_V) (m : ch_M) (h : (((m (1, 0, 0) 9) ≤ x1 → Q (.inl (some (.inl (.int (m (6, 1, 0) 1))))) m) ∧ (¬ (m (1, 0, 0) 9) ≤ x1 → (vp_in x1 5) ∧ (vp_in (m (6, 1, 0) 1) 61) ∧ ((∀ m3 : ch_M, m3 = ch_os m 6 1 (x_bB (ch_ob m 6 1)) → (vp_in (m (1, 0, 8) (Int32.toNatClampNeg x1)) 5) ∧ (vp_in (m3 (6, 1, 0) 1) 61) ∧ ((∀ m8 : ch_M, m8 = ch_os m3 6 1 (x_pB (ch_ob m3 6 1) (m (1, 0, 8) (Int32.toNatClampNeg x1)) 33 (m3 (1, 0, 5) (Int32.toNatClampNeg (m (1, 0, 8) (Int32.toNatClampNeg x1))))) → ch_J g m_x_warrants (ch_rm m_x_warrants) (ch_E g m_x_warrants Q) 10 [some (.inr (0, 0, 0)), some (.inl (.int (x1 + 1))), some (.inl (.int (m (1, 0, 8) (Int32.toNatClampNeg x1))))] [] m8 0))))))) : ch_J g m_x_warrants (ch_rm m_x_warrants) (ch_E g m_x_warrants Q) 10 [some (.inr (0, 0, 0)), some (.inl (.int x1)), o2] [] m 0 := by
  refine ch_iload_n (i := 1) d_x_warrants_10 rfl rfl ?_
  refine ch_aload_n (i := 0) d_x_warrants_11 rfl rfl ?_
  refine ch_get (v := .inr (1, 0, 0)) d_x_warrants_12 fl_x_10 rfl ?_
  refine ch_get (v := .inl (.int (m (1, 0, 0) 9))) d_x_warrants_15 fl_x_138 rfl ?_
  refine ch_icmp_ge (tgt := 57) d_x_warrants_18 (by decide) (fun c => ?_) (fun c => ?_)
  · replace h := h.1 c
    refine ch_aload_n (i := 0) d_x_warrants_57 rfl rfl ?_
    refine ch_get (v := .inr (6, 1, 0)) d_x_warrants_58 fl_x_60 rfl ?_
    refine ch_get (v := .inl (.int (m (6, 1, 0) 1))) d_x_warrants_61 fl_x_203 rfl ?_
    exact ch_iret (ty := .int) d_x_warrants_64 rfl rfl (Nat.le_of_ble_eq_true rfl) h
  · replace h := h.2 c
    refine ch_aload_n (i := 0) d_x_warrants_21 rfl rfl ?_
    refine ch_get (v := .inr (1, 0, 0)) d_x_warrants_22 fl_x_10 rfl ?_
    refine ch_get (v := .inr (1, 0, 8)) d_x_warrants_25 fl_x_144 rfl ?_
    refine ch_iload_n (i := 1) d_x_warrants_28 rfl rfl ?_
    have b1 := h.1
    replace h := h.2
    refine ch_iald (n := 5) d_x_warrants_29 (by decide) rfl b1 ?_
    refine ch_istore_n (i := 2) d_x_warrants_30 rfl (Nat.le_of_ble_eq_true rfl) (ls' := [some (.inr (0, 0, 0)), some (.inl (.int x1)), some (.inl (.int (m (1, 0, 8) (Int32.toNatClampNeg x1))))]) rfl ?_
    refine ch_aload_n (i := 0) d_x_warrants_31 rfl rfl ?_
    have b5 := h.1
    replace h := h.2
    refine ch_callV (as := []) d_x_warrants_32 lk_x_234 mi_x_putBlankBetween me_x_putBlankBetween rfl rfl rfl ⟨Nat.le_of_ble_eq_true rfl, Nat.le_of_ble_eq_true rfl⟩ (Nat.le_of_ble_eq_true rfl) ⟨Nat.le_of_ble_eq_true rfl, Nat.le_of_ble_eq_true rfl⟩ (ch_mono (ch_Kv (fun m3 q4 => ?_)) (s_x_putBlankBetween g (fun (m_ : ch_M) => (m_ = ch_os m 6 1 (x_bB (ch_ob m 6 1))))  m ⟨b5, rfl⟩))
    have hm_ := q4
    replace h := h m3 hm_
    refine ch_aload_n (i := 0) d_x_warrants_35 rfl rfl ?_
    refine ch_iload_n (i := 2) d_x_warrants_36 rfl rfl ?_
    refine ch_bipush (v := 33) d_x_warrants_37 (by decide) ?_
    refine ch_aload_n (i := 0) d_x_warrants_39 rfl rfl ?_
    refine ch_get (v := .inr (1, 0, 0)) d_x_warrants_40 fl_x_10 rfl ?_
    refine ch_get (v := .inr (1, 0, 5)) d_x_warrants_43 fl_x_115 rfl ?_
    refine ch_iload_n (i := 2) d_x_warrants_46 rfl rfl ?_
    have b6 := h.1
    replace h := h.2
    refine ch_iald (n := 5) d_x_warrants_47 (by decide) rfl b6 ?_
    have b10 := h.1
    replace h := h.2
    refine ch_callV (as := [.inl (.int (m (1, 0, 8) (Int32.toNatClampNeg x1))), .inl (.int 33), .inl (.int (m3 (1, 0, 5) (Int32.toNatClampNeg (m (1, 0, 8) (Int32.toNatClampNeg x1)))))]) d_x_warrants_48 lk_x_237 mi_x_putPair me_x_putPair rfl rfl rfl ⟨Nat.le_of_ble_eq_true rfl, Nat.le_of_ble_eq_true rfl⟩ (Nat.le_of_ble_eq_true rfl) ⟨Nat.le_of_ble_eq_true rfl, Nat.le_of_ble_eq_true rfl⟩ (ch_mono (ch_Kv (fun m8 q9 => ?_)) (s_x_putPair g (fun (m_ : ch_M) => (m_ = ch_os m3 6 1 (x_pB (ch_ob m3 6 1) (m (1, 0, 8) (Int32.toNatClampNeg x1)) 33 (m3 (1, 0, 5) (Int32.toNatClampNeg (m (1, 0, 8) (Int32.toNatClampNeg x1))))))) ((m (1, 0, 8) (Int32.toNatClampNeg x1))) (33) ((m3 (1, 0, 5) (Int32.toNatClampNeg (m (1, 0, 8) (Int32.toNatClampNeg x1))))) m3 ⟨b10, rfl⟩))
    have hm_ := q9
    replace h := h m8 hm_
    refine ch_iinc (i := 1) (v := (x1 + 1)) d_x_warrants_51 rfl rfl (Nat.le_of_ble_eq_true rfl) (ls' := [some (.inr (0, 0, 0)), some (.inl (.int (x1 + 1))), some (.inl (.int (m (1, 0, 8) (Int32.toNatClampNeg x1))))]) rfl ?_
    refine ch_goto (tgt := 10) d_x_warrants_54 (by decide) ?_
    exact h
theorem e_x_ranked (g : ch_G) (Q : ch_O → ch_M → Prop) (p1 : Int32) (p2 : Int32) (m : ch_M) (h : ch_J g m_x_ranked (ch_rm m_x_ranked) (ch_E g m_x_ranked Q) 0 [some (.inr (0, 0, 0)), some (.inl (.int p1)), some (.inl (.int p2)), none, none] [] m 0) : ch_C g m_x_ranked [.inr (0, 0, 0), .inl (.int p1), .inl (.int p2)] m Q :=
  ch_enter mf_x_ranked (by intro v hv; simp only [List.mem_cons, List.not_mem_nil, or_false] at hv; rcases hv with rfl | rfl | rfl <;> rfl) (Nat.le_of_ble_eq_true rfl) h
set_option maxHeartbeats 1600000 in
theorem g_x_ranked_0 (g : ch_G) (Q : ch_O → ch_M → Prop) (p1 : Int32) (p2 : Int32) (m : ch_M) (h : ((p1 < 0 → Q (.inr 2) m) ∧ (¬ p1 < 0 → ((p1 ≤ 3 → ((p2 < 0 → Q (.inr 3) m) ∧ (¬ p2 < 0 → ((p2 < (m (1, 0, 0) 8) → ch_J g m_x_ranked (ch_rm m_x_ranked) (ch_E g m_x_ranked Q) 45 [some (.inr (0, 0, 0)), some (.inl (.int p1)), some (.inl (.int p2)), some (.inl (.int (-1))), some (.inl (.int 0))] [] m 0) ∧ (¬ p2 < (m (1, 0, 0) 8) → Q (.inr 3) m))))) ∧ (¬ p1 ≤ 3 → Q (.inr 2) m))))) : ch_J g m_x_ranked (ch_rm m_x_ranked) (ch_E g m_x_ranked Q) 0 [some (.inr (0, 0, 0)), some (.inl (.int p1)), some (.inl (.int p2)), none, none] [] m 0 := by
  refine ch_iload_n (i := 1) d_x_ranked_0 rfl rfl ?_
  refine ch_if_lt (tgt := 9) d_x_ranked_1 (by decide) (fun c => ?_) (fun c => ?_)
  · replace h := h.1 c
    exact ch_throw d_x_ranked_9 d_x_ranked_12 d_x_ranked_13 d_x_ranked_16 tw_x_131 (by decide) rfl (Nat.le_of_ble_eq_true rfl) (Nat.le_of_ble_eq_true rfl) (Nat.le_of_ble_eq_true rfl) h
  · replace h := h.2 c
    refine ch_iload_n (i := 1) d_x_ranked_4 rfl rfl ?_
    refine ch_iconst (v := 3) d_x_ranked_5 (by decide) ?_
    refine ch_icmp_le (tgt := 17) d_x_ranked_6 (by decide) (fun c => ?_) (fun c => ?_)
    · replace h := h.1 c
      refine ch_iload_n (i := 2) d_x_ranked_17 rfl rfl ?_
      refine ch_if_lt (tgt := 32) d_x_ranked_18 (by decide) (fun c => ?_) (fun c => ?_)
      · replace h := h.1 c
        exact ch_throw d_x_ranked_32 d_x_ranked_35 d_x_ranked_36 d_x_ranked_39 tw_x_141 (by decide) rfl (Nat.le_of_ble_eq_true rfl) (Nat.le_of_ble_eq_true rfl) (Nat.le_of_ble_eq_true rfl) h
      · replace h := h.2 c
        refine ch_iload_n (i := 2) d_x_ranked_21 rfl rfl ?_
        refine ch_aload_n (i := 0) d_x_ranked_22 rfl rfl ?_
        refine ch_get (v := .inr (1, 0, 0)) d_x_ranked_23 fl_x_10 rfl ?_
        refine ch_get (v := .inl (.int (m (1, 0, 0) 8))) d_x_ranked_26 fl_x_184 rfl ?_
        refine ch_icmp_lt (tgt := 40) d_x_ranked_29 (by decide) (fun c => ?_) (fun c => ?_)
        · replace h := h.1 c
          refine ch_iconst (v := (-1)) d_x_ranked_40 (by decide) ?_
          refine ch_istore_n (i := 3) d_x_ranked_41 rfl (Nat.le_of_ble_eq_true rfl) (ls' := [some (.inr (0, 0, 0)), some (.inl (.int p1)), some (.inl (.int p2)), some (.inl (.int (-1))), none]) rfl ?_
          refine ch_iconst (v := 0) d_x_ranked_42 (by decide) ?_
          refine ch_istore (i := 4) d_x_ranked_43 (Nat.le_of_ble_eq_true rfl) (ls' := [some (.inr (0, 0, 0)), some (.inl (.int p1)), some (.inl (.int p2)), some (.inl (.int (-1))), some (.inl (.int 0))]) rfl ?_
          exact h
        · replace h := h.2 c
          exact ch_throw d_x_ranked_32 d_x_ranked_35 d_x_ranked_36 d_x_ranked_39 tw_x_141 (by decide) rfl (Nat.le_of_ble_eq_true rfl) (Nat.le_of_ble_eq_true rfl) (Nat.le_of_ble_eq_true rfl) h
    · replace h := h.2 c
      exact ch_throw d_x_ranked_9 d_x_ranked_12 d_x_ranked_13 d_x_ranked_16 tw_x_131 (by decide) rfl (Nat.le_of_ble_eq_true rfl) (Nat.le_of_ble_eq_true rfl) (Nat.le_of_ble_eq_true rfl) h
set_option maxHeartbeats 1600000 in
theorem g_x_ranked_45 (g : ch_G) (Q : ch_O → ch_M → Prop) (x1 : Int32) (x2 : Int32) (x3 : Int32) (x4 : Int32) (m : ch_M) (h : (((m (1, 0, 0) 8) ≤ x4 → Q (.inl (some (.inl (.int x3)))) m) ∧ (¬ (m (1, 0, 0) 8) ≤ x4 → (vp_in x4 5) ∧ (vp_in (m (1, 0, 0) 8) 6) ∧ (((¬ (y_ca (ch_ob m 1 0) x4 x1 (Int32.toNatClampNeg (m (1, 0, 0) 8))) = x2 → ch_J g m_x_ranked (ch_rm m_x_ranked) (ch_E g m_x_ranked Q) 45 [some (.inr (0, 0, 0)), some (.inl (.int x1)), some (.inl (.int x2)), some (.inl (.int x3)), some (.inl (.int (x4 + 1)))] [] m 0) ∧ ((y_ca (ch_ob m 1 0) x4 x1 (Int32.toNatClampNeg (m (1, 0, 0) 8))) = x2 → ch_J g m_x_ranked (ch_rm m_x_ranked) (ch_E g m_x_ranked Q) 45 [some (.inr (0, 0, 0)), some (.inl (.int x1)), some (.inl (.int x2)), some (.inl (.int x4)), some (.inl (.int (x4 + 1)))] [] m 0)))))) : ch_J g m_x_ranked (ch_rm m_x_ranked) (ch_E g m_x_ranked Q) 45 [some (.inr (0, 0, 0)), some (.inl (.int x1)), some (.inl (.int x2)), some (.inl (.int x3)), some (.inl (.int x4))] [] m 0 := by
  refine ch_iload d_x_ranked_45 rfl ?_
  refine ch_aload_n (i := 0) d_x_ranked_47 rfl rfl ?_
  refine ch_get (v := .inr (1, 0, 0)) d_x_ranked_48 fl_x_10 rfl ?_
  refine ch_get (v := .inl (.int (m (1, 0, 0) 8))) d_x_ranked_51 fl_x_184 rfl ?_
  refine ch_icmp_ge (tgt := 80) d_x_ranked_54 (by decide) (fun c => ?_) (fun c => ?_)
  · replace h := h.1 c
    refine ch_iload_n (i := 3) d_x_ranked_80 rfl rfl ?_
    exact ch_iret (ty := .int) d_x_ranked_81 rfl rfl (Nat.le_of_ble_eq_true rfl) h
  · replace h := h.2 c
    refine ch_aload_n (i := 0) d_x_ranked_57 rfl rfl ?_
    refine ch_get (v := .inr (1, 0, 0)) d_x_ranked_58 fl_x_10 rfl ?_
    refine ch_iload d_x_ranked_61 rfl ?_
    refine ch_iload_n (i := 1) d_x_ranked_63 rfl rfl ?_
    have b4 := h.1
    replace h := h.2
    have b5 := h.1
    replace h := h.2
    refine ch_callV (as := [.inl (.int x4), .inl (.int x1)]) d_x_ranked_64 lk_x_187 mi_y_countAhead me_y_countAhead rfl rfl rfl ⟨Nat.le_of_ble_eq_true rfl, Nat.le_of_ble_eq_true rfl⟩ (Nat.le_of_ble_eq_true rfl) ⟨Nat.le_of_ble_eq_true rfl, Nat.le_of_ble_eq_true rfl⟩ (ch_mono (ch_Ki (fun r1 m2 q3 => ?_)) (s_y_countAhead g (fun (r_ : Int32) (m_ : ch_M) => ((y_ca (ch_ob m 1 0) x4 x1 (Int32.toNatClampNeg (m (1, 0, 0) 8))) = r_ ∧ m = m_)) (0) (x4) (x1) m ⟨b4, b5, ⟨rfl, rfl⟩⟩))
    obtain ⟨rfl, rfl⟩ := q3
    replace h := h
    refine ch_iload_n (i := 2) d_x_ranked_67 rfl rfl ?_
    refine ch_icmp_ne (tgt := 74) d_x_ranked_68 (by decide) (fun c => ?_) (fun c => ?_)
    · replace h := h.1 c
      refine ch_iinc (i := 4) (v := (x4 + 1)) d_x_ranked_74 rfl rfl (Nat.le_of_ble_eq_true rfl) (ls' := [some (.inr (0, 0, 0)), some (.inl (.int x1)), some (.inl (.int x2)), some (.inl (.int x3)), some (.inl (.int (x4 + 1)))]) rfl ?_
      refine ch_goto (tgt := 45) d_x_ranked_77 (by decide) ?_
      exact h
    · replace h := h.2 c
      refine ch_iload d_x_ranked_71 rfl ?_
      refine ch_istore_n (i := 3) d_x_ranked_73 rfl (Nat.le_of_ble_eq_true rfl) (ls' := [some (.inr (0, 0, 0)), some (.inl (.int x1)), some (.inl (.int x2)), some (.inl (.int x4)), some (.inl (.int x4))]) rfl ?_
      refine ch_iinc (i := 4) (v := (x4 + 1)) d_x_ranked_74 rfl rfl (Nat.le_of_ble_eq_true rfl) (ls' := [some (.inr (0, 0, 0)), some (.inl (.int x1)), some (.inl (.int x2)), some (.inl (.int x4)), some (.inl (.int (x4 + 1)))]) rfl ?_
      refine ch_goto (tgt := 45) d_x_ranked_77 (by decide) ?_
      exact h
