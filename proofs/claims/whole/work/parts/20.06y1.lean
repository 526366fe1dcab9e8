theorem e_y_hopBy (g : ch_G) (Q : ch_O → ch_M → Prop) (j : Nat) (p1 : Int32) (j2 : Nat) (m : ch_M) (h : ch_J g m_y_hopBy (ch_rm m_y_hopBy) (ch_E g m_y_hopBy Q) 0 [some (.inr (1, j, 0)), some (.inl (.int p1)), some (.inr (5, j2, 0)), none, none, none] [] m 0) : ch_C g m_y_hopBy [.inr (1, j, 0), .inl (.int p1), .inr (5, j2, 0)] m Q :=
  ch_enter mf_y_hopBy (by intro v hv; simp only [List.mem_cons, List.not_mem_nil, or_false] at hv; rcases hv with rfl | rfl | rfl <;> rfl) (Nat.le_of_ble_eq_true rfl) h
set_option maxHeartbeats 1600000 in
theorem g_y_hopBy_0 (g : ch_G) (Q : ch_O → ch_M → Prop) (j : Nat) (p1 : Int32) (j2 : Nat) (m : ch_M) (h : (ch_C g m_y_countTreads [.inr (1, j, 0), .inl (.int p1), .inr (5, j2, 0)] m (ch_oi (fun (r1 : Int32) (m2 : ch_M) => ch_J g m_y_hopBy (ch_rm m_y_hopBy) (ch_E g m_y_hopBy Q) 13 [some (.inr (1, j, 0)), some (.inl (.int p1)), some (.inr (5, j2, 0)), some (.inl (.int r1)), some (.inl (.int (-1))), some (.inl (.int 0))] [] m2 0)))) : ch_J g m_y_hopBy (ch_rm m_y_hopBy) (ch_E g m_y_hopBy Q) 0 [some (.inr (1, j, 0)), some (.inl (.int p1)), some (.inr (5, j2, 0)), none, none, none] [] m 0 := by
  refine ch_aload_n (i := 0) d_y_hopBy_0 rfl rfl ?_
  refine ch_iload_n (i := 1) d_y_hopBy_1 rfl rfl ?_
  refine ch_aload_n (i := 2) d_y_hopBy_2 rfl rfl ?_
  refine ch_callV (as := [.inl (.int p1), .inr (5, j2, 0)]) d_y_hopBy_3 lk_y_122 mi_y_countTreads me_y_countTreads rfl rfl rfl ⟨Nat.le_of_ble_eq_true rfl, Nat.le_of_ble_eq_true rfl⟩ (Nat.le_of_ble_eq_true rfl) ⟨Nat.le_of_ble_eq_true rfl, Nat.le_of_ble_eq_true rfl⟩ (ch_mono (ch_Ki (fun r1 m2 h => ?_)) h)
  refine ch_istore_n (i := 3) d_y_hopBy_6 rfl (Nat.le_of_ble_eq_true rfl) (ls' := [some (.inr (1, j, 0)), some (.inl (.int p1)), some (.inr (5, j2, 0)), some (.inl (.int r1)), none, none]) rfl ?_
  refine ch_iconst (v := (-1)) d_y_hopBy_7 (by decide) ?_
  refine ch_istore (i := 4) d_y_hopBy_8 (Nat.le_of_ble_eq_true rfl) (ls' := [some (.inr (1, j, 0)), some (.inl (.int p1)), some (.inr (5, j2, 0)), some (.inl (.int r1)), some (.inl (.int (-1))), none]) rfl ?_
  refine ch_iconst (v := 0) d_y_hopBy_10 (by decide) ?_
  refine ch_istore (i := 5) d_y_hopBy_11 (Nat.le_of_ble_eq_true rfl) (ls' := [some (.inr (1, j, 0)), some (.inl (.int p1)), some (.inr (5, j2, 0)), some (.inl (.int r1)), some (.inl (.int (-1))), some (.inl (.int 0))]) rfl ?_
  exact h
set_option maxHeartbeats 1600000 in
theorem g_y_hopBy_13 (g : ch_G) (Q : ch_O → ch_M → Prop) (j : Nat) (x1 : Int32) (j2 : Nat) (x3 : Int32) (x4 : Int32) (x5 : Int32) (m : ch_M) (h : (((m (5, j2, 0) 1) ≤ x5 → (vp_in x1 5) ∧ (∀ m2 : ch_M, m2 = ch_wr m (1, j, 4) (Int32.toNatClampNeg x1) ((m (1, j, 4) (Int32.toNatClampNeg x1)) + x3) → (∀ m3 : ch_M, m3 = ch_wr m2 (1, j, 0) 12 ((m2 (1, j, 0) 12) + x3) → (∀ m4 : ch_M, m4 = ch_wr m3 (1, j, 6) (Int32.toNatClampNeg x1) ((m3 (1, j, 6) (Int32.toNatClampNeg x1)) + 1) → Q (.inl (some (.inl (.int x3)))) m4)))) ∧ (¬ (m (5, j2, 0) 1) ≤ x5 → (vp_in x5 12) ∧ (ch_C g m_y_isLineFor [.inr (1, j, 0), .inl (.int x1), .inl (.int (x4 + (m (5, j2, 1) (Int32.toNatClampNeg x5))))] m (ch_oi (fun (r6 : Int32) (m7 : ch_M) => ((r6 = 0 → ch_J g m_y_hopBy (ch_rm m_y_hopBy) (ch_E g m_y_hopBy Q) 13 [some (.inr (1, j, 0)), some (.inl (.int x1)), some (.inr (5, j2, 0)), some (.inl (.int x3)), some (.inl (.int (x4 + (m (5, j2, 1) (Int32.toNatClampNeg x5))))), some (.inl (.int (x5 + 1)))] [] m7 0) ∧ (¬ r6 = 0 → (vp_in (x4 + (m (5, j2, 1) (Int32.toNatClampNeg x5))) 12) ∧ (vp_in (m7 (1, j, 1) (Int32.toNatClampNeg (x4 + (m (5, j2, 1) (Int32.toNatClampNeg x5))))) 5) ∧ (∀ m10 : ch_M, m10 = ch_wr m7 (1, j, 7) (Int32.toNatClampNeg (m7 (1, j, 1) (Int32.toNatClampNeg (x4 + (m (5, j2, 1) (Int32.toNatClampNeg x5)))))) ((m7 (1, j, 7) (Int32.toNatClampNeg (m7 (1, j, 1) (Int32.toNatClampNeg (x4 + (m (5, j2, 1) (Int32.toNatClampNeg x5))))))) + 1) → (ch_C g m_y_takeChalk [.inr (1, j, 0), .inl (.int (x4 + (m (5, j2, 1) (Int32.toNatClampNeg x5)))), .inl (.int 1)] m10 (ch_oi (fun (r11 : Int32) (m12 : ch_M) => ch_J g m_y_hopBy (ch_rm m_y_hopBy) (ch_E g m_y_hopBy Q) 13 [some (.inr (1, j, 0)), some (.inl (.int x1)), some (.inr (5, j2, 0)), some (.inl (.int x3)), some (.inl (.int (x4 + (m (5, j2, 1) (Int32.toNatClampNeg x5))))), some (.inl (.int (x5 + 1)))] [] m12 0)))))))))))) : ch_J g m_y_hopBy (ch_rm m_y_hopBy) (ch_E g m_y_hopBy Q) 13 [some (.inr (1, j, 0)), some (.inl (.int x1)), some (.inr (5, j2, 0)), some (.inl (.int x3)), some (.inl (.int x4)), some (.inl (.int x5))] [] m 0 := by
  refine ch_iload d_y_hopBy_13 rfl ?_
  refine ch_aload_n (i := 2) d_y_hopBy_15 rfl rfl ?_
  refine ch_get (v := .inl (.int (m (5, j2, 0) 1))) d_y_hopBy_16 fl_y_125 rfl ?_
  refine ch_icmp_ge (tgt := 74) d_y_hopBy_19 (by decide) (fun c => ?_) (fun c => ?_)
  · replace h := h.1 c
    refine ch_aload_n (i := 0) d_y_hopBy_74 rfl rfl ?_
    refine ch_get (v := .inr (1, j, 4)) d_y_hopBy_75 fl_y_21 rfl ?_
    refine ch_iload_n (i := 1) d_y_hopBy_78 rfl rfl ?_
    refine ch_dup2 d_y_hopBy_79 rfl rfl ?_
    have b1 := h.1
    replace h := h.2
    refine ch_iald (n := 5) d_y_hopBy_80 (by decide) rfl b1 ?_
    refine ch_iload_n (i := 3) d_y_hopBy_81 rfl rfl ?_
    refine ch_iadd d_y_hopBy_82 ?_
    refine ch_iast (n := 5) d_y_hopBy_83 (by decide) rfl b1 ?_
    show ch_J g _ _ _ _ _ _ (ch_wr m (1, j, 4) (Int32.toNatClampNeg x1) ((m (1, j, 4) (Int32.toNatClampNeg x1)) + x3)) _
    generalize hmm2 : ch_wr m (1, j, 4) (Int32.toNatClampNeg x1) ((m (1, j, 4) (Int32.toNatClampNeg x1)) + x3) = m2
    replace h := h m2 hmm2.symm
    refine ch_aload_n (i := 0) d_y_hopBy_84 rfl rfl ?_
    refine ch_dup d_y_hopBy_85 rfl ?_
    refine ch_get (v := .inl (.int (m2 (1, j, 0) 12))) d_y_hopBy_86 fl_y_55 rfl ?_
    refine ch_iload_n (i := 3) d_y_hopBy_89 rfl rfl ?_
    refine ch_iadd d_y_hopBy_90 ?_
    refine ch_put d_y_hopBy_91 fp_y_55 rfl rfl rfl ?_
    generalize hmm3 : ch_wr m2 (1, j, 0) 12 ((m2 (1, j, 0) 12) + x3) = m3
    replace h := h m3 hmm3.symm
    refine ch_aload_n (i := 0) d_y_hopBy_94 rfl rfl ?_
    refine ch_get (v := .inr (1, j, 6)) d_y_hopBy_95 fl_y_27 rfl ?_
    refine ch_iload_n (i := 1) d_y_hopBy_98 rfl rfl ?_
    refine ch_dup2 d_y_hopBy_99 rfl rfl ?_
    refine ch_iald (n := 5) d_y_hopBy_100 (by decide) rfl b1 ?_
    refine ch_iconst (v := 1) d_y_hopBy_101 (by decide) ?_
    refine ch_iadd d_y_hopBy_102 ?_
    refine ch_iast (n := 5) d_y_hopBy_103 (by decide) rfl b1 ?_
    show ch_J g _ _ _ _ _ _ (ch_wr m3 (1, j, 6) (Int32.toNatClampNeg x1) ((m3 (1, j, 6) (Int32.toNatClampNeg x1)) + 1)) _
    generalize hmm4 : ch_wr m3 (1, j, 6) (Int32.toNatClampNeg x1) ((m3 (1, j, 6) (Int32.toNatClampNeg x1)) + 1) = m4
    replace h := h m4 hmm4.symm
    refine ch_iload_n (i := 3) d_y_hopBy_104 rfl rfl ?_
    exact ch_iret (ty := .int) d_y_hopBy_105 rfl rfl (Nat.le_of_ble_eq_true rfl) h
  · replace h := h.2 c
    refine ch_iload d_y_hopBy_22 rfl ?_
    refine ch_aload_n (i := 2) d_y_hopBy_24 rfl rfl ?_
    refine ch_get (v := .inr (5, j2, 1)) d_y_hopBy_25 fl_y_130 rfl ?_
    refine ch_iload d_y_hopBy_28 rfl ?_
    have b5 := h.1
    replace h := h.2
    refine ch_iald (n := 12) d_y_hopBy_30 (by decide) rfl b5 ?_
    refine ch_iadd d_y_hopBy_31 ?_
    refine ch_istore (i := 4) d_y_hopBy_32 (Nat.le_of_ble_eq_true rfl) (ls' := [some (.inr (1, j, 0)), some (.inl (.int x1)), some (.inr (5, j2, 0)), some (.inl (.int x3)), some (.inl (.int (x4 + (m (5, j2, 1) (Int32.toNatClampNeg x5))))), some (.inl (.int x5))]) rfl ?_
    refine ch_aload_n (i := 0) d_y_hopBy_34 rfl rfl ?_
    refine ch_iload_n (i := 1) d_y_hopBy_35 rfl rfl ?_
    refine ch_iload d_y_hopBy_36 rfl ?_
    refine ch_callV (as := [.inl (.int x1), .inl (.int (x4 + (m (5, j2, 1) (Int32.toNatClampNeg x5))))]) d_y_hopBy_38 lk_y_133 mi_y_isLineFor me_y_isLineFor rfl rfl rfl ⟨Nat.le_of_ble_eq_true rfl, Nat.le_of_ble_eq_true rfl⟩ (Nat.le_of_ble_eq_true rfl) ⟨Nat.le_of_ble_eq_true rfl, Nat.le_of_ble_eq_true rfl⟩ (ch_mono (ch_Ki (fun r6 m7 h => ?_)) h)
    refine ch_if_eq (tgt := 68) d_y_hopBy_41 (by decide) (fun c => ?_) (fun c => ?_)
    · replace h := h.1 c
      refine ch_iinc (i := 5) (v := (x5 + 1)) d_y_hopBy_68 rfl rfl (Nat.le_of_ble_eq_true rfl) (ls' := [some (.inr (1, j, 0)), some (.inl (.int x1)), some (.inr (5, j2, 0)), some (.inl (.int x3)), some (.inl (.int (x4 + (m (5, j2, 1) (Int32.toNatClampNeg x5))))), some (.inl (.int (x5 + 1)))]) rfl ?_
      refine ch_goto (tgt := 13) d_y_hopBy_71 (by decide) ?_
      exact h
    · replace h := h.2 c
      refine ch_aload_n (i := 0) d_y_hopBy_44 rfl rfl ?_
      refine ch_get (v := .inr (1, j, 7)) d_y_hopBy_45 fl_y_30 rfl ?_
      refine ch_aload_n (i := 0) d_y_hopBy_48 rfl rfl ?_
      refine ch_get (v := .inr (1, j, 1)) d_y_hopBy_49 fl_y_9 rfl ?_
      refine ch_iload d_y_hopBy_52 rfl ?_
      have b8 := h.1
      replace h := h.2
      refine ch_iald (n := 12) d_y_hopBy_54 (by decide) rfl b8 ?_
      refine ch_dup2 d_y_hopBy_55 rfl rfl ?_
      have b9 := h.1
      replace h := h.2
      refine ch_iald (n := 5) d_y_hopBy_56 (by decide) rfl b9 ?_
      refine ch_iconst (v := 1) d_y_hopBy_57 (by decide) ?_
      refine ch_iadd d_y_hopBy_58 ?_
      refine ch_iast (n := 5) d_y_hopBy_59 (by decide) rfl b9 ?_
      show ch_J g _ _ _ _ _ _ (ch_wr m7 (1, j, 7) (Int32.toNatClampNeg (m7 (1, j, 1) (Int32.toNatClampNeg (x4 + (m (5, j2, 1) (Int32.toNatClampNeg x5)))))) ((m7 (1, j, 7) (Int32.toNatClampNeg (m7 (1, j, 1) (Int32.toNatClampNeg (x4 + (m (5, j2, 1) (Int32.toNatClampNeg x5))))))) + 1)) _
      generalize hmm10 : ch_wr m7 (1, j, 7) (Int32.toNatClampNeg (m7 (1, j, 1) (Int32.toNatClampNeg (x4 + (m (5, j2, 1) (Int32.toNatClampNeg x5)))))) ((m7 (1, j, 7) (Int32.toNatClampNeg (m7 (1, j, 1) (Int32.toNatClampNeg (x4 + (m (5, j2, 1) (Int32.toNatClampNeg x5))))))) + 1) = m10
      replace h := h m10 hmm10.symm
      refine ch_aload_n (i := 0) d_y_hopBy_60 rfl rfl ?_
      refine ch_iload d_y_hopBy_61 rfl ?_
      refine ch_iconst (v := 1) d_y_hopBy_63 (by decide) ?_
      refine ch_callV (as := [.inl (.int (x4 + (m (5, j2, 1) (Int32.toNatClampNeg x5)))), .inl (.int 1)]) d_y_hopBy_64 lk_y_137 mi_y_takeChalk me_y_takeChalk rfl rfl rfl ⟨Nat.le_of_ble_eq_true rfl, Nat.le_of_ble_eq_true rfl⟩ (Nat.le_of_ble_eq_true rfl) ⟨Nat.le_of_ble_eq_true rfl, Nat.le_of_ble_eq_true rfl⟩ (ch_mono (ch_Ki (fun r11 m12 h => ?_)) h)
      refine ch_pop d_y_hopBy_67 rfl ?_
      refine ch_iinc (i := 5) (v := (x5 + 1)) d_y_hopBy_68 rfl rfl (Nat.le_of_ble_eq_true rfl) (ls' := [some (.inr (1, j, 0)), some (.inl (.int x1)), some (.inr (5, j2, 0)), some (.inl (.int x3)), some (.inl (.int (x4 + (m (5, j2, 1) (Int32.toNatClampNeg x5))))), some (.inl (.int (x5 + 1)))]) rfl ?_
      refine ch_goto (tgt := 13) d_y_hopBy_71 (by decide) ?_
      exact h
theorem e_y_writeAgainst (g : ch_G) (Q : ch_O → ch_M → Prop) (j : Nat) (p1 : Int32) (m : ch_M) (h : ch_J g m_y_writeAgainst (ch_rm m_y_writeAgainst) (ch_E g m_y_writeAgainst Q) 0 [some (.inr (1, j, 0)), some (.inl (.int p1))] [] m 0) : ch_C g m_y_writeAgainst [.inr (1, j, 0), .inl (.int p1)] m Q :=
  ch_enter mf_y_writeAgainst (by intro v hv; simp only [List.mem_cons, List.not_mem_nil, or_false] at hv; rcases hv with rfl | rfl <;> rfl) (Nat.le_of_ble_eq_true rfl) h
set_option maxHeartbeats 1600000 in
theorem g_y_writeAgainst_0 (g : ch_G) (Q : ch_O → ch_M → Prop) (j : Nat) (p1 : Int32) (m : ch_M) (h : (vp_in p1 5) ∧ (∀ m2 : ch_M, m2 = ch_wr m (1, j, 5) (Int32.toNatClampNeg p1) (if 9 < (m (1, j, 4) (Int32.toNatClampNeg p1)) then 9 else (m (1, j, 4) (Int32.toNatClampNeg p1))) → (∀ m3 : ch_M, m3 = ch_wr m2 (1, j, 4) (Int32.toNatClampNeg p1) 0 → (vp_in (m3 (1, j, 0) 9) 5) ∧ (∀ m5 : ch_M, m5 = ch_wr m3 (1, j, 8) (Int32.toNatClampNeg (m3 (1, j, 0) 9)) p1 → (∀ m6 : ch_M, m6 = ch_wr m5 (1, j, 0) 9 ((m5 (1, j, 0) 9) + 1) → (∀ m7 : ch_M, m7 = ch_wr m6 (1, j, 0) 13 ((m6 (1, j, 0) 13) + 1) → Q (.inl (some (.inl (.int (m7 (1, j, 5) (Int32.toNatClampNeg p1)))))) m7)))))) : ch_J g m_y_writeAgainst (ch_rm m_y_writeAgainst) (ch_E g m_y_writeAgainst Q) 0 [some (.inr (1, j, 0)), some (.inl (.int p1))] [] m 0 := by
  refine ch_aload_n (i := 0) d_y_writeAgainst_0 rfl rfl ?_
  refine ch_get (v := .inr (1, j, 5)) d_y_writeAgainst_1 fl_y_24 rfl ?_
  refine ch_iload_n (i := 1) d_y_writeAgainst_4 rfl rfl ?_
  refine ch_aload_n (i := 0) d_y_writeAgainst_5 rfl rfl ?_
  refine ch_get (v := .inr (1, j, 4)) d_y_writeAgainst_6 fl_y_21 rfl ?_
  refine ch_iload_n (i := 1) d_y_writeAgainst_9 rfl rfl ?_
  have b1 := h.1
  replace h := h.2
  refine ch_iald (n := 5) d_y_writeAgainst_10 (by decide) rfl b1 ?_
  refine ch_bipush (v := 9) d_y_writeAgainst_11 (by decide) ?_
  refine ch_min d_y_writeAgainst_13 lk_y_117 ⟨Nat.le_of_ble_eq_true rfl, Nat.le_of_ble_eq_true rfl⟩ ⟨Nat.le_of_ble_eq_true rfl, Nat.le_of_ble_eq_true rfl⟩ (Nat.le_of_ble_eq_true rfl) ?_
  refine ch_iast (n := 5) d_y_writeAgainst_16 (by decide) rfl b1 ?_
  show ch_J g _ _ _ _ _ _ (ch_wr m (1, j, 5) (Int32.toNatClampNeg p1) (if 9 < (m (1, j, 4) (Int32.toNatClampNeg p1)) then 9 else (m (1, j, 4) (Int32.toNatClampNeg p1)))) _
  generalize hmm2 : ch_wr m (1, j, 5) (Int32.toNatClampNeg p1) (if 9 < (m (1, j, 4) (Int32.toNatClampNeg p1)) then 9 else (m (1, j, 4) (Int32.toNatClampNeg p1))) = m2
  replace h := h m2 hmm2.symm
  refine ch_aload_n (i := 0) d_y_writeAgainst_17 rfl rfl ?_
  refine ch_get (v := .inr (1, j, 4)) d_y_writeAgainst_18 fl_y_21 rfl ?_
  refine ch_iload_n (i := 1) d_y_writeAgainst_21 rfl rfl ?_
  refine ch_iconst (v := 0) d_y_writeAgainst_22 (by decide) ?_
  refine ch_iast (n := 5) d_y_writeAgainst_23 (by decide) rfl b1 ?_
  show ch_J g _ _ _ _ _ _ (ch_wr m2 (1, j, 4) (Int32.toNatClampNeg p1) 0) _
  generalize hmm3 : ch_wr m2 (1, j, 4) (Int32.toNatClampNeg p1) 0 = m3
  replace h := h m3 hmm3.symm
  refine ch_aload_n (i := 0) d_y_writeAgainst_24 rfl rfl ?_
  refine ch_get (v := .inr (1, j, 8)) d_y_writeAgainst_25 fl_y_33 rfl ?_
  refine ch_aload_n (i := 0) d_y_writeAgainst_28 rfl rfl ?_
  refine ch_get (v := .inl (.int (m3 (1, j, 0) 9))) d_y_writeAgainst_29 fl_y_46 rfl ?_
  refine ch_iload_n (i := 1) d_y_writeAgainst_32 rfl rfl ?_
  have b4 := h.1
  replace h := h.2
  refine ch_iast (n := 5) d_y_writeAgainst_33 (by decide) rfl b4 ?_
  show ch_J g _ _ _ _ _ _ (ch_wr m3 (1, j, 8) (Int32.toNatClampNeg (m3 (1, j, 0) 9)) p1) _
  generalize hmm5 : ch_wr m3 (1, j, 8) (Int32.toNatClampNeg (m3 (1, j, 0) 9)) p1 = m5
  replace h := h m5 hmm5.symm
  refine ch_aload_n (i := 0) d_y_writeAgainst_34 rfl rfl ?_
  refine ch_dup d_y_writeAgainst_35 rfl ?_
  refine ch_get (v := .inl (.int (m5 (1, j, 0) 9))) d_y_writeAgainst_36 fl_y_46 rfl ?_
  refine ch_iconst (v := 1) d_y_writeAgainst_39 (by decide) ?_
  refine ch_iadd d_y_writeAgainst_40 ?_
  refine ch_put d_y_writeAgainst_41 fp_y_46 rfl rfl rfl ?_
  generalize hmm6 : ch_wr m5 (1, j, 0) 9 ((m5 (1, j, 0) 9) + 1) = m6
  replace h := h m6 hmm6.symm
  refine ch_aload_n (i := 0) d_y_writeAgainst_44 rfl rfl ?_
  refine ch_dup d_y_writeAgainst_45 rfl ?_
  refine ch_get (v := .inl (.int (m6 (1, j, 0) 13))) d_y_writeAgainst_46 fl_y_58 rfl ?_
  refine ch_iconst (v := 1) d_y_writeAgainst_49 (by decide) ?_
  refine ch_iadd d_y_writeAgainst_50 ?_
  refine ch_put d_y_writeAgainst_51 fp_y_58 rfl rfl rfl ?_
  generalize hmm7 : ch_wr m6 (1, j, 0) 13 ((m6 (1, j, 0) 13) + 1) = m7
  replace h := h m7 hmm7.symm
  refine ch_aload_n (i := 0) d_y_writeAgainst_54 rfl rfl ?_
  refine ch_get (v := .inr (1, j, 5)) d_y_writeAgainst_55 fl_y_24 rfl ?_
  refine ch_iload_n (i := 1) d_y_writeAgainst_58 rfl rfl ?_
  refine ch_iald (n := 5) d_y_writeAgainst_59 (by decide) rfl b1 ?_
  exact ch_iret (ty := .int) d_y_writeAgainst_60 rfl rfl (Nat.le_of_ble_eq_true rfl) h
theorem e_y_strikeOut (g : ch_G) (Q : ch_O → ch_M → Prop) (j : Nat) (p1 : Int32) (m : ch_M) (h : ch_J g m_y_strikeOut (ch_rm m_y_strikeOut) (ch_E g m_y_strikeOut Q) 0 [some (.inr (1, j, 0)), some (.inl (.int p1))] [] m 0) : ch_C g m_y_strikeOut [.inr (1, j, 0), .inl (.int p1)] m Q :=
  ch_enter mf_y_strikeOut (by intro v hv; simp only [List.mem_cons, List.not_mem_nil, or_false] at hv; rcases hv with rfl | rfl <;> rfl) (Nat.le_of_ble_eq_true rfl) h
set_option maxHeartbeats 1600000 in
theorem g_y_strikeOut_0 (g : ch_G) (Q : ch_O → ch_M → Prop) (j : Nat) (p1 : Int32) (m : ch_M) (h : (vp_in p1 5) ∧ (∀ m2 : ch_M, m2 = ch_wr m (1, j, 3) (Int32.toNatClampNeg p1) ((m (1, j, 3) (Int32.toNatClampNeg p1)) - (m (1, j, 5) (Int32.toNatClampNeg p1))) → (∀ m3 : ch_M, m3 = ch_wr m2 (1, j, 0) 10 ((m2 (1, j, 0) 10) + (m2 (1, j, 5) (Int32.toNatClampNeg p1))) → (∀ m4 : ch_M, m4 = ch_wr m3 (1, j, 5) (Int32.toNatClampNeg p1) 0 → (ch_C g m_y_closeOrder [.inr (1, j, 0)] m4 (ch_oi (fun (r5 : Int32) (m6 : ch_M) => Q (.inl (some (.inl (.int (m6 (1, j, 3) (Int32.toNatClampNeg p1)))))) m6))))))) : ch_J g m_y_strikeOut (ch_rm m_y_strikeOut) (ch_E g m_y_strikeOut Q) 0 [some (.inr (1, j, 0)), some (.inl (.int p1))] [] m 0 := by
  refine ch_aload_n (i := 0) d_y_strikeOut_0 rfl rfl ?_
  refine ch_get (v := .inr (1, j, 3)) d_y_strikeOut_1 fl_y_18 rfl ?_
  refine ch_iload_n (i := 1) d_y_strikeOut_4 rfl rfl ?_
  refine ch_dup2 d_y_strikeOut_5 rfl rfl ?_
  have b1 := h.1
  replace h := h.2
  refine ch_iald (n := 5) d_y_strikeOut_6 (by decide) rfl b1 ?_
  refine ch_aload_n (i := 0) d_y_strikeOut_7 rfl rfl ?_
  refine ch_get (v := .inr (1, j, 5)) d_y_strikeOut_8 fl_y_24 rfl ?_
  refine ch_iload_n (i := 1) d_y_strikeOut_11 rfl rfl ?_
  refine ch_iald (n := 5) d_y_strikeOut_12 (by decide) rfl b1 ?_
  refine ch_isub d_y_strikeOut_13 ?_
  refine ch_iast (n := 5) d_y_strikeOut_14 (by decide) rfl b1 ?_
  show ch_J g _ _ _ _ _ _ (ch_wr m (1, j, 3) (Int32.toNatClampNeg p1) ((m (1, j, 3) (Int32.toNatClampNeg p1)) - (m (1, j, 5) (Int32.toNatClampNeg p1)))) _
  generalize hmm2 : ch_wr m (1, j, 3) (Int32.toNatClampNeg p1) ((m (1, j, 3) (Int32.toNatClampNeg p1)) - (m (1, j, 5) (Int32.toNatClampNeg p1))) = m2
  replace h := h m2 hmm2.symm
  refine ch_aload_n (i := 0) d_y_strikeOut_15 rfl rfl ?_
  refine ch_dup d_y_strikeOut_16 rfl ?_
  refine ch_get (v := .inl (.int (m2 (1, j, 0) 10))) d_y_strikeOut_17 fl_y_49 rfl ?_
  refine ch_aload_n (i := 0) d_y_strikeOut_20 rfl rfl ?_
  refine ch_get (v := .inr (1, j, 5)) d_y_strikeOut_21 fl_y_24 rfl ?_
  refine ch_iload_n (i := 1) d_y_strikeOut_24 rfl rfl ?_
  refine ch_iald (n := 5) d_y_strikeOut_25 (by decide) rfl b1 ?_
  refine ch_iadd d_y_strikeOut_26 ?_
  refine ch_put d_y_strikeOut_27 fp_y_49 rfl rfl rfl ?_
  generalize hmm3 : ch_wr m2 (1, j, 0) 10 ((m2 (1, j, 0) 10) + (m2 (1, j, 5) (Int32.toNatClampNeg p1))) = m3
  replace h := h m3 hmm3.symm
  refine ch_aload_n (i := 0) d_y_strikeOut_30 rfl rfl ?_
  refine ch_get (v := .inr (1, j, 5)) d_y_strikeOut_31 fl_y_24 rfl ?_
  refine ch_iload_n (i := 1) d_y_strikeOut_34 rfl rfl ?_
  refine ch_iconst (v := 0) d_y_strikeOut_35 (by decide) ?_
  refine ch_iast (n := 5) d_y_strikeOut_36 (by decide) rfl b1 ?_
  show ch_J g _ _ _ _ _ _ (ch_wr m3 (1, j, 5) (Int32.toNatClampNeg p1) 0) _
  generalize hmm4 : ch_wr m3 (1, j, 5) (Int32.toNatClampNeg p1) 0 = m4
  replace h := h m4 hmm4.symm
  refine ch_aload_n (i := 0) d_y_strikeOut_37 rfl rfl ?_
  refine ch_callV (as := []) d_y_strikeOut_38 lk_y_140 mi_y_closeOrder me_y_closeOrder rfl rfl rfl ⟨Nat.le_of_ble_eq_true rfl, Nat.le_of_ble_eq_true rfl⟩ (Nat.le_of_ble_eq_true rfl) ⟨Nat.le_of_ble_eq_true rfl, Nat.le_of_ble_eq_true rfl⟩ (ch_mono (ch_Ki (fun r5 m6 h => ?_)) h)
  refine ch_pop d_y_strikeOut_41 rfl ?_
  refine ch_aload_n (i := 0) d_y_strikeOut_42 rfl rfl ?_
  refine ch_get (v := .inr (1, j, 3)) d_y_strikeOut_43 fl_y_18 rfl ?_
  refine ch_iload_n (i := 1) d_y_strikeOut_46 rfl rfl ?_
  refine ch_iald (n := 5) d_y_strikeOut_47 (by decide) rfl b1 ?_
  exact ch_iret (ty := .int) d_y_strikeOut_48 rfl rfl (Nat.le_of_ble_eq_true rfl) h
theorem e_y_wash (g : ch_G) (Q : ch_O → ch_M → Prop) (j : Nat) (p1 : Int32) (m : ch_M) (h : ch_J g m_y_wash (ch_rm m_y_wash) (ch_E g m_y_wash Q) 0 [some (.inr (1, j, 0)), some (.inl (.int p1)), none, none, none] [] m 0) : ch_C g m_y_wash [.inr (1, j, 0), .inl (.int p1)] m Q :=
  ch_enter mf_y_wash (by intro v hv; simp only [List.mem_cons, List.not_mem_nil, or_false] at hv; rcases hv with rfl | rfl <;> rfl) (Nat.le_of_ble_eq_true rfl) h
set_option maxHeartbeats 1600000 in
theorem g_y_wash_0 (g : ch_G) (Q : ch_O → ch_M → Prop) (j : Nat) (p1 : Int32) (m : ch_M) (h : ch_J g m_y_wash (ch_rm m_y_wash) (ch_E g m_y_wash Q) 4 [some (.inr (1, j, 0)), some (.inl (.int p1)), some (.inl (.int 0)), some (.inl (.int 0)), none] [] m 0) : ch_J g m_y_wash (ch_rm m_y_wash) (ch_E g m_y_wash Q) 0 [some (.inr (1, j, 0)), some (.inl (.int p1)), none, none, none] [] m 0 := by
  refine ch_iconst (v := 0) d_y_wash_0 (by decide) ?_
  refine ch_istore_n (i := 2) d_y_wash_1 rfl (Nat.le_of_ble_eq_true rfl) (ls' := [some (.inr (1, j, 0)), some (.inl (.int p1)), some (.inl (.int 0)), none, none]) rfl ?_
  refine ch_iconst (v := 0) d_y_wash_2 (by decide) ?_
  refine ch_istore_n (i := 3) d_y_wash_3 rfl (Nat.le_of_ble_eq_true rfl) (ls' := [some (.inr (1, j, 0)), some (.inl (.int p1)), some (.inl (.int 0)), some (.inl (.int 0)), none]) rfl ?_
  exact h
set_option maxHeartbeats 1600000 in
theorem g_y_wash_4 (g : ch_G) (Q : ch_O → ch_M → Prop) (j : Nat) (x1 : Int32) (x2 : Int32) (x3 : Int32) (o4 : Option ch_V) (m : ch_M) (h : ((12 ≤ x3 → ch_J g m_y_wash (ch_rm m_y_wash) (ch_E g m_y_wash Q) 40 [some (.inr (1, j, 0)), some (.inl (.int x1)), some (.inl (.int x2)), some (.inl (.int 0)), o4] [] m 0) ∧ (¬ 12 ≤ x3 → (vp_in x3 12) ∧ (((m (1, j, 1) (Int32.toNatClampNeg x3)) = (-1) → ch_J g m_y_wash (ch_rm m_y_wash) (ch_E g m_y_wash Q) 4 [some (.inr (1, j, 0)), some (.inl (.int x1)), some (.inl (.int x2)), some (.inl (.int (x3 + 1))), o4] [] m 0) ∧ (¬ (m (1, j, 1) (Int32.toNatClampNeg x3)) = (-1) → (ch_C g m_y_takeChalk [.inr (1, j, 0), .inl (.int x3), .inl (.int x1)] m (ch_oi (fun (r2 : Int32) (m3 : ch_M) => ((r2 = 0 → ch_J g m_y_wash (ch_rm m_y_wash) (ch_E g m_y_wash Q) 4 [some (.inr (1, j, 0)), some (.inl (.int x1)), some (.inl (.int x2)), some (.inl (.int (x3 + 1))), o4] [] m3 0) ∧ (¬ r2 = 0 → ch_J g m_y_wash (ch_rm m_y_wash) (ch_E g m_y_wash Q) 4 [some (.inr (1, j, 0)), some (.inl (.int x1)), some (.inl (.int (x2 + 1))), some (.inl (.int (x3 + 1))), o4] [] m3 0)))))))))) : ch_J g m_y_wash (ch_rm m_y_wash) (ch_E g m_y_wash Q) 4 [some (.inr (1, j, 0)), some (.inl (.int x1)), some (.inl (.int x2)), some (.inl (.int x3)), o4] [] m 0 := by
  refine ch_iload_n (i := 3) d_y_wash_4 rfl rfl ?_
  refine ch_bipush (v := 12) d_y_wash_5 (by decide) ?_
  refine ch_icmp_ge (tgt := 38) d_y_wash_7 (by decide) (fun c => ?_) (fun c => ?_)
  · replace h := h.1 c
    refine ch_iconst (v := 0) d_y_wash_38 (by decide) ?_
    refine ch_istore_n (i := 3) d_y_wash_39 rfl (Nat.le_of_ble_eq_true rfl) (ls' := [some (.inr (1, j, 0)), some (.inl (.int x1)), some (.inl (.int x2)), some (.inl (.int 0)), o4]) rfl ?_
    exact h
  · replace h := h.2 c
    refine ch_aload_n (i := 0) d_y_wash_10 rfl rfl ?_
    refine ch_get (v := .inr (1, j, 1)) d_y_wash_11 fl_y_9 rfl ?_
    refine ch_iload_n (i := 3) d_y_wash_14 rfl rfl ?_
    have b1 := h.1
    replace h := h.2
    refine ch_iald (n := 12) d_y_wash_15 (by decide) rfl b1 ?_
    refine ch_iconst (v := (-1)) d_y_wash_16 (by decide) ?_
    refine ch_icmp_eq (tgt := 32) d_y_wash_17 (by decide) (fun c => ?_) (fun c => ?_)
    · replace h := h.1 c
      refine ch_iinc (i := 3) (v := (x3 + 1)) d_y_wash_32 rfl rfl (Nat.le_of_ble_eq_true rfl) (ls' := [some (.inr (1, j, 0)), some (.inl (.int x1)), some (.inl (.int x2)), some (.inl (.int (x3 + 1))), o4]) rfl ?_
      refine ch_goto (tgt := 4) d_y_wash_35 (by decide) ?_
      exact h
    · replace h := h.2 c
      refine ch_aload_n (i := 0) d_y_wash_20 rfl rfl ?_
      refine ch_iload_n (i := 3) d_y_wash_21 rfl rfl ?_
      refine ch_iload_n (i := 1) d_y_wash_22 rfl rfl ?_
      refine ch_callV (as := [.inl (.int x3), .inl (.int x1)]) d_y_wash_23 lk_y_137 mi_y_takeChalk me_y_takeChalk rfl rfl rfl ⟨Nat.le_of_ble_eq_true rfl, Nat.le_of_ble_eq_true rfl⟩ (Nat.le_of_ble_eq_true rfl) ⟨Nat.le_of_ble_eq_true rfl, Nat.le_of_ble_eq_true rfl⟩ (ch_mono (ch_Ki (fun r2 m3 h => ?_)) h)
      refine ch_if_eq (tgt := 32) d_y_wash_26 (by decide) (fun c => ?_) (fun c => ?_)
      · replace h := h.1 c
        refine ch_iinc (i := 3) (v := (x3 + 1)) d_y_wash_32 rfl rfl (Nat.le_of_ble_eq_true rfl) (ls' := [some (.inr (1, j, 0)), some (.inl (.int x1)), some (.inl (.int x2)), some (.inl (.int (x3 + 1))), o4]) rfl ?_
        refine ch_goto (tgt := 4) d_y_wash_35 (by decide) ?_
        exact h
      · replace h := h.2 c
        refine ch_iinc (i := 2) (v := (x2 + 1)) d_y_wash_29 rfl rfl (Nat.le_of_ble_eq_true rfl) (ls' := [some (.inr (1, j, 0)), some (.inl (.int x1)), some (.inl (.int (x2 + 1))), some (.inl (.int x3)), o4]) rfl ?_
        refine ch_iinc (i := 3) (v := (x3 + 1)) d_y_wash_32 rfl rfl (Nat.le_of_ble_eq_true rfl) (ls' := [some (.inr (1, j, 0)), some (.inl (.int x1)), some (.inl (.int (x2 + 1))), some (.inl (.int (x3 + 1))), o4]) rfl ?_
        refine ch_goto (tgt := 4) d_y_wash_35 (by decide) ?_
        exact h
set_option maxHeartbeats 1600000 in
theorem g_y_wash_40 (g : ch_G) (Q : ch_O → ch_M → Prop) (j : Nat) (x1 : Int32) (x2 : Int32) (x3 : Int32) (o4 : Option ch_V) (m : ch_M) (h : (((m (1, j, 0) 9) ≤ x3 → (ch_C g m_y_closeOrder [.inr (1, j, 0)] m (ch_oi (fun (r1 : Int32) (m2 : ch_M) => (∀ m3 : ch_M, m3 = ch_wr m2 (1, j, 0) 14 ((m2 (1, j, 0) 14) + r1) → Q (.inl (some (.inl (.int (x2 + r1))))) m3))))) ∧ (¬ (m (1, j, 0) 9) ≤ x3 → (vp_in x3 5) ∧ (vp_in (m (1, j, 8) (Int32.toNatClampNeg x3)) 5) ∧ (∀ m6 : ch_M, m6 = ch_wr m (1, j, 5) (Int32.toNatClampNeg (m (1, j, 8) (Int32.toNatClampNeg x3))) (if ((m (1, j, 5) (Int32.toNatClampNeg (m (1, j, 8) (Int32.toNatClampNeg x3)))) - x1) < 0 then 0 else ((m (1, j, 5) (Int32.toNatClampNeg (m (1, j, 8) (Int32.toNatClampNeg x3)))) - x1)) → ch_J g m_y_wash (ch_rm m_y_wash) (ch_E g m_y_wash Q) 40 [some (.inr (1, j, 0)), some (.inl (.int x1)), some (.inl (.int x2)), some (.inl (.int (x3 + 1))), some (.inl (.int (m (1, j, 8) (Int32.toNatClampNeg x3))))] [] m6 0)))) : ch_J g m_y_wash (ch_rm m_y_wash) (ch_E g m_y_wash Q) 40 [some (.inr (1, j, 0)), some (.inl (.int x1)), some (.inl (.int x2)), some (.inl (.int x3)), o4] [] m 0 := by
  refine ch_iload_n (i := 3) d_y_wash_40 rfl rfl ?_
  refine ch_aload_n (i := 0) d_y_wash_41 rfl rfl ?_
  refine ch_get (v := .inl (.int (m (1, j, 0) 9))) d_y_wash_42 fl_y_46 rfl ?_
  refine ch_icmp_ge (tgt := 82) d_y_wash_45 (by decide) (fun c => ?_) (fun c => ?_)
  · replace h := h.1 c
    refine ch_aload_n (i := 0) d_y_wash_82 rfl rfl ?_
    refine ch_callV (as := []) d_y_wash_83 lk_y_140 mi_y_closeOrder me_y_closeOrder rfl rfl rfl ⟨Nat.le_of_ble_eq_true rfl, Nat.le_of_ble_eq_true rfl⟩ (Nat.le_of_ble_eq_true rfl) ⟨Nat.le_of_ble_eq_true rfl, Nat.le_of_ble_eq_true rfl⟩ (ch_mono (ch_Ki (fun r1 m2 h => ?_)) h)
    refine ch_istore_n (i := 3) d_y_wash_86 rfl (Nat.le_of_ble_eq_true rfl) (ls' := [some (.inr (1, j, 0)), some (.inl (.int x1)), some (.inl (.int x2)), some (.inl (.int r1)), o4]) rfl ?_
    refine ch_aload_n (i := 0) d_y_wash_87 rfl rfl ?_
    refine ch_dup d_y_wash_88 rfl ?_
    refine ch_get (v := .inl (.int (m2 (1, j, 0) 14))) d_y_wash_89 fl_y_61 rfl ?_
    refine ch_iload_n (i := 3) d_y_wash_92 rfl rfl ?_
    refine ch_iadd d_y_wash_93 ?_
    refine ch_put d_y_wash_94 fp_y_61 rfl rfl rfl ?_
    generalize hmm3 : ch_wr m2 (1, j, 0) 14 ((m2 (1, j, 0) 14) + r1) = m3
    replace h := h m3 hmm3.symm
    refine ch_iload_n (i := 2) d_y_wash_97 rfl rfl ?_
    refine ch_iload_n (i := 3) d_y_wash_98 rfl rfl ?_
    refine ch_iadd d_y_wash_99 ?_
    exact ch_iret (ty := .int) d_y_wash_100 rfl rfl (Nat.le_of_ble_eq_true rfl) h
  · replace h := h.2 c
    refine ch_aload_n (i := 0) d_y_wash_48 rfl rfl ?_
    refine ch_get (v := .inr (1, j, 8)) d_y_wash_49 fl_y_33 rfl ?_
    refine ch_iload_n (i := 3) d_y_wash_52 rfl rfl ?_
    have b4 := h.1
    replace h := h.2
    refine ch_iald (n := 5) d_y_wash_53 (by decide) rfl b4 ?_
    refine ch_istore (i := 4) d_y_wash_54 (Nat.le_of_ble_eq_true rfl) (ls' := [some (.inr (1, j, 0)), some (.inl (.int x1)), some (.inl (.int x2)), some (.inl (.int x3)), some (.inl (.int (m (1, j, 8) (Int32.toNatClampNeg x3))))]) rfl ?_
    refine ch_aload_n (i := 0) d_y_wash_56 rfl rfl ?_
    refine ch_get (v := .inr (1, j, 5)) d_y_wash_57 fl_y_24 rfl ?_
    refine ch_iload d_y_wash_60 rfl ?_
    refine ch_aload_n (i := 0) d_y_wash_62 rfl rfl ?_
    refine ch_get (v := .inr (1, j, 5)) d_y_wash_63 fl_y_24 rfl ?_
    refine ch_iload d_y_wash_66 rfl ?_
    have b5 := h.1
    replace h := h.2
    refine ch_iald (n := 5) d_y_wash_68 (by decide) rfl b5 ?_
    refine ch_iload_n (i := 1) d_y_wash_69 rfl rfl ?_
    refine ch_isub d_y_wash_70 ?_
    refine ch_iconst (v := 0) d_y_wash_71 (by decide) ?_
    refine ch_max d_y_wash_72 lk_y_143 ⟨Nat.le_of_ble_eq_true rfl, Nat.le_of_ble_eq_true rfl⟩ ⟨Nat.le_of_ble_eq_true rfl, Nat.le_of_ble_eq_true rfl⟩ (Nat.le_of_ble_eq_true rfl) ?_
    refine ch_iast (n := 5) d_y_wash_75 (by decide) rfl b5 ?_
    show ch_J g _ _ _ _ _ _ (ch_wr m (1, j, 5) (Int32.toNatClampNeg (m (1, j, 8) (Int32.toNatClampNeg x3))) (if ((m (1, j, 5) (Int32.toNatClampNeg (m (1, j, 8) (Int32.toNatClampNeg x3)))) - x1) < 0 then 0 else ((m (1, j, 5) (Int32.toNatClampNeg (m (1, j, 8) (Int32.toNatClampNeg x3)))) - x1))) _
    generalize hmm6 : ch_wr m (1, j, 5) (Int32.toNatClampNeg (m (1, j, 8) (Int32.toNatClampNeg x3))) (if ((m (1, j, 5) (Int32.toNatClampNeg (m (1, j, 8) (Int32.toNatClampNeg x3)))) - x1) < 0 then 0 else ((m (1, j, 5) (Int32.toNatClampNeg (m (1, j, 8) (Int32.toNatClampNeg x3)))) - x1)) = m6
    replace h := h m6 hmm6.symm
    refine ch_iinc (i := 3) (v := (x3 + 1)) d_y_wash_76 rfl rfl (Nat.le_of_ble_eq_true rfl) (ls' := [some (.inr (1, j, 0)), some (.inl (.int x1)), some (.inl (.int x2)), some (.inl (.int (x3 + 1))), some (.inl (.int (m (1, j, 8) (Int32.toNatClampNeg x3))))]) rfl ?_
    refine ch_goto (tgt := 40) d_y_wash_79 (by decide) ?_
    exact h
theorem e_y_endTerm (g : ch_G) (Q : ch_O → ch_M → Prop) (j : Nat) (m : ch_M) (h : ch_J g m_y_endTerm (ch_rm m_y_endTerm) (ch_E g m_y_endTerm Q) 0 [some (.inr (1, j, 0)), none, none] [] m 0) : ch_C g m_y_endTerm [.inr (1, j, 0)] m Q :=
  ch_enter mf_y_endTerm (by intro v hv; simp only [List.mem_cons, List.not_mem_nil, or_false] at hv; rcases hv with rfl <;> rfl) (Nat.le_of_ble_eq_true rfl) h
set_option maxHeartbeats 1600000 in
theorem g_y_endTerm_0 (g : ch_G) (Q : ch_O → ch_M → Prop) (j : Nat) (m : ch_M) (h : ch_J g m_y_endTerm (ch_rm m_y_endTerm) (ch_E g m_y_endTerm Q) 4 [some (.inr (1, j, 0)), some (.inl (.int 0)), some (.inl (.int 0))] [] m 0) : ch_J g m_y_endTerm (ch_rm m_y_endTerm) (ch_E g m_y_endTerm Q) 0 [some (.inr (1, j, 0)), none, none] [] m 0 := by
  refine ch_iconst (v := 0) d_y_endTerm_0 (by decide) ?_
  refine ch_istore_n (i := 1) d_y_endTerm_1 rfl (Nat.le_of_ble_eq_true rfl) (ls' := [some (.inr (1, j, 0)), some (.inl (.int 0)), none]) rfl ?_
  refine ch_iconst (v := 0) d_y_endTerm_2 (by decide) ?_
  refine ch_istore_n (i := 2) d_y_endTerm_3 rfl (Nat.le_of_ble_eq_true rfl) (ls' := [some (.inr (1, j, 0)), some (.inl (.int 0)), some (.inl (.int 0))]) rfl ?_
  exact h
set_option maxHeartbeats 1600000 in
theorem g_y_endTerm_4 (g : ch_G) (Q : ch_O → ch_M → Prop) (j : Nat) (x1 : Int32) (x2 : Int32) (m : ch_M) (h : (((m (1, j, 0) 8) ≤ x2 → ch_J g m_y_endTerm (ch_rm m_y_endTerm) (ch_E g m_y_endTerm Q) 28 [some (.inr (1, j, 0)), some (.inl (.int x1)), some (.inl (.int 0))] [] m 0) ∧ (¬ (m (1, j, 0) 8) ≤ x2 → (ch_C g m_y_payRents [.inr (1, j, 0), .inl (.int x2)] m (ch_oi (fun (r1 : Int32) (m2 : ch_M) => ch_J g m_y_endTerm (ch_rm m_y_endTerm) (ch_E g m_y_endTerm Q) 4 [some (.inr (1, j, 0)), some (.inl (.int (x1 + r1))), some (.inl (.int (x2 + 1)))] [] m2 0)))))) : ch_J g m_y_endTerm (ch_rm m_y_endTerm) (ch_E g m_y_endTerm Q) 4 [some (.inr (1, j, 0)), some (.inl (.int x1)), some (.inl (.int x2))] [] m 0 := by
  refine ch_iload_n (i := 2) d_y_endTerm_4 rfl rfl ?_
  refine ch_aload_n (i := 0) d_y_endTerm_5 rfl rfl ?_
  refine ch_get (v := .inl (.int (m (1, j, 0) 8))) d_y_endTerm_6 fl_y_42 rfl ?_
  refine ch_icmp_ge (tgt := 26) d_y_endTerm_9 (by decide) (fun c => ?_) (fun c => ?_)
  · replace h := h.1 c
    refine ch_iconst (v := 0) d_y_endTerm_26 (by decide) ?_
    refine ch_istore_n (i := 2) d_y_endTerm_27 rfl (Nat.le_of_ble_eq_true rfl) (ls' := [some (.inr (1, j, 0)), some (.inl (.int x1)), some (.inl (.int 0))]) rfl ?_
    exact h
  · replace h := h.2 c
    refine ch_iload_n (i := 1) d_y_endTerm_12 rfl rfl ?_
    refine ch_aload_n (i := 0) d_y_endTerm_13 rfl rfl ?_
    refine ch_iload_n (i := 2) d_y_endTerm_14 rfl rfl ?_
    refine ch_callV (as := [.inl (.int x2)]) d_y_endTerm_15 lk_y_146 mi_y_payRents me_y_payRents rfl rfl rfl ⟨Nat.le_of_ble_eq_true rfl, Nat.le_of_ble_eq_true rfl⟩ (Nat.le_of_ble_eq_true rfl) ⟨Nat.le_of_ble_eq_true rfl, Nat.le_of_ble_eq_true rfl⟩ (ch_mono (ch_Ki (fun r1 m2 h => ?_)) h)
    refine ch_iadd d_y_endTerm_18 ?_
    refine ch_istore_n (i := 1) d_y_endTerm_19 rfl (Nat.le_of_ble_eq_true rfl) (ls' := [some (.inr (1, j, 0)), some (.inl (.int (x1 + r1))), some (.inl (.int x2))]) rfl ?_
    refine ch_iinc (i := 2) (v := (x2 + 1)) d_y_endTerm_20 rfl rfl (Nat.le_of_ble_eq_true rfl) (ls' := [some (.inr (1, j, 0)), some (.inl (.int (x1 + r1))), some (.inl (.int (x2 + 1)))]) rfl ?_
    refine ch_goto (tgt := 4) d_y_endTerm_23 (by decide) ?_
    exact h
set_option maxHeartbeats 1600000 in
theorem g_y_endTerm_28 (g : ch_G) (Q : ch_O → ch_M → Prop) (j : Nat) (x1 : Int32) (x2 : Int32) (m : ch_M) (h : (((m (1, j, 0) 8) ≤ x2 → (∀ m1 : ch_M, m1 = ch_wr m (1, j, 0) 15 ((m (1, j, 0) 15) + x1) → (∀ m2 : ch_M, m2 = ch_wr m1 (1, j, 0) 16 ((m1 (1, j, 0) 16) + 1) → Q (.inl (some (.inl (.int x1)))) m2))) ∧ (¬ (m (1, j, 0) 8) ≤ x2 → (((m (1, j, 0) 10) ≤ 0 → (∀ m3 : ch_M, m3 = ch_wr m (1, j, 0) 15 ((m (1, j, 0) 15) + x1) → (∀ m4 : ch_M, m4 = ch_wr m3 (1, j, 0) 16 ((m3 (1, j, 0) 16) + 1) → Q (.inl (some (.inl (.int x1)))) m4))) ∧ (¬ (m (1, j, 0) 10) ≤ 0 → (∀ m5 : ch_M, m5 = ch_wr m (1, j, 0) 10 ((m (1, j, 0) 10) - 1) → (vp_in x2 5) ∧ (∀ m7 : ch_M, m7 = ch_wr m5 (1, j, 3) (Int32.toNatClampNeg x2) ((m5 (1, j, 3) (Int32.toNatClampNeg x2)) + 1) → ch_J g m_y_endTerm (ch_rm m_y_endTerm) (ch_E g m_y_endTerm Q) 28 [some (.inr (1, j, 0)), some (.inl (.int x1)), some (.inl (.int (x2 + 1)))] [] m7 0))))))) : ch_J g m_y_endTerm (ch_rm m_y_endTerm) (ch_E g m_y_endTerm Q) 28 [some (.inr (1, j, 0)), some (.inl (.int x1)), some (.inl (.int x2))] [] m 0 := by
  refine ch_iload_n (i := 2) d_y_endTerm_28 rfl rfl ?_
  refine ch_aload_n (i := 0) d_y_endTerm_29 rfl rfl ?_
  refine ch_get (v := .inl (.int (m (1, j, 0) 8))) d_y_endTerm_30 fl_y_42 rfl ?_
  refine ch_icmp_ge (tgt := 69) d_y_endTerm_33 (by decide) (fun c => ?_) (fun c => ?_)
  · replace h := h.1 c
    refine ch_aload_n (i := 0) d_y_endTerm_69 rfl rfl ?_
    refine ch_dup d_y_endTerm_70 rfl ?_
    refine ch_get (v := .inl (.int (m (1, j, 0) 15))) d_y_endTerm_71 fl_y_64 rfl ?_
    refine ch_iload_n (i := 1) d_y_endTerm_74 rfl rfl ?_
    refine ch_iadd d_y_endTerm_75 ?_
    refine ch_put d_y_endTerm_76 fp_y_64 rfl rfl rfl ?_
    generalize hmm1 : ch_wr m (1, j, 0) 15 ((m (1, j, 0) 15) + x1) = m1
    replace h := h m1 hmm1.symm
    refine ch_aload_n (i := 0) d_y_endTerm_79 rfl rfl ?_
    refine ch_dup d_y_endTerm_80 rfl ?_
    refine ch_get (v := .inl (.int (m1 (1, j, 0) 16))) d_y_endTerm_81 fl_y_67 rfl ?_
    refine ch_iconst (v := 1) d_y_endTerm_84 (by decide) ?_
    refine ch_iadd d_y_endTerm_85 ?_
    refine ch_put d_y_endTerm_86 fp_y_67 rfl rfl rfl ?_
    generalize hmm2 : ch_wr m1 (1, j, 0) 16 ((m1 (1, j, 0) 16) + 1) = m2
    replace h := h m2 hmm2.symm
    refine ch_iload_n (i := 1) d_y_endTerm_89 rfl rfl ?_
    exact ch_iret (ty := .int) d_y_endTerm_90 rfl rfl (Nat.le_of_ble_eq_true rfl) h
  · replace h := h.2 c
    refine ch_aload_n (i := 0) d_y_endTerm_36 rfl rfl ?_
    refine ch_get (v := .inl (.int (m (1, j, 0) 10))) d_y_endTerm_37 fl_y_49 rfl ?_
    refine ch_if_le (tgt := 69) d_y_endTerm_40 (by decide) (fun c => ?_) (fun c => ?_)
    · replace h := h.1 c
      refine ch_aload_n (i := 0) d_y_endTerm_69 rfl rfl ?_
      refine ch_dup d_y_endTerm_70 rfl ?_
      refine ch_get (v := .inl (.int (m (1, j, 0) 15))) d_y_endTerm_71 fl_y_64 rfl ?_
      refine ch_iload_n (i := 1) d_y_endTerm_74 rfl rfl ?_
      refine ch_iadd d_y_endTerm_75 ?_
      refine ch_put d_y_endTerm_76 fp_y_64 rfl rfl rfl ?_
      generalize hmm3 : ch_wr m (1, j, 0) 15 ((m (1, j, 0) 15) + x1) = m3
      replace h := h m3 hmm3.symm
      refine ch_aload_n (i := 0) d_y_endTerm_79 rfl rfl ?_
      refine ch_dup d_y_endTerm_80 rfl ?_
      refine ch_get (v := .inl (.int (m3 (1, j, 0) 16))) d_y_endTerm_81 fl_y_67 rfl ?_
      refine ch_iconst (v := 1) d_y_endTerm_84 (by decide) ?_
      refine ch_iadd d_y_endTerm_85 ?_
      refine ch_put d_y_endTerm_86 fp_y_67 rfl rfl rfl ?_
      generalize hmm4 : ch_wr m3 (1, j, 0) 16 ((m3 (1, j, 0) 16) + 1) = m4
      replace h := h m4 hmm4.symm
      refine ch_iload_n (i := 1) d_y_endTerm_89 rfl rfl ?_
      exact ch_iret (ty := .int) d_y_endTerm_90 rfl rfl (Nat.le_of_ble_eq_true rfl) h
    · replace h := h.2 c
      refine ch_aload_n (i := 0) d_y_endTerm_43 rfl rfl ?_
      refine ch_dup d_y_endTerm_44 rfl ?_
      refine ch_get (v := .inl (.int (m (1, j, 0) 10))) d_y_endTerm_45 fl_y_49 rfl ?_
      refine ch_iconst (v := 1) d_y_endTerm_48 (by decide) ?_
      refine ch_isub d_y_endTerm_49 ?_
      refine ch_put d_y_endTerm_50 fp_y_49 rfl rfl rfl ?_
      generalize hmm5 : ch_wr m (1, j, 0) 10 ((m (1, j, 0) 10) - 1) = m5
      replace h := h m5 hmm5.symm
      refine ch_aload_n (i := 0) d_y_endTerm_53 rfl rfl ?_
      refine ch_get (v := .inr (1, j, 3)) d_y_endTerm_54 fl_y_18 rfl ?_
      refine ch_iload_n (i := 2) d_y_endTerm_57 rfl rfl ?_
      refine ch_dup2 d_y_endTerm_58 rfl rfl ?_
      have b6 := h.1
      replace h := h.2
      refine ch_iald (n := 5) d_y_endTerm_59 (by decide) rfl b6 ?_
      refine ch_iconst (v := 1) d_y_endTerm_60 (by decide) ?_
      refine ch_iadd d_y_endTerm_61 ?_
      refine ch_iast (n := 5) d_y_endTerm_62 (by decide) rfl b6 ?_
      show ch_J g _ _ _ _ _ _ (ch_wr m5 (1, j, 3) (Int32.toNatClampNeg x2) ((m5 (1, j, 3) (Int32.toNatClampNeg x2)) + 1)) _
      generalize hmm7 : ch_wr m5 (1, j, 3) (Int32.toNatClampNeg x2) ((m5 (1, j, 3) (Int32.toNatClampNeg x2)) + 1) = m7
      replace h := h m7 hmm7.symm
      refine ch_iinc (i := 2) (v := (x2 + 1)) d_y_endTerm_63 rfl rfl (Nat.le_of_ble_eq_true rfl) (ls' := [some (.inr (1, j, 0)), some (.inl (.int x1)), some (.inl (.int (x2 + 1)))]) rfl ?_
      refine ch_goto (tgt := 28) d_y_endTerm_66 (by decide) ?_
      exact h
theorem e_y_payRents (g : ch_G) (Q : ch_O → ch_M → Prop) (j : Nat) (p1 : Int32) (m : ch_M) (h : ch_J g m_y_payRents (ch_rm m_y_payRents) (ch_E g m_y_payRents Q) 0 [some (.inr (1, j, 0)), some (.inl (.int p1)), none, none] [] m 0) : ch_C g m_y_payRents [.inr (1, j, 0), .inl (.int p1)] m Q :=
  ch_enter mf_y_payRents (by intro v hv; simp only [List.mem_cons, List.not_mem_nil, or_false] at hv; rcases hv with rfl | rfl <;> rfl) (Nat.le_of_ble_eq_true rfl) h
set_option maxHeartbeats 1600000 in
theorem g_y_payRents_0 (g : ch_G) (Q : ch_O → ch_M → Prop) (j : Nat) (p1 : Int32) (m : ch_M) (h : ch_J g m_y_payRents (ch_rm m_y_payRents) (ch_E g m_y_payRents Q) 4 [some (.inr (1, j, 0)), some (.inl (.int p1)), some (.inl (.int 0)), some (.inl (.int 0))] [] m 0) : ch_J g m_y_payRents (ch_rm m_y_payRents) (ch_E g m_y_payRents Q) 0 [some (.inr (1, j, 0)), some (.inl (.int p1)), none, none] [] m 0 := by
  refine ch_iconst (v := 0) d_y_payRents_0 (by decide) ?_
  refine ch_istore_n (i := 2) d_y_payRents_1 rfl (Nat.le_of_ble_eq_true rfl) (ls' := [some (.inr (1, j, 0)), some (.inl (.int p1)), some (.inl (.int 0)), none]) rfl ?_
  refine ch_iconst (v := 0) d_y_payRents_2 (by decide) ?_
  refine ch_istore_n (i := 3) d_y_payRents_3 rfl (Nat.le_of_ble_eq_true rfl) (ls' := [some (.inr (1, j, 0)), some (.inl (.int p1)), some (.inl (.int 0)), some (.inl (.int 0))]) rfl ?_
  exact h
set_option maxHeartbeats 1600000 in
theorem g_y_payRents_4 (g : ch_G) (Q : ch_O → ch_M → Prop) (j : Nat) (x1 : Int32) (x2 : Int32) (x3 : Int32) (m : ch_M) (h : ((12 ≤ x3 → Q (.inl (some (.inl (.int x2)))) m) ∧ (¬ 12 ≤ x3 → (vp_in x3 12) ∧ (((m (1, j, 1) (Int32.toNatClampNeg x3)) = x1 → (vp_in x1 5) ∧ (((m (1, j, 3) (Int32.toNatClampNeg x1)) ≤ 0 → (ch_C g m_y_takeChalk [.inr (1, j, 0), .inl (.int x3), .inl (.int 9)] m (ch_oi (fun (r3 : Int32) (m4 : ch_M) => ch_J g m_y_payRents (ch_rm m_y_payRents) (ch_E g m_y_payRents Q) 4 [some (.inr (1, j, 0)), some (.inl (.int x1)), some (.inl (.int (x2 + 1))), some (.inl (.int (x3 + 1)))] [] m4 0)))) ∧ (¬ (m (1, j, 3) (Int32.toNatClampNeg x1)) ≤ 0 → (∀ m5 : ch_M, m5 = ch_wr m (1, j, 3) (Int32.toNatClampNeg x1) ((m (1, j, 3) (Int32.toNatClampNeg x1)) - 1) → (∀ m6 : ch_M, m6 = ch_wr m5 (1, j, 0) 10 ((m5 (1, j, 0) 10) + 1) → ch_J g m_y_payRents (ch_rm m_y_payRents) (ch_E g m_y_payRents Q) 4 [some (.inr (1, j, 0)), some (.inl (.int x1)), some (.inl (.int x2)), some (.inl (.int (x3 + 1)))] [] m6 0))))) ∧ (¬ (m (1, j, 1) (Int32.toNatClampNeg x3)) = x1 → ch_J g m_y_payRents (ch_rm m_y_payRents) (ch_E g m_y_payRents Q) 4 [some (.inr (1, j, 0)), some (.inl (.int x1)), some (.inl (.int x2)), some (.inl (.int (x3 + 1)))] [] m 0))))) : ch_J g m_y_payRents (ch_rm m_y_payRents) (ch_E g m_y_payRents Q) 4 [some (.inr (1, j, 0)), some (.inl (.int x1)), some (.inl (.int x2)), some (.inl (.int x3))] [] m 0 := by
  refine ch_iload_n (i := 3) d_y_payRents_4 rfl rfl ?_
  refine ch_bipush (v := 12) d_y_payRents_5 (by decide) ?_
  refine ch_icmp_ge (tgt := 72) d_y_payRents_7 (by decide) (fun c => ?_) (fun c => ?_)
  · replace h := h.1 c
    refine ch_iload_n (i := 2) d_y_payRents_72 rfl rfl ?_
    exact ch_iret (ty := .int) d_y_payRents_73 rfl rfl (Nat.le_of_ble_eq_true rfl) h
  · replace h := h.2 c
    refine ch_aload_n (i := 0) d_y_payRents_10 rfl rfl ?_
    refine ch_get (v := .inr (1, j, 1)) d_y_payRents_11 fl_y_9 rfl ?_
    refine ch_iload_n (i := 3) d_y_payRents_14 rfl rfl ?_
    have b1 := h.1
    replace h := h.2
    refine ch_iald (n := 12) d_y_payRents_15 (by decide) rfl b1 ?_
    refine ch_iload_n (i := 1) d_y_payRents_16 rfl rfl ?_
    refine ch_icmp_eq (tgt := 23) d_y_payRents_17 (by decide) (fun c => ?_) (fun c => ?_)
    · replace h := h.1 c
      refine ch_aload_n (i := 0) d_y_payRents_23 rfl rfl ?_
      refine ch_get (v := .inr (1, j, 3)) d_y_payRents_24 fl_y_18 rfl ?_
      refine ch_iload_n (i := 1) d_y_payRents_27 rfl rfl ?_
      have b2 := h.1
      replace h := h.2
      refine ch_iald (n := 5) d_y_payRents_28 (by decide) rfl b2 ?_
      refine ch_if_le (tgt := 55) d_y_payRents_29 (by decide) (fun c => ?_) (fun c => ?_)
      · replace h := h.1 c
        refine ch_aload_n (i := 0) d_y_payRents_55 rfl rfl ?_
        refine ch_iload_n (i := 3) d_y_payRents_56 rfl rfl ?_
        refine ch_bipush (v := 9) d_y_payRents_57 (by decide) ?_
        refine ch_callV (as := [.inl (.int x3), .inl (.int 9)]) d_y_payRents_59 lk_y_137 mi_y_takeChalk me_y_takeChalk rfl rfl rfl ⟨Nat.le_of_ble_eq_true rfl, Nat.le_of_ble_eq_true rfl⟩ (Nat.le_of_ble_eq_true rfl) ⟨Nat.le_of_ble_eq_true rfl, Nat.le_of_ble_eq_true rfl⟩ (ch_mono (ch_Ki (fun r3 m4 h => ?_)) h)
        refine ch_pop d_y_payRents_62 rfl ?_
        refine ch_iinc (i := 2) (v := (x2 + 1)) d_y_payRents_63 rfl rfl (Nat.le_of_ble_eq_true rfl) (ls' := [some (.inr (1, j, 0)), some (.inl (.int x1)), some (.inl (.int (x2 + 1))), some (.inl (.int x3))]) rfl ?_
        refine ch_iinc (i := 3) (v := (x3 + 1)) d_y_payRents_66 rfl rfl (Nat.le_of_ble_eq_true rfl) (ls' := [some (.inr (1, j, 0)), some (.inl (.int x1)), some (.inl (.int (x2 + 1))), some (.inl (.int (x3 + 1)))]) rfl ?_
        refine ch_goto (tgt := 4) d_y_payRents_69 (by decide) ?_
        exact h
      · replace h := h.2 c
        refine ch_aload_n (i := 0) d_y_payRents_32 rfl rfl ?_
        refine ch_get (v := .inr (1, j, 3)) d_y_payRents_33 fl_y_18 rfl ?_
        refine ch_iload_n (i := 1) d_y_payRents_36 rfl rfl ?_
        refine ch_dup2 d_y_payRents_37 rfl rfl ?_
        refine ch_iald (n := 5) d_y_payRents_38 (by decide) rfl b2 ?_
        refine ch_iconst (v := 1) d_y_payRents_39 (by decide) ?_
        refine ch_isub d_y_payRents_40 ?_
        refine ch_iast (n := 5) d_y_payRents_41 (by decide) rfl b2 ?_
        show ch_J g _ _ _ _ _ _ (ch_wr m (1, j, 3) (Int32.toNatClampNeg x1) ((m (1, j, 3) (Int32.toNatClampNeg x1)) - 1)) _
        generalize hmm5 : ch_wr m (1, j, 3) (Int32.toNatClampNeg x1) ((m (1, j, 3) (Int32.toNatClampNeg x1)) - 1) = m5
        replace h := h m5 hmm5.symm
        refine ch_aload_n (i := 0) d_y_payRents_42 rfl rfl ?_
        refine ch_dup d_y_payRents_43 rfl ?_
        refine ch_get (v := .inl (.int (m5 (1, j, 0) 10))) d_y_payRents_44 fl_y_49 rfl ?_
        refine ch_iconst (v := 1) d_y_payRents_47 (by decide) ?_
        refine ch_iadd d_y_payRents_48 ?_
        refine ch_put d_y_payRents_49 fp_y_49 rfl rfl rfl ?_
        generalize hmm6 : ch_wr m5 (1, j, 0) 10 ((m5 (1, j, 0) 10) + 1) = m6
        replace h := h m6 hmm6.symm
        refine ch_goto (tgt := 66) d_y_payRents_52 (by decide) ?_
        refine ch_iinc (i := 3) (v := (x3 + 1)) d_y_payRents_66 rfl rfl (Nat.le_of_ble_eq_true rfl) (ls' := [some (.inr (1, j, 0)), some (.inl (.int x1)), some (.inl (.int x2)), some (.inl (.int (x3 + 1)))]) rfl ?_
        refine ch_goto (tgt := 4) d_y_payRents_69 (by decide) ?_
        exact h
    · replace h := h.2 c
      refine ch_goto (tgt := 66) d_y_payRents_20 (by decide) ?_
      refine ch_iinc (i := 3) (v := (x3 + 1)) d_y_payRents_66 rfl rfl (Nat.le_of_ble_eq_true rfl) (ls' := [some (.inr (1, j, 0)), some (.inl (.int x1)), some (.inl (.int x2)), some (.inl (.int (x3 + 1)))]) rfl ?_
      refine ch_goto (tgt := 4) d_y_payRents_69 (by decide) ?_
      exact h
theorem e_y_handOver (g : ch_G) (Q : ch_O → ch_M → Prop) (j : Nat) (p1 : Int32) (p2 : Int32) (p3 : Int32) (m : ch_M) (h : ch_J g m_y_handOver (ch_rm m_y_handOver) (ch_E g m_y_handOver Q) 0 [some (.inr (1, j, 0)), some (.inl (.int p1)), some (.inl (.int p2)), some (.inl (.int p3))] [] m 0) : ch_C g m_y_handOver [.inr (1, j, 0), .inl (.int p1), .inl (.int p2), .inl (.int p3)] m Q :=
  ch_enter mf_y_handOver (by intro v hv; simp only [List.mem_cons, List.not_mem_nil, or_false] at hv; rcases hv with rfl | rfl | rfl | rfl <;> rfl) (Nat.le_of_ble_eq_true rfl) h
set_option maxHeartbeats 1600000 in
theorem g_y_handOver_0 (g : ch_G) (Q : ch_O → ch_M → Prop) (j : Nat) (p1 : Int32) (p2 : Int32) (p3 : Int32) (m : ch_M) (h : (vp_in p1 5) ∧ (∀ m2 : ch_M, m2 = ch_wr m (1, j, 3) (Int32.toNatClampNeg p1) ((m (1, j, 3) (Int32.toNatClampNeg p1)) - p3) → (vp_in p2 5) ∧ (∀ m4 : ch_M, m4 = ch_wr m2 (1, j, 3) (Int32.toNatClampNeg p2) ((m2 (1, j, 3) (Int32.toNatClampNeg p2)) + p3) → Q (.inl (some (.inl (.int (m4 (1, j, 3) (Int32.toNatClampNeg p1)))))) m4))) : ch_J g m_y_handOver (ch_rm m_y_handOver) (ch_E g m_y_handOver Q) 0 [some (.inr (1, j, 0)), some (.inl (.int p1)), some (.inl (.int p2)), some (.inl (.int p3))] [] m 0 := by
  refine ch_aload_n (i := 0) d_y_handOver_0 rfl rfl ?_
  refine ch_get (v := .inr (1, j, 3)) d_y_handOver_1 fl_y_18 rfl ?_
  refine ch_iload_n (i := 1) d_y_handOver_4 rfl rfl ?_
  refine ch_dup2 d_y_handOver_5 rfl rfl ?_
  have b1 := h.1
  replace h := h.2
  refine ch_iald (n := 5) d_y_handOver_6 (by decide) rfl b1 ?_
  refine ch_iload_n (i := 3) d_y_handOver_7 rfl rfl ?_
  refine ch_isub d_y_handOver_8 ?_
  refine ch_iast (n := 5) d_y_handOver_9 (by decide) rfl b1 ?_
  show ch_J g _ _ _ _ _ _ (ch_wr m (1, j, 3) (Int32.toNatClampNeg p1) ((m (1, j, 3) (Int32.toNatClampNeg p1)) - p3)) _
  generalize hmm2 : ch_wr m (1, j, 3) (Int32.toNatClampNeg p1) ((m (1, j, 3) (Int32.toNatClampNeg p1)) - p3) = m2
  replace h := h m2 hmm2.symm
  refine ch_aload_n (i := 0) d_y_handOver_10 rfl rfl ?_
  refine ch_get (v := .inr (1, j, 3)) d_y_handOver_11 fl_y_18 rfl ?_
  refine ch_iload_n (i := 2) d_y_handOver_14 rfl rfl ?_
  refine ch_dup2 d_y_handOver_15 rfl rfl ?_
  have b3 := h.1
  replace h := h.2
  refine ch_iald (n := 5) d_y_handOver_16 (by decide) rfl b3 ?_
  refine ch_iload_n (i := 3) d_y_handOver_17 rfl rfl ?_
  refine ch_iadd d_y_handOver_18 ?_
  refine ch_iast (n := 5) d_y_handOver_19 (by decide) rfl b3 ?_
  show ch_J g _ _ _ _ _ _ (ch_wr m2 (1, j, 3) (Int32.toNatClampNeg p2) ((m2 (1, j, 3) (Int32.toNatClampNeg p2)) + p3)) _
  generalize hmm4 : ch_wr m2 (1, j, 3) (Int32.toNatClampNeg p2) ((m2 (1, j, 3) (Int32.toNatClampNeg p2)) + p3) = m4
  replace h := h m4 hmm4.symm
  refine ch_aload_n (i := 0) d_y_handOver_20 rfl rfl ?_
  refine ch_get (v := .inr (1, j, 3)) d_y_handOver_21 fl_y_18 rfl ?_
  refine ch_iload_n (i := 1) d_y_handOver_24 rfl rfl ?_
  refine ch_iald (n := 5) d_y_handOver_25 (by decide) rfl b1 ?_
  exact ch_iret (ty := .int) d_y_handOver_26 rfl rfl (Nat.le_of_ble_eq_true rfl) h
theorem e_y_takeChalk (g : ch_G) (Q : ch_O → ch_M → Prop) (j : Nat) (p1 : Int32) (p2 : Int32) (m : ch_M) (h : ch_J g m_y_takeChalk (ch_rm m_y_takeChalk) (ch_E g m_y_takeChalk Q) 0 [some (.inr (1, j, 0)), some (.inl (.int p1)), some (.inl (.int p2))] [] m 0) : ch_C g m_y_takeChalk [.inr (1, j, 0), .inl (.int p1), .inl (.int p2)] m Q :=
  ch_enter mf_y_takeChalk (by intro v hv; simp only [List.mem_cons, List.not_mem_nil, or_false] at hv; rcases hv with rfl | rfl | rfl <;> rfl) (Nat.le_of_ble_eq_true rfl) h
set_option maxHeartbeats 1600000 in
theorem g_y_takeChalk_0 (g : ch_G) (Q : ch_O → ch_M → Prop) (j : Nat) (p1 : Int32) (p2 : Int32) (m : ch_M) (h : (vp_in p1 12) ∧ (∀ m2 : ch_M, m2 = ch_wr m (1, j, 2) (Int32.toNatClampNeg p1) (if ((m (1, j, 2) (Int32.toNatClampNeg p1)) - p2) < 0 then 0 else ((m (1, j, 2) (Int32.toNatClampNeg p1)) - p2)) → ((¬ (m2 (1, j, 2) (Int32.toNatClampNeg p1)) = 0 → ((¬ (m2 (1, j, 2) (Int32.toNatClampNeg p1)) = 0 → Q (.inl (some (.inl (.int 0)))) m2) ∧ ((m2 (1, j, 2) (Int32.toNatClampNeg p1)) = 0 → Q (.inl (some (.inl (.int 1)))) m2))) ∧ ((m2 (1, j, 2) (Int32.toNatClampNeg p1)) = 0 → (∀ m3 : ch_M, m3 = ch_wr m2 (1, j, 1) (Int32.toNatClampNeg p1) (-1) → ((¬ (m3 (1, j, 2) (Int32.toNatClampNeg p1)) = 0 → Q (.inl (some (.inl (.int 0)))) m3) ∧ ((m3 (1, j, 2) (Int32.toNatClampNeg p1)) = 0 → Q (.inl (some (.inl (.int 1)))) m3))))))) : ch_J g m_y_takeChalk (ch_rm m_y_takeChalk) (ch_E g m_y_takeChalk Q) 0 [some (.inr (1, j, 0)), some (.inl (.int p1)), some (.inl (.int p2))] [] m 0 := by
  refine ch_aload_n (i := 0) d_y_takeChalk_0 rfl rfl ?_
  refine ch_get (v := .inr (1, j, 2)) d_y_takeChalk_1 fl_y_15 rfl ?_
  refine ch_iload_n (i := 1) d_y_takeChalk_4 rfl rfl ?_
  refine ch_aload_n (i := 0) d_y_takeChalk_5 rfl rfl ?_
  refine ch_get (v := .inr (1, j, 2)) d_y_takeChalk_6 fl_y_15 rfl ?_
  refine ch_iload_n (i := 1) d_y_takeChalk_9 rfl rfl ?_
  have b1 := h.1
  replace h := h.2
  refine ch_iald (n := 12) d_y_takeChalk_10 (by decide) rfl b1 ?_
  refine ch_iload_n (i := 2) d_y_takeChalk_11 rfl rfl ?_
  refine ch_isub d_y_takeChalk_12 ?_
  refine ch_iconst (v := 0) d_y_takeChalk_13 (by decide) ?_
  refine ch_max d_y_takeChalk_14 lk_y_143 ⟨Nat.le_of_ble_eq_true rfl, Nat.le_of_ble_eq_true rfl⟩ ⟨Nat.le_of_ble_eq_true rfl, Nat.le_of_ble_eq_true rfl⟩ (Nat.le_of_ble_eq_true rfl) ?_
  refine ch_iast (n := 12) d_y_takeChalk_17 (by decide) rfl b1 ?_
  show ch_J g _ _ _ _ _ _ (ch_wr m (1, j, 2) (Int32.toNatClampNeg p1) (if ((m (1, j, 2) (Int32.toNatClampNeg p1)) - p2) < 0 then 0 else ((m (1, j, 2) (Int32.toNatClampNeg p1)) - p2))) _
  generalize hmm2 : ch_wr m (1, j, 2) (Int32.toNatClampNeg p1) (if ((m (1, j, 2) (Int32.toNatClampNeg p1)) - p2) < 0 then 0 else ((m (1, j, 2) (Int32.toNatClampNeg p1)) - p2)) = m2
  replace h := h m2 hmm2.symm
  refine ch_aload_n (i := 0) d_y_takeChalk_18 rfl rfl ?_
  refine ch_get (v := .inr (1, j, 2)) d_y_takeChalk_19 fl_y_15 rfl ?_
  refine ch_iload_n (i := 1) d_y_takeChalk_22 rfl rfl ?_
  refine ch_iald (n := 12) d_y_takeChalk_23 (by decide) rfl b1 ?_
  refine ch_if_ne (tgt := 34) d_y_takeChalk_24 (by decide) (fun c => ?_) (fun c => ?_)
  · replace h := h.1 c
    refine ch_aload_n (i := 0) d_y_takeChalk_34 rfl rfl ?_
    refine ch_get (v := .inr (1, j, 2)) d_y_takeChalk_35 fl_y_15 rfl ?_
    refine ch_iload_n (i := 1) d_y_takeChalk_38 rfl rfl ?_
    refine ch_iald (n := 12) d_y_takeChalk_39 (by decide) rfl b1 ?_
    refine ch_if_ne (tgt := 47) d_y_takeChalk_40 (by decide) (fun c => ?_) (fun c => ?_)
    · replace h := h.1 c
      refine ch_iconst (v := 0) d_y_takeChalk_47 (by decide) ?_
      exact ch_iret (ty := .boolean) d_y_takeChalk_48 rfl rfl (Nat.le_of_ble_eq_true rfl) h
    · replace h := h.2 c
      refine ch_iconst (v := 1) d_y_takeChalk_43 (by decide) ?_
      refine ch_goto (tgt := 48) d_y_takeChalk_44 (by decide) ?_
      exact ch_iret (ty := .boolean) d_y_takeChalk_48 rfl rfl (Nat.le_of_ble_eq_true rfl) h
  · replace h := h.2 c
    refine ch_aload_n (i := 0) d_y_takeChalk_27 rfl rfl ?_
    refine ch_get (v := .inr (1, j, 1)) d_y_takeChalk_28 fl_y_9 rfl ?_
    refine ch_iload_n (i := 1) d_y_takeChalk_31 rfl rfl ?_
    refine ch_iconst (v := (-1)) d_y_takeChalk_32 (by decide) ?_
    refine ch_iast (n := 12) d_y_takeChalk_33 (by decide) rfl b1 ?_
    show ch_J g _ _ _ _ _ _ (ch_wr m2 (1, j, 1) (Int32.toNatClampNeg p1) (-1)) _
    generalize hmm3 : ch_wr m2 (1, j, 1) (Int32.toNatClampNeg p1) (-1) = m3
    replace h := h m3 hmm3.symm
    refine ch_aload_n (i := 0) d_y_takeChalk_34 rfl rfl ?_
    refine ch_get (v := .inr (1, j, 2)) d_y_takeChalk_35 fl_y_15 rfl ?_
    refine ch_iload_n (i := 1) d_y_takeChalk_38 rfl rfl ?_
    refine ch_iald (n := 12) d_y_takeChalk_39 (by decide) rfl b1 ?_
    refine ch_if_ne (tgt := 47) d_y_takeChalk_40 (by decide) (fun c => ?_) (fun c => ?_)
    · replace h := h.1 c
      refine ch_iconst (v := 0) d_y_takeChalk_47 (by decide) ?_
      exact ch_iret (ty := .boolean) d_y_takeChalk_48 rfl rfl (Nat.le_of_ble_eq_true rfl) h
    · replace h := h.2 c
      refine ch_iconst (v := 1) d_y_takeChalk_43 (by decide) ?_
      refine ch_goto (tgt := 48) d_y_takeChalk_44 (by decide) ?_
      exact ch_iret (ty := .boolean) d_y_takeChalk_48 rfl rfl (Nat.le_of_ble_eq_true rfl) h
