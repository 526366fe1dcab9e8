theorem e_y_hopBy (g : ch_G) (Q : ch_O → ch_M → Prop) (j : Nat) (p1 : Int32) (j2 : Nat) (m : ch_M) (h : ch_J g m_y_hopBy (ch_rm m_y_hopBy) (ch_E g m_y_hopBy Q) 0 [some (.inr (1, j, 0)), some (.inl (.int p1)), some (.inr (5, j2, 0)), none, none, none] [] m 0) : ch_C g m_y_hopBy [.inr (1, j, 0), .inl (.int p1), .inr (5, j2, 0)] m Q :=
  ch_enter mf_y_hopBy (by intro v hv; simp only [List.mem_cons, List.not_mem_nil, or_false] at hv; rcases hv with rfl | rfl | rfl <;> rfl) (Nat.le_of_ble_eq_true rfl) h
set_option maxHeartbeats 1600000 in
theorem g_y_hopBy_0 (g : ch_G) (Q : ch_O → ch_M → Prop) (j : Nat) (p1 : Int32) (j2 : Nat) (m : ch_M) (h : (vp_in (m (5, j2, 0) 1) 13) ∧ (ch_J g m_y_hopBy (ch_rm m_y_hopBy) (ch_E g m_y_hopBy Q) 13 [some (.inr (1, j, 0)), some (.inl (.int p1)), some (.inr (5, j2, 0)), some (.inl (.int (y_ct (ch_ob m 1 j) p1 (m (5, j2, 1)) (Int32.toNatClampNeg (m (5, j2, 0) 1))))), some (.inl (.int (-1))), some (.inl (.int 0))] [] m 0)) : ch_J g m_y_hopBy (ch_rm m_y_hopBy) (ch_E g m_y_hopBy Q) 0 [some (.inr (1, j, 0)), some (.inl (.int p1)), some (.inr (5, j2, 0)), none, none, none] [] m 0 := by
  refine ch_aload_n (i := 0) d_y_hopBy_0 rfl rfl ?_
  refine ch_iload_n (i := 1) d_y_hopBy_1 rfl rfl ?_
  refine ch_aload_n (i := 2) d_y_hopBy_2 rfl rfl ?_
  have b4 := h.1
  replace h := h.2
  refine ch_callV (as := [.inl (.int p1), .inr (5, j2, 0)]) d_y_hopBy_3 lk_y_122 mi_y_countTreads me_y_countTreads rfl rfl rfl ⟨Nat.le_of_ble_eq_true rfl, Nat.le_of_ble_eq_true rfl⟩ (Nat.le_of_ble_eq_true rfl) ⟨Nat.le_of_ble_eq_true rfl, Nat.le_of_ble_eq_true rfl⟩ (ch_mono (ch_Ki (fun r1 m2 q3 => ?_)) (s_y_countTreads g (fun (r_ : Int32) (m_ : ch_M) => ((y_ct (ch_ob m 1 j) p1 (m (5, j2, 1)) (Int32.toNatClampNeg (m (5, j2, 0) 1))) = r_ ∧ m = m_)) (j) (p1) (j2) m ⟨b4, ⟨rfl, rfl⟩⟩))
  obtain ⟨rfl, rfl⟩ := q3
  replace h := h
  refine ch_istore_n (i := 3) d_y_hopBy_6 rfl (Nat.le_of_ble_eq_true rfl) (ls' := [some (.inr (1, j, 0)), some (.inl (.int p1)), some (.inr (5, j2, 0)), some (.inl (.int (y_ct (ch_ob m 1 j) p1 (m (5, j2, 1)) (Int32.toNatClampNeg (m (5, j2, 0) 1))))), none, none]) rfl ?_
  refine ch_iconst (v := (-1)) d_y_hopBy_7 (by decide) ?_
  refine ch_istore (i := 4) d_y_hopBy_8 (Nat.le_of_ble_eq_true rfl) (ls' := [some (.inr (1, j, 0)), some (.inl (.int p1)), some (.inr (5, j2, 0)), some (.inl (.int (y_ct (ch_ob m 1 j) p1 (m (5, j2, 1)) (Int32.toNatClampNeg (m (5, j2, 0) 1))))), some (.inl (.int (-1))), none]) rfl ?_
  refine ch_iconst (v := 0) d_y_hopBy_10 (by decide) ?_
  refine ch_istore (i := 5) d_y_hopBy_11 (Nat.le_of_ble_eq_true rfl) (ls' := [some (.inr (1, j, 0)), some (.inl (.int p1)), some (.inr (5, j2, 0)), some (.inl (.int (y_ct (ch_ob m 1 j) p1 (m (5, j2, 1)) (Int32.toNatClampNeg (m (5, j2, 0) 1))))), some (.inl (.int (-1))), some (.inl (.int 0))]) rfl ?_
  exact h
set_option maxHeartbeats 1600000 in
theorem g_y_hopBy_13 (g : ch_G) (Q : ch_O → ch_M → Prop) (j : Nat) (x1 : Int32) (j2 : Nat) (x3 : Int32) (x4 : Int32) (x5 : Int32) (m : ch_M) (h : (((m (5, j2, 0) 1) ≤ x5 → (vp_in x1 5) ∧ (∀ m2 : ch_M, m2 = ch_wr m (1, j, 4) (Int32.toNatClampNeg x1) ((m (1, j, 4) (Int32.toNatClampNeg x1)) + x3) → (∀ m3 : ch_M, m3 = ch_wr m2 (1, j, 0) 12 ((m2 (1, j, 0) 12) + x3) → (∀ m4 : ch_M, m4 = ch_wr m3 (1, j, 6) (Int32.toNatClampNeg x1) ((m3 (1, j, 6) (Int32.toNatClampNeg x1)) + 1) → Q (.inl (some (.inl (.int x3)))) m4)))) ∧ (¬ (m (5, j2, 0) 1) ≤ x5 → (vp_in x5 12) ∧ (((ch_line (ch_ob m 1 j) x1 (x4 + (m (5, j2, 1) (Int32.toNatClampNeg x5)))) → (vp_in (x4 + (m (5, j2, 1) (Int32.toNatClampNeg x5))) 12) ∧ (vp_in (m (1, j, 1) (Int32.toNatClampNeg (x4 + (m (5, j2, 1) (Int32.toNatClampNeg x5))))) 5) ∧ (∀ m11 : ch_M, m11 = ch_wr m (1, j, 7) (Int32.toNatClampNeg (m (1, j, 1) (Int32.toNatClampNeg (x4 + (m (5, j2, 1) (Int32.toNatClampNeg x5)))))) ((m (1, j, 7) (Int32.toNatClampNeg (m (1, j, 1) (Int32.toNatClampNeg (x4 + (m (5, j2, 1) (Int32.toNatClampNeg x5))))))) + 1) → (((y_tkv (ch_ob m11 1 j) (x4 + (m (5, j2, 1) (Int32.toNatClampNeg x5))) 1 = 0) → (∀ m13 : ch_M, m13 = ch_os m11 1 j (y_tk (ch_ob m11 1 j) (x4 + (m (5, j2, 1) (Int32.toNatClampNeg x5))) 1) → ch_J g m_y_hopBy (ch_rm m_y_hopBy) (ch_E g m_y_hopBy Q) 13 [some (.inr (1, j, 0)), some (.inl (.int x1)), some (.inr (5, j2, 0)), some (.inl (.int x3)), some (.inl (.int (x4 + (m (5, j2, 1) (Int32.toNatClampNeg x5))))), some (.inl (.int (x5 + 1)))] [] m13 0)) ∧ ((¬ y_tkv (ch_ob m11 1 j) (x4 + (m (5, j2, 1) (Int32.toNatClampNeg x5))) 1 = 0) → (∀ m13 : ch_M, m13 = ch_os m11 1 j (y_tk (ch_ob m11 1 j) (x4 + (m (5, j2, 1) (Int32.toNatClampNeg x5))) 1) → ch_J g m_y_hopBy (ch_rm m_y_hopBy) (ch_E g m_y_hopBy Q) 13 [some (.inr (1, j, 0)), some (.inl (.int x1)), some (.inr (5, j2, 0)), some (.inl (.int x3)), some (.inl (.int (x4 + (m (5, j2, 1) (Int32.toNatClampNeg x5))))), some (.inl (.int (x5 + 1)))] [] m13 0))))) ∧ ((¬ ch_line (ch_ob m 1 j) x1 (x4 + (m (5, j2, 1) (Int32.toNatClampNeg x5)))) → ch_J g m_y_hopBy (ch_rm m_y_hopBy) (ch_E g m_y_hopBy Q) 13 [some (.inr (1, j, 0)), some (.inl (.int x1)), some (.inr (5, j2, 0)), some (.inl (.int x3)), some (.inl (.int (x4 + (m (5, j2, 1) (Int32.toNatClampNeg x5))))), some (.inl (.int (x5 + 1)))] [] m 0))))) : ch_J g m_y_hopBy (ch_rm m_y_hopBy) (ch_E g m_y_hopBy Q) 13 [some (.inr (1, j, 0)), some (.inl (.int x1)), some (.inr (5, j2, 0)), some (.inl (.int x3)), some (.inl (.int x4)), some (.inl (.int x5))] [] m 0 := by
  refine ch_iload d_y_hopBy_13 rfl ?_
  refine ch_aload_n (i := 2) d_y_hopBy_15 rfl rfl ?_
  refine ch_get (v := .inl (.int (m (5, j2, 0) 1))) d_y_hopBy_16 fl_y_125 rfl ?_
  refine ch_icmp_ge (tgt := 74) d_y_hopBy_19 (by decide) (fun c => ?_) (fun c => ?_)
  · replace h := h.1 c
    refine ch_aload_n (i := 0) d_y_hopBy_74 rfl rfl ?_
    refine ch_get (v := .inr (1, j, 4)) d_y_hopBy_75 fl_y_21 rfl ?_
    refine ch_iload_n (i := 1) d_y_hopBy_78 rfl rfl ?_
    refine ch_dup2 d_y_hopBy_79 rfl rfl ?_
    have b1 := h.1
    replace h := h.2
    refine ch_iald (n := 5) d_y_hopBy_80 (by decide) rfl b1 ?_
    refine ch_iload_n (i := 3) d_y_hopBy_81 rfl rfl ?_
    refine ch_iadd d_y_hopBy_82 ?_
    refine ch_iast (n := 5) d_y_hopBy_83 (by decide) rfl b1 ?_
    show ch_J g _ _ _ _ _ _ (ch_wr m (1, j, 4) (Int32.toNatClampNeg x1) ((m (1, j, 4) (Int32.toNatClampNeg x1)) + x3)) _
    generalize hmm2 : ch_wr m (1, j, 4) (Int32.toNatClampNeg x1) ((m (1, j, 4) (Int32.toNatClampNeg x1)) + x3) = m2
    replace h := h m2 hmm2.symm
    refine ch_aload_n (i := 0) d_y_hopBy_84 rfl rfl ?_
    refine ch_dup d_y_hopBy_85 rfl ?_
    refine ch_get (v := .inl (.int (m2 (1, j, 0) 12))) d_y_hopBy_86 fl_y_55 rfl ?_
    refine ch_iload_n (i := 3) d_y_hopBy_89 rfl rfl ?_
    refine ch_iadd d_y_hopBy_90 ?_
    refine ch_put d_y_hopBy_91 fp_y_55 rfl rfl rfl ?_
    generalize hmm3 : ch_wr m2 (1, j, 0) 12 ((m2 (1, j, 0) 12) + x3) = m3
    replace h := h m3 hmm3.symm
    refine ch_aload_n (i := 0) d_y_hopBy_94 rfl rfl ?_
    refine ch_get (v := .inr (1, j, 6)) d_y_hopBy_95 fl_y_27 rfl ?_
    refine ch_iload_n (i := 1) d_y_hopBy_98 rfl rfl ?_
    refine ch_dup2 d_y_hopBy_99 rfl rfl ?_
    refine ch_iald (n := 5) d_y_hopBy_100 (by decide) rfl b1 ?_
    refine ch_iconst (v := 1) d_y_hopBy_101 (by decide) ?_
    refine ch_iadd d_y_hopBy_102 ?_
    refine ch_iast (n := 5) d_y_hopBy_103 (by decide) rfl b1 ?_
    show ch_J g _ _ _ _ _ _ (ch_wr m3 (1, j, 6) (Int32.toNatClampNeg x1) ((m3 (1, j, 6) (Int32.toNatClampNeg x1)) + 1)) _
    generalize hmm4 : ch_wr m3 (1, j, 6) (Int32.toNatClampNeg x1) ((m3 (1, j, 6) (Int32.toNatClampNeg x1)) + 1) = m4
    replace h := h m4 hmm4.symm
    refine ch_iload_n (i := 3) d_y_hopBy_104 rfl rfl ?_
    exact ch_iret (ty := .int) d_y_hopBy_105 rfl rfl (Nat.le_of_ble_eq_true rfl) h
  · replace h := h.2 c
    refine ch_iload d_y_hopBy_22 rfl ?_
    refine ch_aload_n (i := 2) d_y_hopBy_24 rfl rfl ?_
    refine ch_get (v := .inr (5, j2, 1)) d_y_hopBy_25 fl_y_130 rfl ?_
    refine ch_iload d_y_hopBy_28 rfl ?_
    have b5 := h.1
    replace h := h.2
    refine ch_iald (n := 12) d_y_hopBy_30 (by decide) rfl b5 ?_
    refine ch_iadd d_y_hopBy_31 ?_
    refine ch_istore (i := 4) d_y_hopBy_32 (Nat.le_of_ble_eq_true rfl) (ls' := [some (.inr (1, j, 0)), some (.inl (.int x1)), some (.inr (5, j2, 0)), some (.inl (.int x3)), some (.inl (.int (x4 + (m (5, j2, 1) (Int32.toNatClampNeg x5))))), some (.inl (.int x5))]) rfl ?_
    refine ch_aload_n (i := 0) d_y_hopBy_34 rfl rfl ?_
    refine ch_iload_n (i := 1) d_y_hopBy_35 rfl rfl ?_
    refine ch_iload d_y_hopBy_36 rfl ?_
    refine ch_callV (as := [.inl (.int x1), .inl (.int (x4 + (m (5, j2, 1) (Int32.toNatClampNeg x5))))]) d_y_hopBy_38 lk_y_133 mi_y_isLineFor me_y_isLineFor rfl rfl rfl ⟨Nat.le_of_ble_eq_true rfl, Nat.le_of_ble_eq_true rfl⟩ (Nat.le_of_ble_eq_true rfl) ⟨Nat.le_of_ble_eq_true rfl, Nat.le_of_ble_eq_true rfl⟩ (ch_mono (ch_Ki (fun r6 m7 q8 => ?_)) (s_y_isLineFor g (fun (r_ : Int32) (m_ : ch_M) => ((ch_line (ch_ob m 1 j) x1 (x4 + (m (5, j2, 1) (Int32.toNatClampNeg x5)))) ∧ 1 = r_ ∧ m = m_) ∨ ((¬ ch_line (ch_ob m 1 j) x1 (x4 + (m (5, j2, 1) (Int32.toNatClampNeg x5)))) ∧ 0 = r_ ∧ m = m_)) (j) (x1) ((x4 + (m (5, j2, 1) (Int32.toNatClampNeg x5)))) m ⟨(fun c_ => (Or.inl ⟨c_, rfl, rfl⟩)), (fun c_ => (Or.inr ⟨c_, rfl, rfl⟩))⟩))
    rcases q8 with ⟨c_, rfl, rfl⟩ | ⟨c_, rfl, rfl⟩
    · replace h := h.1 c_
      refine ch_if_eq (tgt := 68) d_y_hopBy_41 (by decide) (fun c => absurd c (by decide)) (fun _ => ?_)
      refine ch_aload_n (i := 0) d_y_hopBy_44 rfl rfl ?_
      refine ch_get (v := .inr (1, j, 7)) d_y_hopBy_45 fl_y_30 rfl ?_
      refine ch_aload_n (i := 0) d_y_hopBy_48 rfl rfl ?_
      refine ch_get (v := .inr (1, j, 1)) d_y_hopBy_49 fl_y_9 rfl ?_
      refine ch_iload d_y_hopBy_52 rfl ?_
      have b9 := h.1
      replace h := h.2
      refine ch_iald (n := 12) d_y_hopBy_54 (by decide) rfl b9 ?_
      refine ch_dup2 d_y_hopBy_55 rfl rfl ?_
      have b10 := h.1
      replace h := h.2
      refine ch_iald (n := 5) d_y_hopBy_56 (by decide) rfl b10 ?_
      refine ch_iconst (v := 1) d_y_hopBy_57 (by decide) ?_
      refine ch_iadd d_y_hopBy_58 ?_
      refine ch_iast (n := 5) d_y_hopBy_59 (by decide) rfl b10 ?_
      show ch_J g _ _ _ _ _ _ (ch_wr m (1, j, 7) (Int32.toNatClampNeg (m (1, j, 1) (Int32.toNatClampNeg (x4 + (m (5, j2, 1) (Int32.toNatClampNeg x5)))))) ((m (1, j, 7) (Int32.toNatClampNeg (m (1, j, 1) (Int32.toNatClampNeg (x4 + (m (5, j2, 1) (Int32.toNatClampNeg x5))))))) + 1)) _
      generalize hmm11 : ch_wr m (1, j, 7) (Int32.toNatClampNeg (m (1, j, 1) (Int32.toNatClampNeg (x4 + (m (5, j2, 1) (Int32.toNatClampNeg x5)))))) ((m (1, j, 7) (Int32.toNatClampNeg (m (1, j, 1) (Int32.toNatClampNeg (x4 + (m (5, j2, 1) (Int32.toNatClampNeg x5))))))) + 1) = m11
      replace h := h m11 hmm11.symm
      refine ch_aload_n (i := 0) d_y_hopBy_60 rfl rfl ?_
      refine ch_iload d_y_hopBy_61 rfl ?_
      refine ch_iconst (v := 1) d_y_hopBy_63 (by decide) ?_
      refine ch_callV (as := [.inl (.int (x4 + (m (5, j2, 1) (Int32.toNatClampNeg x5)))), .inl (.int 1)]) d_y_hopBy_64 lk_y_137 mi_y_takeChalk me_y_takeChalk rfl rfl rfl ⟨Nat.le_of_ble_eq_true rfl, Nat.le_of_ble_eq_true rfl⟩ (Nat.le_of_ble_eq_true rfl) ⟨Nat.le_of_ble_eq_true rfl, Nat.le_of_ble_eq_true rfl⟩ (ch_mono (ch_Ki (fun r12 m13 q14 => ?_)) (s_y_takeChalk g (fun (r_ : Int32) (m_ : ch_M) => ((y_tkv (ch_ob m11 1 j) (x4 + (m (5, j2, 1) (Int32.toNatClampNeg x5))) 1 = 0) ∧ 1 = r_ ∧ m_ = ch_os m11 1 j (y_tk (ch_ob m11 1 j) (x4 + (m (5, j2, 1) (Int32.toNatClampNeg x5))) 1)) ∨ ((¬ y_tkv (ch_ob m11 1 j) (x4 + (m (5, j2, 1) (Int32.toNatClampNeg x5))) 1 = 0) ∧ 0 = r_ ∧ m_ = ch_os m11 1 j (y_tk (ch_ob m11 1 j) (x4 + (m (5, j2, 1) (Int32.toNatClampNeg x5))) 1))) (j) ((x4 + (m (5, j2, 1) (Int32.toNatClampNeg x5)))) (1) m11 ⟨b9, (fun c_ => (Or.inl ⟨c_, rfl, rfl⟩)), (fun c_ => (Or.inr ⟨c_, rfl, rfl⟩))⟩))
      rcases q14 with ⟨c_, rfl, hm_⟩ | ⟨c_, rfl, hm_⟩
      · replace h := h.1 c_ m13 hm_
        refine ch_pop d_y_hopBy_67 rfl ?_
        refine ch_iinc (i := 5) (v := (x5 + 1)) d_y_hopBy_68 rfl rfl (Nat.le_of_ble_eq_true rfl) (ls' := [some (.inr (1, j, 0)), some (.inl (.int x1)), some (.inr (5, j2, 0)), some (.inl (.int x3)), some (.inl (.int (x4 + (m (5, j2, 1) (Int32.toNatClampNeg x5))))), some (.inl (.int (x5 + 1)))]) rfl ?_
        refine ch_goto (tgt := 13) d_y_hopBy_71 (by decide) ?_
        exact h
      · replace h := h.2 c_ m13 hm_
        refine ch_pop d_y_hopBy_67 rfl ?_
        refine ch_iinc (i := 5) (v := (x5 + 1)) d_y_hopBy_68 rfl rfl (Nat.le_of_ble_eq_true rfl) (ls' := [some (.inr (1, j, 0)), some (.inl (.int x1)), some (.inr (5, j2, 0)), some (.inl (.int x3)), some (.inl (.int (x4 + (m (5, j2, 1) (Int32.toNatClampNeg x5))))), some (.inl (.int (x5 + 1)))]) rfl ?_
        refine ch_goto (tgt := 13) d_y_hopBy_71 (by decide) ?_
        exact h
    · replace h := h.2 c_
      refine ch_if_eq (tgt := 68) d_y_hopBy_41 (by decide) (fun _ => ?_) (fun c => absurd c (by decide))
      refine ch_iinc (i := 5) (v := (x5 + 1)) d_y_hopBy_68 rfl rfl (Nat.le_of_ble_eq_true rfl) (ls' := [some (.inr (1, j, 0)), some (.inl (.int x1)), some (.inr (5, j2, 0)), some (.inl (.int x3)), some (.inl (.int (x4 + (m (5, j2, 1) (Int32.toNatClampNeg x5))))), some (.inl (.int (x5 + 1)))]) rfl ?_
      refine ch_goto (tgt := 13) d_y_hopBy_71 (by decide) ?_
      exact h
theorem e_y_strikeOut (g : ch_G) (Q : ch_O → ch_M → Prop) (j : Nat) (p1 : Int32) (m : ch_M) (h : ch_J g m_y_strikeOut (ch_rm m_y_strikeOut) (ch_E g m_y_strikeOut Q) 0 [some (.inr (1, j, 0)), some (.inl (.int p1))] [] m 0) : ch_C g m_y_strikeOut [.inr (1, j, 0), .inl (.int p1)] m Q :=
  ch_enter mf_y_strikeOut (by intro v hv; simp only [List.mem_cons, List.not_mem_nil, or_false] at hv; rcases hv with rfl | rfl <;> rfl) (Nat.le_of_ble_eq_true rfl) h
set_option maxHeartbeats 1600000 in
theorem g_y_strikeOut_0 (g : ch_G) (Q : ch_O → ch_M → Prop) (j : Nat) (p1 : Int32) (m : ch_M) (h : (vp_in p1 5) ∧ (∀ m2 : ch_M, m2 = ch_wr m (1, j, 3) (Int32.toNatClampNeg p1) ((m (1, j, 3) (Int32.toNatClampNeg p1)) - (m (1, j, 5) (Int32.toNatClampNeg p1))) → (∀ m3 : ch_M, m3 = ch_wr m2 (1, j, 0) 10 ((m2 (1, j, 0) 10) + (m2 (1, j, 5) (Int32.toNatClampNeg p1))) → (∀ m4 : ch_M, m4 = ch_wr m3 (1, j, 5) (Int32.toNatClampNeg p1) 0 → (vp_in (m4 (1, j, 0) 9) 6) ∧ (∀ i_, i_ < 5 → vp_in (m4 (1, j, 8) i_) 5) ∧ ((∀ m6 : ch_M, m6 = ch_os m4 1 j (y_clB (ch_ob m4 1 j)) → Q (.inl (some (.inl (.int (m6 (1, j, 3) (Int32.toNatClampNeg p1)))))) m6)))))) : ch_J g m_y_strikeOut (ch_rm m_y_strikeOut) (ch_E g m_y_strikeOut Q) 0 [some (.inr (1, j, 0)), some (.inl (.int p1))] [] m 0 := by
  refine ch_aload_n (i := 0) d_y_strikeOut_0 rfl rfl ?_
  refine ch_get (v := .inr (1, j, 3)) d_y_strikeOut_1 fl_y_18 rfl ?_
  refine ch_iload_n (i := 1) d_y_strikeOut_4 rfl rfl ?_
  refine ch_dup2 d_y_strikeOut_5 rfl rfl ?_
  have b1 := h.1
  replace h := h.2
  refine ch_iald (n := 5) d_y_strikeOut_6 (by decide) rfl b1 ?_
  refine ch_aload_n (i := 0) d_y_strikeOut_7 rfl rfl ?_
  refine ch_get (v := .inr (1, j, 5)) d_y_strikeOut_8 fl_y_24 rfl ?_
  refine ch_iload_n (i := 1) d_y_strikeOut_11 rfl rfl ?_
  refine ch_iald (n := 5) d_y_strikeOut_12 (by decide) rfl b1 ?_
  refine ch_isub d_y_strikeOut_13 ?_
  refine ch_iast (n := 5) d_y_strikeOut_14 (by decide) rfl b1 ?_
  show ch_J g _ _ _ _ _ _ (ch_wr m (1, j, 3) (Int32.toNatClampNeg p1) ((m (1, j, 3) (Int32.toNatClampNeg p1)) - (m (1, j, 5) (Int32.toNatClampNeg p1)))) _
  generalize hmm2 : ch_wr m (1, j, 3) (Int32.toNatClampNeg p1) ((m (1, j, 3) (Int32.toNatClampNeg p1)) - (m (1, j, 5) (Int32.toNatClampNeg p1))) = m2
  replace h := h m2 hmm2.symm
  refine ch_aload_n (i := 0) d_y_strikeOut_15 rfl rfl ?_
  refine ch_dup d_y_strikeOut_16 rfl ?_
  refine ch_get (v := .inl (.int (m2 (1, j, 0) 10))) d_y_strikeOut_17 fl_y_49 rfl ?_
  refine ch_aload_n (i := 0) d_y_strikeOut_20 rfl rfl ?_
  refine ch_get (v := .inr (1, j, 5)) d_y_strikeOut_21 fl_y_24 rfl ?_
  refine ch_iload_n (i := 1) d_y_strikeOut_24 rfl rfl ?_
  refine ch_iald (n := 5) d_y_strikeOut_25 (by decide) rfl b1 ?_
  refine ch_iadd d_y_strikeOut_26 ?_
  refine ch_put d_y_strikeOut_27 fp_y_49 rfl rfl rfl ?_
  generalize hmm3 : ch_wr m2 (1, j, 0) 10 ((m2 (1, j, 0) 10) + (m2 (1, j, 5) (Int32.toNatClampNeg p1))) = m3
  replace h := h m3 hmm3.symm
  refine ch_aload_n (i := 0) d_y_strikeOut_30 rfl rfl ?_
  refine ch_get (v := .inr (1, j, 5)) d_y_strikeOut_31 fl_y_24 rfl ?_
  refine ch_iload_n (i := 1) d_y_strikeOut_34 rfl rfl ?_
  refine ch_iconst (v := 0) d_y_strikeOut_35 (by decide) ?_
  refine ch_iast (n := 5) d_y_strikeOut_36 (by decide) rfl b1 ?_
  show ch_J g _ _ _ _ _ _ (ch_wr m3 (1, j, 5) (Int32.toNatClampNeg p1) 0) _
  generalize hmm4 : ch_wr m3 (1, j, 5) (Int32.toNatClampNeg p1) 0 = m4
  replace h := h m4 hmm4.symm
  refine ch_aload_n (i := 0) d_y_strikeOut_37 rfl rfl ?_
  have b8 := h.1
  replace h := h.2
  have b9 := h.1
  replace h := h.2
  refine ch_callV (as := []) d_y_strikeOut_38 lk_y_140 mi_y_closeOrder me_y_closeOrder rfl rfl rfl ⟨Nat.le_of_ble_eq_true rfl, Nat.le_of_ble_eq_true rfl⟩ (Nat.le_of_ble_eq_true rfl) ⟨Nat.le_of_ble_eq_true rfl, Nat.le_of_ble_eq_true rfl⟩ (ch_mono (ch_Ki (fun r5 m6 q7 => ?_)) (s_y_closeOrder g (fun (r_ : Int32) (m_ : ch_M) => ((m4 (1, j, 0) 9 - nI (y_clk (ch_ob m4 1 j) (Int32.toNatClampNeg (m4 (1, j, 0) 9))).2) = r_ ∧ m_ = ch_os m4 1 j (y_clB (ch_ob m4 1 j)))) (j) m4 ⟨b8, b9, ⟨rfl, rfl⟩⟩))
  obtain ⟨rfl, hm_⟩ := q7
  replace h := h m6 hm_
  refine ch_pop d_y_strikeOut_41 rfl ?_
  refine ch_aload_n (i := 0) d_y_strikeOut_42 rfl rfl ?_
  refine ch_get (v := .inr (1, j, 3)) d_y_strikeOut_43 fl_y_18 rfl ?_
  refine ch_iload_n (i := 1) d_y_strikeOut_46 rfl rfl ?_
  refine ch_iald (n := 5) d_y_strikeOut_47 (by decide) rfl b1 ?_
  exact ch_iret (ty := .int) d_y_strikeOut_48 rfl rfl (Nat.le_of_ble_eq_true rfl) h
theorem e_y_wash (g : ch_G) (Q : ch_O → ch_M → Prop) (j : Nat) (p1 : Int32) (m : ch_M) (h : ch_J g m_y_wash (ch_rm m_y_wash) (ch_E g m_y_wash Q) 0 [some (.inr (1, j, 0)), some (.inl (.int p1)), none, none, none] [] m 0) : ch_C g m_y_wash [.inr (1, j, 0), .inl (.int p1)] m Q :=
  ch_enter mf_y_wash (by intro v hv; simp only [List.mem_cons, List.not_mem_nil, or_false] at hv; rcases hv with rfl | rfl <;> rfl) (Nat.le_of_ble_eq_true rfl) h
set_option maxHeartbeats 1600000 in
theorem g_y_wash_0 (g : ch_G) (Q : ch_O → ch_M → Prop) (j : Nat) (p1 : Int32) (m : ch_M) (h : ch_J g m_y_wash (ch_rm m_y_wash) (ch_E g m_y_wash Q) 4 [some (.inr (1, j, 0)), some (.inl (.int p1)), some (.inl (.int 0)), some (.inl (.int 0)), none] [] m 0) : ch_J g m_y_wash (ch_rm m_y_wash) (ch_E g m_y_wash Q) 0 [some (.inr (1, j, 0)), some (.inl (.int p1)), none, none, none] [] m 0 := by
  refine ch_iconst (v := 0) d_y_wash_0 (by decide) ?_
  refine ch_istore_n (i := 2) d_y_wash_1 rfl (Nat.le_of_ble_eq_true rfl) (ls' := [some (.inr (1, j, 0)), some (.inl (.int p1)), some (.inl (.int 0)), none, none]) rfl ?_
  refine ch_iconst (v := 0) d_y_wash_2 (by decide) ?_
  refine ch_istore_n (i := 3) d_y_wash_3 rfl (Nat.le_of_ble_eq_true rfl) (ls' := [some (.inr (1, j, 0)), some (.inl (.int p1)), some (.inl (.int 0)), some (.inl (.int 0)), none]) rfl ?_
  exact h
set_option maxHeartbeats 1600000 in
theorem g_y_wash_4 (g : ch_G) (Q : ch_O → ch_M → Prop) (j : Nat) (x1 : Int32) (x2 : Int32) (x3 : Int32) (o4 : Option ch_V) (m : ch_M) (h : ((12 ≤ x3 → ch_J g m_y_wash (ch_rm m_y_wash) (ch_E g m_y_wash Q) 40 [some (.inr (1, j, 0)), some (.inl (.int x1)), some (.inl (.int x2)), some (.inl (.int 0)), o4] [] m 0) ∧ (¬ 12 ≤ x3 → (vp_in x3 12) ∧ (((m (1, j, 1) (Int32.toNatClampNeg x3)) = (-1) → ch_J g m_y_wash (ch_rm m_y_wash) (ch_E g m_y_wash Q) 4 [some (.inr (1, j, 0)), some (.inl (.int x1)), some (.inl (.int x2)), some (.inl (.int (x3 + 1))), o4] [] m 0) ∧ (¬ (m (1, j, 1) (Int32.toNatClampNeg x3)) = (-1) → (((y_tkv (ch_ob m 1 j) x3 x1 = 0) → (∀ m3 : ch_M, m3 = ch_os m 1 j (y_tk (ch_ob m 1 j) x3 x1) → ch_J g m_y_wash (ch_rm m_y_wash) (ch_E g m_y_wash Q) 4 [some (.inr (1, j, 0)), some (.inl (.int x1)), some (.inl (.int (x2 + 1))), some (.inl (.int (x3 + 1))), o4] [] m3 0)) ∧ ((¬ y_tkv (ch_ob m 1 j) x3 x1 = 0) → (∀ m3 : ch_M, m3 = ch_os m 1 j (y_tk (ch_ob m 1 j) x3 x1) → ch_J g m_y_wash (ch_rm m_y_wash) (ch_E g m_y_wash Q) 4 [some (.inr (1, j, 0)), some (.inl (.int x1)), some (.inl (.int x2)), some (.inl (.int (x3 + 1))), o4] [] m3 0)))))))) : ch_J g m_y_wash (ch_rm m_y_wash) (ch_E g m_y_wash Q) 4 [some (.inr (1, j, 0)), some (.inl (.int x1)), some (.inl (.int x2)), some (.inl (.int x3)), o4] [] m 0 := by
  refine ch_iload_n (i := 3) d_y_wash_4 rfl rfl ?_
  refine ch_bipush (v := 12) d_y_wash_5 (by decide) ?_
  refine ch_icmp_ge (tgt := 38) d_y_wash_7 (by decide) (fun c => ?_) (fun c => ?_)
  · replace h := h.1 c
    refine ch_iconst (v := 0) d_y_wash_38 (by decide) ?_
    refine ch_istore_n (i := 3) d_y_wash_39 rfl (Nat.le_of_ble_eq_true rfl) (ls' := [some (.inr (1, j, 0)), some (.inl (.int x1)), some (.inl (.int x2)), some (.inl (.int 0)), o4]) rfl ?_
    exact h
  · replace h := h.2 c
    refine ch_aload_n (i := 0) d_y_wash_10 rfl rfl ?_
    refine ch_get (v := .inr (1, j, 1)) d_y_wash_11 fl_y_9 rfl ?_
    refine ch_iload_n (i := 3) d_y_wash_14 rfl rfl ?_
    have b1 := h.1
    replace h := h.2
    refine ch_iald (n := 12) d_y_wash_15 (by decide) rfl b1 ?_
    refine ch_iconst (v := (-1)) d_y_wash_16 (by decide) ?_
    refine ch_icmp_eq (tgt := 32) d_y_wash_17 (by decide) (fun c => ?_) (fun c => ?_)
    · replace h := h.1 c
      refine ch_iinc (i := 3) (v := (x3 + 1)) d_y_wash_32 rfl rfl (Nat.le_of_ble_eq_true rfl) (ls' := [some (.inr (1, j, 0)), some (.inl (.int x1)), some (.inl (.int x2)), some (.inl (.int (x3 + 1))), o4]) rfl ?_
      refine ch_goto (tgt := 4) d_y_wash_35 (by decide) ?_
      exact h
    · replace h := h.2 c
      refine ch_aload_n (i := 0) d_y_wash_20 rfl rfl ?_
      refine ch_iload_n (i := 3) d_y_wash_21 rfl rfl ?_
      refine ch_iload_n (i := 1) d_y_wash_22 rfl rfl ?_
      refine ch_callV (as := [.inl (.int x3), .inl (.int x1)]) d_y_wash_23 lk_y_137 mi_y_takeChalk me_y_takeChalk rfl rfl rfl ⟨Nat.le_of_ble_eq_true rfl, Nat.le_of_ble_eq_true rfl⟩ (Nat.le_of_ble_eq_true rfl) ⟨Nat.le_of_ble_eq_true rfl, Nat.le_of_ble_eq_true rfl⟩ (ch_mono (ch_Ki (fun r2 m3 q4 => ?_)) (s_y_takeChalk g (fun (r_ : Int32) (m_ : ch_M) => ((y_tkv (ch_ob m 1 j) x3 x1 = 0) ∧ 1 = r_ ∧ m_ = ch_os m 1 j (y_tk (ch_ob m 1 j) x3 x1)) ∨ ((¬ y_tkv (ch_ob m 1 j) x3 x1 = 0) ∧ 0 = r_ ∧ m_ = ch_os m 1 j (y_tk (ch_ob m 1 j) x3 x1))) (j) (x3) (x1) m ⟨b1, (fun c_ => (Or.inl ⟨c_, rfl, rfl⟩)), (fun c_ => (Or.inr ⟨c_, rfl, rfl⟩))⟩))
      rcases q4 with ⟨c_, rfl, hm_⟩ | ⟨c_, rfl, hm_⟩
      · replace h := h.1 c_ m3 hm_
        refine ch_if_eq (tgt := 32) d_y_wash_26 (by decide) (fun c => absurd c (by decide)) (fun _ => ?_)
        refine ch_iinc (i := 2) (v := (x2 + 1)) d_y_wash_29 rfl rfl (Nat.le_of_ble_eq_true rfl) (ls' := [some (.inr (1, j, 0)), some (.inl (.int x1)), some (.inl (.int (x2 + 1))), some (.inl (.int x3)), o4]) rfl ?_
        refine ch_iinc (i := 3) (v := (x3 + 1)) d_y_wash_32 rfl rfl (Nat.le_of_ble_eq_true rfl) (ls' := [some (.inr (1, j, 0)), some (.inl (.int x1)), some (.inl (.int (x2 + 1))), some (.inl (.int (x3 + 1))), o4]) rfl ?_
        refine ch_goto (tgt := 4) d_y_wash_35 (by decide) ?_
        exact h
      · replace h := h.2 c_ m3 hm_
        refine ch_if_eq (tgt := 32) d_y_wash_26 (by decide) (fun _ => ?_) (fun c => absurd c (by decide))
        refine ch_iinc (i := 3) (v := (x3 + 1)) d_y_wash_32 rfl rfl (Nat.le_of_ble_eq_true rfl) (ls' := [some (.inr (1, j, 0)), some (.inl (.int x1)), some (.inl (.int x2)), some (.inl (.int (x3 + 1))), o4]) rfl ?_
        refine ch_goto (tgt := 4) d_y_wash_35 (by decide) ?_
        exact h
set_option maxHeartbeats 1600000 in
theorem g_y_wash_40 (g : ch_G) (Q : ch_O → ch_M → Prop) (j : Nat) (x1 : Int32) (x2 : Int32) (x3 : Int32) (o4 : Option ch_V) (m : ch_M) (h : (((m (1, j, 0) 9) ≤ x3 → (vp_in (m (1, j, 0) 9) 6) ∧ (∀ i_, i_ < 5 → vp_in (m (1, j, 8) i_) 5) ∧ ((∀ m2 : ch_M, m2 = ch_os m 1 j (y_clB (ch_ob m 1 j)) → (∀ m6 : ch_M, m6 = ch_wr m2 (1, j, 0) 14 ((m2 (1, j, 0) 14) + (m (1, j, 0) 9 - nI (y_clk (ch_ob m 1 j) (Int32.toNatClampNeg (m (1, j, 0) 9))).2)) → Q (.inl (some (.inl (.int (x2 + (m (1, j, 0) 9 - nI (y_clk (ch_ob m 1 j) (Int32.toNatClampNeg (m (1, j, 0) 9))).2)))))) m6)))) ∧ (¬ (m (1, j, 0) 9) ≤ x3 → (vp_in x3 5) ∧ (vp_in (m (1, j, 8) (Int32.toNatClampNeg x3)) 5) ∧ (∀ m9 : ch_M, m9 = ch_wr m (1, j, 5) (Int32.toNatClampNeg (m (1, j, 8) (Int32.toNatClampNeg x3))) (if ((m (1, j, 5) (Int32.toNatClampNeg (m (1, j, 8) (Int32.toNatClampNeg x3)))) - x1) < 0 then 0 else ((m (1, j, 5) (Int32.toNatClampNeg (m (1, j, 8) (Int32.toNatClampNeg x3)))) - x1)) → ch_J g m_y_wash (ch_rm m_y_wash) (ch_E g m_y_wash Q) 40 [some (.inr (1, j, 0)), some (.inl (.int x1)), some (.inl (.int x2)), some (.inl (.int (x3 + 1))), some (.inl (.int (m (1, j, 8) (Int32.toNatClampNeg x3))))] [] m9 0)))) : ch_J g m_y_wash (ch_rm m_y_wash) (ch_E g m_y_wash Q) 40 [some (.inr (1, j, 0)), some (.inl (.int x1)), some (.inl (.int x2)), some (.inl (.int x3)), o4] [] m 0 := by
  refine ch_iload_n (i := 3) d_y_wash_40 rfl rfl ?_
  refine ch_aload_n (i := 0) d_y_wash_41 rfl rfl ?_
  refine ch_get (v := .inl (.int (m (1, j, 0) 9))) d_y_wash_42 fl_y_46 rfl ?_
  refine ch_icmp_ge (tgt := 82) d_y_wash_45 (by decide) (fun c => ?_) (fun c => ?_)
  · replace h := h.1 c
    refine ch_aload_n (i := 0) d_y_wash_82 rfl rfl ?_
    have b4 := h.1
    replace h := h.2
    have b5 := h.1
    replace h := h.2
    refine ch_callV (as := []) d_y_wash_83 lk_y_140 mi_y_closeOrder me_y_closeOrder rfl rfl rfl ⟨Nat.le_of_ble_eq_true rfl, Nat.le_of_ble_eq_true rfl⟩ (Nat.le_of_ble_eq_true rfl) ⟨Nat.le_of_ble_eq_true rfl, Nat.le_of_ble_eq_true rfl⟩ (ch_mono (ch_Ki (fun r1 m2 q3 => ?_)) (s_y_closeOrder g (fun (r_ : Int32) (m_ : ch_M) => ((m (1, j, 0) 9 - nI (y_clk (ch_ob m 1 j) (Int32.toNatClampNeg (m (1, j, 0) 9))).2) = r_ ∧ m_ = ch_os m 1 j (y_clB (ch_ob m 1 j)))) (j) m ⟨b4, b5, ⟨rfl, rfl⟩⟩))
    obtain ⟨rfl, hm_⟩ := q3
    replace h := h m2 hm_
    refine ch_istore_n (i := 3) d_y_wash_86 rfl (Nat.le_of_ble_eq_true rfl) (ls' := [some (.inr (1, j, 0)), some (.inl (.int x1)), some (.inl (.int x2)), some (.inl (.int (m (1, j, 0) 9 - nI (y_clk (ch_ob m 1 j) (Int32.toNatClampNeg (m (1, j, 0) 9))).2))), o4]) rfl ?_
    refine ch_aload_n (i := 0) d_y_wash_87 rfl rfl ?_
    refine ch_dup d_y_wash_88 rfl ?_
    refine ch_get (v := .inl (.int (m2 (1, j, 0) 14))) d_y_wash_89 fl_y_61 rfl ?_
    refine ch_iload_n (i := 3) d_y_wash_92 rfl rfl ?_
    refine ch_iadd d_y_wash_93 ?_
    refine ch_put d_y_wash_94 fp_y_61 rfl rfl rfl ?_
    generalize hmm6 : ch_wr m2 (1, j, 0) 14 ((m2 (1, j, 0) 14) + (m (1, j, 0) 9 - nI (y_clk (ch_ob m 1 j) (Int32.toNatClampNeg (m (1, j, 0) 9))).2)) = m6
    replace h := h m6 hmm6.symm
    refine ch_iload_n (i := 2) d_y_wash_97 rfl rfl ?_
    refine ch_iload_n (i := 3) d_y_wash_98 rfl rfl ?_
    refine ch_iadd d_y_wash_99 ?_
    exact ch_iret (ty := .int) d_y_wash_100 rfl rfl (Nat.le_of_ble_eq_true rfl) h
  · replace h := h.2 c
    refine ch_aload_n (i := 0) d_y_wash_48 rfl rfl ?_
    refine ch_get (v := .inr (1, j, 8)) d_y_wash_49 fl_y_33 rfl ?_
    refine ch_iload_n (i := 3) d_y_wash_52 rfl rfl ?_
    have b7 := h.1
    replace h := h.2
    refine ch_iald (n := 5) d_y_wash_53 (by decide) rfl b7 ?_
    refine ch_istore (i := 4) d_y_wash_54 (Nat.le_of_ble_eq_true rfl) (ls' := [some (.inr (1, j, 0)), some (.inl (.int x1)), some (.inl (.int x2)), some (.inl (.int x3)), some (.inl (.int (m (1, j, 8) (Int32.toNatClampNeg x3))))]) rfl ?_
    refine ch_aload_n (i := 0) d_y_wash_56 rfl rfl ?_
    refine ch_get (v := .inr (1, j, 5)) d_y_wash_57 fl_y_24 rfl ?_
    refine ch_iload d_y_wash_60 rfl ?_
    refine ch_aload_n (i := 0) d_y_wash_62 rfl rfl ?_
    refine ch_get (v := .inr (1, j, 5)) d_y_wash_63 fl_y_24 rfl ?_
    refine ch_iload d_y_wash_66 rfl ?_
    have b8 := h.1
    replace h := h.2
    refine ch_iald (n := 5) d_y_wash_68 (by decide) rfl b8 ?_
    refine ch_iload_n (i := 1) d_y_wash_69 rfl rfl ?_
    refine ch_isub d_y_wash_70 ?_
    refine ch_iconst (v := 0) d_y_wash_71 (by decide) ?_
    refine ch_max d_y_wash_72 lk_y_143 ⟨Nat.le_of_ble_eq_true rfl, Nat.le_of_ble_eq_true rfl⟩ ⟨Nat.le_of_ble_eq_true rfl, Nat.le_of_ble_eq_true rfl⟩ (Nat.le_of_ble_eq_true rfl) ?_
    refine ch_iast (n := 5) d_y_wash_75 (by decide) rfl b8 ?_
    show ch_J g _ _ _ _ _ _ (ch_wr m (1, j, 5) (Int32.toNatClampNeg (m (1, j, 8) (Int32.toNatClampNeg x3))) (if ((m (1, j, 5) (Int32.toNatClampNeg (m (1, j, 8) (Int32.toNatClampNeg x3)))) - x1) < 0 then 0 else ((m (1, j, 5) (Int32.toNatClampNeg (m (1, j, 8) (Int32.toNatClampNeg x3)))) - x1))) _
    generalize hmm9 : ch_wr m (1, j, 5) (Int32.toNatClampNeg (m (1, j, 8) (Int32.toNatClampNeg x3))) (if ((m (1, j, 5) (Int32.toNatClampNeg (m (1, j, 8) (Int32.toNatClampNeg x3)))) - x1) < 0 then 0 else ((m (1, j, 5) (Int32.toNatClampNeg (m (1, j, 8) (Int32.toNatClampNeg x3)))) - x1)) = m9
    replace h := h m9 hmm9.symm
    refine ch_iinc (i := 3) (v := (x3 + 1)) d_y_wash_76 rfl rfl (Nat.le_of_ble_eq_true rfl) (ls' := [some (.inr (1, j, 0)), some (.inl (.int x1)), some (.inl (.int x2)), some (.inl (.int (x3 + 1))), some (.inl (.int (m (1, j, 8) (Int32.toNatClampNeg x3))))]) rfl ?_
    refine ch_goto (tgt := 40) d_y_wash_79 (by decide) ?_
    exact h
theorem e_y_payRents (g : ch_G) (Q : ch_O → ch_M → Prop) (j : Nat) (p1 : Int32) (m : ch_M) (h : ch_J g m_y_payRents (ch_rm m_y_payRents) (ch_E g m_y_payRents Q) 0 [some (.inr (1, j, 0)), some (.inl (.int p1)), none, none] [] m 0) : ch_C g m_y_payRents [.inr (1, j, 0), .inl (.int p1)] m Q :=
  ch_enter mf_y_payRents (by intro v hv; simp only [List.mem_cons, List.not_mem_nil, or_false] at hv; rcases hv with rfl | rfl <;> rfl) (Nat.le_of_ble_eq_true rfl) h
set_option maxHeartbeats 1600000 in
theorem g_y_payRents_0 (g : ch_G) (Q : ch_O → ch_M → Prop) (j : Nat) (p1 : Int32) (m : ch_M) (h : ch_J g m_y_payRents (ch_rm m_y_payRents) (ch_E g m_y_payRents Q) 4 [some (.inr (1, j, 0)), some (.inl (.int p1)), some (.inl (.int 0)), some (.inl (.int 0))] [] m 0) : ch_J g m_y_payRents (ch_rm m_y_payRents) (ch_E g m_y_payRents Q) 0 [some (.inr (1, j, 0)), some (.inl (.int p1)), none, none] [] m 0 := by
  refine ch_iconst (v := 0) d_y_payRents_0 (by decide) ?_
  refine ch_istore_n (i := 2) d_y_payRents_1 rfl (Nat.le_of_ble_eq_true rfl) (ls' := [some (.inr (1, j, 0)), some (.inl (.int p1)), some (.inl (.int 0)), none]) rfl ?_
  refine ch_iconst (v := 0) d_y_payRents_2 (by decide) ?_
  refine ch_istore_n (i := 3) d_y_payRents_3 rfl (Nat.le_of_ble_eq_true rfl) (ls' := [some (.inr (1, j, 0)), some (.inl (.int p1)), some (.inl (.int 0)), some (.inl (.int 0))]) rfl ?_
  exact h
set_option maxHeartbeats 1600000 in
theorem g_y_payRents_4 (g : ch_G) (Q : ch_O → ch_M → Prop) (j : Nat) (x1 : Int32) (x2 : Int32) (x3 : Int32) (m : ch_M) (h : ((12 ≤ x3 → Q (.inl (some (.inl (.int x2)))) m) ∧ (¬ 12 ≤ x3 → (vp_in x3 12) ∧ (((m (1, j, 1) (Int32.toNatClampNeg x3)) = x1 → (vp_in x1 5) ∧ (((m (1, j, 3) (Int32.toNatClampNeg x1)) ≤ 0 → (((y_tkv (ch_ob m 1 j) x3 9 = 0) → (∀ m4 : ch_M, m4 = ch_os m 1 j (y_tk (ch_ob m 1 j) x3 9) → ch_J g m_y_payRents (ch_rm m_y_payRents) (ch_E g m_y_payRents Q) 4 [some (.inr (1, j, 0)), some (.inl (.int x1)), some (.inl (.int (x2 + 1))), some (.inl (.int (x3 + 1)))] [] m4 0)) ∧ ((¬ y_tkv (ch_ob m 1 j) x3 9 = 0) → (∀ m4 : ch_M, m4 = ch_os m 1 j (y_tk (ch_ob m 1 j) x3 9) → ch_J g m_y_payRents (ch_rm m_y_payRents) (ch_E g m_y_payRents Q) 4 [some (.inr (1, j, 0)), some (.inl (.int x1)), some (.inl (.int (x2 + 1))), some (.inl (.int (x3 + 1)))] [] m4 0)))) ∧ (¬ (m (1, j, 3) (Int32.toNatClampNeg x1)) ≤ 0 → (∀ m6 : ch_M, m6 = ch_wr m (1, j, 3) (Int32.toNatClampNeg x1) ((m (1, j, 3) (Int32.toNatClampNeg x1)) - 1) → (∀ m7 : ch_M, m7 = ch_wr m6 (1, j, 0) 10 ((m6 (1, j, 0) 10) + 1) → ch_J g m_y_payRents (ch_rm m_y_payRents) (ch_E g m_y_payRents Q) 4 [some (.inr (1, j, 0)), some (.inl (.int x1)), some (.inl (.int x2)), some (.inl (.int (x3 + 1)))] [] m7 0))))) ∧ (¬ (m (1, j, 1) (Int32.toNatClampNeg x3)) = x1 → ch_J g m_y_payRents (ch_rm m_y_payRents) (ch_E g m_y_payRents Q) 4 [some (.inr (1, j, 0)), some (.inl (.int x1)), some (.inl (.int x2)), some (.inl (.int (x3 + 1)))] [] m 0))))) : ch_J g m_y_payRents (ch_rm m_y_payRents) (ch_E g m_y_payRents Q) 4 [some (.inr (1, j, 0)), some (.inl (.int x1)), some (.inl (.int x2)), some (.inl (.int x3))] [] m 0 := by
  refine ch_iload_n (i := 3) d_y_payRents_4 rfl rfl ?_
  refine ch_bipush (v := 12) d_y_payRents_5 (by decide) ?_
  refine ch_icmp_ge (tgt := 72) d_y_payRents_7 (by decide) (fun c => ?_) (fun c => ?_)
  · replace h := h.1 c
    refine ch_iload_n (i := 2) d_y_payRents_72 rfl rfl ?_
    exact ch_iret (ty := .int) d_y_payRents_73 rfl rfl (Nat.le_of_ble_eq_true rfl) h
  · replace h := h.2 c
    refine ch_aload_n (i := 0) d_y_payRents_10 rfl rfl ?_
    refine ch_get (v := .inr (1, j, 1)) d_y_payRents_11 fl_y_9 rfl ?_
    refine ch_iload_n (i := 3) d_y_payRents_14 rfl rfl ?_
    have b1 := h.1
    replace h := h.2
    refine ch_iald (n := 12) d_y_payRents_15 (by decide) rfl b1 ?_
    refine ch_iload_n (i := 1) d_y_payRents_16 rfl rfl ?_
    refine ch_icmp_eq (tgt := 23) d_y_payRents_17 (by decide) (fun c => ?_) (fun c => ?_)
    · replace h := h.1 c
      refine ch_aload_n (i := 0) d_y_payRents_23 rfl rfl ?_
      refine ch_get (v := .inr (1, j, 3)) d_y_payRents_24 fl_y_18 rfl ?_
      refine ch_iload_n (i := 1) d_y_payRents_27 rfl rfl ?_
      have b2 := h.1
      replace h := h.2
      refine ch_iald (n := 5) d_y_payRents_28 (by decide) rfl b2 ?_
      refine ch_if_le (tgt := 55) d_y_payRents_29 (by decide) (fun c => ?_) (fun c => ?_)
      · replace h := h.1 c
        refine ch_aload_n (i := 0) d_y_payRents_55 rfl rfl ?_
        refine ch_iload_n (i := 3) d_y_payRents_56 rfl rfl ?_
        refine ch_bipush (v := 9) d_y_payRents_57 (by decide) ?_
        refine ch_callV (as := [.inl (.int x3), .inl (.int 9)]) d_y_payRents_59 lk_y_137 mi_y_takeChalk me_y_takeChalk rfl rfl rfl ⟨Nat.le_of_ble_eq_true rfl, Nat.le_of_ble_eq_true rfl⟩ (Nat.le_of_ble_eq_true rfl) ⟨Nat.le_of_ble_eq_true rfl, Nat.le_of_ble_eq_true rfl⟩ (ch_mono (ch_Ki (fun r3 m4 q5 => ?_)) (s_y_takeChalk g (fun (r_ : Int32) (m_ : ch_M) => ((y_tkv (ch_ob m 1 j) x3 9 = 0) ∧ 1 = r_ ∧ m_ = ch_os m 1 j (y_tk (ch_ob m 1 j) x3 9)) ∨ ((¬ y_tkv (ch_ob m 1 j) x3 9 = 0) ∧ 0 = r_ ∧ m_ = ch_os m 1 j (y_tk (ch_ob m 1 j) x3 9))) (j) (x3) (9) m ⟨b1, (fun c_ => (Or.inl ⟨c_, rfl, rfl⟩)), (fun c_ => (Or.inr ⟨c_, rfl, rfl⟩))⟩))
        rcases q5 with ⟨c_, rfl, hm_⟩ | ⟨c_, rfl, hm_⟩
        · replace h := h.1 c_ m4 hm_
          refine ch_pop d_y_payRents_62 rfl ?_
          refine ch_iinc (i := 2) (v := (x2 + 1)) d_y_payRents_63 rfl rfl (Nat.le_of_ble_eq_true rfl) (ls' := [some (.inr (1, j, 0)), some (.inl (.int x1)), some (.inl (.int (x2 + 1))), some (.inl (.int x3))]) rfl ?_
          refine ch_iinc (i := 3) (v := (x3 + 1)) d_y_payRents_66 rfl rfl (Nat.le_of_ble_eq_true rfl) (ls' := [some (.inr (1, j, 0)), some (.inl (.int x1)), some (.inl (.int (x2 + 1))), some (.inl (.int (x3 + 1)))]) rfl ?_
          refine ch_goto (tgt := 4) d_y_payRents_69 (by decide) ?_
          exact h
        · replace h := h.2 c_ m4 hm_
          refine ch_pop d_y_payRents_62 rfl ?_
          refine ch_iinc (i := 2) (v := (x2 + 1)) d_y_payRents_63 rfl rfl (Nat.le_of_ble_eq_true rfl) (ls' := [some (.inr (1, j, 0)), some (.inl (.int x1)), some (.inl (.int (x2 + 1))), some (.inl (.int x3))]) rfl ?_
          refine ch_iinc (i := 3) (v := (x3 + 1)) d_y_payRents_66 rfl rfl (Nat.le_of_ble_eq_true rfl) (ls' := [some (.inr (1, j, 0)), some (.inl (.int x1)), some (.inl (.int (x2 + 1))), some (.inl (.int (x3 + 1)))]) rfl ?_
          refine ch_goto (tgt := 4) d_y_payRents_69 (by decide) ?_
          exact h
      · replace h := h.2 c
        refine ch_aload_n (i := 0) d_y_payRents_32 rfl rfl ?_
        refine ch_get (v := .inr (1, j, 3)) d_y_payRents_33 fl_y_18 rfl ?_
        refine ch_iload_n (i := 1) d_y_payRents_36 rfl rfl ?_
        refine ch_dup2 d_y_payRents_37 rfl rfl ?_
        refine ch_iald (n := 5) d_y_payRents_38 (by decide) rfl b2 ?_
        refine ch_iconst (v := 1) d_y_payRents_39 (by decide) ?_
        refine ch_isub d_y_payRents_40 ?_
        refine ch_iast (n := 5) d_y_payRents_41 (by decide) rfl b2 ?_
        show ch_J g _ _ _ _ _ _ (ch_wr m (1, j, 3) (Int32.toNatClampNeg x1) ((m (1, j, 3) (Int32.toNatClampNeg x1)) - 1)) _
        generalize hmm6 : ch_wr m (1, j, 3) (Int32.toNatClampNeg x1) ((m (1, j, 3) (Int32.toNatClampNeg x1)) - 1) = m6
        replace h := h m6 hmm6.symm
        refine ch_aload_n (i := 0) d_y_payRents_42 rfl rfl ?_
        refine ch_dup d_y_payRents_43 rfl ?_
        refine ch_get (v := .inl (.int (m6 (1, j, 0) 10))) d_y_payRents_44 fl_y_49 rfl ?_
        refine ch_iconst (v := 1) d_y_payRents_47 (by decide) ?_
        refine ch_iadd d_y_payRents_48 ?_
        refine ch_put d_y_payRents_49 fp_y_49 rfl rfl rfl ?_
        generalize hmm7 : ch_wr m6 (1, j, 0) 10 ((m6 (1, j, 0) 10) + 1) = m7
        replace h := h m7 hmm7.symm
        refine ch_goto (tgt := 66) d_y_payRents_52 (by decide) ?_
        refine ch_iinc (i := 3) (v := (x3 + 1)) d_y_payRents_66 rfl rfl (Nat.le_of_ble_eq_true rfl) (ls' := [some (.inr (1, j, 0)), some (.inl (.int x1)), some (.inl (.int x2)), some (.inl (.int (x3 + 1)))]) rfl ?_
        refine ch_goto (tgt := 4) d_y_payRents_69 (by decide) ?_
        exact h
    · replace h := h.2 c
      refine ch_goto (tgt := 66) d_y_payRents_20 (by decide) ?_
      refine ch_iinc (i := 3) (v := (x3 + 1)) d_y_payRents_66 rfl rfl (Nat.le_of_ble_eq_true rfl) (ls' := [some (.inr (1, j, 0)), some (.inl (.int x1)), some (.inl (.int x2)), some (.inl (.int (x3 + 1)))]) rfl ?_
      refine ch_goto (tgt := 4) d_y_payRents_69 (by decide) ?_
      exact h
