theorem e_m_hasSteps (g : ch_G) (Q : ch_O → ch_M → Prop)  (m : ch_M) (h : ch_J g m_m_hasSteps (ch_rm m_m_hasSteps) (ch_E g m_m_hasSteps Q) 0 [some (.inr (9, 0, 0))] [] m 0) : ch_C g m_m_hasSteps [.inr (9, 0, 0)] m Q :=
  ch_enter mf_m_hasSteps (by intro v hv; simp only [List.mem_cons, List.not_mem_nil, or_false] at hv; rcases hv with rfl <;> rfl) (Nat.le_of_ble_eq_true rfl) h
set_option maxHeartbeats 1600000 in
theorem g_m_hasSteps_0 (g : ch_G) (Q : ch_O → ch_M → Prop)  (m : ch_M) (h : (∀ m1 : ch_M, m1 = ch_wr m (9, 0, 0) 21 0 → ch_J g m_m_hasSteps (ch_rm m_m_hasSteps) (ch_E g m_m_hasSteps Q) 5 [some (.inr (9, 0, 0))] [] m1 0)) : ch_J g m_m_hasSteps (ch_rm m_m_hasSteps) (ch_E g m_m_hasSteps Q) 0 [some (.inr (9, 0, 0))] [] m 0 := by
  refine ch_aload_n (i := 0) d_m_hasSteps_0 rfl rfl ?_
  refine ch_iconst (v := 0) d_m_hasSteps_1 (by decide) ?_
  refine ch_put d_m_hasSteps_2 fp_m_126 rfl rfl rfl ?_
  generalize hmm1 : ch_wr m (9, 0, 0) 21 0 = m1
  replace h := h m1 hmm1.symm
  exact h
set_option maxHeartbeats 1600000 in
theorem g_m_hasSteps_5 (g : ch_G) (Q : ch_O → ch_M → Prop)  (m : ch_M) (h : ((12 ≤ (m (9, 0, 0) 21) → (((m (9, 0, 0) 21) ≤ 0 → Q (.inl (some (.inl (.int 0)))) m) ∧ (¬ (m (9, 0, 0) 21) ≤ 0 → Q (.inl (some (.inl (.int 1)))) m))) ∧ (¬ 12 ≤ (m (9, 0, 0) 21) → (((m (9, 0, 0) 10) ≤ (m (9, 0, 0) 11) → (((m (9, 0, 0) 21) ≤ 0 → Q (.inl (some (.inl (.int 0)))) m) ∧ (¬ (m (9, 0, 0) 21) ≤ 0 → Q (.inl (some (.inl (.int 1)))) m))) ∧ (¬ (m (9, 0, 0) 10) ≤ (m (9, 0, 0) 11) → (vp_in (m (9, 0, 0) 11) 60) ∧ (((49 ≤ (m (9, 0, 7) (Int32.toNatClampNeg (m (9, 0, 0) 11))) ∧ (m (9, 0, 7) (Int32.toNatClampNeg (m (9, 0, 0) 11))) ≤ 51) → (∀ m5 : ch_M, m5 = ch_wr m (9, 0, 0) 21 ((m (9, 0, 0) 21) + 1) → (∀ m6 : ch_M, m6 = ch_wr m5 (9, 0, 0) 11 ((m5 (9, 0, 0) 11) + 1) → (vp_in (m5 (9, 0, 0) 11) 60) ∧ (vp_in (m (9, 0, 0) 21) 12) ∧ (∀ m9 : ch_M, m9 = ch_wr m6 (9, 0, 9) (Int32.toNatClampNeg (m (9, 0, 0) 21)) ((m6 (9, 0, 7) (Int32.toNatClampNeg (m5 (9, 0, 0) 11))) - 48) → ch_J g m_m_hasSteps (ch_rm m_m_hasSteps) (ch_E g m_m_hasSteps Q) 5 [some (.inr (9, 0, 0))] [] m9 0)))) ∧ ((¬ (49 ≤ (m (9, 0, 7) (Int32.toNatClampNeg (m (9, 0, 0) 11))) ∧ (m (9, 0, 7) (Int32.toNatClampNeg (m (9, 0, 0) 11))) ≤ 51)) → (((m (9, 0, 0) 21) ≤ 0 → Q (.inl (some (.inl (.int 0)))) m) ∧ (¬ (m (9, 0, 0) 21) ≤ 0 → Q (.inl (some (.inl (.int 1)))) m))))))))) : ch_J g m_m_hasSteps (ch_rm m_m_hasSteps) (ch_E g m_m_hasSteps Q) 5 [some (.inr (9, 0, 0))] [] m 0 := by
  refine ch_aload_n (i := 0) d_m_hasSteps_5 rfl rfl ?_
  refine ch_get (v := .inl (.int (m (9, 0, 0) 21))) d_m_hasSteps_6 fl_m_126 rfl ?_
  refine ch_bipush (v := 12) d_m_hasSteps_9 (by decide) ?_
  refine ch_icmp_ge (tgt := 82) d_m_hasSteps_11 (by decide) (fun c => ?_) (fun c => ?_)
  · replace h := h.1 c
    refine ch_aload_n (i := 0) d_m_hasSteps_82 rfl rfl ?_
    refine ch_get (v := .inl (.int (m (9, 0, 0) 21))) d_m_hasSteps_83 fl_m_126 rfl ?_
    refine ch_if_le (tgt := 93) d_m_hasSteps_86 (by decide) (fun c => ?_) (fun c => ?_)
    · replace h := h.1 c
      refine ch_iconst (v := 0) d_m_hasSteps_93 (by decide) ?_
      exact ch_iret (ty := .boolean) d_m_hasSteps_94 rfl rfl (Nat.le_of_ble_eq_true rfl) h
    · replace h := h.2 c
      refine ch_iconst (v := 1) d_m_hasSteps_89 (by decide) ?_
      refine ch_goto (tgt := 94) d_m_hasSteps_90 (by decide) ?_
      exact ch_iret (ty := .boolean) d_m_hasSteps_94 rfl rfl (Nat.le_of_ble_eq_true rfl) h
  · replace h := h.2 c
    refine ch_aload_n (i := 0) d_m_hasSteps_14 rfl rfl ?_
    refine ch_get (v := .inl (.int (m (9, 0, 0) 11))) d_m_hasSteps_15 fl_m_209 rfl ?_
    refine ch_aload_n (i := 0) d_m_hasSteps_18 rfl rfl ?_
    refine ch_get (v := .inl (.int (m (9, 0, 0) 10))) d_m_hasSteps_19 fl_m_206 rfl ?_
    refine ch_icmp_ge (tgt := 82) d_m_hasSteps_22 (by decide) (fun c => ?_) (fun c => ?_)
    · replace h := h.1 c
      refine ch_aload_n (i := 0) d_m_hasSteps_82 rfl rfl ?_
      refine ch_get (v := .inl (.int (m (9, 0, 0) 21))) d_m_hasSteps_83 fl_m_126 rfl ?_
      refine ch_if_le (tgt := 93) d_m_hasSteps_86 (by decide) (fun c => ?_) (fun c => ?_)
      · replace h := h.1 c
        refine ch_iconst (v := 0) d_m_hasSteps_93 (by decide) ?_
        exact ch_iret (ty := .boolean) d_m_hasSteps_94 rfl rfl (Nat.le_of_ble_eq_true rfl) h
      · replace h := h.2 c
        refine ch_iconst (v := 1) d_m_hasSteps_89 (by decide) ?_
        refine ch_goto (tgt := 94) d_m_hasSteps_90 (by decide) ?_
        exact ch_iret (ty := .boolean) d_m_hasSteps_94 rfl rfl (Nat.le_of_ble_eq_true rfl) h
    · replace h := h.2 c
      refine ch_aload_n (i := 0) d_m_hasSteps_25 rfl rfl ?_
      refine ch_get (v := .inr (9, 0, 7)) d_m_hasSteps_26 fl_m_29 rfl ?_
      refine ch_aload_n (i := 0) d_m_hasSteps_29 rfl rfl ?_
      refine ch_get (v := .inl (.int (m (9, 0, 0) 11))) d_m_hasSteps_30 fl_m_209 rfl ?_
      have b1 := h.1
      replace h := h.2
      refine ch_cald (n := 60) d_m_hasSteps_33 (by decide) rfl b1 ?_
      refine ch_bipush (v := 49) d_m_hasSteps_34 (by decide) ?_
      refine ch_bipush (v := 51) d_m_hasSteps_36 (by decide) ?_
      refine ch_callS (as := [.inl (.int (m (9, 0, 7) (Int32.toNatClampNeg (m (9, 0, 0) 11)))), .inl (.int 49), .inl (.int 51)]) d_m_hasSteps_38 lk_m_73 ms_m_in rfl rfl ⟨Nat.le_of_ble_eq_true rfl, Nat.le_of_ble_eq_true rfl⟩ (Nat.le_of_ble_eq_true rfl) ⟨Nat.le_of_ble_eq_true rfl, Nat.le_of_ble_eq_true rfl⟩ (ch_mono (ch_Ki (fun r2 m3 q4 => ?_)) (s_m_in g (fun (r_ : Int32) (m_ : ch_M) => ((49 ≤ (m (9, 0, 7) (Int32.toNatClampNeg (m (9, 0, 0) 11))) ∧ (m (9, 0, 7) (Int32.toNatClampNeg (m (9, 0, 0) 11))) ≤ 51) ∧ 1 = r_ ∧ m = m_) ∨ ((¬ (49 ≤ (m (9, 0, 7) (Int32.toNatClampNeg (m (9, 0, 0) 11))) ∧ (m (9, 0, 7) (Int32.toNatClampNeg (m (9, 0, 0) 11))) ≤ 51)) ∧ 0 = r_ ∧ m = m_)) ((m (9, 0, 7) (Int32.toNatClampNeg (m (9, 0, 0) 11)))) (49) (51) m ⟨(fun c_ => (Or.inl ⟨c_, rfl, rfl⟩)), (fun c_ => (Or.inr ⟨c_, rfl, rfl⟩))⟩))
      rcases q4 with ⟨c_, rfl, rfl⟩ | ⟨c_, rfl, rfl⟩
      · replace h := h.1 c_
        refine ch_if_eq (tgt := 82) d_m_hasSteps_41 (by decide) (fun c => absurd c (by decide)) (fun _ => ?_)
        refine ch_aload_n (i := 0) d_m_hasSteps_44 rfl rfl ?_
        refine ch_get (v := .inr (9, 0, 9)) d_m_hasSteps_45 fl_m_39 rfl ?_
        refine ch_aload_n (i := 0) d_m_hasSteps_48 rfl rfl ?_
        refine ch_dup d_m_hasSteps_49 rfl ?_
        refine ch_get (v := .inl (.int (m (9, 0, 0) 21))) d_m_hasSteps_50 fl_m_126 rfl ?_
        refine ch_dup_x1 d_m_hasSteps_53 rfl rfl ?_
        refine ch_iconst (v := 1) d_m_hasSteps_54 (by decide) ?_
        refine ch_iadd d_m_hasSteps_55 ?_
        refine ch_put d_m_hasSteps_56 fp_m_126 rfl rfl rfl ?_
        generalize hmm5 : ch_wr m (9, 0, 0) 21 ((m (9, 0, 0) 21) + 1) = m5
        replace h := h m5 hmm5.symm
        refine ch_aload_n (i := 0) d_m_hasSteps_59 rfl rfl ?_
        refine ch_get (v := .inr (9, 0, 7)) d_m_hasSteps_60 fl_m_29 rfl ?_
        refine ch_aload_n (i := 0) d_m_hasSteps_63 rfl rfl ?_
        refine ch_dup d_m_hasSteps_64 rfl ?_
        refine ch_get (v := .inl (.int (m5 (9, 0, 0) 11))) d_m_hasSteps_65 fl_m_209 rfl ?_
        refine ch_dup_x1 d_m_hasSteps_68 rfl rfl ?_
        refine ch_iconst (v := 1) d_m_hasSteps_69 (by decide) ?_
        refine ch_iadd d_m_hasSteps_70 ?_
        refine ch_put d_m_hasSteps_71 fp_m_209 rfl rfl rfl ?_
        generalize hmm6 : ch_wr m5 (9, 0, 0) 11 ((m5 (9, 0, 0) 11) + 1) = m6
        replace h := h m6 hmm6.symm
        have b7 := h.1
        replace h := h.2
        refine ch_cald (n := 60) d_m_hasSteps_74 (by decide) rfl b7 ?_
        refine ch_bipush (v := 48) d_m_hasSteps_75 (by decide) ?_
        refine ch_isub d_m_hasSteps_77 ?_
        have b8 := h.1
        replace h := h.2
        refine ch_iast (n := 12) d_m_hasSteps_78 (by decide) rfl b8 ?_
        show ch_J g _ _ _ _ _ _ (ch_wr m6 (9, 0, 9) (Int32.toNatClampNeg (m (9, 0, 0) 21)) ((m6 (9, 0, 7) (Int32.toNatClampNeg (m5 (9, 0, 0) 11))) - 48)) _
        generalize hmm9 : ch_wr m6 (9, 0, 9) (Int32.toNatClampNeg (m (9, 0, 0) 21)) ((m6 (9, 0, 7) (Int32.toNatClampNeg (m5 (9, 0, 0) 11))) - 48) = m9
        replace h := h m9 hmm9.symm
        refine ch_goto (tgt := 5) d_m_hasSteps_79 (by decide) ?_
        exact h
      · replace h := h.2 c_
        refine ch_if_eq (tgt := 82) d_m_hasSteps_41 (by decide) (fun _ => ?_) (fun c => absurd c (by decide))
        refine ch_aload_n (i := 0) d_m_hasSteps_82 rfl rfl ?_
        refine ch_get (v := .inl (.int (m (9, 0, 0) 21))) d_m_hasSteps_83 fl_m_126 rfl ?_
        refine ch_if_le (tgt := 93) d_m_hasSteps_86 (by decide) (fun c => ?_) (fun c => ?_)
        · replace h := h.1 c
          refine ch_iconst (v := 0) d_m_hasSteps_93 (by decide) ?_
          exact ch_iret (ty := .boolean) d_m_hasSteps_94 rfl rfl (Nat.le_of_ble_eq_true rfl) h
        · replace h := h.2 c
          refine ch_iconst (v := 1) d_m_hasSteps_89 (by decide) ?_
          refine ch_goto (tgt := 94) d_m_hasSteps_90 (by decide) ?_
          exact ch_iret (ty := .boolean) d_m_hasSteps_94 rfl rfl (Nat.le_of_ble_eq_true rfl) h
