theorem e_m_line (g : ch_G) (Q : ch_O → ch_M → Prop)  (m : ch_M) (h : ch_J g m_m_line (ch_rm m_m_line) (ch_E g m_m_line Q) 0 [some (.inr (9, 0, 0)), none] [] m 0) : ch_C g m_m_line [.inr (9, 0, 0)] m Q :=
  ch_enter mf_m_line (by intro v hv; simp only [List.mem_cons, List.not_mem_nil, or_false] at hv; rcases hv with rfl <;> rfl) (Nat.le_of_ble_eq_true rfl) h
set_option maxHeartbeats 1600000 in
theorem g_m_line_0 (g : ch_G) (Q : ch_O → ch_M → Prop)  (m : ch_M) (h : (∀ m1 : ch_M, m1 = ch_wr m (9, 0, 0) 19 0 → (∀ m2 : ch_M, m2 = ch_wr m1 (9, 0, 0) 8 0 → ch_J g m_m_line (ch_rm m_m_line) (ch_E g m_m_line Q) 12 [some (.inr (9, 0, 0)), some (.inl (.int 0))] [] m2 0))) : ch_J g m_m_line (ch_rm m_m_line) (ch_E g m_m_line Q) 0 [some (.inr (9, 0, 0)), none] [] m 0 := by
  refine ch_aload_n (i := 0) d_m_line_0 rfl rfl ?_
  refine ch_iconst (v := 0) d_m_line_1 (by decide) ?_
  refine ch_put d_m_line_2 fp_m_48 rfl rfl rfl ?_
  generalize hmm1 : ch_wr m (9, 0, 0) 19 0 = m1
  replace h := h m1 hmm1.symm
  refine ch_aload_n (i := 0) d_m_line_5 rfl rfl ?_
  refine ch_iconst (v := 0) d_m_line_6 (by decide) ?_
  refine ch_put d_m_line_7 fp_m_239 rfl rfl rfl ?_
  generalize hmm2 : ch_wr m1 (9, 0, 0) 8 0 = m2
  replace h := h m2 hmm2.symm
  refine ch_iconst (v := 0) d_m_line_10 (by decide) ?_
  refine ch_istore_n (i := 1) d_m_line_11 rfl (Nat.le_of_ble_eq_true rfl) (ls' := [some (.inr (9, 0, 0)), some (.inl (.int 0))]) rfl ?_
  exact h
set_option maxHeartbeats 1600000 in
theorem g_m_line_12 (g : ch_G) (Q : ch_O → ch_M → Prop) (x1 : Int32) (m : ch_M) (h : ((12 ≤ x1 → Q (.inl (some (.inl (.int (m (9, 0, 0) 8))))) m) ∧ (¬ 12 ≤ x1 → ((x1 ≤ 0 → (vp_in x1 12) ∧ (((0 ≤ (m (9, 0, 1) (14 + 2 * Int32.toNatClampNeg x1) - 1) → (((vp_in (m (9, 0, 0) 8) 78) ∧ ((∀ m12 : ch_M, m12 = ch_os m 9 0 (m_sgB (m_sgB (m_sgB (ch_ob m 9 0) (x_c48 (m (9, 0, 1) (14 + 2 * Int32.toNatClampNeg x1) - 1))) 47) (x_c48 (m (9, 0, 1) (15 + 2 * Int32.toNatClampNeg x1)))) → ch_J g m_m_line (ch_rm m_m_line) (ch_E g m_m_line Q) 12 [some (.inr (9, 0, 0)), some (.inl (.int (x1 + 1)))] [] m12 0))))) ∧ (¬ 0 ≤ (m (9, 0, 1) (14 + 2 * Int32.toNatClampNeg x1) - 1) → (vp_in (m (9, 0, 0) 8) 80) ∧ ((∀ m16 : ch_M, m16 = ch_os m 9 0 (m_sgB (ch_ob m 9 0) 46) → ch_J g m_m_line (ch_rm m_m_line) (ch_E g m_m_line Q) 12 [some (.inr (9, 0, 0)), some (.inl (.int (x1 + 1)))] [] m16 0)))))) ∧ (¬ x1 ≤ 0 → (vp_in (m (9, 0, 0) 8) 80) ∧ ((∀ m20 : ch_M, m20 = ch_os m 9 0 (m_sgB (ch_ob m 9 0) 32) → (vp_in x1 12) ∧ (((0 ≤ (m20 (9, 0, 1) (14 + 2 * Int32.toNatClampNeg x1) - 1) → (((vp_in (m20 (9, 0, 0) 8) 78) ∧ ((∀ m34 : ch_M, m34 = ch_os m20 9 0 (m_sgB (m_sgB (m_sgB (ch_ob m20 9 0) (x_c48 (m20 (9, 0, 1) (14 + 2 * Int32.toNatClampNeg x1) - 1))) 47) (x_c48 (m20 (9, 0, 1) (15 + 2 * Int32.toNatClampNeg x1)))) → ch_J g m_m_line (ch_rm m_m_line) (ch_E g m_m_line Q) 12 [some (.inr (9, 0, 0)), some (.inl (.int (x1 + 1)))] [] m34 0))))) ∧ (¬ 0 ≤ (m20 (9, 0, 1) (14 + 2 * Int32.toNatClampNeg x1) - 1) → (vp_in (m20 (9, 0, 0) 8) 80) ∧ ((∀ m38 : ch_M, m38 = ch_os m20 9 0 (m_sgB (ch_ob m20 9 0) 46) → ch_J g m_m_line (ch_rm m_m_line) (ch_E g m_m_line Q) 12 [some (.inr (9, 0, 0)), some (.inl (.int (x1 + 1)))] [] m38 0)))))))))))) : ch_J g m_m_line (ch_rm m_m_line) (ch_E g m_m_line Q) 12 [some (.inr (9, 0, 0)), some (.inl (.int x1))] [] m 0 := by
  refine ch_iload_n (i := 1) d_m_line_12 rfl rfl ?_
  refine ch_bipush (v := 12) d_m_line_13 (by decide) ?_
  refine ch_icmp_ge (tgt := 67) d_m_line_15 (by decide) (fun c => ?_) (fun c => ?_)
  · replace h := h.1 c
    refine ch_aload_n (i := 0) d_m_line_67 rfl rfl ?_
    refine ch_get (v := .inl (.int (m (9, 0, 0) 8))) d_m_line_68 fl_m_239 rfl ?_
    exact ch_iret (ty := .int) d_m_line_71 rfl rfl (Nat.le_of_ble_eq_true rfl) h
  · replace h := h.2 c
    refine ch_iload_n (i := 1) d_m_line_18 rfl rfl ?_
    refine ch_if_le (tgt := 28) d_m_line_19 (by decide) (fun c => ?_) (fun c => ?_)
    · replace h := h.1 c
      refine ch_aload_n (i := 0) d_m_line_28 rfl rfl ?_
      refine ch_iload_n (i := 1) d_m_line_29 rfl rfl ?_
      have b4 := h.1
      replace h := h.2
      refine ch_callV (as := [.inl (.int x1)]) d_m_line_30 lk_m_109 mi_m_owner me_m_owner rfl rfl rfl ⟨Nat.le_of_ble_eq_true rfl, Nat.le_of_ble_eq_true rfl⟩ (Nat.le_of_ble_eq_true rfl) ⟨Nat.le_of_ble_eq_true rfl, Nat.le_of_ble_eq_true rfl⟩ (ch_mono (ch_Ki (fun r1 m2 q3 => ?_)) (s_m_owner g (fun (r_ : Int32) (m_ : ch_M) => ((m (9, 0, 1) (14 + 2 * Int32.toNatClampNeg x1) - 1) = r_ ∧ m = m_)) (x1) m ⟨b4, ⟨rfl, rfl⟩⟩))
      obtain ⟨rfl, rfl⟩ := q3
      replace h := h
      refine ch_if_ge (tgt := 45) d_m_line_33 (by decide) (fun c => ?_) (fun c => ?_)
      · replace h := h.1 c
        refine ch_aload_n (i := 0) d_m_line_45 rfl rfl ?_
        refine ch_aload_n (i := 0) d_m_line_46 rfl rfl ?_
        refine ch_iload_n (i := 1) d_m_line_47 rfl rfl ?_
        refine ch_callV (as := [.inl (.int x1)]) d_m_line_48 lk_m_109 mi_m_owner me_m_owner rfl rfl rfl ⟨Nat.le_of_ble_eq_true rfl, Nat.le_of_ble_eq_true rfl⟩ (Nat.le_of_ble_eq_true rfl) ⟨Nat.le_of_ble_eq_true rfl, Nat.le_of_ble_eq_true rfl⟩ (ch_mono (ch_Ki (fun r5 m6 q7 => ?_)) (s_m_owner g (fun (r_ : Int32) (m_ : ch_M) => ((m (9, 0, 1) (14 + 2 * Int32.toNatClampNeg x1) - 1) = r_ ∧ m = m_)) (x1) m ⟨b4, ⟨rfl, rfl⟩⟩))
        obtain ⟨rfl, rfl⟩ := q7
        replace h := h
        refine ch_bipush (v := 47) d_m_line_51 (by decide) ?_
        refine ch_aload_n (i := 0) d_m_line_53 rfl rfl ?_
        refine ch_iload_n (i := 1) d_m_line_54 rfl rfl ?_
        refine ch_callV (as := [.inl (.int x1)]) d_m_line_55 lk_m_112 mi_m_chalkOf me_m_chalkOf rfl rfl rfl ⟨Nat.le_of_ble_eq_true rfl, Nat.le_of_ble_eq_true rfl⟩ (Nat.le_of_ble_eq_true rfl) ⟨Nat.le_of_ble_eq_true rfl, Nat.le_of_ble_eq_true rfl⟩ (ch_mono (ch_Ki (fun r8 m9 q10 => ?_)) (s_m_chalkOf g (fun (r_ : Int32) (m_ : ch_M) => ((m (9, 0, 1) (15 + 2 * Int32.toNatClampNeg x1)) = r_ ∧ m = m_)) (x1) m ⟨b4, ⟨rfl, rfl⟩⟩))
        obtain ⟨rfl, rfl⟩ := q10
        replace h := h
        have b14 := h.1
        replace h := h.2
        refine ch_callV (as := [.inl (.int (m (9, 0, 1) (14 + 2 * Int32.toNatClampNeg x1) - 1)), .inl (.int 47), .inl (.int (m (9, 0, 1) (15 + 2 * Int32.toNatClampNeg x1)))]) d_m_line_58 lk_m_246 mi_m_pairs me_m_pairs rfl rfl rfl ⟨Nat.le_of_ble_eq_true rfl, Nat.le_of_ble_eq_true rfl⟩ (Nat.le_of_ble_eq_true rfl) ⟨Nat.le_of_ble_eq_true rfl, Nat.le_of_ble_eq_true rfl⟩ (ch_mono (ch_Kv (fun m12 q13 => ?_)) (s_m_pairs g (fun (m_ : ch_M) => (m_ = ch_os m 9 0 (m_sgB (m_sgB (m_sgB (ch_ob m 9 0) (x_c48 (m (9, 0, 1) (14 + 2 * Int32.toNatClampNeg x1) - 1))) 47) (x_c48 (m (9, 0, 1) (15 + 2 * Int32.toNatClampNeg x1)))))) ((m (9, 0, 1) (14 + 2 * Int32.toNatClampNeg x1) - 1)) (47) ((m (9, 0, 1) (15 + 2 * Int32.toNatClampNeg x1))) m ⟨b14, rfl⟩))
        have hm_ := q13
        replace h := h m12 hm_
        refine ch_iinc (i := 1) (v := (x1 + 1)) d_m_line_61 rfl rfl (Nat.le_of_ble_eq_true rfl) (ls' := [some (.inr (9, 0, 0)), some (.inl (.int (x1 + 1)))]) rfl ?_
        refine ch_goto (tgt := 12) d_m_line_64 (by decide) ?_
        exact h
      · replace h := h.2 c
        refine ch_aload_n (i := 0) d_m_line_36 rfl rfl ?_
        refine ch_bipush (v := 46) d_m_line_37 (by decide) ?_
        have b18 := h.1
        replace h := h.2
        refine ch_callV (as := [.inl (.int 46)]) d_m_line_39 lk_m_242 mi_m_signs me_m_signs rfl rfl rfl ⟨Nat.le_of_ble_eq_true rfl, Nat.le_of_ble_eq_true rfl⟩ (Nat.le_of_ble_eq_true rfl) ⟨Nat.le_of_ble_eq_true rfl, Nat.le_of_ble_eq_true rfl⟩ (ch_mono (ch_Kv (fun m16 q17 => ?_)) (s_m_signs g (fun (m_ : ch_M) => (m_ = ch_os m 9 0 (m_sgB (ch_ob m 9 0) 46))) (46) m ⟨b18, rfl⟩))
        have hm_ := q17
        replace h := h m16 hm_
        refine ch_goto (tgt := 61) d_m_line_42 (by decide) ?_
        refine ch_iinc (i := 1) (v := (x1 + 1)) d_m_line_61 rfl rfl (Nat.le_of_ble_eq_true rfl) (ls' := [some (.inr (9, 0, 0)), some (.inl (.int (x1 + 1)))]) rfl ?_
        refine ch_goto (tgt := 12) d_m_line_64 (by decide) ?_
        exact h
    · replace h := h.2 c
      refine ch_aload_n (i := 0) d_m_line_22 rfl rfl ?_
      refine ch_bipush (v := 32) d_m_line_23 (by decide) ?_
      have b22 := h.1
      replace h := h.2
      refine ch_callV (as := [.inl (.int 32)]) d_m_line_25 lk_m_242 mi_m_signs me_m_signs rfl rfl rfl ⟨Nat.le_of_ble_eq_true rfl, Nat.le_of_ble_eq_true rfl⟩ (Nat.le_of_ble_eq_true rfl) ⟨Nat.le_of_ble_eq_true rfl, Nat.le_of_ble_eq_true rfl⟩ (ch_mono (ch_Kv (fun m20 q21 => ?_)) (s_m_signs g (fun (m_ : ch_M) => (m_ = ch_os m 9 0 (m_sgB (ch_ob m 9 0) 32))) (32) m ⟨b22, rfl⟩))
      have hm_ := q21
      replace h := h m20 hm_
      refine ch_aload_n (i := 0) d_m_line_28 rfl rfl ?_
      refine ch_iload_n (i := 1) d_m_line_29 rfl rfl ?_
      have b26 := h.1
      replace h := h.2
      refine ch_callV (as := [.inl (.int x1)]) d_m_line_30 lk_m_109 mi_m_owner me_m_owner rfl rfl rfl ⟨Nat.le_of_ble_eq_true rfl, Nat.le_of_ble_eq_true rfl⟩ (Nat.le_of_ble_eq_true rfl) ⟨Nat.le_of_ble_eq_true rfl, Nat.le_of_ble_eq_true rfl⟩ (ch_mono (ch_Ki (fun r23 m24 q25 => ?_)) (s_m_owner g (fun (r_ : Int32) (m_ : ch_M) => ((m20 (9, 0, 1) (14 + 2 * Int32.toNatClampNeg x1) - 1) = r_ ∧ m20 = m_)) (x1) m20 ⟨b26, ⟨rfl, rfl⟩⟩))
      obtain ⟨rfl, rfl⟩ := q25
      replace h := h
      refine ch_if_ge (tgt := 45) d_m_line_33 (by decide) (fun c => ?_) (fun c => ?_)
      · replace h := h.1 c
        refine ch_aload_n (i := 0) d_m_line_45 rfl rfl ?_
        refine ch_aload_n (i := 0) d_m_line_46 rfl rfl ?_
        refine ch_iload_n (i := 1) d_m_line_47 rfl rfl ?_
        refine ch_callV (as := [.inl (.int x1)]) d_m_line_48 lk_m_109 mi_m_owner me_m_owner rfl rfl rfl ⟨Nat.le_of_ble_eq_true rfl, Nat.le_of_ble_eq_true rfl⟩ (Nat.le_of_ble_eq_true rfl) ⟨Nat.le_of_ble_eq_true rfl, Nat.le_of_ble_eq_true rfl⟩ (ch_mono (ch_Ki (fun r27 m28 q29 => ?_)) (s_m_owner g (fun (r_ : Int32) (m_ : ch_M) => ((m20 (9, 0, 1) (14 + 2 * Int32.toNatClampNeg x1) - 1) = r_ ∧ m20 = m_)) (x1) m20 ⟨b26, ⟨rfl, rfl⟩⟩))
        obtain ⟨rfl, rfl⟩ := q29
        replace h := h
        refine ch_bipush (v := 47) d_m_line_51 (by decide) ?_
        refine ch_aload_n (i := 0) d_m_line_53 rfl rfl ?_
        refine ch_iload_n (i := 1) d_m_line_54 rfl rfl ?_
        refine ch_callV (as := [.inl (.int x1)]) d_m_line_55 lk_m_112 mi_m_chalkOf me_m_chalkOf rfl rfl rfl ⟨Nat.le_of_ble_eq_true rfl, Nat.le_of_ble_eq_true rfl⟩ (Nat.le_of_ble_eq_true rfl) ⟨Nat.le_of_ble_eq_true rfl, Nat.le_of_ble_eq_true rfl⟩ (ch_mono (ch_Ki (fun r30 m31 q32 => ?_)) (s_m_chalkOf g (fun (r_ : Int32) (m_ : ch_M) => ((m20 (9, 0, 1) (15 + 2 * Int32.toNatClampNeg x1)) = r_ ∧ m20 = m_)) (x1) m20 ⟨b26, ⟨rfl, rfl⟩⟩))
        obtain ⟨rfl, rfl⟩ := q32
        replace h := h
        have b36 := h.1
        replace h := h.2
        refine ch_callV (as := [.inl (.int (m20 (9, 0, 1) (14 + 2 * Int32.toNatClampNeg x1) - 1)), .inl (.int 47), .inl (.int (m20 (9, 0, 1) (15 + 2 * Int32.toNatClampNeg x1)))]) d_m_line_58 lk_m_246 mi_m_pairs me_m_pairs rfl rfl rfl ⟨Nat.le_of_ble_eq_true rfl, Nat.le_of_ble_eq_true rfl⟩ (Nat.le_of_ble_eq_true rfl) ⟨Nat.le_of_ble_eq_true rfl, Nat.le_of_ble_eq_true rfl⟩ (ch_mono (ch_Kv (fun m34 q35 => ?_)) (s_m_pairs g (fun (m_ : ch_M) => (m_ = ch_os m20 9 0 (m_sgB (m_sgB (m_sgB (ch_ob m20 9 0) (x_c48 (m20 (9, 0, 1) (14 + 2 * Int32.toNatClampNeg x1) - 1))) 47) (x_c48 (m20 (9, 0, 1) (15 + 2 * Int32.toNatClampNeg x1)))))) ((m20 (9, 0, 1) (14 + 2 * Int32.toNatClampNeg x1) - 1)) (47) ((m20 (9, 0, 1) (15 + 2 * Int32.toNatClampNeg x1))) m20 ⟨b36, rfl⟩))
        have hm_ := q35
        replace h := h m34 hm_
        refine ch_iinc (i := 1) (v := (x1 + 1)) d_m_line_61 rfl rfl (Nat.le_of_ble_eq_true rfl) (ls' := [some (.inr (9, 0, 0)), some (.inl (.int (x1 + 1)))]) rfl ?_
        refine ch_goto (tgt := 12) d_m_line_64 (by decide) ?_
        exact h
      · replace h := h.2 c
        refine ch_aload_n (i := 0) d_m_line_36 rfl rfl ?_
        refine ch_bipush (v := 46) d_m_line_37 (by decide) ?_
        have b40 := h.1
        replace h := h.2
        refine ch_callV (as := [.inl (.int 46)]) d_m_line_39 lk_m_242 mi_m_signs me_m_signs rfl rfl rfl ⟨Nat.le_of_ble_eq_true rfl, Nat.le_of_ble_eq_true rfl⟩ (Nat.le_of_ble_eq_true rfl) ⟨Nat.le_of_ble_eq_true rfl, Nat.le_of_ble_eq_true rfl⟩ (ch_mono (ch_Kv (fun m38 q39 => ?_)) (s_m_signs g (fun (m_ : ch_M) => (m_ = ch_os m20 9 0 (m_sgB (ch_ob m20 9 0) 46))) (46) m20 ⟨b40, rfl⟩))
        have hm_ := q39
        replace h := h m38 hm_
        refine ch_goto (tgt := 61) d_m_line_42 (by decide) ?_
        refine ch_iinc (i := 1) (v := (x1 + 1)) d_m_line_61 rfl rfl (Nat.le_of_ble_eq_true rfl) (ls' := [some (.inr (9, 0, 0)), some (.inl (.int (x1 + 1)))]) rfl ?_
        refine ch_goto (tgt := 12) d_m_line_64 (by decide) ?_
        exact h
theorem e_m_warrants (g : ch_G) (Q : ch_O → ch_M → Prop)  (m : ch_M) (h : ch_J g m_m_warrants (ch_rm m_m_warrants) (ch_E g m_m_warrants Q) 0 [some (.inr (9, 0, 0)), none] [] m 0) : ch_C g m_m_warrants [.inr (9, 0, 0)] m Q :=
  ch_enter mf_m_warrants (by intro v hv; simp only [List.mem_cons, List.not_mem_nil, or_false] at hv; rcases hv with rfl <;> rfl) (Nat.le_of_ble_eq_true rfl) h
set_option maxHeartbeats 1600000 in
theorem g_m_warrants_0 (g : ch_G) (Q : ch_O → ch_M → Prop)  (m : ch_M) (h : (∀ m1 : ch_M, m1 = ch_wr m (9, 0, 0) 19 0 → (∀ m2 : ch_M, m2 = ch_wr m1 (9, 0, 0) 8 0 → ch_J g m_m_warrants (ch_rm m_m_warrants) (ch_E g m_m_warrants Q) 12 [some (.inr (9, 0, 0)), some (.inl (.int 0))] [] m2 0))) : ch_J g m_m_warrants (ch_rm m_m_warrants) (ch_E g m_m_warrants Q) 0 [some (.inr (9, 0, 0)), none] [] m 0 := by
  refine ch_aload_n (i := 0) d_m_warrants_0 rfl rfl ?_
  refine ch_iconst (v := 0) d_m_warrants_1 (by decide) ?_
  refine ch_put d_m_warrants_2 fp_m_48 rfl rfl rfl ?_
  generalize hmm1 : ch_wr m (9, 0, 0) 19 0 = m1
  replace h := h m1 hmm1.symm
  refine ch_aload_n (i := 0) d_m_warrants_5 rfl rfl ?_
  refine ch_iconst (v := 0) d_m_warrants_6 (by decide) ?_
  refine ch_put d_m_warrants_7 fp_m_239 rfl rfl rfl ?_
  generalize hmm2 : ch_wr m1 (9, 0, 0) 8 0 = m2
  replace h := h m2 hmm2.symm
  refine ch_iconst (v := 0) d_m_warrants_10 (by decide) ?_
  refine ch_istore_n (i := 1) d_m_warrants_11 rfl (Nat.le_of_ble_eq_true rfl) (ls' := [some (.inr (9, 0, 0)), some (.inl (.int 0))]) rfl ?_
  exact h
set_option maxHeartbeats 1600000 in
theorem g_m_warrants_12 (g : ch_G) (Q : ch_O → ch_M → Prop) (x1 : Int32) (m : ch_M) (h : (((m (9, 0, 1) (8)) ≤ x1 → Q (.inl (some (.inl (.int (m (9, 0, 0) 8))))) m) ∧ (¬ (m (9, 0, 1) (8)) ≤ x1 → ((x1 ≤ 0 → (vp_in (9 + x1) 63) ∧ (vp_in (m (9, 0, 1) (Int32.toNatClampNeg (9 + x1))) 5) ∧ ((vp_in (m (9, 0, 0) 8) 78) ∧ ((∀ m7 : ch_M, m7 = ch_os m 9 0 (m_sgB (m_sgB (m_sgB (ch_ob m 9 0) (x_c48 (m (9, 0, 1) (Int32.toNatClampNeg (9 + x1))))) 33) (x_c48 (m (9, 0, 1) (38 + 5 * Int32.toNatClampNeg (m (9, 0, 1) (Int32.toNatClampNeg (9 + x1))) + 2)))) → ch_J g m_m_warrants (ch_rm m_m_warrants) (ch_E g m_m_warrants Q) 12 [some (.inr (9, 0, 0)), some (.inl (.int (x1 + 1)))] [] m7 0)))) ∧ (¬ x1 ≤ 0 → (vp_in (m (9, 0, 0) 8) 80) ∧ ((∀ m11 : ch_M, m11 = ch_os m 9 0 (m_sgB (ch_ob m 9 0) 32) → (vp_in (9 + x1) 63) ∧ (vp_in (m11 (9, 0, 1) (Int32.toNatClampNeg (9 + x1))) 5) ∧ ((vp_in (m11 (9, 0, 0) 8) 78) ∧ ((∀ m20 : ch_M, m20 = ch_os m11 9 0 (m_sgB (m_sgB (m_sgB (ch_ob m11 9 0) (x_c48 (m11 (9, 0, 1) (Int32.toNatClampNeg (9 + x1))))) 33) (x_c48 (m11 (9, 0, 1) (38 + 5 * Int32.toNatClampNeg (m11 (9, 0, 1) (Int32.toNatClampNeg (9 + x1))) + 2)))) → ch_J g m_m_warrants (ch_rm m_m_warrants) (ch_E g m_m_warrants Q) 12 [some (.inr (9, 0, 0)), some (.inl (.int (x1 + 1)))] [] m20 0)))))))))) : ch_J g m_m_warrants (ch_rm m_m_warrants) (ch_E g m_m_warrants Q) 12 [some (.inr (9, 0, 0)), some (.inl (.int x1))] [] m 0 := by
  refine ch_iload_n (i := 1) d_m_warrants_12 rfl rfl ?_
  refine ch_aload_n (i := 0) d_m_warrants_13 rfl rfl ?_
  refine ch_get (v := .inr (9, 0, 1)) d_m_warrants_14 fl_m_9 rfl ?_
  refine ch_bipush (v := 8) d_m_warrants_17 (by decide) ?_
  refine ch_iald (n := 63) d_m_warrants_19 (by decide) rfl (vp_in_nI (n := 8) (by decide) (by decide)) ?_
  refine ch_icmp_ge (tgt := 68) d_m_warrants_20 (by decide) (fun c => ?_) (fun c => ?_)
  · replace h := h.1 c
    refine ch_aload_n (i := 0) d_m_warrants_68 rfl rfl ?_
    refine ch_get (v := .inl (.int (m (9, 0, 0) 8))) d_m_warrants_69 fl_m_239 rfl ?_
    exact ch_iret (ty := .int) d_m_warrants_72 rfl rfl (Nat.le_of_ble_eq_true rfl) h
  · replace h := h.2 c
    refine ch_iload_n (i := 1) d_m_warrants_23 rfl rfl ?_
    refine ch_if_le (tgt := 33) d_m_warrants_24 (by decide) (fun c => ?_) (fun c => ?_)
    · replace h := h.1 c
      refine ch_aload_n (i := 0) d_m_warrants_33 rfl rfl ?_
      refine ch_aload_n (i := 0) d_m_warrants_34 rfl rfl ?_
      refine ch_get (v := .inr (9, 0, 1)) d_m_warrants_35 fl_m_9 rfl ?_
      refine ch_bipush (v := 9) d_m_warrants_38 (by decide) ?_
      refine ch_iload_n (i := 1) d_m_warrants_40 rfl rfl ?_
      refine ch_iadd d_m_warrants_41 ?_
      have b1 := h.1
      replace h := h.2
      refine ch_iald (n := 63) d_m_warrants_42 (by decide) rfl b1 ?_
      refine ch_bipush (v := 33) d_m_warrants_43 (by decide) ?_
      refine ch_aload_n (i := 0) d_m_warrants_45 rfl rfl ?_
      refine ch_aload_n (i := 0) d_m_warrants_46 rfl rfl ?_
      refine ch_get (v := .inr (9, 0, 1)) d_m_warrants_47 fl_m_9 rfl ?_
      refine ch_bipush (v := 9) d_m_warrants_50 (by decide) ?_
      refine ch_iload_n (i := 1) d_m_warrants_52 rfl rfl ?_
      refine ch_iadd d_m_warrants_53 ?_
      refine ch_iald (n := 63) d_m_warrants_54 (by decide) rfl b1 ?_
      refine ch_iconst (v := 2) d_m_warrants_55 (by decide) ?_
      have b5 := h.1
      replace h := h.2
      refine ch_callV (as := [.inl (.int (m (9, 0, 1) (Int32.toNatClampNeg (9 + x1)))), .inl (.int 2)]) d_m_warrants_56 lk_m_85 mi_m_of me_m_of rfl rfl rfl ⟨Nat.le_of_ble_eq_true rfl, Nat.le_of_ble_eq_true rfl⟩ (Nat.le_of_ble_eq_true rfl) ⟨Nat.le_of_ble_eq_true rfl, Nat.le_of_ble_eq_true rfl⟩ (ch_mono (ch_Ki (fun r2 m3 q4 => ?_)) (s_m_of g (fun (r_ : Int32) (m_ : ch_M) => ((m (9, 0, 1) (38 + 5 * Int32.toNatClampNeg (m (9, 0, 1) (Int32.toNatClampNeg (9 + x1))) + 2)) = r_ ∧ m = m_)) ((m (9, 0, 1) (Int32.toNatClampNeg (9 + x1)))) (2) m ⟨b5, (vp_in_nI (n := 2) (by decide) (by decide)), ⟨rfl, rfl⟩⟩))
      obtain ⟨rfl, rfl⟩ := q4
      replace h := h
      have b9 := h.1
      replace h := h.2
      refine ch_callV (as := [.inl (.int (m (9, 0, 1) (Int32.toNatClampNeg (9 + x1)))), .inl (.int 33), .inl (.int (m (9, 0, 1) (38 + 5 * Int32.toNatClampNeg (m (9, 0, 1) (Int32.toNatClampNeg (9 + x1))) + 2)))]) d_m_warrants_59 lk_m_246 mi_m_pairs me_m_pairs rfl rfl rfl ⟨Nat.le_of_ble_eq_true rfl, Nat.le_of_ble_eq_true rfl⟩ (Nat.le_of_ble_eq_true rfl) ⟨Nat.le_of_ble_eq_true rfl, Nat.le_of_ble_eq_true rfl⟩ (ch_mono (ch_Kv (fun m7 q8 => ?_)) (s_m_pairs g (fun (m_ : ch_M) => (m_ = ch_os m 9 0 (m_sgB (m_sgB (m_sgB (ch_ob m 9 0) (x_c48 (m (9, 0, 1) (Int32.toNatClampNeg (9 + x1))))) 33) (x_c48 (m (9, 0, 1) (38 + 5 * Int32.toNatClampNeg (m (9, 0, 1) (Int32.toNatClampNeg (9 + x1))) + 2)))))) ((m (9, 0, 1) (Int32.toNatClampNeg (9 + x1)))) (33) ((m (9, 0, 1) (38 + 5 * Int32.toNatClampNeg (m (9, 0, 1) (Int32.toNatClampNeg (9 + x1))) + 2))) m ⟨b9, rfl⟩))
      have hm_ := q8
      replace h := h m7 hm_
      refine ch_iinc (i := 1) (v := (x1 + 1)) d_m_warrants_62 rfl rfl (Nat.le_of_ble_eq_true rfl) (ls' := [some (.inr (9, 0, 0)), some (.inl (.int (x1 + 1)))]) rfl ?_
      refine ch_goto (tgt := 12) d_m_warrants_65 (by decide) ?_
      exact h
    · replace h := h.2 c
      refine ch_aload_n (i := 0) d_m_warrants_27 rfl rfl ?_
      refine ch_bipush (v := 32) d_m_warrants_28 (by decide) ?_
      have b13 := h.1
      replace h := h.2
      refine ch_callV (as := [.inl (.int 32)]) d_m_warrants_30 lk_m_242 mi_m_signs me_m_signs rfl rfl rfl ⟨Nat.le_of_ble_eq_true rfl, Nat.le_of_ble_eq_true rfl⟩ (Nat.le_of_ble_eq_true rfl) ⟨Nat.le_of_ble_eq_true rfl, Nat.le_of_ble_eq_true rfl⟩ (ch_mono (ch_Kv (fun m11 q12 => ?_)) (s_m_signs g (fun (m_ : ch_M) => (m_ = ch_os m 9 0 (m_sgB (ch_ob m 9 0) 32))) (32) m ⟨b13, rfl⟩))
      have hm_ := q12
      replace h := h m11 hm_
      refine ch_aload_n (i := 0) d_m_warrants_33 rfl rfl ?_
      refine ch_aload_n (i := 0) d_m_warrants_34 rfl rfl ?_
      refine ch_get (v := .inr (9, 0, 1)) d_m_warrants_35 fl_m_9 rfl ?_
      refine ch_bipush (v := 9) d_m_warrants_38 (by decide) ?_
      refine ch_iload_n (i := 1) d_m_warrants_40 rfl rfl ?_
      refine ch_iadd d_m_warrants_41 ?_
      have b14 := h.1
      replace h := h.2
      refine ch_iald (n := 63) d_m_warrants_42 (by decide) rfl b14 ?_
      refine ch_bipush (v := 33) d_m_warrants_43 (by decide) ?_
      refine ch_aload_n (i := 0) d_m_warrants_45 rfl rfl ?_
      refine ch_aload_n (i := 0) d_m_warrants_46 rfl rfl ?_
      refine ch_get (v := .inr (9, 0, 1)) d_m_warrants_47 fl_m_9 rfl ?_
      refine ch_bipush (v := 9) d_m_warrants_50 (by decide) ?_
      refine ch_iload_n (i := 1) d_m_warrants_52 rfl rfl ?_
      refine ch_iadd d_m_warrants_53 ?_
      refine ch_iald (n := 63) d_m_warrants_54 (by decide) rfl b14 ?_
      refine ch_iconst (v := 2) d_m_warrants_55 (by decide) ?_
      have b18 := h.1
      replace h := h.2
      refine ch_callV (as := [.inl (.int (m11 (9, 0, 1) (Int32.toNatClampNeg (9 + x1)))), .inl (.int 2)]) d_m_warrants_56 lk_m_85 mi_m_of me_m_of rfl rfl rfl ⟨Nat.le_of_ble_eq_true rfl, Nat.le_of_ble_eq_true rfl⟩ (Nat.le_of_ble_eq_true rfl) ⟨Nat.le_of_ble_eq_true rfl, Nat.le_of_ble_eq_true rfl⟩ (ch_mono (ch_Ki (fun r15 m16 q17 => ?_)) (s_m_of g (fun (r_ : Int32) (m_ : ch_M) => ((m11 (9, 0, 1) (38 + 5 * Int32.toNatClampNeg (m11 (9, 0, 1) (Int32.toNatClampNeg (9 + x1))) + 2)) = r_ ∧ m11 = m_)) ((m11 (9, 0, 1) (Int32.toNatClampNeg (9 + x1)))) (2) m11 ⟨b18, (vp_in_nI (n := 2) (by decide) (by decide)), ⟨rfl, rfl⟩⟩))
      obtain ⟨rfl, rfl⟩ := q17
      replace h := h
      have b22 := h.1
      replace h := h.2
      refine ch_callV (as := [.inl (.int (m11 (9, 0, 1) (Int32.toNatClampNeg (9 + x1)))), .inl (.int 33), .inl (.int (m11 (9, 0, 1) (38 + 5 * Int32.toNatClampNeg (m11 (9, 0, 1) (Int32.toNatClampNeg (9 + x1))) + 2)))]) d_m_warrants_59 lk_m_246 mi_m_pairs me_m_pairs rfl rfl rfl ⟨Nat.le_of_ble_eq_true rfl, Nat.le_of_ble_eq_true rfl⟩ (Nat.le_of_ble_eq_true rfl) ⟨Nat.le_of_ble_eq_true rfl, Nat.le_of_ble_eq_true rfl⟩ (ch_mono (ch_Kv (fun m20 q21 => ?_)) (s_m_pairs g (fun (m_ : ch_M) => (m_ = ch_os m11 9 0 (m_sgB (m_sgB (m_sgB (ch_ob m11 9 0) (x_c48 (m11 (9, 0, 1) (Int32.toNatClampNeg (9 + x1))))) 33) (x_c48 (m11 (9, 0, 1) (38 + 5 * Int32.toNatClampNeg (m11 (9, 0, 1) (Int32.toNatClampNeg (9 + x1))) + 2)))))) ((m11 (9, 0, 1) (Int32.toNatClampNeg (9 + x1)))) (33) ((m11 (9, 0, 1) (38 + 5 * Int32.toNatClampNeg (m11 (9, 0, 1) (Int32.toNatClampNeg (9 + x1))) + 2))) m11 ⟨b22, rfl⟩))
      have hm_ := q21
      replace h := h m20 hm_
      refine ch_iinc (i := 1) (v := (x1 + 1)) d_m_warrants_62 rfl rfl (Nat.le_of_ble_eq_true rfl) (ls' := [some (.inr (9, 0, 0)), some (.inl (.int (x1 + 1)))]) rfl ?_
      refine ch_goto (tgt := 12) d_m_warrants_65 (by decide) ?_
      exact h
