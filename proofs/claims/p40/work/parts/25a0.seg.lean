theorem e_p_keep (g : ch_G) (Q : ch_O → ch_M → Prop) (j1 : Nat) (m : ch_M) (h : ch_J g m_p_keep (ch_rm m_p_keep) (ch_E g m_p_keep Q) 0 [some (.inr (2, 0, 0)), some (.inr (1, j1, 0))] [] m 0) : ch_C g m_p_keep [.inr (2, 0, 0), .inr (1, j1, 0)] m Q :=
  ch_enter mf_p_keep (by intro v hv; simp only [List.mem_cons, List.not_mem_nil, or_false] at hv; rcases hv with rfl | rfl <;> rfl) (Nat.le_of_ble_eq_true rfl) h
set_option maxHeartbeats 1600000 in
theorem g_p_keep_0 (g : ch_G) (Q : ch_O → ch_M → Prop) (j1 : Nat) (m : ch_M) (h : ((8 ≤ ((m (2, 0, 0) 1) + 1) → (∀ m1 : ch_M, m1 = ch_wr m (2, 0, 0) 1 0 → ((8 ≤ (m1 (2, 0, 0) 2) → (∀ m2 : ch_M, m2 = ch_wr m1 (2, 0, 0) 2 (m1 (2, 0, 0) 2) → (vp_in (m2 (2, 0, 0) 1) 8) ∧ ((∀ m5 : ch_M, m5 = ch_os m2 1 (4 + Int32.toNatClampNeg (m2 (2, 0, 0) 1)) (y_cp (ch_ob m2 1 j1) (ch_ob m2 1 (4 + Int32.toNatClampNeg (m2 (2, 0, 0) 1)))) → Q (.inl none) m5)))) ∧ (¬ 8 ≤ (m1 (2, 0, 0) 2) → (∀ m7 : ch_M, m7 = ch_wr m1 (2, 0, 0) 2 ((m1 (2, 0, 0) 2) + 1) → (vp_in (m7 (2, 0, 0) 1) 8) ∧ ((∀ m10 : ch_M, m10 = ch_os m7 1 (4 + Int32.toNatClampNeg (m7 (2, 0, 0) 1)) (y_cp (ch_ob m7 1 j1) (ch_ob m7 1 (4 + Int32.toNatClampNeg (m7 (2, 0, 0) 1)))) → Q (.inl none) m10))))))) ∧ (¬ 8 ≤ ((m (2, 0, 0) 1) + 1) → (∀ m12 : ch_M, m12 = ch_wr m (2, 0, 0) 1 ((m (2, 0, 0) 1) + 1) → ((8 ≤ (m12 (2, 0, 0) 2) → (∀ m13 : ch_M, m13 = ch_wr m12 (2, 0, 0) 2 (m12 (2, 0, 0) 2) → (vp_in (m13 (2, 0, 0) 1) 8) ∧ ((∀ m16 : ch_M, m16 = ch_os m13 1 (4 + Int32.toNatClampNeg (m13 (2, 0, 0) 1)) (y_cp (ch_ob m13 1 j1) (ch_ob m13 1 (4 + Int32.toNatClampNeg (m13 (2, 0, 0) 1)))) → Q (.inl none) m16)))) ∧ (¬ 8 ≤ (m12 (2, 0, 0) 2) → (∀ m18 : ch_M, m18 = ch_wr m12 (2, 0, 0) 2 ((m12 (2, 0, 0) 2) + 1) → (vp_in (m18 (2, 0, 0) 1) 8) ∧ ((∀ m21 : ch_M, m21 = ch_os m18 1 (4 + Int32.toNatClampNeg (m18 (2, 0, 0) 1)) (y_cp (ch_ob m18 1 j1) (ch_ob m18 1 (4 + Int32.toNatClampNeg (m18 (2, 0, 0) 1)))) → Q (.inl none) m21))))))))) : ch_J g m_p_keep (ch_rm m_p_keep) (ch_E g m_p_keep Q) 0 [some (.inr (2, 0, 0)), some (.inr (1, j1, 0))] [] m 0 := by
  refine ch_aload_n (i := 0) d_p_keep_0 rfl rfl ?_
  refine ch_aload_n (i := 0) d_p_keep_1 rfl rfl ?_
  refine ch_get (v := .inl (.int (m (2, 0, 0) 1))) d_p_keep_2 fl_p_18 rfl ?_
  refine ch_iconst (v := 1) d_p_keep_5 (by decide) ?_
  refine ch_iadd d_p_keep_6 ?_
  refine ch_aload_n (i := 0) d_p_keep_7 rfl rfl ?_
  refine ch_get (v := .inr (2, 0, 1)) d_p_keep_8 fl_p_11 rfl ?_
  refine ch_alen (v := 8) d_p_keep_11 (by decide) (t := 4) (by decide) rfl rfl ?_
  refine ch_icmp_ge (tgt := 24) d_p_keep_12 (by decide) (fun c => ?_) (fun c => ?_)
  · replace h := h.1 c
    refine ch_iconst (v := 0) d_p_keep_24 (by decide) ?_
    refine ch_put d_p_keep_25 fp_p_18 rfl rfl rfl ?_
    generalize hmm1 : ch_wr m (2, 0, 0) 1 0 = m1
    replace h := h m1 hmm1.symm
    refine ch_aload_n (i := 0) d_p_keep_28 rfl rfl ?_
    refine ch_aload_n (i := 0) d_p_keep_29 rfl rfl ?_
    refine ch_get (v := .inl (.int (m1 (2, 0, 0) 2))) d_p_keep_30 fl_p_22 rfl ?_
    refine ch_aload_n (i := 0) d_p_keep_33 rfl rfl ?_
    refine ch_get (v := .inr (2, 0, 1)) d_p_keep_34 fl_p_11 rfl ?_
    refine ch_alen (v := 8) d_p_keep_37 (by decide) (t := 4) (by decide) rfl rfl ?_
    refine ch_icmp_ge (tgt := 50) d_p_keep_38 (by decide) (fun c => ?_) (fun c => ?_)
    · replace h := h.1 c
      refine ch_aload_n (i := 0) d_p_keep_50 rfl rfl ?_
      refine ch_get (v := .inl (.int (m1 (2, 0, 0) 2))) d_p_keep_51 fl_p_22 rfl ?_
      refine ch_put d_p_keep_54 fp_p_22 rfl rfl rfl ?_
      generalize hmm2 : ch_wr m1 (2, 0, 0) 2 (m1 (2, 0, 0) 2) = m2
      replace h := h m2 hmm2.symm
      refine ch_aload_n (i := 0) d_p_keep_57 rfl rfl ?_
      refine ch_get (v := .inr (2, 0, 1)) d_p_keep_58 fl_p_11 rfl ?_
      refine ch_aload_n (i := 0) d_p_keep_61 rfl rfl ?_
      refine ch_get (v := .inl (.int (m2 (2, 0, 0) 1))) d_p_keep_62 fl_p_18 rfl ?_
      have b3 := h.1
      replace h := h.2
      refine ch_aald d_p_keep_65 b3 ?_
      refine ch_aload_n (i := 1) d_p_keep_66 rfl rfl ?_
      refine ch_callV (as := [.inr (1, j1, 0)]) d_p_keep_67 lk_p_25 mi_y_copyFrom me_y_copyFrom rfl rfl rfl ⟨Nat.le_of_ble_eq_true rfl, Nat.le_of_ble_eq_true rfl⟩ (Nat.le_of_ble_eq_true rfl) ⟨Nat.le_of_ble_eq_true rfl, Nat.le_of_ble_eq_true rfl⟩ (ch_mono (ch_Kv (fun m5 q6 => ?_)) (s_y_copyFrom g (fun (m_ : ch_M) => (m_ = ch_os m2 1 (4 + Int32.toNatClampNeg (m2 (2, 0, 0) 1)) (y_cp (ch_ob m2 1 j1) (ch_ob m2 1 (4 + Int32.toNatClampNeg (m2 (2, 0, 0) 1)))))) ((4 + Int32.toNatClampNeg (m2 (2, 0, 0) 1))) (j1) m2 rfl))
      have hm_ := q6
      replace h := h m5 hm_
      exact ch_vret d_p_keep_70 rfl (Nat.le_of_ble_eq_true rfl) h
    · replace h := h.2 c
      refine ch_aload_n (i := 0) d_p_keep_41 rfl rfl ?_
      refine ch_get (v := .inl (.int (m1 (2, 0, 0) 2))) d_p_keep_42 fl_p_22 rfl ?_
      refine ch_iconst (v := 1) d_p_keep_45 (by decide) ?_
      refine ch_iadd d_p_keep_46 ?_
      refine ch_goto (tgt := 54) d_p_keep_47 (by decide) ?_
      refine ch_put d_p_keep_54 fp_p_22 rfl rfl rfl ?_
      generalize hmm7 : ch_wr m1 (2, 0, 0) 2 ((m1 (2, 0, 0) 2) + 1) = m7
      replace h := h m7 hmm7.symm
      refine ch_aload_n (i := 0) d_p_keep_57 rfl rfl ?_
      refine ch_get (v := .inr (2, 0, 1)) d_p_keep_58 fl_p_11 rfl ?_
      refine ch_aload_n (i := 0) d_p_keep_61 rfl rfl ?_
      refine ch_get (v := .inl (.int (m7 (2, 0, 0) 1))) d_p_keep_62 fl_p_18 rfl ?_
      have b8 := h.1
      replace h := h.2
      refine ch_aald d_p_keep_65 b8 ?_
      refine ch_aload_n (i := 1) d_p_keep_66 rfl rfl ?_
      refine ch_callV (as := [.inr (1, j1, 0)]) d_p_keep_67 lk_p_25 mi_y_copyFrom me_y_copyFrom rfl rfl rfl ⟨Nat.le_of_ble_eq_true rfl, Nat.le_of_ble_eq_true rfl⟩ (Nat.le_of_ble_eq_true rfl) ⟨Nat.le_of_ble_eq_true rfl, Nat.le_of_ble_eq_true rfl⟩ (ch_mono (ch_Kv (fun m10 q11 => ?_)) (s_y_copyFrom g (fun (m_ : ch_M) => (m_ = ch_os m7 1 (4 + Int32.toNatClampNeg (m7 (2, 0, 0) 1)) (y_cp (ch_ob m7 1 j1) (ch_ob m7 1 (4 + Int32.toNatClampNeg (m7 (2, 0, 0) 1)))))) ((4 + Int32.toNatClampNeg (m7 (2, 0, 0) 1))) (j1) m7 rfl))
      have hm_ := q11
      replace h := h m10 hm_
      exact ch_vret d_p_keep_70 rfl (Nat.le_of_ble_eq_true rfl) h
  · replace h := h.2 c
    refine ch_aload_n (i := 0) d_p_keep_15 rfl rfl ?_
    refine ch_get (v := .inl (.int (m (2, 0, 0) 1))) d_p_keep_16 fl_p_18 rfl ?_
    refine ch_iconst (v := 1) d_p_keep_19 (by decide) ?_
    refine ch_iadd d_p_keep_20 ?_
    refine ch_goto (tgt := 25) d_p_keep_21 (by decide) ?_
    refine ch_put d_p_keep_25 fp_p_18 rfl rfl rfl ?_
    generalize hmm12 : ch_wr m (2, 0, 0) 1 ((m (2, 0, 0) 1) + 1) = m12
    replace h := h m12 hmm12.symm
    refine ch_aload_n (i := 0) d_p_keep_28 rfl rfl ?_
    refine ch_aload_n (i := 0) d_p_keep_29 rfl rfl ?_
    refine ch_get (v := .inl (.int (m12 (2, 0, 0) 2))) d_p_keep_30 fl_p_22 rfl ?_
    refine ch_aload_n (i := 0) d_p_keep_33 rfl rfl ?_
    refine ch_get (v := .inr (2, 0, 1)) d_p_keep_34 fl_p_11 rfl ?_
    refine ch_alen (v := 8) d_p_keep_37 (by decide) (t := 4) (by decide) rfl rfl ?_
    refine ch_icmp_ge (tgt := 50) d_p_keep_38 (by decide) (fun c => ?_) (fun c => ?_)
    · replace h := h.1 c
      refine ch_aload_n (i := 0) d_p_keep_50 rfl rfl ?_
      refine ch_get (v := .inl (.int (m12 (2, 0, 0) 2))) d_p_keep_51 fl_p_22 rfl ?_
      refine ch_put d_p_keep_54 fp_p_22 rfl rfl rfl ?_
      generalize hmm13 : ch_wr m12 (2, 0, 0) 2 (m12 (2, 0, 0) 2) = m13
      replace h := h m13 hmm13.symm
      refine ch_aload_n (i := 0) d_p_keep_57 rfl rfl ?_
      refine ch_get (v := .inr (2, 0, 1)) d_p_keep_58 fl_p_11 rfl ?_
      refine ch_aload_n (i := 0) d_p_keep_61 rfl rfl ?_
      refine ch_get (v := .inl (.int (m13 (2, 0, 0) 1))) d_p_keep_62 fl_p_18 rfl ?_
      have b14 := h.1
      replace h := h.2
      refine ch_aald d_p_keep_65 b14 ?_
      refine ch_aload_n (i := 1) d_p_keep_66 rfl rfl ?_
      refine ch_callV (as := [.inr (1, j1, 0)]) d_p_keep_67 lk_p_25 mi_y_copyFrom me_y_copyFrom rfl rfl rfl ⟨Nat.le_of_ble_eq_true rfl, Nat.le_of_ble_eq_true rfl⟩ (Nat.le_of_ble_eq_true rfl) ⟨Nat.le_of_ble_eq_true rfl, Nat.le_of_ble_eq_true rfl⟩ (ch_mono (ch_Kv (fun m16 q17 => ?_)) (s_y_copyFrom g (fun (m_ : ch_M) => (m_ = ch_os m13 1 (4 + Int32.toNatClampNeg (m13 (2, 0, 0) 1)) (y_cp (ch_ob m13 1 j1) (ch_ob m13 1 (4 + Int32.toNatClampNeg (m13 (2, 0, 0) 1)))))) ((4 + Int32.toNatClampNeg (m13 (2, 0, 0) 1))) (j1) m13 rfl))
      have hm_ := q17
      replace h := h m16 hm_
      exact ch_vret d_p_keep_70 rfl (Nat.le_of_ble_eq_true rfl) h
    · replace h := h.2 c
      refine ch_aload_n (i := 0) d_p_keep_41 rfl rfl ?_
      refine ch_get (v := .inl (.int (m12 (2, 0, 0) 2))) d_p_keep_42 fl_p_22 rfl ?_
      refine ch_iconst (v := 1) d_p_keep_45 (by decide) ?_
      refine ch_iadd d_p_keep_46 ?_
      refine ch_goto (tgt := 54) d_p_keep_47 (by decide) ?_
      refine ch_put d_p_keep_54 fp_p_22 rfl rfl rfl ?_
      generalize hmm18 : ch_wr m12 (2, 0, 0) 2 ((m12 (2, 0, 0) 2) + 1) = m18
      replace h := h m18 hmm18.symm
      refine ch_aload_n (i := 0) d_p_keep_57 rfl rfl ?_
      refine ch_get (v := .inr (2, 0, 1)) d_p_keep_58 fl_p_11 rfl ?_
      refine ch_aload_n (i := 0) d_p_keep_61 rfl rfl ?_
      refine ch_get (v := .inl (.int (m18 (2, 0, 0) 1))) d_p_keep_62 fl_p_18 rfl ?_
      have b19 := h.1
      replace h := h.2
      refine ch_aald d_p_keep_65 b19 ?_
      refine ch_aload_n (i := 1) d_p_keep_66 rfl rfl ?_
      refine ch_callV (as := [.inr (1, j1, 0)]) d_p_keep_67 lk_p_25 mi_y_copyFrom me_y_copyFrom rfl rfl rfl ⟨Nat.le_of_ble_eq_true rfl, Nat.le_of_ble_eq_true rfl⟩ (Nat.le_of_ble_eq_true rfl) ⟨Nat.le_of_ble_eq_true rfl, Nat.le_of_ble_eq_true rfl⟩ (ch_mono (ch_Kv (fun m21 q22 => ?_)) (s_y_copyFrom g (fun (m_ : ch_M) => (m_ = ch_os m18 1 (4 + Int32.toNatClampNeg (m18 (2, 0, 0) 1)) (y_cp (ch_ob m18 1 j1) (ch_ob m18 1 (4 + Int32.toNatClampNeg (m18 (2, 0, 0) 1)))))) ((4 + Int32.toNatClampNeg (m18 (2, 0, 0) 1))) (j1) m18 rfl))
      have hm_ := q22
      replace h := h m21 hm_
      exact ch_vret d_p_keep_70 rfl (Nat.le_of_ble_eq_true rfl) h
theorem e_p_giveBack (g : ch_G) (Q : ch_O → ch_M → Prop) (j1 : Nat) (m : ch_M) (h : ch_J g m_p_giveBack (ch_rm m_p_giveBack) (ch_E g m_p_giveBack Q) 0 [some (.inr (2, 0, 0)), some (.inr (1, j1, 0))] [] m 0) : ch_C g m_p_giveBack [.inr (2, 0, 0), .inr (1, j1, 0)] m Q :=
  ch_enter mf_p_giveBack (by intro v hv; simp only [List.mem_cons, List.not_mem_nil, or_false] at hv; rcases hv with rfl | rfl <;> rfl) (Nat.le_of_ble_eq_true rfl) h
set_option maxHeartbeats 1600000 in
theorem g_p_giveBack_0 (g : ch_G) (Q : ch_O → ch_M → Prop) (j1 : Nat) (m : ch_M) (h : (vp_in (m (2, 0, 0) 1) 8) ∧ ((∀ m3 : ch_M, m3 = ch_os m 1 j1 (y_cp (ch_ob m 1 (4 + Int32.toNatClampNeg (m (2, 0, 0) 1))) (ch_ob m 1 j1)) → (((m3 (2, 0, 0) 1) ≤ 0 → (∀ m5 : ch_M, m5 = ch_wr m3 (2, 0, 0) 1 (8 - (1 : Int32)) → (∀ m6 : ch_M, m6 = ch_wr m5 (2, 0, 0) 2 ((m5 (2, 0, 0) 2) - 1) → Q (.inl none) m6))) ∧ (¬ (m3 (2, 0, 0) 1) ≤ 0 → (∀ m7 : ch_M, m7 = ch_wr m3 (2, 0, 0) 1 ((m3 (2, 0, 0) 1) - 1) → (∀ m8 : ch_M, m8 = ch_wr m7 (2, 0, 0) 2 ((m7 (2, 0, 0) 2) - 1) → Q (.inl none) m8))))))) : ch_J g m_p_giveBack (ch_rm m_p_giveBack) (ch_E g m_p_giveBack Q) 0 [some (.inr (2, 0, 0)), some (.inr (1, j1, 0))] [] m 0 := by
  refine ch_aload_n (i := 1) d_p_giveBack_0 rfl rfl ?_
  refine ch_aload_n (i := 0) d_p_giveBack_1 rfl rfl ?_
  refine ch_get (v := .inr (2, 0, 1)) d_p_giveBack_2 fl_p_11 rfl ?_
  refine ch_aload_n (i := 0) d_p_giveBack_5 rfl rfl ?_
  refine ch_get (v := .inl (.int (m (2, 0, 0) 1))) d_p_giveBack_6 fl_p_18 rfl ?_
  have b1 := h.1
  replace h := h.2
  refine ch_aald d_p_giveBack_9 b1 ?_
  refine ch_callV (as := [.inr (1, (4 + Int32.toNatClampNeg (m (2, 0, 0) 1)), 0)]) d_p_giveBack_10 lk_p_25 mi_y_copyFrom me_y_copyFrom rfl rfl rfl ⟨Nat.le_of_ble_eq_true rfl, Nat.le_of_ble_eq_true rfl⟩ (Nat.le_of_ble_eq_true rfl) ⟨Nat.le_of_ble_eq_true rfl, Nat.le_of_ble_eq_true rfl⟩ (ch_mono (ch_Kv (fun m3 q4 => ?_)) (s_y_copyFrom g (fun (m_ : ch_M) => (m_ = ch_os m 1 j1 (y_cp (ch_ob m 1 (4 + Int32.toNatClampNeg (m (2, 0, 0) 1))) (ch_ob m 1 j1)))) (j1) ((4 + Int32.toNatClampNeg (m (2, 0, 0) 1))) m rfl))
  have hm_ := q4
  replace h := h m3 hm_
  refine ch_aload_n (i := 0) d_p_giveBack_13 rfl rfl ?_
  refine ch_aload_n (i := 0) d_p_giveBack_14 rfl rfl ?_
  refine ch_get (v := .inl (.int (m3 (2, 0, 0) 1))) d_p_giveBack_15 fl_p_18 rfl ?_
  refine ch_if_le (tgt := 30) d_p_giveBack_18 (by decide) (fun c => ?_) (fun c => ?_)
  · replace h := h.1 c
    refine ch_aload_n (i := 0) d_p_giveBack_30 rfl rfl ?_
    refine ch_get (v := .inr (2, 0, 1)) d_p_giveBack_31 fl_p_11 rfl ?_
    refine ch_alen (v := 8) d_p_giveBack_34 (by decide) (t := 4) (by decide) rfl rfl ?_
    refine ch_iconst (v := 1) d_p_giveBack_35 (by decide) ?_
    refine ch_isub d_p_giveBack_36 ?_
    refine ch_put d_p_giveBack_37 fp_p_18 rfl rfl rfl ?_
    generalize hmm5 : ch_wr m3 (2, 0, 0) 1 (8 - (1 : Int32)) = m5
    replace h := h m5 hmm5.symm
    refine ch_aload_n (i := 0) d_p_giveBack_40 rfl rfl ?_
    refine ch_dup d_p_giveBack_41 rfl ?_
    refine ch_get (v := .inl (.int (m5 (2, 0, 0) 2))) d_p_giveBack_42 fl_p_22 rfl ?_
    refine ch_iconst (v := 1) d_p_giveBack_45 (by decide) ?_
    refine ch_isub d_p_giveBack_46 ?_
    refine ch_put d_p_giveBack_47 fp_p_22 rfl rfl rfl ?_
    generalize hmm6 : ch_wr m5 (2, 0, 0) 2 ((m5 (2, 0, 0) 2) - 1) = m6
    replace h := h m6 hmm6.symm
    exact ch_vret d_p_giveBack_50 rfl (Nat.le_of_ble_eq_true rfl) h
  · replace h := h.2 c
    refine ch_aload_n (i := 0) d_p_giveBack_21 rfl rfl ?_
    refine ch_get (v := .inl (.int (m3 (2, 0, 0) 1))) d_p_giveBack_22 fl_p_18 rfl ?_
    refine ch_iconst (v := 1) d_p_giveBack_25 (by decide) ?_
    refine ch_isub d_p_giveBack_26 ?_
    refine ch_goto (tgt := 37) d_p_giveBack_27 (by decide) ?_
    refine ch_put d_p_giveBack_37 fp_p_18 rfl rfl rfl ?_
    generalize hmm7 : ch_wr m3 (2, 0, 0) 1 ((m3 (2, 0, 0) 1) - 1) = m7
    replace h := h m7 hmm7.symm
    refine ch_aload_n (i := 0) d_p_giveBack_40 rfl rfl ?_
    refine ch_dup d_p_giveBack_41 rfl ?_
    refine ch_get (v := .inl (.int (m7 (2, 0, 0) 2))) d_p_giveBack_42 fl_p_22 rfl ?_
    refine ch_iconst (v := 1) d_p_giveBack_45 (by decide) ?_
    refine ch_isub d_p_giveBack_46 ?_
    refine ch_put d_p_giveBack_47 fp_p_22 rfl rfl rfl ?_
    generalize hmm8 : ch_wr m7 (2, 0, 0) 2 ((m7 (2, 0, 0) 2) - 1) = m8
    replace h := h m8 hmm8.symm
    exact ch_vret d_p_giveBack_50 rfl (Nat.le_of_ble_eq_true rfl) h
theorem e_r_keep (g : ch_G) (Q : ch_O → ch_M → Prop) (p1 : Int32) (p2 : Int32) (m : ch_M) (h : ch_J g m_r_keep (ch_rm m_r_keep) (ch_E g m_r_keep Q) 0 [some (.inr (3, 0, 0)), some (.inl (.int p1)), some (.inl (.int p2))] [] m 0) : ch_C g m_r_keep [.inr (3, 0, 0), .inl (.int p1), .inl (.int p2)] m Q :=
  ch_enter mf_r_keep (by intro v hv; simp only [List.mem_cons, List.not_mem_nil, or_false] at hv; rcases hv with rfl | rfl | rfl <;> rfl) (Nat.le_of_ble_eq_true rfl) h
set_option maxHeartbeats 1600000 in
theorem g_r_keep_0 (g : ch_G) (Q : ch_O → ch_M → Prop) (p1 : Int32) (p2 : Int32) (m : ch_M) (h : (∀ m1 : ch_M, m1 = ch_wr m (3, 0, 0) 0 p1 → (∀ m2 : ch_M, m2 = ch_wr m1 (3, 0, 0) 1 p2 → (∀ m3 : ch_M, m3 = ch_wr m2 (3, 0, 0) 2 0 → Q (.inl (some (.inl (.int 1)))) m3)))) : ch_J g m_r_keep (ch_rm m_r_keep) (ch_E g m_r_keep Q) 0 [some (.inr (3, 0, 0)), some (.inl (.int p1)), some (.inl (.int p2))] [] m 0 := by
  refine ch_aload_n (i := 0) d_r_keep_0 rfl rfl ?_
  refine ch_iload_n (i := 1) d_r_keep_1 rfl rfl ?_
  refine ch_put d_r_keep_2 fp_r_117 rfl rfl rfl ?_
  generalize hmm1 : ch_wr m (3, 0, 0) 0 p1 = m1
  replace h := h m1 hmm1.symm
  refine ch_aload_n (i := 0) d_r_keep_5 rfl rfl ?_
  refine ch_iload_n (i := 2) d_r_keep_6 rfl rfl ?_
  refine ch_put d_r_keep_7 fp_r_118 rfl rfl rfl ?_
  generalize hmm2 : ch_wr m1 (3, 0, 0) 1 p2 = m2
  replace h := h m2 hmm2.symm
  refine ch_aload_n (i := 0) d_r_keep_10 rfl rfl ?_
  refine ch_iconst (v := 0) d_r_keep_11 (by decide) ?_
  refine ch_put d_r_keep_12 fp_r_121 rfl rfl rfl ?_
  generalize hmm3 : ch_wr m2 (3, 0, 0) 2 0 = m3
  replace h := h m3 hmm3.symm
  refine ch_iconst (v := 1) d_r_keep_15 (by decide) ?_
  exact ch_iret (ty := .boolean) d_r_keep_16 rfl rfl (Nat.le_of_ble_eq_true rfl) h
