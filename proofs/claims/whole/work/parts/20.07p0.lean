theorem e_p_keep (g : ch_G) (Q : ch_O → ch_M → Prop) (j1 : Nat) (m : ch_M) (h : ch_J g m_p_keep (ch_rm m_p_keep) (ch_E g m_p_keep Q) 0 [some (.inr (2, 0, 0)), some (.inr (1, j1, 0))] [] m 0) : ch_C g m_p_keep [.inr (2, 0, 0), .inr (1, j1, 0)] m Q :=
  ch_enter mf_p_keep (by intro v hv; simp only [List.mem_cons, List.not_mem_nil, or_false] at hv; rcases hv with rfl | rfl <;> rfl) (Nat.le_of_ble_eq_true rfl) h
set_option maxHeartbeats 1600000 in
theorem g_p_keep_0 (g : ch_G) (Q : ch_O → ch_M → Prop) (j1 : Nat) (m : ch_M) (h : ((8 ≤ ((m (2, 0, 0) 1) + 1) → (∀ m1 : ch_M, m1 = ch_wr m (2, 0, 0) 1 0 → ((8 ≤ (m1 (2, 0, 0) 2) → (∀ m2 : ch_M, m2 = ch_wr m1 (2, 0, 0) 2 (m1 (2, 0, 0) 2) → (vp_in (m2 (2, 0, 0) 1) 8) ∧ (ch_C g m_y_copyFrom [.inr (1, (4 + Int32.toNatClampNeg (m2 (2, 0, 0) 1)), 0), .inr (1, j1, 0)] m2 (ch_ov (fun (m5 : ch_M) => Q (.inl none) m5))))) ∧ (¬ 8 ≤ (m1 (2, 0, 0) 2) → (∀ m6 : ch_M, m6 = ch_wr m1 (2, 0, 0) 2 ((m1 (2, 0, 0) 2) + 1) → (vp_in (m6 (2, 0, 0) 1) 8) ∧ (ch_C g m_y_copyFrom [.inr (1, (4 + Int32.toNatClampNeg (m6 (2, 0, 0) 1)), 0), .inr (1, j1, 0)] m6 (ch_ov (fun (m9 : ch_M) => Q (.inl none) m9)))))))) ∧ (¬ 8 ≤ ((m (2, 0, 0) 1) + 1) → (∀ m10 : ch_M, m10 = ch_wr m (2, 0, 0) 1 ((m (2, 0, 0) 1) + 1) → ((8 ≤ (m10 (2, 0, 0) 2) → (∀ m11 : ch_M, m11 = ch_wr m10 (2, 0, 0) 2 (m10 (2, 0, 0) 2) → (vp_in (m11 (2, 0, 0) 1) 8) ∧ (ch_C g m_y_copyFrom [.inr (1, (4 + Int32.toNatClampNeg (m11 (2, 0, 0) 1)), 0), .inr (1, j1, 0)] m11 (ch_ov (fun (m14 : ch_M) => Q (.inl none) m14))))) ∧ (¬ 8 ≤ (m10 (2, 0, 0) 2) → (∀ m15 : ch_M, m15 = ch_wr m10 (2, 0, 0) 2 ((m10 (2, 0, 0) 2) + 1) → (vp_in (m15 (2, 0, 0) 1) 8) ∧ (ch_C g m_y_copyFrom [.inr (1, (4 + Int32.toNatClampNeg (m15 (2, 0, 0) 1)), 0), .inr (1, j1, 0)] m15 (ch_ov (fun (m18 : ch_M) => Q (.inl none) m18)))))))))) : ch_J g m_p_keep (ch_rm m_p_keep) (ch_E g m_p_keep Q) 0 [some (.inr (2, 0, 0)), some (.inr (1, j1, 0))] [] m 0 := by
  refine ch_aload_n (i := 0) d_p_keep_0 rfl rfl ?_
  refine ch_aload_n (i := 0) d_p_keep_1 rfl rfl ?_
  refine ch_get (v := .inl (.int (m (2, 0, 0) 1))) d_p_keep_2 fl_p_18 rfl ?_
  refine ch_iconst (v := 1) d_p_keep_5 (by decide) ?_
  refine ch_iadd d_p_keep_6 ?_
  refine ch_aload_n (i := 0) d_p_keep_7 rfl rfl ?_
  refine ch_get (v := .inr (2, 0, 1)) d_p_keep_8 fl_p_11 rfl ?_
  refine ch_alen (v := 8) d_p_keep_11 (by decide) (t := 4) (by decide) rfl rfl ?_
  refine ch_icmp_ge (tgt := 24) d_p_keep_12 (by decide) (fun c => ?_) (fun c => ?_)
  · replace h := h.1 c
    refine ch_iconst (v := 0) d_p_keep_24 (by decide) ?_
    refine ch_put d_p_keep_25 fp_p_18 rfl rfl rfl ?_
    generalize hmm1 : ch_wr m (2, 0, 0) 1 0 = m1
    replace h := h m1 hmm1.symm
    refine ch_aload_n (i := 0) d_p_keep_28 rfl rfl ?_
    refine ch_aload_n (i := 0) d_p_keep_29 rfl rfl ?_
    refine ch_get (v := .inl (.int (m1 (2, 0, 0) 2))) d_p_keep_30 fl_p_22 rfl ?_
    refine ch_aload_n (i := 0) d_p_keep_33 rfl rfl ?_
    refine ch_get (v := .inr (2, 0, 1)) d_p_keep_34 fl_p_11 rfl ?_
    refine ch_alen (v := 8) d_p_keep_37 (by decide) (t := 4) (by decide) rfl rfl ?_
    refine ch_icmp_ge (tgt := 50) d_p_keep_38 (by decide) (fun c => ?_) (fun c => ?_)
    · replace h := h.1 c
      refine ch_aload_n (i := 0) d_p_keep_50 rfl rfl ?_
      refine ch_get (v := .inl (.int (m1 (2, 0, 0) 2))) d_p_keep_51 fl_p_22 rfl ?_
      refine ch_put d_p_keep_54 fp_p_22 rfl rfl rfl ?_
      generalize hmm2 : ch_wr m1 (2, 0, 0) 2 (m1 (2, 0, 0) 2) = m2
      replace h := h m2 hmm2.symm
      refine ch_aload_n (i := 0) d_p_keep_57 rfl rfl ?_
      refine ch_get (v := .inr (2, 0, 1)) d_p_keep_58 fl_p_11 rfl ?_
      refine ch_aload_n (i := 0) d_p_keep_61 rfl rfl ?_
      refine ch_get (v := .inl (.int (m2 (2, 0, 0) 1))) d_p_keep_62 fl_p_18 rfl ?_
      have b3 := h.1
      replace h := h.2
      refine ch_aald d_p_keep_65 b3 ?_
      refine ch_aload_n (i := 1) d_p_keep_66 rfl rfl ?_
      refine ch_callV (as := [.inr (1, j1, 0)]) d_p_keep_67 lk_p_25 mi_y_copyFrom me_y_copyFrom rfl rfl rfl ⟨Nat.le_of_ble_eq_true rfl, Nat.le_of_ble_eq_true rfl⟩ (Nat.le_of_ble_eq_true rfl) ⟨Nat.le_of_ble_eq_true rfl, Nat.le_of_ble_eq_true rfl⟩ (ch_mono (ch_Kv (fun m5 h => ?_)) h)
      exact ch_vret d_p_keep_70 rfl (Nat.le_of_ble_eq_true rfl) h
    · replace h := h.2 c
      refine ch_aload_n (i := 0) d_p_keep_41 rfl rfl ?_
      refine ch_get (v := .inl (.int (m1 (2, 0, 0) 2))) d_p_keep_42 fl_p_22 rfl ?_
      refine ch_iconst (v := 1) d_p_keep_45 (by decide) ?_
      refine ch_iadd d_p_keep_46 ?_
      refine ch_goto (tgt := 54) d_p_keep_47 (by decide) ?_
      refine ch_put d_p_keep_54 fp_p_22 rfl rfl rfl ?_
      generalize hmm6 : ch_wr m1 (2, 0, 0) 2 ((m1 (2, 0, 0) 2) + 1) = m6
      replace h := h m6 hmm6.symm
      refine ch_aload_n (i := 0) d_p_keep_57 rfl rfl ?_
      refine ch_get (v := .inr (2, 0, 1)) d_p_keep_58 fl_p_11 rfl ?_
      refine ch_aload_n (i := 0) d_p_keep_61 rfl rfl ?_
      refine ch_get (v := .inl (.int (m6 (2, 0, 0) 1))) d_p_keep_62 fl_p_18 rfl ?_
      have b7 := h.1
      replace h := h.2
      refine ch_aald d_p_keep_65 b7 ?_
      refine ch_aload_n (i := 1) d_p_keep_66 rfl rfl ?_
      refine ch_callV (as := [.inr (1, j1, 0)]) d_p_keep_67 lk_p_25 mi_y_copyFrom me_y_copyFrom rfl rfl rfl ⟨Nat.le_of_ble_eq_true rfl, Nat.le_of_ble_eq_true rfl⟩ (Nat.le_of_ble_eq_true rfl) ⟨Nat.le_of_ble_eq_true rfl, Nat.le_of_ble_eq_true rfl⟩ (ch_mono (ch_Kv (fun m9 h => ?_)) h)
      exact ch_vret d_p_keep_70 rfl (Nat.le_of_ble_eq_true rfl) h
  · replace h := h.2 c
    refine ch_aload_n (i := 0) d_p_keep_15 rfl rfl ?_
    refine ch_get (v := .inl (.int (m (2, 0, 0) 1))) d_p_keep_16 fl_p_18 rfl ?_
    refine ch_iconst (v := 1) d_p_keep_19 (by decide) ?_
    refine ch_iadd d_p_keep_20 ?_
    refine ch_goto (tgt := 25) d_p_keep_21 (by decide) ?_
    refine ch_put d_p_keep_25 fp_p_18 rfl rfl rfl ?_
    generalize hmm10 : ch_wr m (2, 0, 0) 1 ((m (2, 0, 0) 1) + 1) = m10
    replace h := h m10 hmm10.symm
    refine ch_aload_n (i := 0) d_p_keep_28 rfl rfl ?_
    refine ch_aload_n (i := 0) d_p_keep_29 rfl rfl ?_
    refine ch_get (v := .inl (.int (m10 (2, 0, 0) 2))) d_p_keep_30 fl_p_22 rfl ?_
    refine ch_aload_n (i := 0) d_p_keep_33 rfl rfl ?_
    refine ch_get (v := .inr (2, 0, 1)) d_p_keep_34 fl_p_11 rfl ?_
    refine ch_alen (v := 8) d_p_keep_37 (by decide) (t := 4) (by decide) rfl rfl ?_
    refine ch_icmp_ge (tgt := 50) d_p_keep_38 (by decide) (fun c => ?_) (fun c => ?_)
    · replace h := h.1 c
      refine ch_aload_n (i := 0) d_p_keep_50 rfl rfl ?_
      refine ch_get (v := .inl (.int (m10 (2, 0, 0) 2))) d_p_keep_51 fl_p_22 rfl ?_
      refine ch_put d_p_keep_54 fp_p_22 rfl rfl rfl ?_
      generalize hmm11 : ch_wr m10 (2, 0, 0) 2 (m10 (2, 0, 0) 2) = m11
      replace h := h m11 hmm11.symm
      refine ch_aload_n (i := 0) d_p_keep_57 rfl rfl ?_
      refine ch_get (v := .inr (2, 0, 1)) d_p_keep_58 fl_p_11 rfl ?_
      refine ch_aload_n (i := 0) d_p_keep_61 rfl rfl ?_
      refine ch_get (v := .inl (.int (m11 (2, 0, 0) 1))) d_p_keep_62 fl_p_18 rfl ?_
      have b12 := h.1
      replace h := h.2
      refine ch_aald d_p_keep_65 b12 ?_
      refine ch_aload_n (i := 1) d_p_keep_66 rfl rfl ?_
      refine ch_callV (as := [.inr (1, j1, 0)]) d_p_keep_67 lk_p_25 mi_y_copyFrom me_y_copyFrom rfl rfl rfl ⟨Nat.le_of_ble_eq_true rfl, Nat.le_of_ble_eq_true rfl⟩ (Nat.le_of_ble_eq_true rfl) ⟨Nat.le_of_ble_eq_true rfl, Nat.le_of_ble_eq_true rfl⟩ (ch_mono (ch_Kv (fun m14 h => ?_)) h)
      exact ch_vret d_p_keep_70 rfl (Nat.le_of_ble_eq_true rfl) h
    · replace h := h.2 c
      refine ch_aload_n (i := 0) d_p_keep_41 rfl rfl ?_
      refine ch_get (v := .inl (.int (m10 (2, 0, 0) 2))) d_p_keep_42 fl_p_22 rfl ?_
      refine ch_iconst (v := 1) d_p_keep_45 (by decide) ?_
      refine ch_iadd d_p_keep_46 ?_
      refine ch_goto (tgt := 54) d_p_keep_47 (by decide) ?_
      refine ch_put d_p_keep_54 fp_p_22 rfl rfl rfl ?_
      generalize hmm15 : ch_wr m10 (2, 0, 0) 2 ((m10 (2, 0, 0) 2) + 1) = m15
      replace h := h m15 hmm15.symm
      refine ch_aload_n (i := 0) d_p_keep_57 rfl rfl ?_
      refine ch_get (v := .inr (2, 0, 1)) d_p_keep_58 fl_p_11 rfl ?_
      refine ch_aload_n (i := 0) d_p_keep_61 rfl rfl ?_
      refine ch_get (v := .inl (.int (m15 (2, 0, 0) 1))) d_p_keep_62 fl_p_18 rfl ?_
      have b16 := h.1
      replace h := h.2
      refine ch_aald d_p_keep_65 b16 ?_
      refine ch_aload_n (i := 1) d_p_keep_66 rfl rfl ?_
      refine ch_callV (as := [.inr (1, j1, 0)]) d_p_keep_67 lk_p_25 mi_y_copyFrom me_y_copyFrom rfl rfl rfl ⟨Nat.le_of_ble_eq_true rfl, Nat.le_of_ble_eq_true rfl⟩ (Nat.le_of_ble_eq_true rfl) ⟨Nat.le_of_ble_eq_true rfl, Nat.le_of_ble_eq_true rfl⟩ (ch_mono (ch_Kv (fun m18 h => ?_)) h)
      exact ch_vret d_p_keep_70 rfl (Nat.le_of_ble_eq_true rfl) h
theorem e_p_giveBack (g : ch_G) (Q : ch_O → ch_M → Prop) (j1 : Nat) (m : ch_M) (h : ch_J g m_p_giveBack (ch_rm m_p_giveBack) (ch_E g m_p_giveBack Q) 0 [some (.inr (2, 0, 0)), some (.inr (1, j1, 0))] [] m 0) : ch_C g m_p_giveBack [.inr (2, 0, 0), .inr (1, j1, 0)] m Q :=
  ch_enter mf_p_giveBack (by intro v hv; simp only [List.mem_cons, List.not_mem_nil, or_false] at hv; rcases hv with rfl | rfl <;> rfl) (Nat.le_of_ble_eq_true rfl) h
set_option maxHeartbeats 1600000 in
theorem g_p_giveBack_0 (g : ch_G) (Q : ch_O → ch_M → Prop) (j1 : Nat) (m : ch_M) (h : (vp_in (m (2, 0, 0) 1) 8) ∧ (ch_C g m_y_copyFrom [.inr (1, j1, 0), .inr (1, (4 + Int32.toNatClampNeg (m (2, 0, 0) 1)), 0)] m (ch_ov (fun (m3 : ch_M) => (((m3 (2, 0, 0) 1) ≤ 0 → (∀ m4 : ch_M, m4 = ch_wr m3 (2, 0, 0) 1 (8 - (1 : Int32)) → (∀ m5 : ch_M, m5 = ch_wr m4 (2, 0, 0) 2 ((m4 (2, 0, 0) 2) - 1) → Q (.inl none) m5))) ∧ (¬ (m3 (2, 0, 0) 1) ≤ 0 → (∀ m6 : ch_M, m6 = ch_wr m3 (2, 0, 0) 1 ((m3 (2, 0, 0) 1) - 1) → (∀ m7 : ch_M, m7 = ch_wr m6 (2, 0, 0) 2 ((m6 (2, 0, 0) 2) - 1) → Q (.inl none) m7)))))))) : ch_J g m_p_giveBack (ch_rm m_p_giveBack) (ch_E g m_p_giveBack Q) 0 [some (.inr (2, 0, 0)), some (.inr (1, j1, 0))] [] m 0 := by
  refine ch_aload_n (i := 1) d_p_giveBack_0 rfl rfl ?_
  refine ch_aload_n (i := 0) d_p_giveBack_1 rfl rfl ?_
  refine ch_get (v := .inr (2, 0, 1)) d_p_giveBack_2 fl_p_11 rfl ?_
  refine ch_aload_n (i := 0) d_p_giveBack_5 rfl rfl ?_
  refine ch_get (v := .inl (.int (m (2, 0, 0) 1))) d_p_giveBack_6 fl_p_18 rfl ?_
  have b1 := h.1
  replace h := h.2
  refine ch_aald d_p_giveBack_9 b1 ?_
  refine ch_callV (as := [.inr (1, (4 + Int32.toNatClampNeg (m (2, 0, 0) 1)), 0)]) d_p_giveBack_10 lk_p_25 mi_y_copyFrom me_y_copyFrom rfl rfl rfl ⟨Nat.le_of_ble_eq_true rfl, Nat.le_of_ble_eq_true rfl⟩ (Nat.le_of_ble_eq_true rfl) ⟨Nat.le_of_ble_eq_true rfl, Nat.le_of_ble_eq_true rfl⟩ (ch_mono (ch_Kv (fun m3 h => ?_)) h)
  refine ch_aload_n (i := 0) d_p_giveBack_13 rfl rfl ?_
  refine ch_aload_n (i := 0) d_p_giveBack_14 rfl rfl ?_
  refine ch_get (v := .inl (.int (m3 (2, 0, 0) 1))) d_p_giveBack_15 fl_p_18 rfl ?_
  refine ch_if_le (tgt := 30) d_p_giveBack_18 (by decide) (fun c => ?_) (fun c => ?_)
  · replace h := h.1 c
    refine ch_aload_n (i := 0) d_p_giveBack_30 rfl rfl ?_
    refine ch_get (v := .inr (2, 0, 1)) d_p_giveBack_31 fl_p_11 rfl ?_
    refine ch_alen (v := 8) d_p_giveBack_34 (by decide) (t := 4) (by decide) rfl rfl ?_
    refine ch_iconst (v := 1) d_p_giveBack_35 (by decide) ?_
    refine ch_isub d_p_giveBack_36 ?_
    refine ch_put d_p_giveBack_37 fp_p_18 rfl rfl rfl ?_
    generalize hmm4 : ch_wr m3 (2, 0, 0) 1 (8 - (1 : Int32)) = m4
    replace h := h m4 hmm4.symm
    refine ch_aload_n (i := 0) d_p_giveBack_40 rfl rfl ?_
    refine ch_dup d_p_giveBack_41 rfl ?_
    refine ch_get (v := .inl (.int (m4 (2, 0, 0) 2))) d_p_giveBack_42 fl_p_22 rfl ?_
    refine ch_iconst (v := 1) d_p_giveBack_45 (by decide) ?_
    refine ch_isub d_p_giveBack_46 ?_
    refine ch_put d_p_giveBack_47 fp_p_22 rfl rfl rfl ?_
    generalize hmm5 : ch_wr m4 (2, 0, 0) 2 ((m4 (2, 0, 0) 2) - 1) = m5
    replace h := h m5 hmm5.symm
    exact ch_vret d_p_giveBack_50 rfl (Nat.le_of_ble_eq_true rfl) h
  · replace h := h.2 c
    refine ch_aload_n (i := 0) d_p_giveBack_21 rfl rfl ?_
    refine ch_get (v := .inl (.int (m3 (2, 0, 0) 1))) d_p_giveBack_22 fl_p_18 rfl ?_
    refine ch_iconst (v := 1) d_p_giveBack_25 (by decide) ?_
    refine ch_isub d_p_giveBack_26 ?_
    refine ch_goto (tgt := 37) d_p_giveBack_27 (by decide) ?_
    refine ch_put d_p_giveBack_37 fp_p_18 rfl rfl rfl ?_
    generalize hmm6 : ch_wr m3 (2, 0, 0) 1 ((m3 (2, 0, 0) 1) - 1) = m6
    replace h := h m6 hmm6.symm
    refine ch_aload_n (i := 0) d_p_giveBack_40 rfl rfl ?_
    refine ch_dup d_p_giveBack_41 rfl ?_
    refine ch_get (v := .inl (.int (m6 (2, 0, 0) 2))) d_p_giveBack_42 fl_p_22 rfl ?_
    refine ch_iconst (v := 1) d_p_giveBack_45 (by decide) ?_
    refine ch_isub d_p_giveBack_46 ?_
    refine ch_put d_p_giveBack_47 fp_p_22 rfl rfl rfl ?_
    generalize hmm7 : ch_wr m6 (2, 0, 0) 2 ((m6 (2, 0, 0) 2) - 1) = m7
    replace h := h m7 hmm7.symm
    exact ch_vret d_p_giveBack_50 rfl (Nat.le_of_ble_eq_true rfl) h
