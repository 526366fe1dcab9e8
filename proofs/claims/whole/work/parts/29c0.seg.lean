theorem e_m_ends (g : ch_G) (Q : ch_O → ch_M → Prop) (p1 : Int32) (m : ch_M) (h : ch_J g m_m_ends (ch_rm m_m_ends) (ch_E g m_m_ends Q) 0 [some (.inr (9, 0, 0)), some (.inl (.int p1))] [] m 0) : ch_C g m_m_ends [.inr (9, 0, 0), .inl (.int p1)] m Q :=
  ch_enter mf_m_ends (by intro v hv; simp only [List.mem_cons, List.not_mem_nil, or_false] at hv; rcases hv with rfl | rfl <;> rfl) (Nat.le_of_ble_eq_true rfl) h
set_option maxHeartbeats 1600000 in
theorem g_m_ends_0 (g : ch_G) (Q : ch_O → ch_M → Prop) (p1 : Int32) (m : ch_M) (h : ((p1 = 0 → ((∀ m2 : ch_M, m2 = ch_wr m (9, 0, 0) 19 1 → Q (.inl (some (.inl (.int 0)))) m2))) ∧ (¬ p1 = 0 → (vp_in (m (9, 0, 0) 4) 9) ∧ ((∀ m5 : ch_M, m5 = ch_os m 9 0 (m_kB (ch_ob m 9 0)) → Q (.inl (some (.inl (.int (m (9, 0, 0) 18))))) m5))))) : ch_J g m_m_ends (ch_rm m_m_ends) (ch_E g m_m_ends Q) 0 [some (.inr (9, 0, 0)), some (.inl (.int p1))] [] m 0 := by
  refine ch_iload_n (i := 1) d_m_ends_0 rfl rfl ?_
  refine ch_if_eq (tgt := 15) d_m_ends_1 (by decide) (fun c => ?_) (fun c => ?_)
  · replace h := h.1 c
    refine ch_aload_n (i := 0) d_m_ends_15 rfl rfl ?_
    refine ch_iconst (v := 1) d_m_ends_16 (by decide) ?_
    refine ch_callV (as := [.inl (.int 1)]) d_m_ends_17 lk_m_70 mi_m_raises me_m_raises rfl rfl rfl ⟨Nat.le_of_ble_eq_true rfl, Nat.le_of_ble_eq_true rfl⟩ (Nat.le_of_ble_eq_true rfl) ⟨Nat.le_of_ble_eq_true rfl, Nat.le_of_ble_eq_true rfl⟩ (ch_mono (ch_Ki (fun r1 m2 q3 => ?_)) (s_m_raises g (fun (r_ : Int32) (m_ : ch_M) => (0 = r_ ∧ m_ = ch_wr m (9, 0, 0) 19 1)) (1) m ⟨rfl, rfl⟩))
    obtain ⟨rfl, hm_⟩ := q3
    replace h := h m2 hm_
    exact ch_iret (ty := .int) d_m_ends_20 rfl rfl (Nat.le_of_ble_eq_true rfl) h
  · replace h := h.2 c
    refine ch_aload_n (i := 0) d_m_ends_4 rfl rfl ?_
    refine ch_aload_n (i := 0) d_m_ends_5 rfl rfl ?_
    refine ch_get (v := .inl (.int (m (9, 0, 0) 18))) d_m_ends_6 fl_m_54 rfl ?_
    have b7 := h.1
    replace h := h.2
    refine ch_callV (as := [.inl (.int (m (9, 0, 0) 18))]) d_m_ends_9 lk_m_66 mi_m_keeps me_m_keeps rfl rfl rfl ⟨Nat.le_of_ble_eq_true rfl, Nat.le_of_ble_eq_true rfl⟩ (Nat.le_of_ble_eq_true rfl) ⟨Nat.le_of_ble_eq_true rfl, Nat.le_of_ble_eq_true rfl⟩ (ch_mono (ch_Ki (fun r4 m5 q6 => ?_)) (s_m_keeps g (fun (r_ : Int32) (m_ : ch_M) => ((m (9, 0, 0) 18) = r_ ∧ m_ = ch_os m 9 0 (m_kB (ch_ob m 9 0)))) ((m (9, 0, 0) 18)) m ⟨b7, ⟨rfl, rfl⟩⟩))
    obtain ⟨rfl, hm_⟩ := q6
    replace h := h m5 hm_
    refine ch_goto (tgt := 20) d_m_ends_12 (by decide) ?_
    exact ch_iret (ty := .int) d_m_ends_20 rfl rfl (Nat.le_of_ble_eq_true rfl) h
theorem e_m_pays (g : ch_G) (Q : ch_O → ch_M → Prop) (p1 : Int32) (p2 : Int32) (m : ch_M) (h : ch_J g m_m_pays (ch_rm m_m_pays) (ch_E g m_m_pays Q) 0 [some (.inr (9, 0, 0)), some (.inl (.int p1)), some (.inl (.int p2))] [] m 0) : ch_C g m_m_pays [.inr (9, 0, 0), .inl (.int p1), .inl (.int p2)] m Q :=
  ch_enter mf_m_pays (by intro v hv; simp only [List.mem_cons, List.not_mem_nil, or_false] at hv; rcases hv with rfl | rfl | rfl <;> rfl) (Nat.le_of_ble_eq_true rfl) h
set_option maxHeartbeats 1600000 in
theorem g_m_pays_0 (g : ch_G) (Q : ch_O → ch_M → Prop) (p1 : Int32) (p2 : Int32) (m : ch_M) (h : (vp_in p1 5) ∧ (((p2 ≤ (m (9, 0, 1) (38 + 5 * Int32.toNatClampNeg p1 + 0)) → (((∀ m9 : ch_M, m9 = ch_wr m (9, 0, 1) (38 + 5 * Int32.toNatClampNeg p1 + 0) ((m (9, 0, 1) (38 + 5 * Int32.toNatClampNeg p1 + 0)) - p2) → (∀ m11 : ch_M, m11 = ch_wr m9 (9, 0, 1) (1) ((m9 (9, 0, 1) (1)) + p2) → Q (.inl (some (.inl (.int 1)))) m11))))) ∧ (¬ p2 ≤ (m (9, 0, 1) (38 + 5 * Int32.toNatClampNeg p1 + 0)) → (((∀ m16 : ch_M, m16 = ch_wr (ch_wr (ch_wr m (9, 0, 0) 15 5) (9, 0, 0) 16 (p2 - (m (9, 0, 1) (38 + 5 * Int32.toNatClampNeg p1 + 0)))) (9, 0, 0) 17 0 → Q (.inl (some (.inl (.int 0)))) m16))))))) : ch_J g m_m_pays (ch_rm m_m_pays) (ch_E g m_m_pays Q) 0 [some (.inr (9, 0, 0)), some (.inl (.int p1)), some (.inl (.int p2))] [] m 0 := by
  refine ch_aload_n (i := 0) d_m_pays_0 rfl rfl ?_
  refine ch_iload_n (i := 1) d_m_pays_1 rfl rfl ?_
  refine ch_iconst (v := 0) d_m_pays_2 (by decide) ?_
  have b4 := h.1
  replace h := h.2
  refine ch_callV (as := [.inl (.int p1), .inl (.int 0)]) d_m_pays_3 lk_m_85 mi_m_of me_m_of rfl rfl rfl ⟨Nat.le_of_ble_eq_true rfl, Nat.le_of_ble_eq_true rfl⟩ (Nat.le_of_ble_eq_true rfl) ⟨Nat.le_of_ble_eq_true rfl, Nat.le_of_ble_eq_true rfl⟩ (ch_mono (ch_Ki (fun r1 m2 q3 => ?_)) (s_m_of g (fun (r_ : Int32) (m_ : ch_M) => ((m (9, 0, 1) (38 + 5 * Int32.toNatClampNeg p1 + 0)) = r_ ∧ m = m_)) (p1) (0) m ⟨b4, (vp_in_nI (n := 0) (by decide) (by decide)), ⟨rfl, rfl⟩⟩))
  obtain ⟨rfl, rfl⟩ := q3
  replace h := h
  refine ch_iload_n (i := 2) d_m_pays_6 rfl rfl ?_
  refine ch_icmp_ge (tgt := 24) d_m_pays_7 (by decide) (fun c => ?_) (fun c => ?_)
  · replace h := h.1 c
    refine ch_aload_n (i := 0) d_m_pays_24 rfl rfl ?_
    refine ch_iload_n (i := 1) d_m_pays_25 rfl rfl ?_
    refine ch_iconst (v := 0) d_m_pays_26 (by decide) ?_
    refine ch_aload_n (i := 0) d_m_pays_27 rfl rfl ?_
    refine ch_iload_n (i := 1) d_m_pays_28 rfl rfl ?_
    refine ch_iconst (v := 0) d_m_pays_29 (by decide) ?_
    refine ch_callV (as := [.inl (.int p1), .inl (.int 0)]) d_m_pays_30 lk_m_85 mi_m_of me_m_of rfl rfl rfl ⟨Nat.le_of_ble_eq_true rfl, Nat.le_of_ble_eq_true rfl⟩ (Nat.le_of_ble_eq_true rfl) ⟨Nat.le_of_ble_eq_true rfl, Nat.le_of_ble_eq_true rfl⟩ (ch_mono (ch_Ki (fun r5 m6 q7 => ?_)) (s_m_of g (fun (r_ : Int32) (m_ : ch_M) => ((m (9, 0, 1) (38 + 5 * Int32.toNatClampNeg p1 + 0)) = r_ ∧ m = m_)) (p1) (0) m ⟨b4, (vp_in_nI (n := 0) (by decide) (by decide)), ⟨rfl, rfl⟩⟩))
    obtain ⟨rfl, rfl⟩ := q7
    replace h := h
    refine ch_iload_n (i := 2) d_m_pays_33 rfl rfl ?_
    refine ch_isub d_m_pays_34 ?_
    refine ch_callV (as := [.inl (.int p1), .inl (.int 0), .inl (.int ((m (9, 0, 1) (38 + 5 * Int32.toNatClampNeg p1 + 0)) - p2))]) d_m_pays_35 lk_m_89 mi_m_sets me_m_sets rfl rfl rfl ⟨Nat.le_of_ble_eq_true rfl, Nat.le_of_ble_eq_true rfl⟩ (Nat.le_of_ble_eq_true rfl) ⟨Nat.le_of_ble_eq_true rfl, Nat.le_of_ble_eq_true rfl⟩ (ch_mono (ch_Kv (fun m9 q10 => ?_)) (s_m_sets g (fun (m_ : ch_M) => (m_ = ch_wr m (9, 0, 1) (38 + 5 * Int32.toNatClampNeg p1 + 0) ((m (9, 0, 1) (38 + 5 * Int32.toNatClampNeg p1 + 0)) - p2))) (p1) (0) (((m (9, 0, 1) (38 + 5 * Int32.toNatClampNeg p1 + 0)) - p2)) m ⟨b4, (vp_in_nI (n := 0) (by decide) (by decide)), rfl⟩))
    have hm_ := q10
    replace h := h m9 hm_
    refine ch_aload_n (i := 0) d_m_pays_38 rfl rfl ?_
    refine ch_get (v := .inr (9, 0, 1)) d_m_pays_39 fl_m_9 rfl ?_
    refine ch_iconst (v := 1) d_m_pays_42 (by decide) ?_
    refine ch_dup2 d_m_pays_43 rfl rfl ?_
    refine ch_iald (n := 63) d_m_pays_44 (by decide) rfl (vp_in_nI (n := 1) (by decide) (by decide)) ?_
    refine ch_iload_n (i := 2) d_m_pays_45 rfl rfl ?_
    refine ch_iadd d_m_pays_46 ?_
    refine ch_iast (n := 63) d_m_pays_47 (by decide) rfl (vp_in_nI (n := 1) (by decide) (by decide)) ?_
    show ch_J g _ _ _ _ _ _ (ch_wr m9 (9, 0, 1) (1) ((m9 (9, 0, 1) (1)) + p2)) _
    generalize hmm11 : ch_wr m9 (9, 0, 1) (1) ((m9 (9, 0, 1) (1)) + p2) = m11
    replace h := h m11 hmm11.symm
    refine ch_iconst (v := 1) d_m_pays_48 (by decide) ?_
    exact ch_iret (ty := .boolean) d_m_pays_49 rfl rfl (Nat.le_of_ble_eq_true rfl) h
  · replace h := h.2 c
    refine ch_aload_n (i := 0) d_m_pays_10 rfl rfl ?_
    refine ch_iconst (v := 5) d_m_pays_11 (by decide) ?_
    refine ch_iload_n (i := 2) d_m_pays_12 rfl rfl ?_
    refine ch_aload_n (i := 0) d_m_pays_13 rfl rfl ?_
    refine ch_iload_n (i := 1) d_m_pays_14 rfl rfl ?_
    refine ch_iconst (v := 0) d_m_pays_15 (by decide) ?_
    refine ch_callV (as := [.inl (.int p1), .inl (.int 0)]) d_m_pays_16 lk_m_85 mi_m_of me_m_of rfl rfl rfl ⟨Nat.le_of_ble_eq_true rfl, Nat.le_of_ble_eq_true rfl⟩ (Nat.le_of_ble_eq_true rfl) ⟨Nat.le_of_ble_eq_true rfl, Nat.le_of_ble_eq_true rfl⟩ (ch_mono (ch_Ki (fun r12 m13 q14 => ?_)) (s_m_of g (fun (r_ : Int32) (m_ : ch_M) => ((m (9, 0, 1) (38 + 5 * Int32.toNatClampNeg p1 + 0)) = r_ ∧ m = m_)) (p1) (0) m ⟨b4, (vp_in_nI (n := 0) (by decide) (by decide)), ⟨rfl, rfl⟩⟩))
    obtain ⟨rfl, rfl⟩ := q14
    replace h := h
    refine ch_isub d_m_pays_19 ?_
    refine ch_callV (as := [.inl (.int 5), .inl (.int (p2 - (m (9, 0, 1) (38 + 5 * Int32.toNatClampNeg p1 + 0))))]) d_m_pays_20 lk_m_81 mi_m_refuses me_m_refuses rfl rfl rfl ⟨Nat.le_of_ble_eq_true rfl, Nat.le_of_ble_eq_true rfl⟩ (Nat.le_of_ble_eq_true rfl) ⟨Nat.le_of_ble_eq_true rfl, Nat.le_of_ble_eq_true rfl⟩ (ch_mono (ch_Ki (fun r15 m16 q17 => ?_)) (s_m_refuses g (fun (r_ : Int32) (m_ : ch_M) => (0 = r_ ∧ m_ = ch_wr (ch_wr (ch_wr m (9, 0, 0) 15 5) (9, 0, 0) 16 (p2 - (m (9, 0, 1) (38 + 5 * Int32.toNatClampNeg p1 + 0)))) (9, 0, 0) 17 0)) (5) ((p2 - (m (9, 0, 1) (38 + 5 * Int32.toNatClampNeg p1 + 0)))) m ⟨rfl, rfl⟩))
    obtain ⟨rfl, hm_⟩ := q17
    replace h := h m16 hm_
    exact ch_iret (ty := .boolean) d_m_pays_23 rfl rfl (Nat.le_of_ble_eq_true rfl) h
