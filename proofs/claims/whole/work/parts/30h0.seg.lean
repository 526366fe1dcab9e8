theorem e_m_strikes (g : ch_G) (Q : ch_O → ch_M → Prop) (p1 : Int32) (m : ch_M) (h : ch_J g m_m_strikes (ch_rm m_m_strikes) (ch_E g m_m_strikes Q) 0 [some (.inr (9, 0, 0)), some (.inl (.int p1))] [] m 0) : ch_C g m_m_strikes [.inr (9, 0, 0), .inl (.int p1)] m Q :=
  ch_enter mf_m_strikes (by intro v hv; simp only [List.mem_cons, List.not_mem_nil, or_false] at hv; rcases hv with rfl | rfl <;> rfl) (Nat.le_of_ble_eq_true rfl) h
set_option maxHeartbeats 1600000 in
theorem g_m_strikes_0 (g : ch_G) (Q : ch_O → ch_M → Prop) (p1 : Int32) (m : ch_M) (h : (((0 ≤ p1 ∧ p1 ≤ m (9, 0, 1) 0 - 1) → (vp_in p1 5) ∧ (((¬ (m (9, 0, 1) (38 + 5 * Int32.toNatClampNeg p1 + 2)) = 0 → (((((m (9, 0, 1) (38 + 5 * Int32.toNatClampNeg p1 + 2)) ≤ m (9, 0, 1) (38 + 5 * Int32.toNatClampNeg p1 + 0)) → (∀ m12 : ch_M, m12 = ch_os m 9 0 (m_payB (ch_ob m 9 0) (Int32.toNatClampNeg p1) (m (9, 0, 1) (38 + 5 * Int32.toNatClampNeg p1 + 2))) → (∃ Y_14 : ch_B, (m_rel Y_14 (m12 (9, 0, 1))) ∧ (vp_in (Y_14 0 9) 6) ∧ ((∀ (B15 : ch_B), (m_rel (m_clB Y_14 (Int32.toNatClampNeg p1)) (B15 1)) → (∀ a_ i_, a_ ≠ 1 → B15 a_ i_ = ch_ob m12 9 0 a_ i_) → (∀ m17 : ch_M, m17 = ch_os m12 9 0 B15 → (((∀ m25 : ch_M, m25 = ch_wr m17 (9, 0, 0) 18 (m17 (9, 0, 1) (38 + 5 * Int32.toNatClampNeg p1 + 0)) → Q (.inl (some (.inl (.int 1)))) m25))))))))) ∧ ((¬ (m (9, 0, 1) (38 + 5 * Int32.toNatClampNeg p1 + 2)) ≤ m (9, 0, 1) (38 + 5 * Int32.toNatClampNeg p1 + 0)) → (∀ m12 : ch_M, m12 = ch_os m 9 0 (m_refB (ch_ob m 9 0) 5 ((m (9, 0, 1) (38 + 5 * Int32.toNatClampNeg p1 + 2)) - m (9, 0, 1) (38 + 5 * Int32.toNatClampNeg p1 + 0))) → Q (.inl (some (.inl (.int 0)))) m12))))) ∧ ((m (9, 0, 1) (38 + 5 * Int32.toNatClampNeg p1 + 2)) = 0 → ((∀ m28 : ch_M, m28 = ch_wr (ch_wr (ch_wr m (9, 0, 0) 15 10) (9, 0, 0) 16 0) (9, 0, 0) 17 0 → Q (.inl (some (.inl (.int 0)))) m28)))))) ∧ ((¬ (0 ≤ p1 ∧ p1 ≤ m (9, 0, 1) 0 - 1)) → (∀ m2 : ch_M, m2 = ch_wr (ch_wr (ch_wr m (9, 0, 0) 15 3) (9, 0, 0) 16 (m (9, 0, 1) (0))) (9, 0, 0) 17 0 → Q (.inl (some (.inl (.int 0)))) m2)))) : ch_J g m_m_strikes (ch_rm m_m_strikes) (ch_E g m_m_strikes Q) 0 [some (.inr (9, 0, 0)), some (.inl (.int p1))] [] m 0 := by
  refine ch_aload_n (i := 0) d_m_strikes_0 rfl rfl ?_
  refine ch_iload_n (i := 1) d_m_strikes_1 rfl rfl ?_
  refine ch_callV (as := [.inl (.int p1)]) d_m_strikes_2 lk_m_106 mi_m_isThere me_m_isThere rfl rfl rfl ⟨Nat.le_of_ble_eq_true rfl, Nat.le_of_ble_eq_true rfl⟩ (Nat.le_of_ble_eq_true rfl) ⟨Nat.le_of_ble_eq_true rfl, Nat.le_of_ble_eq_true rfl⟩ (ch_mono (ch_Ki (fun r1 m2 q3 => ?_)) (s_m_isThere g (fun (r_ : Int32) (m_ : ch_M) => ((0 ≤ p1 ∧ p1 ≤ m (9, 0, 1) 0 - 1) ∧ 1 = r_ ∧ m = m_) ∨ ((¬ (0 ≤ p1 ∧ p1 ≤ m (9, 0, 1) 0 - 1)) ∧ 0 = r_ ∧ m_ = ch_wr (ch_wr (ch_wr m (9, 0, 0) 15 3) (9, 0, 0) 16 (m (9, 0, 1) (0))) (9, 0, 0) 17 0)) (p1) m ⟨(fun c_ => (Or.inl ⟨c_, rfl, rfl⟩)), (fun c_ => (Or.inr ⟨c_, rfl, rfl⟩))⟩))
  rcases q3 with ⟨c_, rfl, rfl⟩ | ⟨c_, rfl, hm_⟩
  · replace h := h.1 c_
    refine ch_if_ne (tgt := 10) d_m_strikes_5 (by decide) (fun _ => ?_) (fun c => absurd c (by decide))
    refine ch_aload_n (i := 0) d_m_strikes_10 rfl rfl ?_
    refine ch_iload_n (i := 1) d_m_strikes_11 rfl rfl ?_
    refine ch_iconst (v := 2) d_m_strikes_12 (by decide) ?_
    have b7 := h.1
    replace h := h.2
    refine ch_callV (as := [.inl (.int p1), .inl (.int 2)]) d_m_strikes_13 lk_m_85 mi_m_of me_m_of rfl rfl rfl ⟨Nat.le_of_ble_eq_true rfl, Nat.le_of_ble_eq_true rfl⟩ (Nat.le_of_ble_eq_true rfl) ⟨Nat.le_of_ble_eq_true rfl, Nat.le_of_ble_eq_true rfl⟩ (ch_mono (ch_Ki (fun r4 m5 q6 => ?_)) (s_m_of g (fun (r_ : Int32) (m_ : ch_M) => ((m (9, 0, 1) (38 + 5 * Int32.toNatClampNeg p1 + 2)) = r_ ∧ m = m_)) (p1) (2) m ⟨b7, (vp_in_nI (n := 2) (by decide) (by decide)), ⟨rfl, rfl⟩⟩))
    obtain ⟨rfl, rfl⟩ := q6
    replace h := h
    refine ch_if_ne (tgt := 27) d_m_strikes_16 (by decide) (fun c => ?_) (fun c => ?_)
    · replace h := h.1 c
      refine ch_aload_n (i := 0) d_m_strikes_27 rfl rfl ?_
      refine ch_iload_n (i := 1) d_m_strikes_28 rfl rfl ?_
      refine ch_aload_n (i := 0) d_m_strikes_29 rfl rfl ?_
      refine ch_iload_n (i := 1) d_m_strikes_30 rfl rfl ?_
      refine ch_iconst (v := 2) d_m_strikes_31 (by decide) ?_
      refine ch_callV (as := [.inl (.int p1), .inl (.int 2)]) d_m_strikes_32 lk_m_85 mi_m_of me_m_of rfl rfl rfl ⟨Nat.le_of_ble_eq_true rfl, Nat.le_of_ble_eq_true rfl⟩ (Nat.le_of_ble_eq_true rfl) ⟨Nat.le_of_ble_eq_true rfl, Nat.le_of_ble_eq_true rfl⟩ (ch_mono (ch_Ki (fun r8 m9 q10 => ?_)) (s_m_of g (fun (r_ : Int32) (m_ : ch_M) => ((m (9, 0, 1) (38 + 5 * Int32.toNatClampNeg p1 + 2)) = r_ ∧ m = m_)) (p1) (2) m ⟨b7, (vp_in_nI (n := 2) (by decide) (by decide)), ⟨rfl, rfl⟩⟩))
      obtain ⟨rfl, rfl⟩ := q10
      replace h := h
      refine ch_callV (as := [.inl (.int p1), .inl (.int (m (9, 0, 1) (38 + 5 * Int32.toNatClampNeg p1 + 2)))]) d_m_strikes_35 lk_m_115 mi_m_pays me_m_pays rfl rfl rfl ⟨Nat.le_of_ble_eq_true rfl, Nat.le_of_ble_eq_true rfl⟩ (Nat.le_of_ble_eq_true rfl) ⟨Nat.le_of_ble_eq_true rfl, Nat.le_of_ble_eq_true rfl⟩ (ch_mono (ch_Ki (fun r11 m12 q13 => ?_)) (s_m_pays g (fun (r_ : Int32) (m_ : ch_M) => (((m (9, 0, 1) (38 + 5 * Int32.toNatClampNeg p1 + 2)) ≤ m (9, 0, 1) (38 + 5 * Int32.toNatClampNeg p1 + 0)) ∧ 1 = r_ ∧ m_ = ch_os m 9 0 (m_payB (ch_ob m 9 0) (Int32.toNatClampNeg p1) (m (9, 0, 1) (38 + 5 * Int32.toNatClampNeg p1 + 2)))) ∨ ((¬ (m (9, 0, 1) (38 + 5 * Int32.toNatClampNeg p1 + 2)) ≤ m (9, 0, 1) (38 + 5 * Int32.toNatClampNeg p1 + 0)) ∧ 0 = r_ ∧ m_ = ch_os m 9 0 (m_refB (ch_ob m 9 0) 5 ((m (9, 0, 1) (38 + 5 * Int32.toNatClampNeg p1 + 2)) - m (9, 0, 1) (38 + 5 * Int32.toNatClampNeg p1 + 0))))) (p1) ((m (9, 0, 1) (38 + 5 * Int32.toNatClampNeg p1 + 2))) m ⟨b7, (fun c_ => (Or.inl ⟨c_, rfl, rfl⟩)), (fun c_ => (Or.inr ⟨c_, rfl, rfl⟩))⟩))
      rcases q13 with ⟨c_, rfl, hm_⟩ | ⟨c_, rfl, hm_⟩
      · replace h := h.1 c_ m12 hm_
        refine ch_if_ne (tgt := 43) d_m_strikes_38 (by decide) (fun _ => ?_) (fun c => absurd c (by decide))
        refine ch_aload_n (i := 0) d_m_strikes_43 rfl rfl ?_
        refine ch_iload_n (i := 1) d_m_strikes_44 rfl rfl ?_
        obtain ⟨Y_14, h⟩ := h
        have b19 := h.1
        replace h := h.2
        have b20 := h.1
        replace h := h.2
        refine ch_callV (as := [.inl (.int p1)]) d_m_strikes_45 lk_m_156 mi_m_closes me_m_closes rfl rfl rfl ⟨Nat.le_of_ble_eq_true rfl, Nat.le_of_ble_eq_true rfl⟩ (Nat.le_of_ble_eq_true rfl) ⟨Nat.le_of_ble_eq_true rfl, Nat.le_of_ble_eq_true rfl⟩ (ch_mono (ch_Kv (fun m17 q18 => ?_)) (s_m_closes g (fun (m_ : ch_M) => (∃ (B15 : ch_B), (m_rel (m_clB Y_14 (Int32.toNatClampNeg p1)) (B15 1)) ∧ (∀ a_ i_, a_ ≠ 1 → B15 a_ i_ = ch_ob m12 9 0 a_ i_) ∧ m_ = ch_os m12 9 0 B15)) (Y_14) (p1) m12 ⟨b19, b7, b20, (fun B15 f0_ f1_ => ⟨B15, f0_, f1_, rfl⟩)⟩))
        obtain ⟨B15, f0_, f1_, hm_⟩ := q18
        replace h := h B15 f0_ f1_ m17 hm_
        refine ch_aload_n (i := 0) d_m_strikes_48 rfl rfl ?_
        refine ch_aload_n (i := 0) d_m_strikes_49 rfl rfl ?_
        refine ch_iload_n (i := 1) d_m_strikes_50 rfl rfl ?_
        refine ch_iconst (v := 0) d_m_strikes_51 (by decide) ?_
        refine ch_callV (as := [.inl (.int p1), .inl (.int 0)]) d_m_strikes_52 lk_m_85 mi_m_of me_m_of rfl rfl rfl ⟨Nat.le_of_ble_eq_true rfl, Nat.le_of_ble_eq_true rfl⟩ (Nat.le_of_ble_eq_true rfl) ⟨Nat.le_of_ble_eq_true rfl, Nat.le_of_ble_eq_true rfl⟩ (ch_mono (ch_Ki (fun r21 m22 q23 => ?_)) (s_m_of g (fun (r_ : Int32) (m_ : ch_M) => ((m17 (9, 0, 1) (38 + 5 * Int32.toNatClampNeg p1 + 0)) = r_ ∧ m17 = m_)) (p1) (0) m17 ⟨b7, (vp_in_nI (n := 0) (by decide) (by decide)), ⟨rfl, rfl⟩⟩))
        obtain ⟨rfl, rfl⟩ := q23
        replace h := h
        refine ch_callV (as := [.inl (.int (m17 (9, 0, 1) (38 + 5 * Int32.toNatClampNeg p1 + 0)))]) d_m_strikes_55 lk_m_93 mi_m_does me_m_does rfl rfl rfl ⟨Nat.le_of_ble_eq_true rfl, Nat.le_of_ble_eq_true rfl⟩ (Nat.le_of_ble_eq_true rfl) ⟨Nat.le_of_ble_eq_true rfl, Nat.le_of_ble_eq_true rfl⟩ (ch_mono (ch_Ki (fun r24 m25 q26 => ?_)) (s_m_does g (fun (r_ : Int32) (m_ : ch_M) => (1 = r_ ∧ m_ = ch_wr m17 (9, 0, 0) 18 (m17 (9, 0, 1) (38 + 5 * Int32.toNatClampNeg p1 + 0)))) ((m17 (9, 0, 1) (38 + 5 * Int32.toNatClampNeg p1 + 0))) m17 ⟨rfl, rfl⟩))
        obtain ⟨rfl, hm_⟩ := q26
        replace h := h m25 hm_
        exact ch_iret (ty := .boolean) d_m_strikes_58 rfl rfl (Nat.le_of_ble_eq_true rfl) h
      · replace h := h.2 c_ m12 hm_
        refine ch_if_ne (tgt := 43) d_m_strikes_38 (by decide) (fun c => absurd c (by decide)) (fun _ => ?_)
        refine ch_iconst (v := 0) d_m_strikes_41 (by decide) ?_
        exact ch_iret (ty := .boolean) d_m_strikes_42 rfl rfl (Nat.le_of_ble_eq_true rfl) h
    · replace h := h.2 c
      refine ch_aload_n (i := 0) d_m_strikes_19 rfl rfl ?_
      refine ch_bipush (v := 10) d_m_strikes_20 (by decide) ?_
      refine ch_iconst (v := 0) d_m_strikes_22 (by decide) ?_
      refine ch_callV (as := [.inl (.int 10), .inl (.int 0)]) d_m_strikes_23 lk_m_81 mi_m_refuses me_m_refuses rfl rfl rfl ⟨Nat.le_of_ble_eq_true rfl, Nat.le_of_ble_eq_true rfl⟩ (Nat.le_of_ble_eq_true rfl) ⟨Nat.le_of_ble_eq_true rfl, Nat.le_of_ble_eq_true rfl⟩ (ch_mono (ch_Ki (fun r27 m28 q29 => ?_)) (s_m_refuses g (fun (r_ : Int32) (m_ : ch_M) => (0 = r_ ∧ m_ = ch_wr (ch_wr (ch_wr m (9, 0, 0) 15 10) (9, 0, 0) 16 0) (9, 0, 0) 17 0)) (10) (0) m ⟨rfl, rfl⟩))
      obtain ⟨rfl, hm_⟩ := q29
      replace h := h m28 hm_
      exact ch_iret (ty := .boolean) d_m_strikes_26 rfl rfl (Nat.le_of_ble_eq_true rfl) h
  · replace h := h.2 c_ m2 hm_
    refine ch_if_ne (tgt := 10) d_m_strikes_5 (by decide) (fun c => absurd c (by decide)) (fun _ => ?_)
    refine ch_iconst (v := 0) d_m_strikes_8 (by decide) ?_
    exact ch_iret (ty := .boolean) d_m_strikes_9 rfl rfl (Nat.le_of_ble_eq_true rfl) h
