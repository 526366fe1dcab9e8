theorem e_m_hop (g : ch_G) (Q : ch_O → ch_M → Prop) (p1 : Int32) (p2 : Int32) (m : ch_M) (h : ch_J g m_m_hop (ch_rm m_m_hop) (ch_E g m_m_hop Q) 0 [some (.inr (9, 0, 0)), some (.inl (.int p1)), some (.inl (.int p2))] [] m 0) : ch_C g m_m_hop [.inr (9, 0, 0), .inl (.int p1), .inl (.int p2)] m Q :=
  ch_enter mf_m_hop (by intro v hv; simp only [List.mem_cons, List.not_mem_nil, or_false] at hv; rcases hv with rfl | rfl | rfl <;> rfl) (Nat.le_of_ble_eq_true rfl) h
set_option maxHeartbeats 1600000 in
theorem g_m_hop_0 (g : ch_G) (Q : ch_O → ch_M → Prop) (p1 : Int32) (p2 : Int32) (m : ch_M) (h : ((∀ m2 : ch_M, m2 = ch_os m 9 0 (m_trB (ch_ob m 9 0)) → (vp_in (m2 (9, 0, 1) 0) 6) ∧ ((((0 ≤ p1 ∧ p1 ≤ m2 (9, 0, 1) 0 - 1) ∧ m2 (9, 0, 1) (38 + 5 * Int32.toNatClampNeg p1 + 2) = 0) → (∃ A_8 : ch_B, (((¬ s_rfB A_8 p2 0 1 = 0) → (∀ (B9 : ch_B), (∀ a_ i_, a_ ≠ 9 → ¬ (a_ = 0 ∧ i_ = 21) → B9 a_ i_ = ch_ob m2 9 0 a_ i_) → (B9 0 21 = s_rfB A_8 p2 0 1) → (∀ k_, k_ < Int32.toNatClampNeg (s_rfB A_8 p2 0 1) → B9 9 k_ = s_rfB A_8 p2 1 k_) → (∀ m12 : ch_M, m12 = ch_os m2 9 0 B9 → (∃ T_14 : Nat, (∃ Y_15 : ch_B, (m_rel Y_15 (m12 (9, 0, 1))) ∧ (y_inv T_14 Y_15) ∧ (vp_in p1 5) ∧ (vp_in (m12 (9, 0, 0) 21) 13) ∧ (∀ i_, i_ < (Int32.toNatClampNeg (m12 (9, 0, 0) 21)) → 1 ≤ m12 (9, 0, 9) i_ ∧ m12 (9, 0, 9) i_ ≤ 3) ∧ (((¬ y_mfO (m12 (9, 0, 9)) (Int32.toNatClampNeg (m12 (9, 0, 0) 21)) = true ∧ ¬ ch_ps (m12 (9, 0, 9)) (Int32.toNatClampNeg (m12 (9, 0, 0) 21)) < 11) → (∀ (B16 : ch_B), (m_did (ch_ob m12 9 0) B16 (y_hopB Y_15 p1 (m12 (9, 0, 9)) (Int32.toNatClampNeg (m12 (9, 0, 0) 21))) (y_ct Y_15 p1 (m12 (9, 0, 9)) (Int32.toNatClampNeg (m12 (9, 0, 0) 21)))) → (∀ m18 : ch_M, m18 = ch_os m12 9 0 B16 → (vp_in (m18 (9, 0, 0) 4) 9) ∧ ((∀ m26 : ch_M, m26 = ch_os m18 9 0 (m_kB (ch_ob m18 9 0)) → Q (.inl (some (.inl (.int (m18 (9, 0, 0) 18))))) m26))))) ∧ ((¬ (¬ y_mfO (m12 (9, 0, 9)) (Int32.toNatClampNeg (m12 (9, 0, 0) 21)) = true ∧ ¬ ch_ps (m12 (9, 0, 9)) (Int32.toNatClampNeg (m12 (9, 0, 0) 21)) < 11)) → (∀ m18 : ch_M, m18 = ch_os m12 9 0 (m_refB (ch_ob m12 9 0) 8 (if y_mfO (m12 (9, 0, 9)) (Int32.toNatClampNeg (m12 (9, 0, 0) 21)) = true then 12 else ch_ps (m12 (9, 0, 9)) (Int32.toNatClampNeg (m12 (9, 0, 0) 21)))) → ((∀ m30 : ch_M, m30 = ch_os m18 9 0 (ch_bw (ch_ob m18 9 0) 0 19 1) → Q (.inl (some (.inl (.int 0)))) m30)))))))))) ∧ ((s_rfB A_8 p2 0 1 = 0) → (∀ (B10 : ch_B), (∀ a_ i_, a_ ≠ 9 → ¬ (a_ = 0 ∧ i_ = 21) → B10 a_ i_ = ch_ob m2 9 0 a_ i_) → (∀ m12 : ch_M, m12 = ch_os m2 9 0 B10 → ((∀ m33 : ch_M, m33 = ch_wr (ch_wr (ch_wr m12 (9, 0, 0) 15 1) (9, 0, 0) 16 0) (9, 0, 0) 17 0 → ((∀ m36 : ch_M, m36 = ch_os m33 9 0 (ch_bw (ch_ob m33 9 0) 0 19 1) → Q (.inl (some (.inl (.int 0)))) m36)))))))))) ∧ ((¬ (0 ≤ p1 ∧ p1 ≤ m2 (9, 0, 1) 0 - 1)) → (∀ m5 : ch_M, m5 = ch_os m2 9 0 (m_refB (ch_ob m2 9 0) 3 (m2 (9, 0, 1) 0)) → ((∀ m39 : ch_M, m39 = ch_wr m5 (9, 0, 0) 19 1 → Q (.inl (some (.inl (.int 0)))) m39)))) ∧ (((0 ≤ p1 ∧ p1 ≤ m2 (9, 0, 1) 0 - 1) ∧ ¬ m2 (9, 0, 1) (38 + 5 * Int32.toNatClampNeg p1 + 2) = 0) → (∀ m5 : ch_M, m5 = ch_os m2 9 0 (m_refB (ch_ob m2 9 0) 7 (m2 (9, 0, 1) (38 + 5 * Int32.toNatClampNeg p1 + 2))) → ((∀ m42 : ch_M, m42 = ch_wr m5 (9, 0, 0) 19 1 → Q (.inl (some (.inl (.int 0)))) m42)))))))) : ch_J g m_m_hop (ch_rm m_m_hop) (ch_E g m_m_hop Q) 0 [some (.inr (9, 0, 0)), some (.inl (.int p1)), some (.inl (.int p2))] [] m 0 := by
  refine ch_aload_n (i := 0) d_m_hop_0 rfl rfl ?_
  refine ch_callV (as := []) d_m_hop_1 lk_m_96 mi_m_tries me_m_tries rfl rfl rfl ⟨Nat.le_of_ble_eq_true rfl, Nat.le_of_ble_eq_true rfl⟩ (Nat.le_of_ble_eq_true rfl) ⟨Nat.le_of_ble_eq_true rfl, Nat.le_of_ble_eq_true rfl⟩ (ch_mono (ch_Kv (fun m2 q3 => ?_)) (s_m_tries g (fun (m_ : ch_M) => (m_ = ch_os m 9 0 (m_trB (ch_ob m 9 0))))  m rfl))
  have hm_ := q3
  replace h := h m2 hm_
  refine ch_aload_n (i := 0) d_m_hop_4 rfl rfl ?_
  refine ch_iload_n (i := 1) d_m_hop_5 rfl rfl ?_
  have b7 := h.1
  replace h := h.2
  refine ch_callV (as := [.inl (.int p1)]) d_m_hop_6 lk_m_144 mi_m_canHop me_m_canHop rfl rfl rfl ⟨Nat.le_of_ble_eq_true rfl, Nat.le_of_ble_eq_true rfl⟩ (Nat.le_of_ble_eq_true rfl) ⟨Nat.le_of_ble_eq_true rfl, Nat.le_of_ble_eq_true rfl⟩ (ch_mono (ch_Ki (fun r4 m5 q6 => ?_)) (s_m_canHop g (fun (r_ : Int32) (m_ : ch_M) => (((0 ≤ p1 ∧ p1 ≤ m2 (9, 0, 1) 0 - 1) ∧ m2 (9, 0, 1) (38 + 5 * Int32.toNatClampNeg p1 + 2) = 0) ∧ 1 = r_ ∧ m2 = m_) ∨ ((¬ (0 ≤ p1 ∧ p1 ≤ m2 (9, 0, 1) 0 - 1)) ∧ 0 = r_ ∧ m_ = ch_os m2 9 0 (m_refB (ch_ob m2 9 0) 3 (m2 (9, 0, 1) 0))) ∨ (((0 ≤ p1 ∧ p1 ≤ m2 (9, 0, 1) 0 - 1) ∧ ¬ m2 (9, 0, 1) (38 + 5 * Int32.toNatClampNeg p1 + 2) = 0) ∧ 0 = r_ ∧ m_ = ch_os m2 9 0 (m_refB (ch_ob m2 9 0) 7 (m2 (9, 0, 1) (38 + 5 * Int32.toNatClampNeg p1 + 2))))) (p1) m2 ⟨b7, (fun c_ => (Or.inl ⟨c_, rfl, rfl⟩)), (fun c_ => (Or.inr (Or.inl ⟨c_, rfl, rfl⟩))), (fun c_ => (Or.inr (Or.inr ⟨c_, rfl, rfl⟩)))⟩))
  rcases q6 with ⟨c_, rfl, rfl⟩ | ⟨c_, rfl, hm_⟩ | ⟨c_, rfl, hm_⟩
  · replace h := h.1 c_
    refine ch_if_ne (tgt := 18) d_m_hop_9 (by decide) (fun _ => ?_) (fun c => absurd c (by decide))
    refine ch_aload_n (i := 0) d_m_hop_18 rfl rfl ?_
    refine ch_iload_n (i := 2) d_m_hop_19 rfl rfl ?_
    obtain ⟨A_8, h⟩ := h
    refine ch_callV (as := [.inl (.int p2)]) d_m_hop_20 lk_m_147 mi_m_areSteps me_m_areSteps rfl rfl rfl ⟨Nat.le_of_ble_eq_true rfl, Nat.le_of_ble_eq_true rfl⟩ (Nat.le_of_ble_eq_true rfl) ⟨Nat.le_of_ble_eq_true rfl, Nat.le_of_ble_eq_true rfl⟩ (ch_mono (ch_Ki (fun r11 m12 q13 => ?_)) (s_m_areSteps g (fun (r_ : Int32) (m_ : ch_M) => (∃ (B9 : ch_B), (¬ s_rfB A_8 p2 0 1 = 0) ∧ 1 = r_ ∧ (∀ a_ i_, a_ ≠ 9 → ¬ (a_ = 0 ∧ i_ = 21) → B9 a_ i_ = ch_ob m2 9 0 a_ i_) ∧ (B9 0 21 = s_rfB A_8 p2 0 1) ∧ (∀ k_, k_ < Int32.toNatClampNeg (s_rfB A_8 p2 0 1) → B9 9 k_ = s_rfB A_8 p2 1 k_) ∧ m_ = ch_os m2 9 0 B9) ∨ (∃ (B10 : ch_B), (s_rfB A_8 p2 0 1 = 0) ∧ 0 = r_ ∧ (∀ a_ i_, a_ ≠ 9 → ¬ (a_ = 0 ∧ i_ = 21) → B10 a_ i_ = ch_ob m2 9 0 a_ i_) ∧ m_ = ch_os m2 9 0 B10)) (A_8) (p2) m2 ⟨(fun c_ B9 f0_ f1_ f2_ => (Or.inl ⟨B9, c_, rfl, f0_, f1_, f2_, rfl⟩)), (fun c_ B10 f0_ => (Or.inr ⟨B10, c_, rfl, f0_, rfl⟩))⟩))
    rcases q13 with ⟨B9, c_, rfl, f0_, f1_, f2_, hm_⟩ | ⟨B10, c_, rfl, f0_, hm_⟩
    · replace h := h.1 c_ B9 f0_ f1_ f2_ m12 hm_
      refine ch_if_ne (tgt := 37) d_m_hop_23 (by decide) (fun _ => ?_) (fun c => absurd c (by decide))
      refine ch_aload_n (i := 0) d_m_hop_37 rfl rfl ?_
      refine ch_aload_n (i := 0) d_m_hop_38 rfl rfl ?_
      refine ch_iload_n (i := 1) d_m_hop_39 rfl rfl ?_
      obtain ⟨T_14, h⟩ := h
      obtain ⟨Y_15, h⟩ := h
      have b20 := h.1
      replace h := h.2
      have b21 := h.1
      replace h := h.2
      have b22 := h.1
      replace h := h.2
      have b23 := h.1
      replace h := h.2
      have b24 := h.1
      replace h := h.2
      refine ch_callV (as := [.inl (.int p1)]) d_m_hop_40 lk_m_150 mi_m_hops me_m_hops rfl rfl rfl ⟨Nat.le_of_ble_eq_true rfl, Nat.le_of_ble_eq_true rfl⟩ (Nat.le_of_ble_eq_true rfl) ⟨Nat.le_of_ble_eq_true rfl, Nat.le_of_ble_eq_true rfl⟩ (ch_mono (ch_Ki (fun r17 m18 q19 => ?_)) (s_m_hops g (fun (r_ : Int32) (m_ : ch_M) => (∃ (B16 : ch_B), (¬ y_mfO (m12 (9, 0, 9)) (Int32.toNatClampNeg (m12 (9, 0, 0) 21)) = true ∧ ¬ ch_ps (m12 (9, 0, 9)) (Int32.toNatClampNeg (m12 (9, 0, 0) 21)) < 11) ∧ 1 = r_ ∧ (m_did (ch_ob m12 9 0) B16 (y_hopB Y_15 p1 (m12 (9, 0, 9)) (Int32.toNatClampNeg (m12 (9, 0, 0) 21))) (y_ct Y_15 p1 (m12 (9, 0, 9)) (Int32.toNatClampNeg (m12 (9, 0, 0) 21)))) ∧ m_ = ch_os m12 9 0 B16) ∨ ((¬ (¬ y_mfO (m12 (9, 0, 9)) (Int32.toNatClampNeg (m12 (9, 0, 0) 21)) = true ∧ ¬ ch_ps (m12 (9, 0, 9)) (Int32.toNatClampNeg (m12 (9, 0, 0) 21)) < 11)) ∧ 0 = r_ ∧ m_ = ch_os m12 9 0 (m_refB (ch_ob m12 9 0) 8 (if y_mfO (m12 (9, 0, 9)) (Int32.toNatClampNeg (m12 (9, 0, 0) 21)) = true then 12 else ch_ps (m12 (9, 0, 9)) (Int32.toNatClampNeg (m12 (9, 0, 0) 21)))))) (T_14) (Y_15) (p1) m12 ⟨b20, b21, b22, b23, b24, (fun c_ B16 f0_ => (Or.inl ⟨B16, c_, rfl, f0_, rfl⟩)), (fun c_ => (Or.inr ⟨c_, rfl, rfl⟩))⟩))
      rcases q19 with ⟨B16, c_, rfl, f0_, hm_⟩ | ⟨c_, rfl, hm_⟩
      · replace h := h.1 c_ B16 f0_ m18 hm_
        have b28 := h.1
        replace h := h.2
        refine ch_callV (as := [.inl (.int 1)]) d_m_hop_43 lk_m_102 mi_m_ends me_m_ends rfl rfl rfl ⟨Nat.le_of_ble_eq_true rfl, Nat.le_of_ble_eq_true rfl⟩ (Nat.le_of_ble_eq_true rfl) ⟨Nat.le_of_ble_eq_true rfl, Nat.le_of_ble_eq_true rfl⟩ (ch_mono (ch_Ki (fun r25 m26 q27 => ?_)) (c_m_ends1 g (fun (r_ : Int32) (m_ : ch_M) => ((m18 (9, 0, 0) 18) = r_ ∧ m_ = ch_os m18 9 0 (m_kB (ch_ob m18 9 0))))  m18 ⟨b28, ⟨rfl, rfl⟩⟩))
        obtain ⟨rfl, hm_⟩ := q27
        replace h := h m26 hm_
        exact ch_iret (ty := .int) d_m_hop_46 rfl rfl (Nat.le_of_ble_eq_true rfl) h
      · replace h := h.2 c_ m18 hm_
        refine ch_callV (as := [.inl (.int 0)]) d_m_hop_43 lk_m_102 mi_m_ends me_m_ends rfl rfl rfl ⟨Nat.le_of_ble_eq_true rfl, Nat.le_of_ble_eq_true rfl⟩ (Nat.le_of_ble_eq_true rfl) ⟨Nat.le_of_ble_eq_true rfl, Nat.le_of_ble_eq_true rfl⟩ (ch_mono (ch_Ki (fun r29 m30 q31 => ?_)) (c_m_ends0 g (fun (r_ : Int32) (m_ : ch_M) => (0 = r_ ∧ m_ = ch_os m18 9 0 (ch_bw (ch_ob m18 9 0) 0 19 1)))  m18 ⟨rfl, rfl⟩))
        obtain ⟨rfl, hm_⟩ := q31
        replace h := h m30 hm_
        exact ch_iret (ty := .int) d_m_hop_46 rfl rfl (Nat.le_of_ble_eq_true rfl) h
    · replace h := h.2 c_ B10 f0_ m12 hm_
      refine ch_if_ne (tgt := 37) d_m_hop_23 (by decide) (fun c => absurd c (by decide)) (fun _ => ?_)
      refine ch_aload_n (i := 0) d_m_hop_26 rfl rfl ?_
      refine ch_aload_n (i := 0) d_m_hop_27 rfl rfl ?_
      refine ch_iconst (v := 1) d_m_hop_28 (by decide) ?_
      refine ch_iconst (v := 0) d_m_hop_29 (by decide) ?_
      refine ch_callV (as := [.inl (.int 1), .inl (.int 0)]) d_m_hop_30 lk_m_81 mi_m_refuses me_m_refuses rfl rfl rfl ⟨Nat.le_of_ble_eq_true rfl, Nat.le_of_ble_eq_true rfl⟩ (Nat.le_of_ble_eq_true rfl) ⟨Nat.le_of_ble_eq_true rfl, Nat.le_of_ble_eq_true rfl⟩ (ch_mono (ch_Ki (fun r32 m33 q34 => ?_)) (s_m_refuses g (fun (r_ : Int32) (m_ : ch_M) => (0 = r_ ∧ m_ = ch_wr (ch_wr (ch_wr m12 (9, 0, 0) 15 1) (9, 0, 0) 16 0) (9, 0, 0) 17 0)) (1) (0) m12 ⟨rfl, rfl⟩))
      obtain ⟨rfl, hm_⟩ := q34
      replace h := h m33 hm_
      refine ch_callV (as := [.inl (.int 0)]) d_m_hop_33 lk_m_102 mi_m_ends me_m_ends rfl rfl rfl ⟨Nat.le_of_ble_eq_true rfl, Nat.le_of_ble_eq_true rfl⟩ (Nat.le_of_ble_eq_true rfl) ⟨Nat.le_of_ble_eq_true rfl, Nat.le_of_ble_eq_true rfl⟩ (ch_mono (ch_Ki (fun r35 m36 q37 => ?_)) (c_m_ends0 g (fun (r_ : Int32) (m_ : ch_M) => (0 = r_ ∧ m_ = ch_os m33 9 0 (ch_bw (ch_ob m33 9 0) 0 19 1)))  m33 ⟨rfl, rfl⟩))
      obtain ⟨rfl, hm_⟩ := q37
      replace h := h m36 hm_
      exact ch_iret (ty := .int) d_m_hop_36 rfl rfl (Nat.le_of_ble_eq_true rfl) h
  · replace h := h.2.1 c_ m5 hm_
    refine ch_if_ne (tgt := 18) d_m_hop_9 (by decide) (fun c => absurd c (by decide)) (fun _ => ?_)
    refine ch_aload_n (i := 0) d_m_hop_12 rfl rfl ?_
    refine ch_iconst (v := 1) d_m_hop_13 (by decide) ?_
    refine ch_callV (as := [.inl (.int 1)]) d_m_hop_14 lk_m_70 mi_m_raises me_m_raises rfl rfl rfl ⟨Nat.le_of_ble_eq_true rfl, Nat.le_of_ble_eq_true rfl⟩ (Nat.le_of_ble_eq_true rfl) ⟨Nat.le_of_ble_eq_true rfl, Nat.le_of_ble_eq_true rfl⟩ (ch_mono (ch_Ki (fun r38 m39 q40 => ?_)) (s_m_raises g (fun (r_ : Int32) (m_ : ch_M) => (0 = r_ ∧ m_ = ch_wr m5 (9, 0, 0) 19 1)) (1) m5 ⟨rfl, rfl⟩))
    obtain ⟨rfl, hm_⟩ := q40
    replace h := h m39 hm_
    exact ch_iret (ty := .int) d_m_hop_17 rfl rfl (Nat.le_of_ble_eq_true rfl) h
  · replace h := h.2.2 c_ m5 hm_
    refine ch_if_ne (tgt := 18) d_m_hop_9 (by decide) (fun c => absurd c (by decide)) (fun _ => ?_)
    refine ch_aload_n (i := 0) d_m_hop_12 rfl rfl ?_
    refine ch_iconst (v := 1) d_m_hop_13 (by decide) ?_
    refine ch_callV (as := [.inl (.int 1)]) d_m_hop_14 lk_m_70 mi_m_raises me_m_raises rfl rfl rfl ⟨Nat.le_of_ble_eq_true rfl, Nat.le_of_ble_eq_true rfl⟩ (Nat.le_of_ble_eq_true rfl) ⟨Nat.le_of_ble_eq_true rfl, Nat.le_of_ble_eq_true rfl⟩ (ch_mono (ch_Ki (fun r41 m42 q43 => ?_)) (s_m_raises g (fun (r_ : Int32) (m_ : ch_M) => (0 = r_ ∧ m_ = ch_wr m5 (9, 0, 0) 19 1)) (1) m5 ⟨rfl, rfl⟩))
    obtain ⟨rfl, hm_⟩ := q43
    replace h := h m42 hm_
    exact ch_iret (ty := .int) d_m_hop_17 rfl rfl (Nat.le_of_ble_eq_true rfl) h
