theorem e_m_rains (g : ch_G) (Q : ch_O → ch_M → Prop) (p1 : Int32) (m : ch_M) (h : ch_J g m_m_rains (ch_rm m_m_rains) (ch_E g m_m_rains Q) 0 [some (.inr (9, 0, 0)), some (.inl (.int p1)), none, none] [] m 0) : ch_C g m_m_rains [.inr (9, 0, 0), .inl (.int p1)] m Q :=
  ch_enter mf_m_rains (by intro v hv; simp only [List.mem_cons, List.not_mem_nil, or_false] at hv; rcases hv with rfl | rfl <;> rfl) (Nat.le_of_ble_eq_true rfl) h
set_option maxHeartbeats 1600000 in
theorem g_m_rains_0 (g : ch_G) (Q : ch_O → ch_M → Prop) (p1 : Int32) (m : ch_M) (h : (((1 ≤ p1 ∧ p1 ≤ 9) → (∃ Y_4 : ch_B, (m_rel Y_4 (m (9, 0, 1))) ∧ (∀ i_, i_ < 12 → Y_4 1 i_ = -1 ∨ vp_in (Y_4 1 i_) 5) ∧ (((¬ ((12 - ch_cnO (Y_4 1) (-1) 12) + (m (9, 0, 1) (8))) = 0 → (∃ Y_10 : ch_B, (m_rel Y_10 (m (9, 0, 1))) ∧ (vp_in (Y_10 0 8) 6) ∧ (ch_J g m_m_rains (ch_rm m_m_rains) (ch_E g m_m_rains Q) 48 [some (.inr (9, 0, 0)), some (.inl (.int p1)), some (.inl (.int (m_ci (Y_10 2) p1 12 + m_ci (Y_10 5) p1 (Int32.toNatClampNeg (Y_10 0 8))))), some (.inl (.int 0))] [] m 0))) ∧ (((12 - ch_cnO (Y_4 1) (-1) 12) + (m (9, 0, 1) (8))) = 0 → ((∀ m17 : ch_M, m17 = ch_wr (ch_wr (ch_wr m (9, 0, 0) 15 12) (9, 0, 0) 16 0) (9, 0, 0) 17 0 → Q (.inl (some (.inl (.int 0)))) m17))))))) ∧ ((¬ (1 ≤ p1 ∧ p1 ≤ 9)) → ((∀ m20 : ch_M, m20 = ch_wr (ch_wr (ch_wr m (9, 0, 0) 15 1) (9, 0, 0) 16 0) (9, 0, 0) 17 0 → Q (.inl (some (.inl (.int 0)))) m20))))) : ch_J g m_m_rains (ch_rm m_m_rains) (ch_E g m_m_rains Q) 0 [some (.inr (9, 0, 0)), some (.inl (.int p1)), none, none] [] m 0 := by
  refine ch_iload_n (i := 1) d_m_rains_0 rfl rfl ?_
  refine ch_iconst (v := 1) d_m_rains_1 (by decide) ?_
  refine ch_bipush (v := 9) d_m_rains_2 (by decide) ?_
  refine ch_callS (as := [.inl (.int p1), .inl (.int 1), .inl (.int 9)]) d_m_rains_4 lk_m_73 ms_m_in rfl rfl ⟨Nat.le_of_ble_eq_true rfl, Nat.le_of_ble_eq_true rfl⟩ (Nat.le_of_ble_eq_true rfl) ⟨Nat.le_of_ble_eq_true rfl, Nat.le_of_ble_eq_true rfl⟩ (ch_mono (ch_Ki (fun r1 m2 q3 => ?_)) (s_m_in g (fun (r_ : Int32) (m_ : ch_M) => ((1 ≤ p1 ∧ p1 ≤ 9) ∧ 1 = r_ ∧ m = m_) ∨ ((¬ (1 ≤ p1 ∧ p1 ≤ 9)) ∧ 0 = r_ ∧ m = m_)) (p1) (1) (9) m ⟨(fun c_ => (Or.inl ⟨c_, rfl, rfl⟩)), (fun c_ => (Or.inr ⟨c_, rfl, rfl⟩))⟩))
  rcases q3 with ⟨c_, rfl, rfl⟩ | ⟨c_, rfl, rfl⟩
  · replace h := h.1 c_
    refine ch_if_ne (tgt := 17) d_m_rains_7 (by decide) (fun _ => ?_) (fun c => absurd c (by decide))
    refine ch_aload_n (i := 0) d_m_rains_17 rfl rfl ?_
    obtain ⟨Y_4, h⟩ := h
    have b8 := h.1
    replace h := h.2
    have b9 := h.1
    replace h := h.2
    refine ch_callV (as := []) d_m_rains_18 lk_m_162 mi_m_owned me_m_owned rfl rfl rfl ⟨Nat.le_of_ble_eq_true rfl, Nat.le_of_ble_eq_true rfl⟩ (Nat.le_of_ble_eq_true rfl) ⟨Nat.le_of_ble_eq_true rfl, Nat.le_of_ble_eq_true rfl⟩ (ch_mono (ch_Ki (fun r5 m6 q7 => ?_)) (s_m_owned g (fun (r_ : Int32) (m_ : ch_M) => ((12 - ch_cnO (Y_4 1) (-1) 12) = r_ ∧ m = m_)) (Y_4) m ⟨b8, b9, ⟨rfl, rfl⟩⟩))
    obtain ⟨rfl, rfl⟩ := q7
    replace h := h
    refine ch_aload_n (i := 0) d_m_rains_21 rfl rfl ?_
    refine ch_get (v := .inr (9, 0, 1)) d_m_rains_22 fl_m_9 rfl ?_
    refine ch_bipush (v := 8) d_m_rains_25 (by decide) ?_
    refine ch_iald (n := 63) d_m_rains_27 (by decide) rfl (vp_in_nI (n := 8) (by decide) (by decide)) ?_
    refine ch_iadd d_m_rains_28 ?_
    refine ch_if_ne (tgt := 40) d_m_rains_29 (by decide) (fun c => ?_) (fun c => ?_)
    · replace h := h.1 c
      refine ch_aload_n (i := 0) d_m_rains_40 rfl rfl ?_
      refine ch_iload_n (i := 1) d_m_rains_41 rfl rfl ?_
      obtain ⟨Y_10, h⟩ := h
      have b14 := h.1
      replace h := h.2
      have b15 := h.1
      replace h := h.2
      refine ch_callV (as := [.inl (.int p1)]) d_m_rains_42 lk_m_165 mi_m_endsBy me_m_endsBy rfl rfl rfl ⟨Nat.le_of_ble_eq_true rfl, Nat.le_of_ble_eq_true rfl⟩ (Nat.le_of_ble_eq_true rfl) ⟨Nat.le_of_ble_eq_true rfl, Nat.le_of_ble_eq_true rfl⟩ (ch_mono (ch_Ki (fun r11 m12 q13 => ?_)) (s_m_endsBy g (fun (r_ : Int32) (m_ : ch_M) => ((m_ci (Y_10 2) p1 12 + m_ci (Y_10 5) p1 (Int32.toNatClampNeg (Y_10 0 8))) = r_ ∧ m = m_)) (Y_10) (p1) m ⟨b14, b15, ⟨rfl, rfl⟩⟩))
      obtain ⟨rfl, rfl⟩ := q13
      replace h := h
      refine ch_istore_n (i := 2) d_m_rains_45 rfl (Nat.le_of_ble_eq_true rfl) (ls' := [some (.inr (9, 0, 0)), some (.inl (.int p1)), some (.inl (.int (m_ci (Y_10 2) p1 12 + m_ci (Y_10 5) p1 (Int32.toNatClampNeg (Y_10 0 8))))), none]) rfl ?_
      refine ch_iconst (v := 0) d_m_rains_46 (by decide) ?_
      refine ch_istore_n (i := 3) d_m_rains_47 rfl (Nat.le_of_ble_eq_true rfl) (ls' := [some (.inr (9, 0, 0)), some (.inl (.int p1)), some (.inl (.int (m_ci (Y_10 2) p1 12 + m_ci (Y_10 5) p1 (Int32.toNatClampNeg (Y_10 0 8))))), some (.inl (.int 0))]) rfl ?_
      exact h
    · replace h := h.2 c
      refine ch_aload_n (i := 0) d_m_rains_32 rfl rfl ?_
      refine ch_bipush (v := 12) d_m_rains_33 (by decide) ?_
      refine ch_iconst (v := 0) d_m_rains_35 (by decide) ?_
      refine ch_callV (as := [.inl (.int 12), .inl (.int 0)]) d_m_rains_36 lk_m_81 mi_m_refuses me_m_refuses rfl rfl rfl ⟨Nat.le_of_ble_eq_true rfl, Nat.le_of_ble_eq_true rfl⟩ (Nat.le_of_ble_eq_true rfl) ⟨Nat.le_of_ble_eq_true rfl, Nat.le_of_ble_eq_true rfl⟩ (ch_mono (ch_Ki (fun r16 m17 q18 => ?_)) (s_m_refuses g (fun (r_ : Int32) (m_ : ch_M) => (0 = r_ ∧ m_ = ch_wr (ch_wr (ch_wr m (9, 0, 0) 15 12) (9, 0, 0) 16 0) (9, 0, 0) 17 0)) (12) (0) m ⟨rfl, rfl⟩))
      obtain ⟨rfl, hm_⟩ := q18
      replace h := h m17 hm_
      exact ch_iret (ty := .boolean) d_m_rains_39 rfl rfl (Nat.le_of_ble_eq_true rfl) h
  · replace h := h.2 c_
    refine ch_if_ne (tgt := 17) d_m_rains_7 (by decide) (fun c => absurd c (by decide)) (fun _ => ?_)
    refine ch_aload_n (i := 0) d_m_rains_10 rfl rfl ?_
    refine ch_iconst (v := 1) d_m_rains_11 (by decide) ?_
    refine ch_iconst (v := 0) d_m_rains_12 (by decide) ?_
    refine ch_callV (as := [.inl (.int 1), .inl (.int 0)]) d_m_rains_13 lk_m_81 mi_m_refuses me_m_refuses rfl rfl rfl ⟨Nat.le_of_ble_eq_true rfl, Nat.le_of_ble_eq_true rfl⟩ (Nat.le_of_ble_eq_true rfl) ⟨Nat.le_of_ble_eq_true rfl, Nat.le_of_ble_eq_true rfl⟩ (ch_mono (ch_Ki (fun r19 m20 q21 => ?_)) (s_m_refuses g (fun (r_ : Int32) (m_ : ch_M) => (0 = r_ ∧ m_ = ch_wr (ch_wr (ch_wr m (9, 0, 0) 15 1) (9, 0, 0) 16 0) (9, 0, 0) 17 0)) (1) (0) m ⟨rfl, rfl⟩))
    obtain ⟨rfl, hm_⟩ := q21
    replace h := h m20 hm_
    exact ch_iret (ty := .boolean) d_m_rains_16 rfl rfl (Nat.le_of_ble_eq_true rfl) h
set_option maxHeartbeats 1600000 in
theorem g_m_rains_48 (g : ch_G) (Q : ch_O → ch_M → Prop) (x1 : Int32) (x2 : Int32) (x3 : Int32) (m : ch_M) (h : ((12 ≤ x3 → ch_J g m_m_rains (ch_rm m_m_rains) (ch_E g m_m_rains Q) 103 [some (.inr (9, 0, 0)), some (.inl (.int x1)), some (.inl (.int x2)), some (.inl (.int 0))] [] m 0) ∧ (¬ 12 ≤ x3 → (vp_in x3 12) ∧ (((¬ (m (9, 0, 1) (15 + 2 * Int32.toNatClampNeg x3)) = 0 → (vp_in ((14 + (2 * x3)) + 1) 63) ∧ (∀ m6 : ch_M, m6 = ch_wr m (9, 0, 1) (Int32.toNatClampNeg ((14 + (2 * x3)) + 1)) ((m (9, 0, 1) (Int32.toNatClampNeg ((14 + (2 * x3)) + 1))) - x1) → (((0 < (m6 (9, 0, 1) (15 + 2 * Int32.toNatClampNeg x3)) → ch_J g m_m_rains (ch_rm m_m_rains) (ch_E g m_m_rains Q) 48 [some (.inr (9, 0, 0)), some (.inl (.int x1)), some (.inl (.int x2)), some (.inl (.int (x3 + 1)))] [] m6 0) ∧ (¬ 0 < (m6 (9, 0, 1) (15 + 2 * Int32.toNatClampNeg x3)) → ((∀ m11 : ch_M, m11 = ch_wr (ch_wr m6 (9, 0, 1) (14 + 2 * Int32.toNatClampNeg x3) 0) (9, 0, 1) (15 + 2 * Int32.toNatClampNeg x3) 0 → ch_J g m_m_rains (ch_rm m_m_rains) (ch_E g m_m_rains Q) 48 [some (.inr (9, 0, 0)), some (.inl (.int x1)), some (.inl (.int x2)), some (.inl (.int (x3 + 1)))] [] m11 0))))))) ∧ ((m (9, 0, 1) (15 + 2 * Int32.toNatClampNeg x3)) = 0 → ch_J g m_m_rains (ch_rm m_m_rains) (ch_E g m_m_rains Q) 48 [some (.inr (9, 0, 0)), some (.inl (.int x1)), some (.inl (.int x2)), some (.inl (.int (x3 + 1)))] [] m 0)))))) : ch_J g m_m_rains (ch_rm m_m_rains) (ch_E g m_m_rains Q) 48 [some (.inr (9, 0, 0)), some (.inl (.int x1)), some (.inl (.int x2)), some (.inl (.int x3))] [] m 0 := by
  refine ch_iload_n (i := 3) d_m_rains_48 rfl rfl ?_
  refine ch_bipush (v := 12) d_m_rains_49 (by decide) ?_
  refine ch_icmp_ge (tgt := 101) d_m_rains_51 (by decide) (fun c => ?_) (fun c => ?_)
  · replace h := h.1 c
    refine ch_iconst (v := 0) d_m_rains_101 (by decide) ?_
    refine ch_istore_n (i := 3) d_m_rains_102 rfl (Nat.le_of_ble_eq_true rfl) (ls' := [some (.inr (9, 0, 0)), some (.inl (.int x1)), some (.inl (.int x2)), some (.inl (.int 0))]) rfl ?_
    exact h
  · replace h := h.2 c
    refine ch_aload_n (i := 0) d_m_rains_54 rfl rfl ?_
    refine ch_iload_n (i := 3) d_m_rains_55 rfl rfl ?_
    have b4 := h.1
    replace h := h.2
    refine ch_callV (as := [.inl (.int x3)]) d_m_rains_56 lk_m_112 mi_m_chalkOf me_m_chalkOf rfl rfl rfl ⟨Nat.le_of_ble_eq_true rfl, Nat.le_of_ble_eq_true rfl⟩ (Nat.le_of_ble_eq_true rfl) ⟨Nat.le_of_ble_eq_true rfl, Nat.le_of_ble_eq_true rfl⟩ (ch_mono (ch_Ki (fun r1 m2 q3 => ?_)) (s_m_chalkOf g (fun (r_ : Int32) (m_ : ch_M) => ((m (9, 0, 1) (15 + 2 * Int32.toNatClampNeg x3)) = r_ ∧ m = m_)) (x3) m ⟨b4, ⟨rfl, rfl⟩⟩))
    obtain ⟨rfl, rfl⟩ := q3
    replace h := h
    refine ch_if_ne (tgt := 65) d_m_rains_59 (by decide) (fun c => ?_) (fun c => ?_)
    · replace h := h.1 c
      refine ch_aload_n (i := 0) d_m_rains_65 rfl rfl ?_
      refine ch_get (v := .inr (9, 0, 1)) d_m_rains_66 fl_m_9 rfl ?_
      refine ch_bipush (v := 14) d_m_rains_69 (by decide) ?_
      refine ch_iconst (v := 2) d_m_rains_71 (by decide) ?_
      refine ch_iload_n (i := 3) d_m_rains_72 rfl rfl ?_
      refine ch_imul d_m_rains_73 ?_
      refine ch_iadd d_m_rains_74 ?_
      refine ch_iconst (v := 1) d_m_rains_75 (by decide) ?_
      refine ch_iadd d_m_rains_76 ?_
      refine ch_dup2 d_m_rains_77 rfl rfl ?_
      have b5 := h.1
      replace h := h.2
      refine ch_iald (n := 63) d_m_rains_78 (by decide) rfl b5 ?_
      refine ch_iload_n (i := 1) d_m_rains_79 rfl rfl ?_
      refine ch_isub d_m_rains_80 ?_
      refine ch_iast (n := 63) d_m_rains_81 (by decide) rfl b5 ?_
      show ch_J g _ _ _ _ _ _ (ch_wr m (9, 0, 1) (Int32.toNatClampNeg ((14 + (2 * x3)) + 1)) ((m (9, 0, 1) (Int32.toNatClampNeg ((14 + (2 * x3)) + 1))) - x1)) _
      generalize hmm6 : ch_wr m (9, 0, 1) (Int32.toNatClampNeg ((14 + (2 * x3)) + 1)) ((m (9, 0, 1) (Int32.toNatClampNeg ((14 + (2 * x3)) + 1))) - x1) = m6
      replace h := h m6 hmm6.symm
      refine ch_aload_n (i := 0) d_m_rains_82 rfl rfl ?_
      refine ch_iload_n (i := 3) d_m_rains_83 rfl rfl ?_
      refine ch_callV (as := [.inl (.int x3)]) d_m_rains_84 lk_m_112 mi_m_chalkOf me_m_chalkOf rfl rfl rfl ⟨Nat.le_of_ble_eq_true rfl, Nat.le_of_ble_eq_true rfl⟩ (Nat.le_of_ble_eq_true rfl) ⟨Nat.le_of_ble_eq_true rfl, Nat.le_of_ble_eq_true rfl⟩ (ch_mono (ch_Ki (fun r7 m8 q9 => ?_)) (s_m_chalkOf g (fun (r_ : Int32) (m_ : ch_M) => ((m6 (9, 0, 1) (15 + 2 * Int32.toNatClampNeg x3)) = r_ ∧ m6 = m_)) (x3) m6 ⟨b4, ⟨rfl, rfl⟩⟩))
      obtain ⟨rfl, rfl⟩ := q9
      replace h := h
      refine ch_if_gt (tgt := 95) d_m_rains_87 (by decide) (fun c => ?_) (fun c => ?_)
      · replace h := h.1 c
        refine ch_iinc (i := 3) (v := (x3 + 1)) d_m_rains_95 rfl rfl (Nat.le_of_ble_eq_true rfl) (ls' := [some (.inr (9, 0, 0)), some (.inl (.int x1)), some (.inl (.int x2)), some (.inl (.int (x3 + 1)))]) rfl ?_
        refine ch_goto (tgt := 48) d_m_rains_98 (by decide) ?_
        exact h
      · replace h := h.2 c
        refine ch_aload_n (i := 0) d_m_rains_90 rfl rfl ?_
        refine ch_iload_n (i := 3) d_m_rains_91 rfl rfl ?_
        refine ch_callV (as := [.inl (.int x3)]) d_m_rains_92 lk_m_140 mi_m_frees me_m_frees rfl rfl rfl ⟨Nat.le_of_ble_eq_true rfl, Nat.le_of_ble_eq_true rfl⟩ (Nat.le_of_ble_eq_true rfl) ⟨Nat.le_of_ble_eq_true rfl, Nat.le_of_ble_eq_true rfl⟩ (ch_mono (ch_Kv (fun m11 q12 => ?_)) (s_m_frees g (fun (m_ : ch_M) => (m_ = ch_wr (ch_wr m6 (9, 0, 1) (14 + 2 * Int32.toNatClampNeg x3) 0) (9, 0, 1) (15 + 2 * Int32.toNatClampNeg x3) 0)) (x3) m6 ⟨b4, rfl⟩))
        have hm_ := q12
        replace h := h m11 hm_
        refine ch_iinc (i := 3) (v := (x3 + 1)) d_m_rains_95 rfl rfl (Nat.le_of_ble_eq_true rfl) (ls' := [some (.inr (9, 0, 0)), some (.inl (.int x1)), some (.inl (.int x2)), some (.inl (.int (x3 + 1)))]) rfl ?_
        refine ch_goto (tgt := 48) d_m_rains_98 (by decide) ?_
        exact h
    · replace h := h.2 c
      refine ch_goto (tgt := 95) d_m_rains_62 (by decide) ?_
      refine ch_iinc (i := 3) (v := (x3 + 1)) d_m_rains_95 rfl rfl (Nat.le_of_ble_eq_true rfl) (ls' := [some (.inr (9, 0, 0)), some (.inl (.int x1)), some (.inl (.int x2)), some (.inl (.int (x3 + 1)))]) rfl ?_
      refine ch_goto (tgt := 48) d_m_rains_98 (by decide) ?_
      exact h
set_option maxHeartbeats 1600000 in
theorem g_m_rains_103 (g : ch_G) (Q : ch_O → ch_M → Prop) (x1 : Int32) (x2 : Int32) (x3 : Int32) (m : ch_M) (h : (((m (9, 0, 1) (0)) ≤ x3 → ((∀ m2 : ch_M, m2 = ch_wr m (9, 0, 0) 18 x2 → Q (.inl (some (.inl (.int 1)))) m2))) ∧ (¬ (m (9, 0, 1) (0)) ≤ x3 → (vp_in x3 5) ∧ (((¬ (m (9, 0, 1) (38 + 5 * Int32.toNatClampNeg x3 + 2)) = 0 → (((∀ m12 : ch_M, m12 = ch_wr m (9, 0, 1) (38 + 5 * Int32.toNatClampNeg x3 + 2) ((m (9, 0, 1) (38 + 5 * Int32.toNatClampNeg x3 + 2)) - x1) → ((((m12 (9, 0, 1) (38 + 5 * Int32.toNatClampNeg x3 + 2)) ≤ 0 → (∃ Y_17 : ch_B, (m_rel Y_17 (m12 (9, 0, 1))) ∧ (vp_in (Y_17 0 9) 6) ∧ ((∀ (B18 : ch_B), (m_rel (m_clB Y_17 (Int32.toNatClampNeg x3)) (B18 1)) → (∀ a_ i_, a_ ≠ 1 → B18 a_ i_ = ch_ob m12 9 0 a_ i_) → (∀ m20 : ch_M, m20 = ch_os m12 9 0 B18 → (∀ m24 : ch_M, m24 = ch_wr m20 (9, 0, 1) (5) ((m20 (9, 0, 1) (5)) + 1) → ch_J g m_m_rains (ch_rm m_m_rains) (ch_E g m_m_rains Q) 103 [some (.inr (9, 0, 0)), some (.inl (.int x1)), some (.inl (.int x2)), some (.inl (.int (x3 + 1)))] [] m24 0)))))) ∧ (¬ (m12 (9, 0, 1) (38 + 5 * Int32.toNatClampNeg x3 + 2)) ≤ 0 → ch_J g m_m_rains (ch_rm m_m_rains) (ch_E g m_m_rains Q) 103 [some (.inr (9, 0, 0)), some (.inl (.int x1)), some (.inl (.int x2)), some (.inl (.int (x3 + 1)))] [] m12 0))))))) ∧ ((m (9, 0, 1) (38 + 5 * Int32.toNatClampNeg x3 + 2)) = 0 → ch_J g m_m_rains (ch_rm m_m_rains) (ch_E g m_m_rains Q) 103 [some (.inr (9, 0, 0)), some (.inl (.int x1)), some (.inl (.int x2)), some (.inl (.int (x3 + 1)))] [] m 0)))))) : ch_J g m_m_rains (ch_rm m_m_rains) (ch_E g m_m_rains Q) 103 [some (.inr (9, 0, 0)), some (.inl (.int x1)), some (.inl (.int x2)), some (.inl (.int x3))] [] m 0 := by
  refine ch_iload_n (i := 3) d_m_rains_103 rfl rfl ?_
  refine ch_aload_n (i := 0) d_m_rains_104 rfl rfl ?_
  refine ch_get (v := .inr (9, 0, 1)) d_m_rains_105 fl_m_9 rfl ?_
  refine ch_iconst (v := 0) d_m_rains_108 (by decide) ?_
  refine ch_iald (n := 63) d_m_rains_109 (by decide) rfl (vp_in_nI (n := 0) (by decide) (by decide)) ?_
  refine ch_icmp_ge (tgt := 172) d_m_rains_110 (by decide) (fun c => ?_) (fun c => ?_)
  · replace h := h.1 c
    refine ch_aload_n (i := 0) d_m_rains_172 rfl rfl ?_
    refine ch_iload_n (i := 2) d_m_rains_173 rfl rfl ?_
    refine ch_callV (as := [.inl (.int x2)]) d_m_rains_174 lk_m_93 mi_m_does me_m_does rfl rfl rfl ⟨Nat.le_of_ble_eq_true rfl, Nat.le_of_ble_eq_true rfl⟩ (Nat.le_of_ble_eq_true rfl) ⟨Nat.le_of_ble_eq_true rfl, Nat.le_of_ble_eq_true rfl⟩ (ch_mono (ch_Ki (fun r1 m2 q3 => ?_)) (s_m_does g (fun (r_ : Int32) (m_ : ch_M) => (1 = r_ ∧ m_ = ch_wr m (9, 0, 0) 18 x2)) (x2) m ⟨rfl, rfl⟩))
    obtain ⟨rfl, hm_⟩ := q3
    replace h := h m2 hm_
    exact ch_iret (ty := .boolean) d_m_rains_177 rfl rfl (Nat.le_of_ble_eq_true rfl) h
  · replace h := h.2 c
    refine ch_aload_n (i := 0) d_m_rains_113 rfl rfl ?_
    refine ch_iload_n (i := 3) d_m_rains_114 rfl rfl ?_
    refine ch_iconst (v := 2) d_m_rains_115 (by decide) ?_
    have b7 := h.1
    replace h := h.2
    refine ch_callV (as := [.inl (.int x3), .inl (.int 2)]) d_m_rains_116 lk_m_85 mi_m_of me_m_of rfl rfl rfl ⟨Nat.le_of_ble_eq_true rfl, Nat.le_of_ble_eq_true rfl⟩ (Nat.le_of_ble_eq_true rfl) ⟨Nat.le_of_ble_eq_true rfl, Nat.le_of_ble_eq_true rfl⟩ (ch_mono (ch_Ki (fun r4 m5 q6 => ?_)) (s_m_of g (fun (r_ : Int32) (m_ : ch_M) => ((m (9, 0, 1) (38 + 5 * Int32.toNatClampNeg x3 + 2)) = r_ ∧ m = m_)) (x3) (2) m ⟨b7, (vp_in_nI (n := 2) (by decide) (by decide)), ⟨rfl, rfl⟩⟩))
    obtain ⟨rfl, rfl⟩ := q6
    replace h := h
    refine ch_if_ne (tgt := 125) d_m_rains_119 (by decide) (fun c => ?_) (fun c => ?_)
    · replace h := h.1 c
      refine ch_aload_n (i := 0) d_m_rains_125 rfl rfl ?_
      refine ch_iload_n (i := 3) d_m_rains_126 rfl rfl ?_
      refine ch_iconst (v := 2) d_m_rains_127 (by decide) ?_
      refine ch_aload_n (i := 0) d_m_rains_128 rfl rfl ?_
      refine ch_iload_n (i := 3) d_m_rains_129 rfl rfl ?_
      refine ch_iconst (v := 2) d_m_rains_130 (by decide) ?_
      refine ch_callV (as := [.inl (.int x3), .inl (.int 2)]) d_m_rains_131 lk_m_85 mi_m_of me_m_of rfl rfl rfl ⟨Nat.le_of_ble_eq_true rfl, Nat.le_of_ble_eq_true rfl⟩ (Nat.le_of_ble_eq_true rfl) ⟨Nat.le_of_ble_eq_true rfl, Nat.le_of_ble_eq_true rfl⟩ (ch_mono (ch_Ki (fun r8 m9 q10 => ?_)) (s_m_of g (fun (r_ : Int32) (m_ : ch_M) => ((m (9, 0, 1) (38 + 5 * Int32.toNatClampNeg x3 + 2)) = r_ ∧ m = m_)) (x3) (2) m ⟨b7, (vp_in_nI (n := 2) (by decide) (by decide)), ⟨rfl, rfl⟩⟩))
      obtain ⟨rfl, rfl⟩ := q10
      replace h := h
      refine ch_iload_n (i := 1) d_m_rains_134 rfl rfl ?_
      refine ch_isub d_m_rains_135 ?_
      refine ch_callV (as := [.inl (.int x3), .inl (.int 2), .inl (.int ((m (9, 0, 1) (38 + 5 * Int32.toNatClampNeg x3 + 2)) - x1))]) d_m_rains_136 lk_m_89 mi_m_sets me_m_sets rfl rfl rfl ⟨Nat.le_of_ble_eq_true rfl, Nat.le_of_ble_eq_true rfl⟩ (Nat.le_of_ble_eq_true rfl) ⟨Nat.le_of_ble_eq_true rfl, Nat.le_of_ble_eq_true rfl⟩ (ch_mono (ch_Kv (fun m12 q13 => ?_)) (s_m_sets g (fun (m_ : ch_M) => (m_ = ch_wr m (9, 0, 1) (38 + 5 * Int32.toNatClampNeg x3 + 2) ((m (9, 0, 1) (38 + 5 * Int32.toNatClampNeg x3 + 2)) - x1))) (x3) (2) (((m (9, 0, 1) (38 + 5 * Int32.toNatClampNeg x3 + 2)) - x1)) m ⟨b7, (vp_in_nI (n := 2) (by decide) (by decide)), rfl⟩))
      have hm_ := q13
      replace h := h m12 hm_
      refine ch_aload_n (i := 0) d_m_rains_139 rfl rfl ?_
      refine ch_iload_n (i := 3) d_m_rains_140 rfl rfl ?_
      refine ch_iconst (v := 2) d_m_rains_141 (by decide) ?_
      refine ch_callV (as := [.inl (.int x3), .inl (.int 2)]) d_m_rains_142 lk_m_85 mi_m_of me_m_of rfl rfl rfl ⟨Nat.le_of_ble_eq_true rfl, Nat.le_of_ble_eq_true rfl⟩ (Nat.le_of_ble_eq_true rfl) ⟨Nat.le_of_ble_eq_true rfl, Nat.le_of_ble_eq_true rfl⟩ (ch_mono (ch_Ki (fun r14 m15 q16 => ?_)) (s_m_of g (fun (r_ : Int32) (m_ : ch_M) => ((m12 (9, 0, 1) (38 + 5 * Int32.toNatClampNeg x3 + 2)) = r_ ∧ m12 = m_)) (x3) (2) m12 ⟨b7, (vp_in_nI (n := 2) (by decide) (by decide)), ⟨rfl, rfl⟩⟩))
      obtain ⟨rfl, rfl⟩ := q16
      replace h := h
      refine ch_if_le (tgt := 151) d_m_rains_145 (by decide) (fun c => ?_) (fun c => ?_)
      · replace h := h.1 c
        refine ch_aload_n (i := 0) d_m_rains_151 rfl rfl ?_
        refine ch_iload_n (i := 3) d_m_rains_152 rfl rfl ?_
        obtain ⟨Y_17, h⟩ := h
        have b22 := h.1
        replace h := h.2
        have b23 := h.1
        replace h := h.2
        refine ch_callV (as := [.inl (.int x3)]) d_m_rains_153 lk_m_156 mi_m_closes me_m_closes rfl rfl rfl ⟨Nat.le_of_ble_eq_true rfl, Nat.le_of_ble_eq_true rfl⟩ (Nat.le_of_ble_eq_true rfl) ⟨Nat.le_of_ble_eq_true rfl, Nat.le_of_ble_eq_true rfl⟩ (ch_mono (ch_Kv (fun m20 q21 => ?_)) (s_m_closes g (fun (m_ : ch_M) => (∃ (B18 : ch_B), (m_rel (m_clB Y_17 (Int32.toNatClampNeg x3)) (B18 1)) ∧ (∀ a_ i_, a_ ≠ 1 → B18 a_ i_ = ch_ob m12 9 0 a_ i_) ∧ m_ = ch_os m12 9 0 B18)) (Y_17) (x3) m12 ⟨b22, b7, b23, (fun B18 f0_ f1_ => ⟨B18, f0_, f1_, rfl⟩)⟩))
        obtain ⟨B18, f0_, f1_, hm_⟩ := q21
        replace h := h B18 f0_ f1_ m20 hm_
        refine ch_aload_n (i := 0) d_m_rains_156 rfl rfl ?_
        refine ch_get (v := .inr (9, 0, 1)) d_m_rains_157 fl_m_9 rfl ?_
        refine ch_iconst (v := 5) d_m_rains_160 (by decide) ?_
        refine ch_dup2 d_m_rains_161 rfl rfl ?_
        refine ch_iald (n := 63) d_m_rains_162 (by decide) rfl (vp_in_nI (n := 5) (by decide) (by decide)) ?_
        refine ch_iconst (v := 1) d_m_rains_163 (by decide) ?_
        refine ch_iadd d_m_rains_164 ?_
        refine ch_iast (n := 63) d_m_rains_165 (by decide) rfl (vp_in_nI (n := 5) (by decide) (by decide)) ?_
        show ch_J g _ _ _ _ _ _ (ch_wr m20 (9, 0, 1) (5) ((m20 (9, 0, 1) (5)) + 1)) _
        generalize hmm24 : ch_wr m20 (9, 0, 1) (5) ((m20 (9, 0, 1) (5)) + 1) = m24
        replace h := h m24 hmm24.symm
        refine ch_iinc (i := 3) (v := (x3 + 1)) d_m_rains_166 rfl rfl (Nat.le_of_ble_eq_true rfl) (ls' := [some (.inr (9, 0, 0)), some (.inl (.int x1)), some (.inl (.int x2)), some (.inl (.int (x3 + 1)))]) rfl ?_
        refine ch_goto (tgt := 103) d_m_rains_169 (by decide) ?_
        exact h
      · replace h := h.2 c
        refine ch_goto (tgt := 166) d_m_rains_148 (by decide) ?_
        refine ch_iinc (i := 3) (v := (x3 + 1)) d_m_rains_166 rfl rfl (Nat.le_of_ble_eq_true rfl) (ls' := [some (.inr (9, 0, 0)), some (.inl (.int x1)), some (.inl (.int x2)), some (.inl (.int (x3 + 1)))]) rfl ?_
        refine ch_goto (tgt := 103) d_m_rains_169 (by decide) ?_
        exact h
    · replace h := h.2 c
      refine ch_goto (tgt := 166) d_m_rains_122 (by decide) ?_
      refine ch_iinc (i := 3) (v := (x3 + 1)) d_m_rains_166 rfl rfl (Nat.le_of_ble_eq_true rfl) (ls' := [some (.inr (9, 0, 0)), some (.inl (.int x1)), some (.inl (.int x2)), some (.inl (.int (x3 + 1)))]) rfl ?_
      refine ch_goto (tgt := 103) d_m_rains_169 (by decide) ?_
      exact h
