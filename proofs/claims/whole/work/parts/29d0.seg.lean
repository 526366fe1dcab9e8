theorem e_m_comes (g : ch_G) (Q : ch_O → ch_M → Prop) (p1 : Int32) (m : ch_M) (h : ch_J g m_m_comes (ch_rm m_m_comes) (ch_E g m_m_comes Q) 0 [some (.inr (9, 0, 0)), some (.inl (.int p1)), none, none] [] m 0) : ch_C g m_m_comes [.inr (9, 0, 0), .inl (.int p1)] m Q :=
  ch_enter mf_m_comes (by intro v hv; simp only [List.mem_cons, List.not_mem_nil, or_false] at hv; rcases hv with rfl | rfl <;> rfl) (Nat.le_of_ble_eq_true rfl) h
set_option maxHeartbeats 1600000 in
theorem g_m_comes_0 (g : ch_G) (Q : ch_O → ch_M → Prop) (p1 : Int32) (m : ch_M) (h : (((0 ≤ p1 ∧ p1 ≤ 99) → ((¬ (m (9, 0, 1) (0)) = 5 → (∀ m4 : ch_M, m4 = ch_wr m (9, 0, 1) (0) ((m (9, 0, 1) (0)) + 1) → ch_J g m_m_comes (ch_rm m_m_comes) (ch_E g m_m_comes Q) 48 [some (.inr (9, 0, 0)), some (.inl (.int p1)), some (.inl (.int (m (9, 0, 1) (0)))), some (.inl (.int 0))] [] m4 0)) ∧ ((m (9, 0, 1) (0)) = 5 → ((∀ m6 : ch_M, m6 = ch_wr (ch_wr (ch_wr m (9, 0, 0) 15 2) (9, 0, 0) 16 5) (9, 0, 0) 17 0 → Q (.inl (some (.inl (.int 0)))) m6))))) ∧ ((¬ (0 ≤ p1 ∧ p1 ≤ 99)) → ((∀ m9 : ch_M, m9 = ch_wr (ch_wr (ch_wr m (9, 0, 0) 15 1) (9, 0, 0) 16 0) (9, 0, 0) 17 0 → Q (.inl (some (.inl (.int 0)))) m9))))) : ch_J g m_m_comes (ch_rm m_m_comes) (ch_E g m_m_comes Q) 0 [some (.inr (9, 0, 0)), some (.inl (.int p1)), none, none] [] m 0 := by
  refine ch_iload_n (i := 1) d_m_comes_0 rfl rfl ?_
  refine ch_iconst (v := 0) d_m_comes_1 (by decide) ?_
  refine ch_bipush (v := 99) d_m_comes_2 (by decide) ?_
  refine ch_callS (as := [.inl (.int p1), .inl (.int 0), .inl (.int 99)]) d_m_comes_4 lk_m_73 ms_m_in rfl rfl ⟨Nat.le_of_ble_eq_true rfl, Nat.le_of_ble_eq_true rfl⟩ (Nat.le_of_ble_eq_true rfl) ⟨Nat.le_of_ble_eq_true rfl, Nat.le_of_ble_eq_true rfl⟩ (ch_mono (ch_Ki (fun r1 m2 q3 => ?_)) (s_m_in g (fun (r_ : Int32) (m_ : ch_M) => ((0 ≤ p1 ∧ p1 ≤ 99) ∧ 1 = r_ ∧ m = m_) ∨ ((¬ (0 ≤ p1 ∧ p1 ≤ 99)) ∧ 0 = r_ ∧ m = m_)) (p1) (0) (99) m ⟨(fun c_ => (Or.inl ⟨c_, rfl, rfl⟩)), (fun c_ => (Or.inr ⟨c_, rfl, rfl⟩))⟩))
  rcases q3 with ⟨c_, rfl, rfl⟩ | ⟨c_, rfl, rfl⟩
  · replace h := h.1 c_
    refine ch_if_ne (tgt := 17) d_m_comes_7 (by decide) (fun _ => ?_) (fun c => absurd c (by decide))
    refine ch_aload_n (i := 0) d_m_comes_17 rfl rfl ?_
    refine ch_get (v := .inr (9, 0, 1)) d_m_comes_18 fl_m_9 rfl ?_
    refine ch_iconst (v := 0) d_m_comes_21 (by decide) ?_
    refine ch_iald (n := 63) d_m_comes_22 (by decide) rfl (vp_in_nI (n := 0) (by decide) (by decide)) ?_
    refine ch_iconst (v := 5) d_m_comes_23 (by decide) ?_
    refine ch_icmp_ne (tgt := 34) d_m_comes_24 (by decide) (fun c => ?_) (fun c => ?_)
    · replace h := h.1 c
      refine ch_aload_n (i := 0) d_m_comes_34 rfl rfl ?_
      refine ch_get (v := .inr (9, 0, 1)) d_m_comes_35 fl_m_9 rfl ?_
      refine ch_iconst (v := 0) d_m_comes_38 (by decide) ?_
      refine ch_dup2 d_m_comes_39 rfl rfl ?_
      refine ch_iald (n := 63) d_m_comes_40 (by decide) rfl (vp_in_nI (n := 0) (by decide) (by decide)) ?_
      refine ch_dup_x2 d_m_comes_41 rfl rfl rfl ?_
      refine ch_iconst (v := 1) d_m_comes_42 (by decide) ?_
      refine ch_iadd d_m_comes_43 ?_
      refine ch_iast (n := 63) d_m_comes_44 (by decide) rfl (vp_in_nI (n := 0) (by decide) (by decide)) ?_
      show ch_J g _ _ _ _ _ _ (ch_wr m (9, 0, 1) (0) ((m (9, 0, 1) (0)) + 1)) _
      generalize hmm4 : ch_wr m (9, 0, 1) (0) ((m (9, 0, 1) (0)) + 1) = m4
      replace h := h m4 hmm4.symm
      refine ch_istore_n (i := 2) d_m_comes_45 rfl (Nat.le_of_ble_eq_true rfl) (ls' := [some (.inr (9, 0, 0)), some (.inl (.int p1)), some (.inl (.int (m (9, 0, 1) (0)))), none]) rfl ?_
      refine ch_iconst (v := 0) d_m_comes_46 (by decide) ?_
      refine ch_istore_n (i := 3) d_m_comes_47 rfl (Nat.le_of_ble_eq_true rfl) (ls' := [some (.inr (9, 0, 0)), some (.inl (.int p1)), some (.inl (.int (m (9, 0, 1) (0)))), some (.inl (.int 0))]) rfl ?_
      exact h
    · replace h := h.2 c
      refine ch_aload_n (i := 0) d_m_comes_27 rfl rfl ?_
      refine ch_iconst (v := 2) d_m_comes_28 (by decide) ?_
      refine ch_iconst (v := 5) d_m_comes_29 (by decide) ?_
      refine ch_callV (as := [.inl (.int 2), .inl (.int 5)]) d_m_comes_30 lk_m_81 mi_m_refuses me_m_refuses rfl rfl rfl ⟨Nat.le_of_ble_eq_true rfl, Nat.le_of_ble_eq_true rfl⟩ (Nat.le_of_ble_eq_true rfl) ⟨Nat.le_of_ble_eq_true rfl, Nat.le_of_ble_eq_true rfl⟩ (ch_mono (ch_Ki (fun r5 m6 q7 => ?_)) (s_m_refuses g (fun (r_ : Int32) (m_ : ch_M) => (0 = r_ ∧ m_ = ch_wr (ch_wr (ch_wr m (9, 0, 0) 15 2) (9, 0, 0) 16 5) (9, 0, 0) 17 0)) (2) (5) m ⟨rfl, rfl⟩))
      obtain ⟨rfl, hm_⟩ := q7
      replace h := h m6 hm_
      exact ch_iret (ty := .boolean) d_m_comes_33 rfl rfl (Nat.le_of_ble_eq_true rfl) h
  · replace h := h.2 c_
    refine ch_if_ne (tgt := 17) d_m_comes_7 (by decide) (fun c => absurd c (by decide)) (fun _ => ?_)
    refine ch_aload_n (i := 0) d_m_comes_10 rfl rfl ?_
    refine ch_iconst (v := 1) d_m_comes_11 (by decide) ?_
    refine ch_iconst (v := 0) d_m_comes_12 (by decide) ?_
    refine ch_callV (as := [.inl (.int 1), .inl (.int 0)]) d_m_comes_13 lk_m_81 mi_m_refuses me_m_refuses rfl rfl rfl ⟨Nat.le_of_ble_eq_true rfl, Nat.le_of_ble_eq_true rfl⟩ (Nat.le_of_ble_eq_true rfl) ⟨Nat.le_of_ble_eq_true rfl, Nat.le_of_ble_eq_true rfl⟩ (ch_mono (ch_Ki (fun r8 m9 q10 => ?_)) (s_m_refuses g (fun (r_ : Int32) (m_ : ch_M) => (0 = r_ ∧ m_ = ch_wr (ch_wr (ch_wr m (9, 0, 0) 15 1) (9, 0, 0) 16 0) (9, 0, 0) 17 0)) (1) (0) m ⟨rfl, rfl⟩))
    obtain ⟨rfl, hm_⟩ := q10
    replace h := h m9 hm_
    exact ch_iret (ty := .boolean) d_m_comes_16 rfl rfl (Nat.le_of_ble_eq_true rfl) h
set_option maxHeartbeats 1600000 in
theorem g_m_comes_48 (g : ch_G) (Q : ch_O → ch_M → Prop) (x1 : Int32) (x2 : Int32) (x3 : Int32) (m : ch_M) (h : ((5 ≤ x3 → (vp_in x2 5) ∧ ((∀ m2 : ch_M, m2 = ch_wr m (9, 0, 1) (38 + 5 * Int32.toNatClampNeg x2 + 0) x1 → (∀ m5 : ch_M, m5 = ch_wr m2 (9, 0, 1) (2) ((m2 (9, 0, 1) (2)) + x1) → ((∀ m7 : ch_M, m7 = ch_wr m5 (9, 0, 0) 18 x2 → Q (.inl (some (.inl (.int 1)))) m7)))))) ∧ (¬ 5 ≤ x3 → (vp_in x2 5) ∧ (vp_in x3 5) ∧ ((∀ m10 : ch_M, m10 = ch_wr m (9, 0, 1) (38 + 5 * Int32.toNatClampNeg x2 + Int32.toNatClampNeg x3) 0 → ch_J g m_m_comes (ch_rm m_m_comes) (ch_E g m_m_comes Q) 48 [some (.inr (9, 0, 0)), some (.inl (.int x1)), some (.inl (.int x2)), some (.inl (.int (x3 + 1)))] [] m10 0))))) : ch_J g m_m_comes (ch_rm m_m_comes) (ch_E g m_m_comes Q) 48 [some (.inr (9, 0, 0)), some (.inl (.int x1)), some (.inl (.int x2)), some (.inl (.int x3))] [] m 0 := by
  refine ch_iload_n (i := 3) d_m_comes_48 rfl rfl ?_
  refine ch_iconst (v := 5) d_m_comes_49 (by decide) ?_
  refine ch_icmp_ge (tgt := 66) d_m_comes_50 (by decide) (fun c => ?_) (fun c => ?_)
  · replace h := h.1 c
    refine ch_aload_n (i := 0) d_m_comes_66 rfl rfl ?_
    refine ch_iload_n (i := 2) d_m_comes_67 rfl rfl ?_
    refine ch_iconst (v := 0) d_m_comes_68 (by decide) ?_
    refine ch_iload_n (i := 1) d_m_comes_69 rfl rfl ?_
    have b4 := h.1
    replace h := h.2
    refine ch_callV (as := [.inl (.int x2), .inl (.int 0), .inl (.int x1)]) d_m_comes_70 lk_m_89 mi_m_sets me_m_sets rfl rfl rfl ⟨Nat.le_of_ble_eq_true rfl, Nat.le_of_ble_eq_true rfl⟩ (Nat.le_of_ble_eq_true rfl) ⟨Nat.le_of_ble_eq_true rfl, Nat.le_of_ble_eq_true rfl⟩ (ch_mono (ch_Kv (fun m2 q3 => ?_)) (s_m_sets g (fun (m_ : ch_M) => (m_ = ch_wr m (9, 0, 1) (38 + 5 * Int32.toNatClampNeg x2 + 0) x1)) (x2) (0) (x1) m ⟨b4, (vp_in_nI (n := 0) (by decide) (by decide)), rfl⟩))
    have hm_ := q3
    replace h := h m2 hm_
    refine ch_aload_n (i := 0) d_m_comes_73 rfl rfl ?_
    refine ch_get (v := .inr (9, 0, 1)) d_m_comes_74 fl_m_9 rfl ?_
    refine ch_iconst (v := 2) d_m_comes_77 (by decide) ?_
    refine ch_dup2 d_m_comes_78 rfl rfl ?_
    refine ch_iald (n := 63) d_m_comes_79 (by decide) rfl (vp_in_nI (n := 2) (by decide) (by decide)) ?_
    refine ch_iload_n (i := 1) d_m_comes_80 rfl rfl ?_
    refine ch_iadd d_m_comes_81 ?_
    refine ch_iast (n := 63) d_m_comes_82 (by decide) rfl (vp_in_nI (n := 2) (by decide) (by decide)) ?_
    show ch_J g _ _ _ _ _ _ (ch_wr m2 (9, 0, 1) (2) ((m2 (9, 0, 1) (2)) + x1)) _
    generalize hmm5 : ch_wr m2 (9, 0, 1) (2) ((m2 (9, 0, 1) (2)) + x1) = m5
    replace h := h m5 hmm5.symm
    refine ch_aload_n (i := 0) d_m_comes_83 rfl rfl ?_
    refine ch_iload_n (i := 2) d_m_comes_84 rfl rfl ?_
    refine ch_callV (as := [.inl (.int x2)]) d_m_comes_85 lk_m_93 mi_m_does me_m_does rfl rfl rfl ⟨Nat.le_of_ble_eq_true rfl, Nat.le_of_ble_eq_true rfl⟩ (Nat.le_of_ble_eq_true rfl) ⟨Nat.le_of_ble_eq_true rfl, Nat.le_of_ble_eq_true rfl⟩ (ch_mono (ch_Ki (fun r6 m7 q8 => ?_)) (s_m_does g (fun (r_ : Int32) (m_ : ch_M) => (1 = r_ ∧ m_ = ch_wr m5 (9, 0, 0) 18 x2)) (x2) m5 ⟨rfl, rfl⟩))
    obtain ⟨rfl, hm_⟩ := q8
    replace h := h m7 hm_
    exact ch_iret (ty := .boolean) d_m_comes_88 rfl rfl (Nat.le_of_ble_eq_true rfl) h
  · replace h := h.2 c
    refine ch_aload_n (i := 0) d_m_comes_53 rfl rfl ?_
    refine ch_iload_n (i := 2) d_m_comes_54 rfl rfl ?_
    refine ch_iload_n (i := 3) d_m_comes_55 rfl rfl ?_
    refine ch_iconst (v := 0) d_m_comes_56 (by decide) ?_
    have b12 := h.1
    replace h := h.2
    have b13 := h.1
    replace h := h.2
    refine ch_callV (as := [.inl (.int x2), .inl (.int x3), .inl (.int 0)]) d_m_comes_57 lk_m_89 mi_m_sets me_m_sets rfl rfl rfl ⟨Nat.le_of_ble_eq_true rfl, Nat.le_of_ble_eq_true rfl⟩ (Nat.le_of_ble_eq_true rfl) ⟨Nat.le_of_ble_eq_true rfl, Nat.le_of_ble_eq_true rfl⟩ (ch_mono (ch_Kv (fun m10 q11 => ?_)) (s_m_sets g (fun (m_ : ch_M) => (m_ = ch_wr m (9, 0, 1) (38 + 5 * Int32.toNatClampNeg x2 + Int32.toNatClampNeg x3) 0)) (x2) (x3) (0) m ⟨b12, b13, rfl⟩))
    have hm_ := q11
    replace h := h m10 hm_
    refine ch_iinc (i := 3) (v := (x3 + 1)) d_m_comes_60 rfl rfl (Nat.le_of_ble_eq_true rfl) (ls' := [some (.inr (9, 0, 0)), some (.inl (.int x1)), some (.inl (.int x2)), some (.inl (.int (x3 + 1)))]) rfl ?_
    refine ch_goto (tgt := 48) d_m_comes_63 (by decide) ?_
    exact h
