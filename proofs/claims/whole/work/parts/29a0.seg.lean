theorem e_m_tries (g : ch_G) (Q : ch_O → ch_M → Prop)  (m : ch_M) (h : ch_J g m_m_tries (ch_rm m_m_tries) (ch_E g m_m_tries Q) 0 [some (.inr (9, 0, 0)), none] [] m 0) : ch_C g m_m_tries [.inr (9, 0, 0)] m Q :=
  ch_enter mf_m_tries (by intro v hv; simp only [List.mem_cons, List.not_mem_nil, or_false] at hv; rcases hv with rfl <;> rfl) (Nat.le_of_ble_eq_true rfl) h
set_option maxHeartbeats 1600000 in
theorem g_m_tries_0 (g : ch_G) (Q : ch_O → ch_M → Prop)  (m : ch_M) (h : (∀ m1 : ch_M, m1 = ch_wr m (9, 0, 0) 19 0 → ch_J g m_m_tries (ch_rm m_m_tries) (ch_E g m_m_tries Q) 7 [some (.inr (9, 0, 0)), some (.inl (.int 0))] [] m1 0)) : ch_J g m_m_tries (ch_rm m_m_tries) (ch_E g m_m_tries Q) 0 [some (.inr (9, 0, 0)), none] [] m 0 := by
  refine ch_aload_n (i := 0) d_m_tries_0 rfl rfl ?_
  refine ch_iconst (v := 0) d_m_tries_1 (by decide) ?_
  refine ch_put d_m_tries_2 fp_m_48 rfl rfl rfl ?_
  generalize hmm1 : ch_wr m (9, 0, 0) 19 0 = m1
  replace h := h m1 hmm1.symm
  refine ch_iconst (v := 0) d_m_tries_5 (by decide) ?_
  refine ch_istore_n (i := 1) d_m_tries_6 rfl (Nat.le_of_ble_eq_true rfl) (ls' := [some (.inr (9, 0, 0)), some (.inl (.int 0))]) rfl ?_
  exact h
set_option maxHeartbeats 1600000 in
theorem g_m_tries_7 (g : ch_G) (Q : ch_O → ch_M → Prop) (x1 : Int32) (m : ch_M) (h : ((63 ≤ x1 → Q (.inl none) m) ∧ (¬ 63 ≤ x1 → (vp_in x1 63) ∧ (∀ m2 : ch_M, m2 = ch_wr m (9, 0, 2) (Int32.toNatClampNeg x1) (m (9, 0, 1) (Int32.toNatClampNeg x1)) → ch_J g m_m_tries (ch_rm m_m_tries) (ch_E g m_m_tries Q) 7 [some (.inr (9, 0, 0)), some (.inl (.int (x1 + 1)))] [] m2 0)))) : ch_J g m_m_tries (ch_rm m_m_tries) (ch_E g m_m_tries Q) 7 [some (.inr (9, 0, 0)), some (.inl (.int x1))] [] m 0 := by
  refine ch_iload_n (i := 1) d_m_tries_7 rfl rfl ?_
  refine ch_bipush (v := 63) d_m_tries_8 (by decide) ?_
  refine ch_icmp_ge (tgt := 31) d_m_tries_10 (by decide) (fun c => ?_) (fun c => ?_)
  · replace h := h.1 c
    exact ch_vret d_m_tries_31 rfl (Nat.le_of_ble_eq_true rfl) h
  · replace h := h.2 c
    refine ch_aload_n (i := 0) d_m_tries_13 rfl rfl ?_
    refine ch_get (v := .inr (9, 0, 2)) d_m_tries_14 fl_m_13 rfl ?_
    refine ch_iload_n (i := 1) d_m_tries_17 rfl rfl ?_
    refine ch_aload_n (i := 0) d_m_tries_18 rfl rfl ?_
    refine ch_get (v := .inr (9, 0, 1)) d_m_tries_19 fl_m_9 rfl ?_
    refine ch_iload_n (i := 1) d_m_tries_22 rfl rfl ?_
    have b1 := h.1
    replace h := h.2
    refine ch_iald (n := 63) d_m_tries_23 (by decide) rfl b1 ?_
    refine ch_iast (n := 63) d_m_tries_24 (by decide) rfl b1 ?_
    show ch_J g _ _ _ _ _ _ (ch_wr m (9, 0, 2) (Int32.toNatClampNeg x1) (m (9, 0, 1) (Int32.toNatClampNeg x1))) _
    generalize hmm2 : ch_wr m (9, 0, 2) (Int32.toNatClampNeg x1) (m (9, 0, 1) (Int32.toNatClampNeg x1)) = m2
    replace h := h m2 hmm2.symm
    refine ch_iinc (i := 1) (v := (x1 + 1)) d_m_tries_25 rfl rfl (Nat.le_of_ble_eq_true rfl) (ls' := [some (.inr (9, 0, 0)), some (.inl (.int (x1 + 1)))]) rfl ?_
    refine ch_goto (tgt := 7) d_m_tries_28 (by decide) ?_
    exact h
theorem e_m_isThere (g : ch_G) (Q : ch_O → ch_M → Prop) (p1 : Int32) (m : ch_M) (h : ch_J g m_m_isThere (ch_rm m_m_isThere) (ch_E g m_m_isThere Q) 0 [some (.inr (9, 0, 0)), some (.inl (.int p1))] [] m 0) : ch_C g m_m_isThere [.inr (9, 0, 0), .inl (.int p1)] m Q :=
  ch_enter mf_m_isThere (by intro v hv; simp only [List.mem_cons, List.not_mem_nil, or_false] at hv; rcases hv with rfl | rfl <;> rfl) (Nat.le_of_ble_eq_true rfl) h
set_option maxHeartbeats 1600000 in
theorem g_m_isThere_0 (g : ch_G) (Q : ch_O → ch_M → Prop) (p1 : Int32) (m : ch_M) (h : (((0 ≤ p1 ∧ p1 ≤ m (9, 0, 1) 0 - 1) → Q (.inl (some (.inl (.int 1)))) m) ∧ ((¬ (0 ≤ p1 ∧ p1 ≤ m (9, 0, 1) 0 - 1)) → ((∀ m5 : ch_M, m5 = ch_wr (ch_wr (ch_wr m (9, 0, 0) 15 3) (9, 0, 0) 16 (m (9, 0, 1) (0))) (9, 0, 0) 17 0 → Q (.inl (some (.inl (.int 0)))) m5))))) : ch_J g m_m_isThere (ch_rm m_m_isThere) (ch_E g m_m_isThere Q) 0 [some (.inr (9, 0, 0)), some (.inl (.int p1))] [] m 0 := by
  refine ch_aload_n (i := 0) d_m_isThere_0 rfl rfl ?_
  refine ch_iload_n (i := 1) d_m_isThere_1 rfl rfl ?_
  refine ch_callV (as := [.inl (.int p1)]) d_m_isThere_2 lk_m_77 mi_m_isChild me_m_isChild rfl rfl rfl ⟨Nat.le_of_ble_eq_true rfl, Nat.le_of_ble_eq_true rfl⟩ (Nat.le_of_ble_eq_true rfl) ⟨Nat.le_of_ble_eq_true rfl, Nat.le_of_ble_eq_true rfl⟩ (ch_mono (ch_Ki (fun r1 m2 q3 => ?_)) (s_m_isChild g (fun (r_ : Int32) (m_ : ch_M) => ((0 ≤ p1 ∧ p1 ≤ m (9, 0, 1) 0 - 1) ∧ 1 = r_ ∧ m = m_) ∨ ((¬ (0 ≤ p1 ∧ p1 ≤ m (9, 0, 1) 0 - 1)) ∧ 0 = r_ ∧ m = m_)) (p1) m ⟨(fun c_ => (Or.inl ⟨c_, rfl, rfl⟩)), (fun c_ => (Or.inr ⟨c_, rfl, rfl⟩))⟩))
  rcases q3 with ⟨c_, rfl, rfl⟩ | ⟨c_, rfl, rfl⟩
  · replace h := h.1 c_
    refine ch_if_ne (tgt := 22) d_m_isThere_5 (by decide) (fun _ => ?_) (fun c => absurd c (by decide))
    refine ch_iconst (v := 1) d_m_isThere_22 (by decide) ?_
    refine ch_goto (tgt := 27) d_m_isThere_23 (by decide) ?_
    exact ch_iret (ty := .boolean) d_m_isThere_27 rfl rfl (Nat.le_of_ble_eq_true rfl) h
  · replace h := h.2 c_
    refine ch_if_ne (tgt := 22) d_m_isThere_5 (by decide) (fun c => absurd c (by decide)) (fun _ => ?_)
    refine ch_aload_n (i := 0) d_m_isThere_8 rfl rfl ?_
    refine ch_iconst (v := 3) d_m_isThere_9 (by decide) ?_
    refine ch_aload_n (i := 0) d_m_isThere_10 rfl rfl ?_
    refine ch_get (v := .inr (9, 0, 1)) d_m_isThere_11 fl_m_9 rfl ?_
    refine ch_iconst (v := 0) d_m_isThere_14 (by decide) ?_
    refine ch_iald (n := 63) d_m_isThere_15 (by decide) rfl (vp_in_nI (n := 0) (by decide) (by decide)) ?_
    refine ch_callV (as := [.inl (.int 3), .inl (.int (m (9, 0, 1) (0)))]) d_m_isThere_16 lk_m_81 mi_m_refuses me_m_refuses rfl rfl rfl ⟨Nat.le_of_ble_eq_true rfl, Nat.le_of_ble_eq_true rfl⟩ (Nat.le_of_ble_eq_true rfl) ⟨Nat.le_of_ble_eq_true rfl, Nat.le_of_ble_eq_true rfl⟩ (ch_mono (ch_Ki (fun r4 m5 q6 => ?_)) (s_m_refuses g (fun (r_ : Int32) (m_ : ch_M) => (0 = r_ ∧ m_ = ch_wr (ch_wr (ch_wr m (9, 0, 0) 15 3) (9, 0, 0) 16 (m (9, 0, 1) (0))) (9, 0, 0) 17 0)) (3) ((m (9, 0, 1) (0))) m ⟨rfl, rfl⟩))
    obtain ⟨rfl, hm_⟩ := q6
    replace h := h m5 hm_
    refine ch_if_eq (tgt := 26) d_m_isThere_19 (by decide) (fun _ => ?_) (fun c => absurd c (by decide))
    refine ch_iconst (v := 0) d_m_isThere_26 (by decide) ?_
    exact ch_iret (ty := .boolean) d_m_isThere_27 rfl rfl (Nat.le_of_ble_eq_true rfl) h
