theorem e_m_undo (g : ch_G) (Q : ch_O → ch_M → Prop)  (m : ch_M) (h : ch_J g m_m_undo (ch_rm m_m_undo) (ch_E g m_m_undo Q) 0 [some (.inr (9, 0, 0)), none] [] m 0) : ch_C g m_m_undo [.inr (9, 0, 0)] m Q :=
  ch_enter mf_m_undo (by intro v hv; simp only [List.mem_cons, List.not_mem_nil, or_false] at hv; rcases hv with rfl <;> rfl) (Nat.le_of_ble_eq_true rfl) h
set_option maxHeartbeats 1600000 in
theorem g_m_undo_0 (g : ch_G) (Q : ch_O → ch_M → Prop)  (m : ch_M) (h : (∀ m1 : ch_M, m1 = ch_wr m (9, 0, 0) 19 0 → ((¬ (m1 (9, 0, 0) 4) = 0 → (∀ m2 : ch_M, m2 = ch_wr m1 (9, 0, 0) 4 ((m1 (9, 0, 0) 4) - 1) → ch_J g m_m_undo (ch_rm m_m_undo) (ch_E g m_m_undo Q) 30 [some (.inr (9, 0, 0)), some (.inl (.int 0))] [] m2 0)) ∧ ((m1 (9, 0, 0) 4) = 0 → ((∀ m4 : ch_M, m4 = ch_wr m1 (9, 0, 0) 19 1 → Q (.inl (some (.inl (.int 0)))) m4)))))) : ch_J g m_m_undo (ch_rm m_m_undo) (ch_E g m_m_undo Q) 0 [some (.inr (9, 0, 0)), none] [] m 0 := by
  refine ch_aload_n (i := 0) d_m_undo_0 rfl rfl ?_
  refine ch_iconst (v := 0) d_m_undo_1 (by decide) ?_
  refine ch_put d_m_undo_2 fp_m_48 rfl rfl rfl ?_
  generalize hmm1 : ch_wr m (9, 0, 0) 19 0 = m1
  replace h := h m1 hmm1.symm
  refine ch_aload_n (i := 0) d_m_undo_5 rfl rfl ?_
  refine ch_get (v := .inl (.int (m1 (9, 0, 0) 4))) d_m_undo_6 fl_m_51 rfl ?_
  refine ch_if_ne (tgt := 18) d_m_undo_9 (by decide) (fun c => ?_) (fun c => ?_)
  · replace h := h.1 c
    refine ch_aload_n (i := 0) d_m_undo_18 rfl rfl ?_
    refine ch_dup d_m_undo_19 rfl ?_
    refine ch_get (v := .inl (.int (m1 (9, 0, 0) 4))) d_m_undo_20 fl_m_51 rfl ?_
    refine ch_iconst (v := 1) d_m_undo_23 (by decide) ?_
    refine ch_isub d_m_undo_24 ?_
    refine ch_put d_m_undo_25 fp_m_51 rfl rfl rfl ?_
    generalize hmm2 : ch_wr m1 (9, 0, 0) 4 ((m1 (9, 0, 0) 4) - 1) = m2
    replace h := h m2 hmm2.symm
    refine ch_iconst (v := 0) d_m_undo_28 (by decide) ?_
    refine ch_istore_n (i := 1) d_m_undo_29 rfl (Nat.le_of_ble_eq_true rfl) (ls' := [some (.inr (9, 0, 0)), some (.inl (.int 0))]) rfl ?_
    exact h
  · replace h := h.2 c
    refine ch_aload_n (i := 0) d_m_undo_12 rfl rfl ?_
    refine ch_iconst (v := 1) d_m_undo_13 (by decide) ?_
    refine ch_callV (as := [.inl (.int 1)]) d_m_undo_14 lk_m_70 mi_m_raises me_m_raises rfl rfl rfl ⟨Nat.le_of_ble_eq_true rfl, Nat.le_of_ble_eq_true rfl⟩ (Nat.le_of_ble_eq_true rfl) ⟨Nat.le_of_ble_eq_true rfl, Nat.le_of_ble_eq_true rfl⟩ (ch_mono (ch_Ki (fun r3 m4 q5 => ?_)) (s_m_raises g (fun (r_ : Int32) (m_ : ch_M) => (0 = r_ ∧ m_ = ch_wr m1 (9, 0, 0) 19 1)) (1) m1 ⟨rfl, rfl⟩))
    obtain ⟨rfl, hm_⟩ := q5
    replace h := h m4 hm_
    exact ch_iret (ty := .int) d_m_undo_17 rfl rfl (Nat.le_of_ble_eq_true rfl) h
set_option maxHeartbeats 1600000 in
theorem g_m_undo_30 (g : ch_G) (Q : ch_O → ch_M → Prop) (x1 : Int32) (m : ch_M) (h : ((63 ≤ x1 → Q (.inl (some (.inl (.int (m (9, 0, 0) 4))))) m) ∧ (¬ 63 ≤ x1 → (vp_in ((63 * (m (9, 0, 0) 4)) + x1) 504) ∧ (vp_in x1 63) ∧ (∀ m3 : ch_M, m3 = ch_wr m (9, 0, 1) (Int32.toNatClampNeg x1) (m (9, 0, 4) (Int32.toNatClampNeg ((63 * (m (9, 0, 0) 4)) + x1))) → ch_J g m_m_undo (ch_rm m_m_undo) (ch_E g m_m_undo Q) 30 [some (.inr (9, 0, 0)), some (.inl (.int (x1 + 1)))] [] m3 0)))) : ch_J g m_m_undo (ch_rm m_m_undo) (ch_E g m_m_undo Q) 30 [some (.inr (9, 0, 0)), some (.inl (.int x1))] [] m 0 := by
  refine ch_iload_n (i := 1) d_m_undo_30 rfl rfl ?_
  refine ch_bipush (v := 63) d_m_undo_31 (by decide) ?_
  refine ch_icmp_ge (tgt := 62) d_m_undo_33 (by decide) (fun c => ?_) (fun c => ?_)
  · replace h := h.1 c
    refine ch_aload_n (i := 0) d_m_undo_62 rfl rfl ?_
    refine ch_get (v := .inl (.int (m (9, 0, 0) 4))) d_m_undo_63 fl_m_51 rfl ?_
    exact ch_iret (ty := .int) d_m_undo_66 rfl rfl (Nat.le_of_ble_eq_true rfl) h
  · replace h := h.2 c
    refine ch_aload_n (i := 0) d_m_undo_36 rfl rfl ?_
    refine ch_get (v := .inr (9, 0, 1)) d_m_undo_37 fl_m_9 rfl ?_
    refine ch_iload_n (i := 1) d_m_undo_40 rfl rfl ?_
    refine ch_aload_n (i := 0) d_m_undo_41 rfl rfl ?_
    refine ch_get (v := .inr (9, 0, 4)) d_m_undo_42 fl_m_19 rfl ?_
    refine ch_bipush (v := 63) d_m_undo_45 (by decide) ?_
    refine ch_aload_n (i := 0) d_m_undo_47 rfl rfl ?_
    refine ch_get (v := .inl (.int (m (9, 0, 0) 4))) d_m_undo_48 fl_m_51 rfl ?_
    refine ch_imul d_m_undo_51 ?_
    refine ch_iload_n (i := 1) d_m_undo_52 rfl rfl ?_
    refine ch_iadd d_m_undo_53 ?_
    have b1 := h.1
    replace h := h.2
    refine ch_iald (n := 504) d_m_undo_54 (by decide) rfl b1 ?_
    have b2 := h.1
    replace h := h.2
    refine ch_iast (n := 63) d_m_undo_55 (by decide) rfl b2 ?_
    show ch_J g _ _ _ _ _ _ (ch_wr m (9, 0, 1) (Int32.toNatClampNeg x1) (m (9, 0, 4) (Int32.toNatClampNeg ((63 * (m (9, 0, 0) 4)) + x1)))) _
    generalize hmm3 : ch_wr m (9, 0, 1) (Int32.toNatClampNeg x1) (m (9, 0, 4) (Int32.toNatClampNeg ((63 * (m (9, 0, 0) 4)) + x1))) = m3
    replace h := h m3 hmm3.symm
    refine ch_iinc (i := 1) (v := (x1 + 1)) d_m_undo_56 rfl rfl (Nat.le_of_ble_eq_true rfl) (ls' := [some (.inr (9, 0, 0)), some (.inl (.int (x1 + 1)))]) rfl ?_
    refine ch_goto (tgt := 30) d_m_undo_59 (by decide) ?_
    exact h
theorem e_m_save (g : ch_G) (Q : ch_O → ch_M → Prop)  (m : ch_M) (h : ch_J g m_m_save (ch_rm m_m_save) (ch_E g m_m_save Q) 0 [some (.inr (9, 0, 0)), none] [] m 0) : ch_C g m_m_save [.inr (9, 0, 0)] m Q :=
  ch_enter mf_m_save (by intro v hv; simp only [List.mem_cons, List.not_mem_nil, or_false] at hv; rcases hv with rfl <;> rfl) (Nat.le_of_ble_eq_true rfl) h
set_option maxHeartbeats 1600000 in
theorem g_m_save_0 (g : ch_G) (Q : ch_O → ch_M → Prop)  (m : ch_M) (h : (∀ m1 : ch_M, m1 = ch_wr m (9, 0, 0) 19 0 → (∀ m2 : ch_M, m2 = ch_wr m1 (9, 0, 0) 6 1 → ch_J g m_m_save (ch_rm m_m_save) (ch_E g m_m_save Q) 12 [some (.inr (9, 0, 0)), some (.inl (.int 0))] [] m2 0))) : ch_J g m_m_save (ch_rm m_m_save) (ch_E g m_m_save Q) 0 [some (.inr (9, 0, 0)), none] [] m 0 := by
  refine ch_aload_n (i := 0) d_m_save_0 rfl rfl ?_
  refine ch_iconst (v := 0) d_m_save_1 (by decide) ?_
  refine ch_put d_m_save_2 fp_m_48 rfl rfl rfl ?_
  generalize hmm1 : ch_wr m (9, 0, 0) 19 0 = m1
  replace h := h m1 hmm1.symm
  refine ch_aload_n (i := 0) d_m_save_5 rfl rfl ?_
  refine ch_iconst (v := 1) d_m_save_6 (by decide) ?_
  refine ch_put d_m_save_7 fp_m_251 rfl rfl rfl ?_
  generalize hmm2 : ch_wr m1 (9, 0, 0) 6 1 = m2
  replace h := h m2 hmm2.symm
  refine ch_iconst (v := 0) d_m_save_10 (by decide) ?_
  refine ch_istore_n (i := 1) d_m_save_11 rfl (Nat.le_of_ble_eq_true rfl) (ls' := [some (.inr (9, 0, 0)), some (.inl (.int 0))]) rfl ?_
  exact h
set_option maxHeartbeats 1600000 in
theorem g_m_save_12 (g : ch_G) (Q : ch_O → ch_M → Prop) (x1 : Int32) (m : ch_M) (h : ((63 ≤ x1 → Q (.inl (some (.inl (.int (m (9, 0, 1) (0)))))) m) ∧ (¬ 63 ≤ x1 → (vp_in x1 63) ∧ (∀ m2 : ch_M, m2 = ch_wr m (9, 0, 5) (Int32.toNatClampNeg x1) (m (9, 0, 1) (Int32.toNatClampNeg x1)) → ch_J g m_m_save (ch_rm m_m_save) (ch_E g m_m_save Q) 12 [some (.inr (9, 0, 0)), some (.inl (.int (x1 + 1)))] [] m2 0)))) : ch_J g m_m_save (ch_rm m_m_save) (ch_E g m_m_save Q) 12 [some (.inr (9, 0, 0)), some (.inl (.int x1))] [] m 0 := by
  refine ch_iload_n (i := 1) d_m_save_12 rfl rfl ?_
  refine ch_bipush (v := 63) d_m_save_13 (by decide) ?_
  refine ch_icmp_ge (tgt := 36) d_m_save_15 (by decide) (fun c => ?_) (fun c => ?_)
  · replace h := h.1 c
    refine ch_aload_n (i := 0) d_m_save_36 rfl rfl ?_
    refine ch_get (v := .inr (9, 0, 1)) d_m_save_37 fl_m_9 rfl ?_
    refine ch_iconst (v := 0) d_m_save_40 (by decide) ?_
    refine ch_iald (n := 63) d_m_save_41 (by decide) rfl (vp_in_nI (n := 0) (by decide) (by decide)) ?_
    exact ch_iret (ty := .int) d_m_save_42 rfl rfl (Nat.le_of_ble_eq_true rfl) h
  · replace h := h.2 c
    refine ch_aload_n (i := 0) d_m_save_18 rfl rfl ?_
    refine ch_get (v := .inr (9, 0, 5)) d_m_save_19 fl_m_22 rfl ?_
    refine ch_iload_n (i := 1) d_m_save_22 rfl rfl ?_
    refine ch_aload_n (i := 0) d_m_save_23 rfl rfl ?_
    refine ch_get (v := .inr (9, 0, 1)) d_m_save_24 fl_m_9 rfl ?_
    refine ch_iload_n (i := 1) d_m_save_27 rfl rfl ?_
    have b1 := h.1
    replace h := h.2
    refine ch_iald (n := 63) d_m_save_28 (by decide) rfl b1 ?_
    refine ch_iast (n := 63) d_m_save_29 (by decide) rfl b1 ?_
    show ch_J g _ _ _ _ _ _ (ch_wr m (9, 0, 5) (Int32.toNatClampNeg x1) (m (9, 0, 1) (Int32.toNatClampNeg x1))) _
    generalize hmm2 : ch_wr m (9, 0, 5) (Int32.toNatClampNeg x1) (m (9, 0, 1) (Int32.toNatClampNeg x1)) = m2
    replace h := h m2 hmm2.symm
    refine ch_iinc (i := 1) (v := (x1 + 1)) d_m_save_30 rfl rfl (Nat.le_of_ble_eq_true rfl) (ls' := [some (.inr (9, 0, 0)), some (.inl (.int (x1 + 1)))]) rfl ?_
    refine ch_goto (tgt := 12) d_m_save_33 (by decide) ?_
    exact h
theorem e_m_restore (g : ch_G) (Q : ch_O → ch_M → Prop)  (m : ch_M) (h : ch_J g m_m_restore (ch_rm m_m_restore) (ch_E g m_m_restore Q) 0 [some (.inr (9, 0, 0)), none] [] m 0) : ch_C g m_m_restore [.inr (9, 0, 0)] m Q :=
  ch_enter mf_m_restore (by intro v hv; simp only [List.mem_cons, List.not_mem_nil, or_false] at hv; rcases hv with rfl <;> rfl) (Nat.le_of_ble_eq_true rfl) h
set_option maxHeartbeats 1600000 in
theorem g_m_restore_0 (g : ch_G) (Q : ch_O → ch_M → Prop)  (m : ch_M) (h : (∀ m1 : ch_M, m1 = ch_wr m (9, 0, 0) 19 0 → ((¬ (m1 (9, 0, 0) 6) = 0 → ch_J g m_m_restore (ch_rm m_m_restore) (ch_E g m_m_restore Q) 20 [some (.inr (9, 0, 0)), some (.inl (.int 0))] [] m1 0) ∧ ((m1 (9, 0, 0) 6) = 0 → ((∀ m3 : ch_M, m3 = ch_wr m1 (9, 0, 0) 19 1 → Q (.inl (some (.inl (.int 0)))) m3)))))) : ch_J g m_m_restore (ch_rm m_m_restore) (ch_E g m_m_restore Q) 0 [some (.inr (9, 0, 0)), none] [] m 0 := by
  refine ch_aload_n (i := 0) d_m_restore_0 rfl rfl ?_
  refine ch_iconst (v := 0) d_m_restore_1 (by decide) ?_
  refine ch_put d_m_restore_2 fp_m_48 rfl rfl rfl ?_
  generalize hmm1 : ch_wr m (9, 0, 0) 19 0 = m1
  replace h := h m1 hmm1.symm
  refine ch_aload_n (i := 0) d_m_restore_5 rfl rfl ?_
  refine ch_get (v := .inl (.int (m1 (9, 0, 0) 6))) d_m_restore_6 fl_m_251 rfl ?_
  refine ch_if_ne (tgt := 18) d_m_restore_9 (by decide) (fun c => ?_) (fun c => ?_)
  · replace h := h.1 c
    refine ch_iconst (v := 0) d_m_restore_18 (by decide) ?_
    refine ch_istore_n (i := 1) d_m_restore_19 rfl (Nat.le_of_ble_eq_true rfl) (ls' := [some (.inr (9, 0, 0)), some (.inl (.int 0))]) rfl ?_
    exact h
  · replace h := h.2 c
    refine ch_aload_n (i := 0) d_m_restore_12 rfl rfl ?_
    refine ch_iconst (v := 1) d_m_restore_13 (by decide) ?_
    refine ch_callV (as := [.inl (.int 1)]) d_m_restore_14 lk_m_70 mi_m_raises me_m_raises rfl rfl rfl ⟨Nat.le_of_ble_eq_true rfl, Nat.le_of_ble_eq_true rfl⟩ (Nat.le_of_ble_eq_true rfl) ⟨Nat.le_of_ble_eq_true rfl, Nat.le_of_ble_eq_true rfl⟩ (ch_mono (ch_Ki (fun r2 m3 q4 => ?_)) (s_m_raises g (fun (r_ : Int32) (m_ : ch_M) => (0 = r_ ∧ m_ = ch_wr m1 (9, 0, 0) 19 1)) (1) m1 ⟨rfl, rfl⟩))
    obtain ⟨rfl, hm_⟩ := q4
    replace h := h m3 hm_
    exact ch_iret (ty := .int) d_m_restore_17 rfl rfl (Nat.le_of_ble_eq_true rfl) h
set_option maxHeartbeats 1600000 in
theorem g_m_restore_20 (g : ch_G) (Q : ch_O → ch_M → Prop) (x1 : Int32) (m : ch_M) (h : ((63 ≤ x1 → (∀ m1 : ch_M, m1 = ch_wr m (9, 0, 0) 4 0 → Q (.inl (some (.inl (.int (m1 (9, 0, 1) (0)))))) m1)) ∧ (¬ 63 ≤ x1 → (vp_in x1 63) ∧ (∀ m3 : ch_M, m3 = ch_wr m (9, 0, 1) (Int32.toNatClampNeg x1) (m (9, 0, 5) (Int32.toNatClampNeg x1)) → ch_J g m_m_restore (ch_rm m_m_restore) (ch_E g m_m_restore Q) 20 [some (.inr (9, 0, 0)), some (.inl (.int (x1 + 1)))] [] m3 0)))) : ch_J g m_m_restore (ch_rm m_m_restore) (ch_E g m_m_restore Q) 20 [some (.inr (9, 0, 0)), some (.inl (.int x1))] [] m 0 := by
  refine ch_iload_n (i := 1) d_m_restore_20 rfl rfl ?_
  refine ch_bipush (v := 63) d_m_restore_21 (by decide) ?_
  refine ch_icmp_ge (tgt := 44) d_m_restore_23 (by decide) (fun c => ?_) (fun c => ?_)
  · replace h := h.1 c
    refine ch_aload_n (i := 0) d_m_restore_44 rfl rfl ?_
    refine ch_iconst (v := 0) d_m_restore_45 (by decide) ?_
    refine ch_put d_m_restore_46 fp_m_51 rfl rfl rfl ?_
    generalize hmm1 : ch_wr m (9, 0, 0) 4 0 = m1
    replace h := h m1 hmm1.symm
    refine ch_aload_n (i := 0) d_m_restore_49 rfl rfl ?_
    refine ch_get (v := .inr (9, 0, 1)) d_m_restore_50 fl_m_9 rfl ?_
    refine ch_iconst (v := 0) d_m_restore_53 (by decide) ?_
    refine ch_iald (n := 63) d_m_restore_54 (by decide) rfl (vp_in_nI (n := 0) (by decide) (by decide)) ?_
    exact ch_iret (ty := .int) d_m_restore_55 rfl rfl (Nat.le_of_ble_eq_true rfl) h
  · replace h := h.2 c
    refine ch_aload_n (i := 0) d_m_restore_26 rfl rfl ?_
    refine ch_get (v := .inr (9, 0, 1)) d_m_restore_27 fl_m_9 rfl ?_
    refine ch_iload_n (i := 1) d_m_restore_30 rfl rfl ?_
    refine ch_aload_n (i := 0) d_m_restore_31 rfl rfl ?_
    refine ch_get (v := .inr (9, 0, 5)) d_m_restore_32 fl_m_22 rfl ?_
    refine ch_iload_n (i := 1) d_m_restore_35 rfl rfl ?_
    have b2 := h.1
    replace h := h.2
    refine ch_iald (n := 63) d_m_restore_36 (by decide) rfl b2 ?_
    refine ch_iast (n := 63) d_m_restore_37 (by decide) rfl b2 ?_
    show ch_J g _ _ _ _ _ _ (ch_wr m (9, 0, 1) (Int32.toNatClampNeg x1) (m (9, 0, 5) (Int32.toNatClampNeg x1))) _
    generalize hmm3 : ch_wr m (9, 0, 1) (Int32.toNatClampNeg x1) (m (9, 0, 5) (Int32.toNatClampNeg x1)) = m3
    replace h := h m3 hmm3.symm
    refine ch_iinc (i := 1) (v := (x1 + 1)) d_m_restore_38 rfl rfl (Nat.le_of_ble_eq_true rfl) (ls' := [some (.inr (9, 0, 0)), some (.inl (.int (x1 + 1)))]) rfl ?_
    refine ch_goto (tgt := 20) d_m_restore_41 (by decide) ?_
    exact h
theorem e_m_signs (g : ch_G) (Q : ch_O → ch_M → Prop) (p1 : Int32) (m : ch_M) (h : ch_J g m_m_signs (ch_rm m_m_signs) (ch_E g m_m_signs Q) 0 [some (.inr (9, 0, 0)), some (.inl (.int p1))] [] m 0) : ch_C g m_m_signs [.inr (9, 0, 0), .inl (.int p1)] m Q :=
  ch_enter mf_m_signs (by intro v hv; simp only [List.mem_cons, List.not_mem_nil, or_false] at hv; rcases hv with rfl | rfl <;> rfl) (Nat.le_of_ble_eq_true rfl) h
set_option maxHeartbeats 1600000 in
theorem g_m_signs_0 (g : ch_G) (Q : ch_O → ch_M → Prop) (p1 : Int32) (m : ch_M) (h : (∀ m1 : ch_M, m1 = ch_wr m (9, 0, 0) 8 ((m (9, 0, 0) 8) + 1) → (vp_in (m (9, 0, 0) 8) 80) ∧ (∀ m3 : ch_M, m3 = ch_wr m1 (9, 0, 6) (Int32.toNatClampNeg (m (9, 0, 0) 8)) (vp_nar .char p1) → Q (.inl none) m3))) : ch_J g m_m_signs (ch_rm m_m_signs) (ch_E g m_m_signs Q) 0 [some (.inr (9, 0, 0)), some (.inl (.int p1))] [] m 0 := by
  refine ch_aload_n (i := 0) d_m_signs_0 rfl rfl ?_
  refine ch_get (v := .inr (9, 0, 6)) d_m_signs_1 fl_m_25 rfl ?_
  refine ch_aload_n (i := 0) d_m_signs_4 rfl rfl ?_
  refine ch_dup d_m_signs_5 rfl ?_
  refine ch_get (v := .inl (.int (m (9, 0, 0) 8))) d_m_signs_6 fl_m_239 rfl ?_
  refine ch_dup_x1 d_m_signs_9 rfl rfl ?_
  refine ch_iconst (v := 1) d_m_signs_10 (by decide) ?_
  refine ch_iadd d_m_signs_11 ?_
  refine ch_put d_m_signs_12 fp_m_239 rfl rfl rfl ?_
  generalize hmm1 : ch_wr m (9, 0, 0) 8 ((m (9, 0, 0) 8) + 1) = m1
  replace h := h m1 hmm1.symm
  refine ch_iload_n (i := 1) d_m_signs_15 rfl rfl ?_
  have b2 := h.1
  replace h := h.2
  refine ch_cast (n := 80) d_m_signs_16 (by decide) rfl b2 ?_
  show ch_J g _ _ _ _ _ _ (ch_wr m1 (9, 0, 6) (Int32.toNatClampNeg (m (9, 0, 0) 8)) (vp_nar .char p1)) _
  generalize hmm3 : ch_wr m1 (9, 0, 6) (Int32.toNatClampNeg (m (9, 0, 0) 8)) (vp_nar .char p1) = m3
  replace h := h m3 hmm3.symm
  exact ch_vret d_m_signs_17 rfl (Nat.le_of_ble_eq_true rfl) h
