theorem e_y_takeChalk (g : ch_G) (Q : ch_O → ch_M → Prop) (j : Nat) (p1 : Int32) (p2 : Int32) (m : ch_M) (h : ch_J g m_y_takeChalk (ch_rm m_y_takeChalk) (ch_E g m_y_takeChalk Q) 0 [some (.inr (1, j, 0)), some (.inl (.int p1)), some (.inl (.int p2))] [] m 0) : ch_C g m_y_takeChalk [.inr (1, j, 0), .inl (.int p1), .inl (.int p2)] m Q :=
  ch_enter mf_y_takeChalk (by intro v hv; simp only [List.mem_cons, List.not_mem_nil, or_false] at hv; rcases hv with rfl | rfl | rfl <;> rfl) (Nat.le_of_ble_eq_true rfl) h
set_option maxHeartbeats 1600000 in
theorem g_y_takeChalk_0 (g : ch_G) (Q : ch_O → ch_M → Prop) (j : Nat) (p1 : Int32) (p2 : Int32) (m : ch_M) (h : (vp_in p1 12) ∧ (∀ m2 : ch_M, m2 = ch_wr m (1, j, 2) (Int32.toNatClampNeg p1) (if ((m (1, j, 2) (Int32.toNatClampNeg p1)) - p2) < 0 then 0 else ((m (1, j, 2) (Int32.toNatClampNeg p1)) - p2)) → ((¬ (m2 (1, j, 2) (Int32.toNatClampNeg p1)) = 0 → ((¬ (m2 (1, j, 2) (Int32.toNatClampNeg p1)) = 0 → Q (.inl (some (.inl (.int 0)))) m2) ∧ ((m2 (1, j, 2) (Int32.toNatClampNeg p1)) = 0 → Q (.inl (some (.inl (.int 1)))) m2))) ∧ ((m2 (1, j, 2) (Int32.toNatClampNeg p1)) = 0 → (∀ m3 : ch_M, m3 = ch_wr m2 (1, j, 1) (Int32.toNatClampNeg p1) (-1) → ((¬ (m3 (1, j, 2) (Int32.toNatClampNeg p1)) = 0 → Q (.inl (some (.inl (.int 0)))) m3) ∧ ((m3 (1, j, 2) (Int32.toNatClampNeg p1)) = 0 → Q (.inl (some (.inl (.int 1)))) m3))))))) : ch_J g m_y_takeChalk (ch_rm m_y_takeChalk) (ch_E g m_y_takeChalk Q) 0 [some (.inr (1, j, 0)), some (.inl (.int p1)), some (.inl (.int p2))] [] m 0 := by
  refine ch_aload_n (i := 0) d_y_takeChalk_0 rfl rfl ?_
  refine ch_get (v := .inr (1, j, 2)) d_y_takeChalk_1 fl_y_15 rfl ?_
  refine ch_iload_n (i := 1) d_y_takeChalk_4 rfl rfl ?_
  refine ch_aload_n (i := 0) d_y_takeChalk_5 rfl rfl ?_
  refine ch_get (v := .inr (1, j, 2)) d_y_takeChalk_6 fl_y_15 rfl ?_
  refine ch_iload_n (i := 1) d_y_takeChalk_9 rfl rfl ?_
  have b1 := h.1
  replace h := h.2
  refine ch_iald (n := 12) d_y_takeChalk_10 (by decide) rfl b1 ?_
  refine ch_iload_n (i := 2) d_y_takeChalk_11 rfl rfl ?_
  refine ch_isub d_y_takeChalk_12 ?_
  refine ch_iconst (v := 0) d_y_takeChalk_13 (by decide) ?_
  refine ch_max d_y_takeChalk_14 lk_y_143 ⟨Nat.le_of_ble_eq_true rfl, Nat.le_of_ble_eq_true rfl⟩ ⟨Nat.le_of_ble_eq_true rfl, Nat.le_of_ble_eq_true rfl⟩ (Nat.le_of_ble_eq_true rfl) ?_
  refine ch_iast (n := 12) d_y_takeChalk_17 (by decide) rfl b1 ?_
  show ch_J g _ _ _ _ _ _ (ch_wr m (1, j, 2) (Int32.toNatClampNeg p1) (if ((m (1, j, 2) (Int32.toNatClampNeg p1)) - p2) < 0 then 0 else ((m (1, j, 2) (Int32.toNatClampNeg p1)) - p2))) _
  generalize hmm2 : ch_wr m (1, j, 2) (Int32.toNatClampNeg p1) (if ((m (1, j, 2) (Int32.toNatClampNeg p1)) - p2) < 0 then 0 else ((m (1, j, 2) (Int32.toNatClampNeg p1)) - p2)) = m2
  replace h := h m2 hmm2.symm
  refine ch_aload_n (i := 0) d_y_takeChalk_18 rfl rfl ?_
  refine ch_get (v := .inr (1, j, 2)) d_y_takeChalk_19 fl_y_15 rfl ?_
  refine ch_iload_n (i := 1) d_y_takeChalk_22 rfl rfl ?_
  refine ch_iald (n := 12) d_y_takeChalk_23 (by decide) rfl b1 ?_
  refine ch_if_ne (tgt := 34) d_y_takeChalk_24 (by decide) (fun c => ?_) (fun c => ?_)
  · replace h := h.1 c
    refine ch_aload_n (i := 0) d_y_takeChalk_34 rfl rfl ?_
    refine ch_get (v := .inr (1, j, 2)) d_y_takeChalk_35 fl_y_15 rfl ?_
    refine ch_iload_n (i := 1) d_y_takeChalk_38 rfl rfl ?_
    refine ch_iald (n := 12) d_y_takeChalk_39 (by decide) rfl b1 ?_
    refine ch_if_ne (tgt := 47) d_y_takeChalk_40 (by decide) (fun c => ?_) (fun c => ?_)
    · replace h := h.1 c
      refine ch_iconst (v := 0) d_y_takeChalk_47 (by decide) ?_
      exact ch_iret (ty := .boolean) d_y_takeChalk_48 rfl rfl (Nat.le_of_ble_eq_true rfl) h
    · replace h := h.2 c
      refine ch_iconst (v := 1) d_y_takeChalk_43 (by decide) ?_
      refine ch_goto (tgt := 48) d_y_takeChalk_44 (by decide) ?_
      exact ch_iret (ty := .boolean) d_y_takeChalk_48 rfl rfl (Nat.le_of_ble_eq_true rfl) h
  · replace h := h.2 c
    refine ch_aload_n (i := 0) d_y_takeChalk_27 rfl rfl ?_
    refine ch_get (v := .inr (1, j, 1)) d_y_takeChalk_28 fl_y_9 rfl ?_
    refine ch_iload_n (i := 1) d_y_takeChalk_31 rfl rfl ?_
    refine ch_iconst (v := (-1)) d_y_takeChalk_32 (by decide) ?_
    refine ch_iast (n := 12) d_y_takeChalk_33 (by decide) rfl b1 ?_
    show ch_J g _ _ _ _ _ _ (ch_wr m2 (1, j, 1) (Int32.toNatClampNeg p1) (-1)) _
    generalize hmm3 : ch_wr m2 (1, j, 1) (Int32.toNatClampNeg p1) (-1) = m3
    replace h := h m3 hmm3.symm
    refine ch_aload_n (i := 0) d_y_takeChalk_34 rfl rfl ?_
    refine ch_get (v := .inr (1, j, 2)) d_y_takeChalk_35 fl_y_15 rfl ?_
    refine ch_iload_n (i := 1) d_y_takeChalk_38 rfl rfl ?_
    refine ch_iald (n := 12) d_y_takeChalk_39 (by decide) rfl b1 ?_
    refine ch_if_ne (tgt := 47) d_y_takeChalk_40 (by decide) (fun c => ?_) (fun c => ?_)
    · replace h := h.1 c
      refine ch_iconst (v := 0) d_y_takeChalk_47 (by decide) ?_
      exact ch_iret (ty := .boolean) d_y_takeChalk_48 rfl rfl (Nat.le_of_ble_eq_true rfl) h
    · replace h := h.2 c
      refine ch_iconst (v := 1) d_y_takeChalk_43 (by decide) ?_
      refine ch_goto (tgt := 48) d_y_takeChalk_44 (by decide) ?_
      exact ch_iret (ty := .boolean) d_y_takeChalk_48 rfl rfl (Nat.le_of_ble_eq_true rfl) h
theorem e_y_closeOrder (g : ch_G) (Q : ch_O → ch_M → Prop) (j : Nat) (m : ch_M) (h : ch_J g m_y_closeOrder (ch_rm m_y_closeOrder) (ch_E g m_y_closeOrder Q) 0 [some (.inr (1, j, 0)), none, none, none] [] m 0) : ch_C g m_y_closeOrder [.inr (1, j, 0)] m Q :=
  ch_enter mf_y_closeOrder (by intro v hv; simp only [List.mem_cons, List.not_mem_nil, or_false] at hv; rcases hv with rfl <;> rfl) (Nat.le_of_ble_eq_true rfl) h
set_option maxHeartbeats 1600000 in
theorem g_y_closeOrder_0 (g : ch_G) (Q : ch_O → ch_M → Prop) (j : Nat) (m : ch_M) (h : ch_J g m_y_closeOrder (ch_rm m_y_closeOrder) (ch_E g m_y_closeOrder Q) 4 [some (.inr (1, j, 0)), some (.inl (.int 0)), some (.inl (.int 0)), none] [] m 0) : ch_J g m_y_closeOrder (ch_rm m_y_closeOrder) (ch_E g m_y_closeOrder Q) 0 [some (.inr (1, j, 0)), none, none, none] [] m 0 := by
  refine ch_iconst (v := 0) d_y_closeOrder_0 (by decide) ?_
  refine ch_istore_n (i := 1) d_y_closeOrder_1 rfl (Nat.le_of_ble_eq_true rfl) (ls' := [some (.inr (1, j, 0)), some (.inl (.int 0)), none, none]) rfl ?_
  refine ch_iconst (v := 0) d_y_closeOrder_2 (by decide) ?_
  refine ch_istore_n (i := 2) d_y_closeOrder_3 rfl (Nat.le_of_ble_eq_true rfl) (ls' := [some (.inr (1, j, 0)), some (.inl (.int 0)), some (.inl (.int 0)), none]) rfl ?_
  exact h
set_option maxHeartbeats 1600000 in
theorem g_y_closeOrder_4 (g : ch_G) (Q : ch_O → ch_M → Prop) (j : Nat) (x1 : Int32) (x2 : Int32) (o3 : Option ch_V) (m : ch_M) (h : (((m (1, j, 0) 9) ≤ x2 → (∀ m1 : ch_M, m1 = ch_wr m (1, j, 0) 9 x1 → Q (.inl (some (.inl (.int ((m (1, j, 0) 9) - x1))))) m1)) ∧ (¬ (m (1, j, 0) 9) ≤ x2 → (vp_in x2 5) ∧ (vp_in (m (1, j, 8) (Int32.toNatClampNeg x2)) 5) ∧ (((m (1, j, 5) (Int32.toNatClampNeg (m (1, j, 8) (Int32.toNatClampNeg x2)))) ≤ 0 → ch_J g m_y_closeOrder (ch_rm m_y_closeOrder) (ch_E g m_y_closeOrder Q) 4 [some (.inr (1, j, 0)), some (.inl (.int x1)), some (.inl (.int (x2 + 1))), some (.inl (.int (m (1, j, 8) (Int32.toNatClampNeg x2))))] [] m 0) ∧ (¬ (m (1, j, 5) (Int32.toNatClampNeg (m (1, j, 8) (Int32.toNatClampNeg x2)))) ≤ 0 → (vp_in x1 5) ∧ (∀ m5 : ch_M, m5 = ch_wr m (1, j, 8) (Int32.toNatClampNeg x1) (m (1, j, 8) (Int32.toNatClampNeg x2)) → ch_J g m_y_closeOrder (ch_rm m_y_closeOrder) (ch_E g m_y_closeOrder Q) 4 [some (.inr (1, j, 0)), some (.inl (.int (x1 + 1))), some (.inl (.int (x2 + 1))), some (.inl (.int (m (1, j, 8) (Int32.toNatClampNeg x2))))] [] m5 0)))))) : ch_J g m_y_closeOrder (ch_rm m_y_closeOrder) (ch_E g m_y_closeOrder Q) 4 [some (.inr (1, j, 0)), some (.inl (.int x1)), some (.inl (.int x2)), o3] [] m 0 := by
  refine ch_iload_n (i := 2) d_y_closeOrder_4 rfl rfl ?_
  refine ch_aload_n (i := 0) d_y_closeOrder_5 rfl rfl ?_
  refine ch_get (v := .inl (.int (m (1, j, 0) 9))) d_y_closeOrder_6 fl_y_46 rfl ?_
  refine ch_icmp_ge (tgt := 44) d_y_closeOrder_9 (by decide) (fun c => ?_) (fun c => ?_)
  · replace h := h.1 c
    refine ch_aload_n (i := 0) d_y_closeOrder_44 rfl rfl ?_
    refine ch_get (v := .inl (.int (m (1, j, 0) 9))) d_y_closeOrder_45 fl_y_46 rfl ?_
    refine ch_iload_n (i := 1) d_y_closeOrder_48 rfl rfl ?_
    refine ch_isub d_y_closeOrder_49 ?_
    refine ch_istore_n (i := 2) d_y_closeOrder_50 rfl (Nat.le_of_ble_eq_true rfl) (ls' := [some (.inr (1, j, 0)), some (.inl (.int x1)), some (.inl (.int ((m (1, j, 0) 9) - x1))), o3]) rfl ?_
    refine ch_aload_n (i := 0) d_y_closeOrder_51 rfl rfl ?_
    refine ch_iload_n (i := 1) d_y_closeOrder_52 rfl rfl ?_
    refine ch_put d_y_closeOrder_53 fp_y_46 rfl rfl rfl ?_
    generalize hmm1 : ch_wr m (1, j, 0) 9 x1 = m1
    replace h := h m1 hmm1.symm
    refine ch_iload_n (i := 2) d_y_closeOrder_56 rfl rfl ?_
    exact ch_iret (ty := .int) d_y_closeOrder_57 rfl rfl (Nat.le_of_ble_eq_true rfl) h
  · replace h := h.2 c
    refine ch_aload_n (i := 0) d_y_closeOrder_12 rfl rfl ?_
    refine ch_get (v := .inr (1, j, 8)) d_y_closeOrder_13 fl_y_33 rfl ?_
    refine ch_iload_n (i := 2) d_y_closeOrder_16 rfl rfl ?_
    have b2 := h.1
    replace h := h.2
    refine ch_iald (n := 5) d_y_closeOrder_17 (by decide) rfl b2 ?_
    refine ch_istore_n (i := 3) d_y_closeOrder_18 rfl (Nat.le_of_ble_eq_true rfl) (ls' := [some (.inr (1, j, 0)), some (.inl (.int x1)), some (.inl (.int x2)), some (.inl (.int (m (1, j, 8) (Int32.toNatClampNeg x2))))]) rfl ?_
    refine ch_aload_n (i := 0) d_y_closeOrder_19 rfl rfl ?_
    refine ch_get (v := .inr (1, j, 5)) d_y_closeOrder_20 fl_y_24 rfl ?_
    refine ch_iload_n (i := 3) d_y_closeOrder_23 rfl rfl ?_
    have b3 := h.1
    replace h := h.2
    refine ch_iald (n := 5) d_y_closeOrder_24 (by decide) rfl b3 ?_
    refine ch_if_le (tgt := 38) d_y_closeOrder_25 (by decide) (fun c => ?_) (fun c => ?_)
    · replace h := h.1 c
      refine ch_iinc (i := 2) (v := (x2 + 1)) d_y_closeOrder_38 rfl rfl (Nat.le_of_ble_eq_true rfl) (ls' := [some (.inr (1, j, 0)), some (.inl (.int x1)), some (.inl (.int (x2 + 1))), some (.inl (.int (m (1, j, 8) (Int32.toNatClampNeg x2))))]) rfl ?_
      refine ch_goto (tgt := 4) d_y_closeOrder_41 (by decide) ?_
      exact h
    · replace h := h.2 c
      refine ch_aload_n (i := 0) d_y_closeOrder_28 rfl rfl ?_
      refine ch_get (v := .inr (1, j, 8)) d_y_closeOrder_29 fl_y_33 rfl ?_
      refine ch_iload_n (i := 1) d_y_closeOrder_32 rfl rfl ?_
      refine ch_iload_n (i := 3) d_y_closeOrder_33 rfl rfl ?_
      have b4 := h.1
      replace h := h.2
      refine ch_iast (n := 5) d_y_closeOrder_34 (by decide) rfl b4 ?_
      show ch_J g _ _ _ _ _ _ (ch_wr m (1, j, 8) (Int32.toNatClampNeg x1) (m (1, j, 8) (Int32.toNatClampNeg x2))) _
      generalize hmm5 : ch_wr m (1, j, 8) (Int32.toNatClampNeg x1) (m (1, j, 8) (Int32.toNatClampNeg x2)) = m5
      replace h := h m5 hmm5.symm
      refine ch_iinc (i := 1) (v := (x1 + 1)) d_y_closeOrder_35 rfl rfl (Nat.le_of_ble_eq_true rfl) (ls' := [some (.inr (1, j, 0)), some (.inl (.int (x1 + 1))), some (.inl (.int x2)), some (.inl (.int (m (1, j, 8) (Int32.toNatClampNeg x2))))]) rfl ?_
      refine ch_iinc (i := 2) (v := (x2 + 1)) d_y_closeOrder_38 rfl rfl (Nat.le_of_ble_eq_true rfl) (ls' := [some (.inr (1, j, 0)), some (.inl (.int (x1 + 1))), some (.inl (.int (x2 + 1))), some (.inl (.int (m (1, j, 8) (Int32.toNatClampNeg x2))))]) rfl ?_
      refine ch_goto (tgt := 4) d_y_closeOrder_41 (by decide) ?_
      exact h
theorem e_y_bring (g : ch_G) (Q : ch_O → ch_M → Prop) (j : Nat) (p1 : Int32) (m : ch_M) (h : ch_J g m_y_bring (ch_rm m_y_bring) (ch_E g m_y_bring Q) 0 [some (.inr (1, j, 0)), some (.inl (.int p1))] [] m 0) : ch_C g m_y_bring [.inr (1, j, 0), .inl (.int p1)] m Q :=
  ch_enter mf_y_bring (by intro v hv; simp only [List.mem_cons, List.not_mem_nil, or_false] at hv; rcases hv with rfl | rfl <;> rfl) (Nat.le_of_ble_eq_true rfl) h
set_option maxHeartbeats 1600000 in
theorem g_y_bring_0 (g : ch_G) (Q : ch_O → ch_M → Prop) (j : Nat) (p1 : Int32) (m : ch_M) (h : (vp_in (m (1, j, 0) 8) 5) ∧ (∀ m2 : ch_M, m2 = ch_wr m (1, j, 3) (Int32.toNatClampNeg (m (1, j, 0) 8)) p1 → (∀ m3 : ch_M, m3 = ch_wr m2 (1, j, 0) 11 ((m2 (1, j, 0) 11) + p1) → (∀ m4 : ch_M, m4 = ch_wr m3 (1, j, 0) 8 ((m3 (1, j, 0) 8) + 1) → Q (.inl (some (.inl (.int ((m4 (1, j, 0) 8) - 1))))) m4)))) : ch_J g m_y_bring (ch_rm m_y_bring) (ch_E g m_y_bring Q) 0 [some (.inr (1, j, 0)), some (.inl (.int p1))] [] m 0 := by
  refine ch_aload_n (i := 0) d_y_bring_0 rfl rfl ?_
  refine ch_get (v := .inr (1, j, 3)) d_y_bring_1 fl_y_18 rfl ?_
  refine ch_aload_n (i := 0) d_y_bring_4 rfl rfl ?_
  refine ch_get (v := .inl (.int (m (1, j, 0) 8))) d_y_bring_5 fl_y_42 rfl ?_
  refine ch_iload_n (i := 1) d_y_bring_8 rfl rfl ?_
  have b1 := h.1
  replace h := h.2
  refine ch_iast (n := 5) d_y_bring_9 (by decide) rfl b1 ?_
  show ch_J g _ _ _ _ _ _ (ch_wr m (1, j, 3) (Int32.toNatClampNeg (m (1, j, 0) 8)) p1) _
  generalize hmm2 : ch_wr m (1, j, 3) (Int32.toNatClampNeg (m (1, j, 0) 8)) p1 = m2
  replace h := h m2 hmm2.symm
  refine ch_aload_n (i := 0) d_y_bring_10 rfl rfl ?_
  refine ch_dup d_y_bring_11 rfl ?_
  refine ch_get (v := .inl (.int (m2 (1, j, 0) 11))) d_y_bring_12 fl_y_52 rfl ?_
  refine ch_iload_n (i := 1) d_y_bring_15 rfl rfl ?_
  refine ch_iadd d_y_bring_16 ?_
  refine ch_put d_y_bring_17 fp_y_52 rfl rfl rfl ?_
  generalize hmm3 : ch_wr m2 (1, j, 0) 11 ((m2 (1, j, 0) 11) + p1) = m3
  replace h := h m3 hmm3.symm
  refine ch_aload_n (i := 0) d_y_bring_20 rfl rfl ?_
  refine ch_dup d_y_bring_21 rfl ?_
  refine ch_get (v := .inl (.int (m3 (1, j, 0) 8))) d_y_bring_22 fl_y_42 rfl ?_
  refine ch_iconst (v := 1) d_y_bring_25 (by decide) ?_
  refine ch_iadd d_y_bring_26 ?_
  refine ch_put d_y_bring_27 fp_y_42 rfl rfl rfl ?_
  generalize hmm4 : ch_wr m3 (1, j, 0) 8 ((m3 (1, j, 0) 8) + 1) = m4
  replace h := h m4 hmm4.symm
  refine ch_aload_n (i := 0) d_y_bring_30 rfl rfl ?_
  refine ch_get (v := .inl (.int (m4 (1, j, 0) 8))) d_y_bring_31 fl_y_42 rfl ?_
  refine ch_iconst (v := 1) d_y_bring_34 (by decide) ?_
  refine ch_isub d_y_bring_35 ?_
  exact ch_iret (ty := .int) d_y_bring_36 rfl rfl (Nat.le_of_ble_eq_true rfl) h
theorem e_y_chalkOn (g : ch_G) (Q : ch_O → ch_M → Prop) (j : Nat) (p1 : Int32) (p2 : Int32) (m : ch_M) (h : ch_J g m_y_chalkOn (ch_rm m_y_chalkOn) (ch_E g m_y_chalkOn Q) 0 [some (.inr (1, j, 0)), some (.inl (.int p1)), some (.inl (.int p2))] [] m 0) : ch_C g m_y_chalkOn [.inr (1, j, 0), .inl (.int p1), .inl (.int p2)] m Q :=
  ch_enter mf_y_chalkOn (by intro v hv; simp only [List.mem_cons, List.not_mem_nil, or_false] at hv; rcases hv with rfl | rfl | rfl <;> rfl) (Nat.le_of_ble_eq_true rfl) h
set_option maxHeartbeats 1600000 in
theorem g_y_chalkOn_0 (g : ch_G) (Q : ch_O → ch_M → Prop) (j : Nat) (p1 : Int32) (p2 : Int32) (m : ch_M) (h : (vp_in p1 5) ∧ (∀ m2 : ch_M, m2 = ch_wr m (1, j, 3) (Int32.toNatClampNeg p1) ((m (1, j, 3) (Int32.toNatClampNeg p1)) - 1) → (∀ m3 : ch_M, m3 = ch_wr m2 (1, j, 0) 10 ((m2 (1, j, 0) 10) + 1) → (vp_in p2 12) ∧ ((¬ (m3 (1, j, 1) (Int32.toNatClampNeg p2)) = (-1) → (∀ m5 : ch_M, m5 = ch_wr m3 (1, j, 2) (Int32.toNatClampNeg p2) (if 9 < ((m3 (1, j, 2) (Int32.toNatClampNeg p2)) + 2) then 9 else ((m3 (1, j, 2) (Int32.toNatClampNeg p2)) + 2)) → (∀ m6 : ch_M, m6 = ch_wr m5 (1, j, 1) (Int32.toNatClampNeg p2) p1 → Q (.inl (some (.inl (.int (m6 (1, j, 2) (Int32.toNatClampNeg p2)))))) m6))) ∧ ((m3 (1, j, 1) (Int32.toNatClampNeg p2)) = (-1) → (∀ m7 : ch_M, m7 = ch_wr m3 (1, j, 2) (Int32.toNatClampNeg p2) 5 → (∀ m8 : ch_M, m8 = ch_wr m7 (1, j, 1) (Int32.toNatClampNeg p2) p1 → Q (.inl (some (.inl (.int (m8 (1, j, 2) (Int32.toNatClampNeg p2)))))) m8))))))) : ch_J g m_y_chalkOn (ch_rm m_y_chalkOn) (ch_E g m_y_chalkOn Q) 0 [some (.inr (1, j, 0)), some (.inl (.int p1)), some (.inl (.int p2))] [] m 0 := by
  refine ch_aload_n (i := 0) d_y_chalkOn_0 rfl rfl ?_
  refine ch_get (v := .inr (1, j, 3)) d_y_chalkOn_1 fl_y_18 rfl ?_
  refine ch_iload_n (i := 1) d_y_chalkOn_4 rfl rfl ?_
  refine ch_dup2 d_y_chalkOn_5 rfl rfl ?_
  have b1 := h.1
  replace h := h.2
  refine ch_iald (n := 5) d_y_chalkOn_6 (by decide) rfl b1 ?_
  refine ch_iconst (v := 1) d_y_chalkOn_7 (by decide) ?_
  refine ch_isub d_y_chalkOn_8 ?_
  refine ch_iast (n := 5) d_y_chalkOn_9 (by decide) rfl b1 ?_
  show ch_J g _ _ _ _ _ _ (ch_wr m (1, j, 3) (Int32.toNatClampNeg p1) ((m (1, j, 3) (Int32.toNatClampNeg p1)) - 1)) _
  generalize hmm2 : ch_wr m (1, j, 3) (Int32.toNatClampNeg p1) ((m (1, j, 3) (Int32.toNatClampNeg p1)) - 1) = m2
  replace h := h m2 hmm2.symm
  refine ch_aload_n (i := 0) d_y_chalkOn_10 rfl rfl ?_
  refine ch_dup d_y_chalkOn_11 rfl ?_
  refine ch_get (v := .inl (.int (m2 (1, j, 0) 10))) d_y_chalkOn_12 fl_y_49 rfl ?_
  refine ch_iconst (v := 1) d_y_chalkOn_15 (by decide) ?_
  refine ch_iadd d_y_chalkOn_16 ?_
  refine ch_put d_y_chalkOn_17 fp_y_49 rfl rfl rfl ?_
  generalize hmm3 : ch_wr m2 (1, j, 0) 10 ((m2 (1, j, 0) 10) + 1) = m3
  replace h := h m3 hmm3.symm
  refine ch_aload_n (i := 0) d_y_chalkOn_20 rfl rfl ?_
  refine ch_get (v := .inr (1, j, 2)) d_y_chalkOn_21 fl_y_15 rfl ?_
  refine ch_iload_n (i := 2) d_y_chalkOn_24 rfl rfl ?_
  refine ch_aload_n (i := 0) d_y_chalkOn_25 rfl rfl ?_
  refine ch_get (v := .inr (1, j, 1)) d_y_chalkOn_26 fl_y_9 rfl ?_
  refine ch_iload_n (i := 2) d_y_chalkOn_29 rfl rfl ?_
  have b4 := h.1
  replace h := h.2
  refine ch_iald (n := 12) d_y_chalkOn_30 (by decide) rfl b4 ?_
  refine ch_iconst (v := (-1)) d_y_chalkOn_31 (by decide) ?_
  refine ch_icmp_ne (tgt := 39) d_y_chalkOn_32 (by decide) (fun c => ?_) (fun c => ?_)
  · replace h := h.1 c
    refine ch_aload_n (i := 0) d_y_chalkOn_39 rfl rfl ?_
    refine ch_get (v := .inr (1, j, 2)) d_y_chalkOn_40 fl_y_15 rfl ?_
    refine ch_iload_n (i := 2) d_y_chalkOn_43 rfl rfl ?_
    refine ch_iald (n := 12) d_y_chalkOn_44 (by decide) rfl b4 ?_
    refine ch_iconst (v := 2) d_y_chalkOn_45 (by decide) ?_
    refine ch_iadd d_y_chalkOn_46 ?_
    refine ch_bipush (v := 9) d_y_chalkOn_47 (by decide) ?_
    refine ch_min d_y_chalkOn_49 lk_y_117 ⟨Nat.le_of_ble_eq_true rfl, Nat.le_of_ble_eq_true rfl⟩ ⟨Nat.le_of_ble_eq_true rfl, Nat.le_of_ble_eq_true rfl⟩ (Nat.le_of_ble_eq_true rfl) ?_
    refine ch_iast (n := 12) d_y_chalkOn_52 (by decide) rfl b4 ?_
    show ch_J g _ _ _ _ _ _ (ch_wr m3 (1, j, 2) (Int32.toNatClampNeg p2) (if 9 < ((m3 (1, j, 2) (Int32.toNatClampNeg p2)) + 2) then 9 else ((m3 (1, j, 2) (Int32.toNatClampNeg p2)) + 2))) _
    generalize hmm5 : ch_wr m3 (1, j, 2) (Int32.toNatClampNeg p2) (if 9 < ((m3 (1, j, 2) (Int32.toNatClampNeg p2)) + 2) then 9 else ((m3 (1, j, 2) (Int32.toNatClampNeg p2)) + 2)) = m5
    replace h := h m5 hmm5.symm
    refine ch_aload_n (i := 0) d_y_chalkOn_53 rfl rfl ?_
    refine ch_get (v := .inr (1, j, 1)) d_y_chalkOn_54 fl_y_9 rfl ?_
    refine ch_iload_n (i := 2) d_y_chalkOn_57 rfl rfl ?_
    refine ch_iload_n (i := 1) d_y_chalkOn_58 rfl rfl ?_
    refine ch_iast (n := 12) d_y_chalkOn_59 (by decide) rfl b4 ?_
    show ch_J g _ _ _ _ _ _ (ch_wr m5 (1, j, 1) (Int32.toNatClampNeg p2) p1) _
    generalize hmm6 : ch_wr m5 (1, j, 1) (Int32.toNatClampNeg p2) p1 = m6
    replace h := h m6 hmm6.symm
    refine ch_aload_n (i := 0) d_y_chalkOn_60 rfl rfl ?_
    refine ch_get (v := .inr (1, j, 2)) d_y_chalkOn_61 fl_y_15 rfl ?_
    refine ch_iload_n (i := 2) d_y_chalkOn_64 rfl rfl ?_
    refine ch_iald (n := 12) d_y_chalkOn_65 (by decide) rfl b4 ?_
    exact ch_iret (ty := .int) d_y_chalkOn_66 rfl rfl (Nat.le_of_ble_eq_true rfl) h
  · replace h := h.2 c
    refine ch_iconst (v := 5) d_y_chalkOn_35 (by decide) ?_
    refine ch_goto (tgt := 52) d_y_chalkOn_36 (by decide) ?_
    refine ch_iast (n := 12) d_y_chalkOn_52 (by decide) rfl b4 ?_
    show ch_J g _ _ _ _ _ _ (ch_wr m3 (1, j, 2) (Int32.toNatClampNeg p2) 5) _
    generalize hmm7 : ch_wr m3 (1, j, 2) (Int32.toNatClampNeg p2) 5 = m7
    replace h := h m7 hmm7.symm
    refine ch_aload_n (i := 0) d_y_chalkOn_53 rfl rfl ?_
    refine ch_get (v := .inr (1, j, 1)) d_y_chalkOn_54 fl_y_9 rfl ?_
    refine ch_iload_n (i := 2) d_y_chalkOn_57 rfl rfl ?_
    refine ch_iload_n (i := 1) d_y_chalkOn_58 rfl rfl ?_
    refine ch_iast (n := 12) d_y_chalkOn_59 (by decide) rfl b4 ?_
    show ch_J g _ _ _ _ _ _ (ch_wr m7 (1, j, 1) (Int32.toNatClampNeg p2) p1) _
    generalize hmm8 : ch_wr m7 (1, j, 1) (Int32.toNatClampNeg p2) p1 = m8
    replace h := h m8 hmm8.symm
    refine ch_aload_n (i := 0) d_y_chalkOn_60 rfl rfl ?_
    refine ch_get (v := .inr (1, j, 2)) d_y_chalkOn_61 fl_y_15 rfl ?_
    refine ch_iload_n (i := 2) d_y_chalkOn_64 rfl rfl ?_
    refine ch_iald (n := 12) d_y_chalkOn_65 (by decide) rfl b4 ?_
    exact ch_iret (ty := .int) d_y_chalkOn_66 rfl rfl (Nat.le_of_ble_eq_true rfl) h
theorem e_y_writeAgainst (g : ch_G) (Q : ch_O → ch_M → Prop) (j : Nat) (p1 : Int32) (m : ch_M) (h : ch_J g m_y_writeAgainst (ch_rm m_y_writeAgainst) (ch_E g m_y_writeAgainst Q) 0 [some (.inr (1, j, 0)), some (.inl (.int p1))] [] m 0) : ch_C g m_y_writeAgainst [.inr (1, j, 0), .inl (.int p1)] m Q :=
  ch_enter mf_y_writeAgainst (by intro v hv; simp only [List.mem_cons, List.not_mem_nil, or_false] at hv; rcases hv with rfl | rfl <;> rfl) (Nat.le_of_ble_eq_true rfl) h
set_option maxHeartbeats 1600000 in
theorem g_y_writeAgainst_0 (g : ch_G) (Q : ch_O → ch_M → Prop) (j : Nat) (p1 : Int32) (m : ch_M) (h : (vp_in p1 5) ∧ (∀ m2 : ch_M, m2 = ch_wr m (1, j, 5) (Int32.toNatClampNeg p1) (if 9 < (m (1, j, 4) (Int32.toNatClampNeg p1)) then 9 else (m (1, j, 4) (Int32.toNatClampNeg p1))) → (∀ m3 : ch_M, m3 = ch_wr m2 (1, j, 4) (Int32.toNatClampNeg p1) 0 → (vp_in (m3 (1, j, 0) 9) 5) ∧ (∀ m5 : ch_M, m5 = ch_wr m3 (1, j, 8) (Int32.toNatClampNeg (m3 (1, j, 0) 9)) p1 → (∀ m6 : ch_M, m6 = ch_wr m5 (1, j, 0) 9 ((m5 (1, j, 0) 9) + 1) → (∀ m7 : ch_M, m7 = ch_wr m6 (1, j, 0) 13 ((m6 (1, j, 0) 13) + 1) → Q (.inl (some (.inl (.int (m7 (1, j, 5) (Int32.toNatClampNeg p1)))))) m7)))))) : ch_J g m_y_writeAgainst (ch_rm m_y_writeAgainst) (ch_E g m_y_writeAgainst Q) 0 [some (.inr (1, j, 0)), some (.inl (.int p1))] [] m 0 := by
  refine ch_aload_n (i := 0) d_y_writeAgainst_0 rfl rfl ?_
  refine ch_get (v := .inr (1, j, 5)) d_y_writeAgainst_1 fl_y_24 rfl ?_
  refine ch_iload_n (i := 1) d_y_writeAgainst_4 rfl rfl ?_
  refine ch_aload_n (i := 0) d_y_writeAgainst_5 rfl rfl ?_
  refine ch_get (v := .inr (1, j, 4)) d_y_writeAgainst_6 fl_y_21 rfl ?_
  refine ch_iload_n (i := 1) d_y_writeAgainst_9 rfl rfl ?_
  have b1 := h.1
  replace h := h.2
  refine ch_iald (n := 5) d_y_writeAgainst_10 (by decide) rfl b1 ?_
  refine ch_bipush (v := 9) d_y_writeAgainst_11 (by decide) ?_
  refine ch_min d_y_writeAgainst_13 lk_y_117 ⟨Nat.le_of_ble_eq_true rfl, Nat.le_of_ble_eq_true rfl⟩ ⟨Nat.le_of_ble_eq_true rfl, Nat.le_of_ble_eq_true rfl⟩ (Nat.le_of_ble_eq_true rfl) ?_
  refine ch_iast (n := 5) d_y_writeAgainst_16 (by decide) rfl b1 ?_
  show ch_J g _ _ _ _ _ _ (ch_wr m (1, j, 5) (Int32.toNatClampNeg p1) (if 9 < (m (1, j, 4) (Int32.toNatClampNeg p1)) then 9 else (m (1, j, 4) (Int32.toNatClampNeg p1)))) _
  generalize hmm2 : ch_wr m (1, j, 5) (Int32.toNatClampNeg p1) (if 9 < (m (1, j, 4) (Int32.toNatClampNeg p1)) then 9 else (m (1, j, 4) (Int32.toNatClampNeg p1))) = m2
  replace h := h m2 hmm2.symm
  refine ch_aload_n (i := 0) d_y_writeAgainst_17 rfl rfl ?_
  refine ch_get (v := .inr (1, j, 4)) d_y_writeAgainst_18 fl_y_21 rfl ?_
  refine ch_iload_n (i := 1) d_y_writeAgainst_21 rfl rfl ?_
  refine ch_iconst (v := 0) d_y_writeAgainst_22 (by decide) ?_
  refine ch_iast (n := 5) d_y_writeAgainst_23 (by decide) rfl b1 ?_
  show ch_J g _ _ _ _ _ _ (ch_wr m2 (1, j, 4) (Int32.toNatClampNeg p1) 0) _
  generalize hmm3 : ch_wr m2 (1, j, 4) (Int32.toNatClampNeg p1) 0 = m3
  replace h := h m3 hmm3.symm
  refine ch_aload_n (i := 0) d_y_writeAgainst_24 rfl rfl ?_
  refine ch_get (v := .inr (1, j, 8)) d_y_writeAgainst_25 fl_y_33 rfl ?_
  refine ch_aload_n (i := 0) d_y_writeAgainst_28 rfl rfl ?_
  refine ch_get (v := .inl (.int (m3 (1, j, 0) 9))) d_y_writeAgainst_29 fl_y_46 rfl ?_
  refine ch_iload_n (i := 1) d_y_writeAgainst_32 rfl rfl ?_
  have b4 := h.1
  replace h := h.2
  refine ch_iast (n := 5) d_y_writeAgainst_33 (by decide) rfl b4 ?_
  show ch_J g _ _ _ _ _ _ (ch_wr m3 (1, j, 8) (Int32.toNatClampNeg (m3 (1, j, 0) 9)) p1) _
  generalize hmm5 : ch_wr m3 (1, j, 8) (Int32.toNatClampNeg (m3 (1, j, 0) 9)) p1 = m5
  replace h := h m5 hmm5.symm
  refine ch_aload_n (i := 0) d_y_writeAgainst_34 rfl rfl ?_
  refine ch_dup d_y_writeAgainst_35 rfl ?_
  refine ch_get (v := .inl (.int (m5 (1, j, 0) 9))) d_y_writeAgainst_36 fl_y_46 rfl ?_
  refine ch_iconst (v := 1) d_y_writeAgainst_39 (by decide) ?_
  refine ch_iadd d_y_writeAgainst_40 ?_
  refine ch_put d_y_writeAgainst_41 fp_y_46 rfl rfl rfl ?_
  generalize hmm6 : ch_wr m5 (1, j, 0) 9 ((m5 (1, j, 0) 9) + 1) = m6
  replace h := h m6 hmm6.symm
  refine ch_aload_n (i := 0) d_y_writeAgainst_44 rfl rfl ?_
  refine ch_dup d_y_writeAgainst_45 rfl ?_
  refine ch_get (v := .inl (.int (m6 (1, j, 0) 13))) d_y_writeAgainst_46 fl_y_58 rfl ?_
  refine ch_iconst (v := 1) d_y_writeAgainst_49 (by decide) ?_
  refine ch_iadd d_y_writeAgainst_50 ?_
  refine ch_put d_y_writeAgainst_51 fp_y_58 rfl rfl rfl ?_
  generalize hmm7 : ch_wr m6 (1, j, 0) 13 ((m6 (1, j, 0) 13) + 1) = m7
  replace h := h m7 hmm7.symm
  refine ch_aload_n (i := 0) d_y_writeAgainst_54 rfl rfl ?_
  refine ch_get (v := .inr (1, j, 5)) d_y_writeAgainst_55 fl_y_24 rfl ?_
  refine ch_iload_n (i := 1) d_y_writeAgainst_58 rfl rfl ?_
  refine ch_iald (n := 5) d_y_writeAgainst_59 (by decide) rfl b1 ?_
  exact ch_iret (ty := .int) d_y_writeAgainst_60 rfl rfl (Nat.le_of_ble_eq_true rfl) h
theorem e_y_handOver (g : ch_G) (Q : ch_O → ch_M → Prop) (j : Nat) (p1 : Int32) (p2 : Int32) (p3 : Int32) (m : ch_M) (h : ch_J g m_y_handOver (ch_rm m_y_handOver) (ch_E g m_y_handOver Q) 0 [some (.inr (1, j, 0)), some (.inl (.int p1)), some (.inl (.int p2)), some (.inl (.int p3))] [] m 0) : ch_C g m_y_handOver [.inr (1, j, 0), .inl (.int p1), .inl (.int p2), .inl (.int p3)] m Q :=
  ch_enter mf_y_handOver (by intro v hv; simp only [List.mem_cons, List.not_mem_nil, or_false] at hv; rcases hv with rfl | rfl | rfl | rfl <;> rfl) (Nat.le_of_ble_eq_true rfl) h
set_option maxHeartbeats 1600000 in
theorem g_y_handOver_0 (g : ch_G) (Q : ch_O → ch_M → Prop) (j : Nat) (p1 : Int32) (p2 : Int32) (p3 : Int32) (m : ch_M) (h : (vp_in p1 5) ∧ (∀ m2 : ch_M, m2 = ch_wr m (1, j, 3) (Int32.toNatClampNeg p1) ((m (1, j, 3) (Int32.toNatClampNeg p1)) - p3) → (vp_in p2 5) ∧ (∀ m4 : ch_M, m4 = ch_wr m2 (1, j, 3) (Int32.toNatClampNeg p2) ((m2 (1, j, 3) (Int32.toNatClampNeg p2)) + p3) → Q (.inl (some (.inl (.int (m4 (1, j, 3) (Int32.toNatClampNeg p1)))))) m4))) : ch_J g m_y_handOver (ch_rm m_y_handOver) (ch_E g m_y_handOver Q) 0 [some (.inr (1, j, 0)), some (.inl (.int p1)), some (.inl (.int p2)), some (.inl (.int p3))] [] m 0 := by
  refine ch_aload_n (i := 0) d_y_handOver_0 rfl rfl ?_
  refine ch_get (v := .inr (1, j, 3)) d_y_handOver_1 fl_y_18 rfl ?_
  refine ch_iload_n (i := 1) d_y_handOver_4 rfl rfl ?_
  refine ch_dup2 d_y_handOver_5 rfl rfl ?_
  have b1 := h.1
  replace h := h.2
  refine ch_iald (n := 5) d_y_handOver_6 (by decide) rfl b1 ?_
  refine ch_iload_n (i := 3) d_y_handOver_7 rfl rfl ?_
  refine ch_isub d_y_handOver_8 ?_
  refine ch_iast (n := 5) d_y_handOver_9 (by decide) rfl b1 ?_
  show ch_J g _ _ _ _ _ _ (ch_wr m (1, j, 3) (Int32.toNatClampNeg p1) ((m (1, j, 3) (Int32.toNatClampNeg p1)) - p3)) _
  generalize hmm2 : ch_wr m (1, j, 3) (Int32.toNatClampNeg p1) ((m (1, j, 3) (Int32.toNatClampNeg p1)) - p3) = m2
  replace h := h m2 hmm2.symm
  refine ch_aload_n (i := 0) d_y_handOver_10 rfl rfl ?_
  refine ch_get (v := .inr (1, j, 3)) d_y_handOver_11 fl_y_18 rfl ?_
  refine ch_iload_n (i := 2) d_y_handOver_14 rfl rfl ?_
  refine ch_dup2 d_y_handOver_15 rfl rfl ?_
  have b3 := h.1
  replace h := h.2
  refine ch_iald (n := 5) d_y_handOver_16 (by decide) rfl b3 ?_
  refine ch_iload_n (i := 3) d_y_handOver_17 rfl rfl ?_
  refine ch_iadd d_y_handOver_18 ?_
  refine ch_iast (n := 5) d_y_handOver_19 (by decide) rfl b3 ?_
  show ch_J g _ _ _ _ _ _ (ch_wr m2 (1, j, 3) (Int32.toNatClampNeg p2) ((m2 (1, j, 3) (Int32.toNatClampNeg p2)) + p3)) _
  generalize hmm4 : ch_wr m2 (1, j, 3) (Int32.toNatClampNeg p2) ((m2 (1, j, 3) (Int32.toNatClampNeg p2)) + p3) = m4
  replace h := h m4 hmm4.symm
  refine ch_aload_n (i := 0) d_y_handOver_20 rfl rfl ?_
  refine ch_get (v := .inr (1, j, 3)) d_y_handOver_21 fl_y_18 rfl ?_
  refine ch_iload_n (i := 1) d_y_handOver_24 rfl rfl ?_
  refine ch_iald (n := 5) d_y_handOver_25 (by decide) rfl b1 ?_
  exact ch_iret (ty := .int) d_y_handOver_26 rfl rfl (Nat.le_of_ble_eq_true rfl) h
