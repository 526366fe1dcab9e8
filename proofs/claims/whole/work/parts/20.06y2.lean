theorem e_y_closeOrder (g : ch_G) (Q : ch_O → ch_M → Prop) (j : Nat) (m : ch_M) (h : ch_J g m_y_closeOrder (ch_rm m_y_closeOrder) (ch_E g m_y_closeOrder Q) 0 [some (.inr (1, j, 0)), none, none, none] [] m 0) : ch_C g m_y_closeOrder [.inr (1, j, 0)] m Q :=
  ch_enter mf_y_closeOrder (by intro v hv; simp only [List.mem_cons, List.not_mem_nil, or_false] at hv; rcases hv with rfl <;> rfl) (Nat.le_of_ble_eq_true rfl) h
set_option maxHeartbeats 1600000 in
theorem g_y_closeOrder_0 (g : ch_G) (Q : ch_O → ch_M → Prop) (j : Nat) (m : ch_M) (h : ch_J g m_y_closeOrder (ch_rm m_y_closeOrder) (ch_E g m_y_closeOrder Q) 4 [some (.inr (1, j, 0)), some (.inl (.int 0)), some (.inl (.int 0)), none] [] m 0) : ch_J g m_y_closeOrder (ch_rm m_y_closeOrder) (ch_E g m_y_closeOrder Q) 0 [some (.inr (1, j, 0)), none, none, none] [] m 0 := by
  refine ch_iconst (v := 0) d_y_closeOrder_0 (by decide) ?_
  refine ch_istore_n (i := 1) d_y_closeOrder_1 rfl (Nat.le_of_ble_eq_true rfl) (ls' := [some (.inr (1, j, 0)), some (.inl (.int 0)), none, none]) rfl ?_
  refine ch_iconst (v := 0) d_y_closeOrder_2 (by decide) ?_
  refine ch_istore_n (i := 2) d_y_closeOrder_3 rfl (Nat.le_of_ble_eq_true rfl) (ls' := [some (.inr (1, j, 0)), some (.inl (.int 0)), some (.inl (.int 0)), none]) rfl ?_
  exact h
set_option maxHeartbeats 1600000 in
theorem g_y_closeOrder_4 (g : ch_G) (Q : ch_O → ch_M → Prop) (j : Nat) (x1 : Int32) (x2 : Int32) (o3 : Option ch_V) (m : ch_M) (h : (((m (1, j, 0) 9) ≤ x2 → (∀ m1 : ch_M, m1 = ch_wr m (1, j, 0) 9 x1 → Q (.inl (some (.inl (.int ((m (1, j, 0) 9) - x1))))) m1)) ∧ (¬ (m (1, j, 0) 9) ≤ x2 → (vp_in x2 5) ∧ (vp_in (m (1, j, 8) (Int32.toNatClampNeg x2)) 5) ∧ (((m (1, j, 5) (Int32.toNatClampNeg (m (1, j, 8) (Int32.toNatClampNeg x2)))) ≤ 0 → ch_J g m_y_closeOrder (ch_rm m_y_closeOrder) (ch_E g m_y_closeOrder Q) 4 [some (.inr (1, j, 0)), some (.inl (.int x1)), some (.inl (.int (x2 + 1))), some (.inl (.int (m (1, j, 8) (Int32.toNatClampNeg x2))))] [] m 0) ∧ (¬ (m (1, j, 5) (Int32.toNatClampNeg (m (1, j, 8) (Int32.toNatClampNeg x2)))) ≤ 0 → (vp_in x1 5) ∧ (∀ m5 : ch_M, m5 = ch_wr m (1, j, 8) (Int32.toNatClampNeg x1) (m (1, j, 8) (Int32.toNatClampNeg x2)) → ch_J g m_y_closeOrder (ch_rm m_y_closeOrder) (ch_E g m_y_closeOrder Q) 4 [some (.inr (1, j, 0)), some (.inl (.int (x1 + 1))), some (.inl (.int (x2 + 1))), some (.inl (.int (m (1, j, 8) (Int32.toNatClampNeg x2))))] [] m5 0)))))) : ch_J g m_y_closeOrder (ch_rm m_y_closeOrder) (ch_E g m_y_closeOrder Q) 4 [some (.inr (1, j, 0)), some (.inl (.int x1)), some (.inl (.int x2)), o3] [] m 0 := by
  refine ch_iload_n (i := 2) d_y_closeOrder_4 rfl rfl ?_
  refine ch_aload_n (i := 0) d_y_closeOrder_5 rfl rfl ?_
  refine ch_get (v := .inl (.int (m (1, j, 0) 9))) d_y_closeOrder_6 fl_y_46 rfl ?_
  refine ch_icmp_ge (tgt := 44) d_y_closeOrder_9 (by decide) (fun c => ?_) (fun c => ?_)
  · replace h := h.1 c
    refine ch_aload_n (i := 0) d_y_closeOrder_44 rfl rfl ?_
    refine ch_get (v := .inl (.int (m (1, j, 0) 9))) d_y_closeOrder_45 fl_y_46 rfl ?_
    refine ch_iload_n (i := 1) d_y_closeOrder_48 rfl rfl ?_
    refine ch_isub d_y_closeOrder_49 ?_
    refine ch_istore_n (i := 2) d_y_closeOrder_50 rfl (Nat.le_of_ble_eq_true rfl) (ls' := [some (.inr (1, j, 0)), some (.inl (.int x1)), some (.inl (.int ((m (1, j, 0) 9) - x1))), o3]) rfl ?_
    refine ch_aload_n (i := 0) d_y_closeOrder_51 rfl rfl ?_
    refine ch_iload_n (i := 1) d_y_closeOrder_52 rfl rfl ?_
    refine ch_put d_y_closeOrder_53 fp_y_46 rfl rfl rfl ?_
    generalize hmm1 : ch_wr m (1, j, 0) 9 x1 = m1
    replace h := h m1 hmm1.symm
    refine ch_iload_n (i := 2) d_y_closeOrder_56 rfl rfl ?_
    exact ch_iret (ty := .int) d_y_closeOrder_57 rfl rfl (Nat.le_of_ble_eq_true rfl) h
  · replace h := h.2 c
    refine ch_aload_n (i := 0) d_y_closeOrder_12 rfl rfl ?_
    refine ch_get (v := .inr (1, j, 8)) d_y_closeOrder_13 fl_y_33 rfl ?_
    refine ch_iload_n (i := 2) d_y_closeOrder_16 rfl rfl ?_
    have b2 := h.1
    replace h := h.2
    refine ch_iald (n := 5) d_y_closeOrder_17 (by decide) rfl b2 ?_
    refine ch_istore_n (i := 3) d_y_closeOrder_18 rfl (Nat.le_of_ble_eq_true rfl) (ls' := [some (.inr (1, j, 0)), some (.inl (.int x1)), some (.inl (.int x2)), some (.inl (.int (m (1, j, 8) (Int32.toNatClampNeg x2))))]) rfl ?_
    refine ch_aload_n (i := 0) d_y_closeOrder_19 rfl rfl ?_
    refine ch_get (v := .inr (1, j, 5)) d_y_closeOrder_20 fl_y_24 rfl ?_
    refine ch_iload_n (i := 3) d_y_closeOrder_23 rfl rfl ?_
    have b3 := h.1
    replace h := h.2
    refine ch_iald (n := 5) d_y_closeOrder_24 (by decide) rfl b3 ?_
    refine ch_if_le (tgt := 38) d_y_closeOrder_25 (by decide) (fun c => ?_) (fun c => ?_)
    · replace h := h.1 c
      refine ch_iinc (i := 2) (v := (x2 + 1)) d_y_closeOrder_38 rfl rfl (Nat.le_of_ble_eq_true rfl) (ls' := [some (.inr (1, j, 0)), some (.inl (.int x1)), some (.inl (.int (x2 + 1))), some (.inl (.int (m (1, j, 8) (Int32.toNatClampNeg x2))))]) rfl ?_
      refine ch_goto (tgt := 4) d_y_closeOrder_41 (by decide) ?_
      exact h
    · replace h := h.2 c
      refine ch_aload_n (i := 0) d_y_closeOrder_28 rfl rfl ?_
      refine ch_get (v := .inr (1, j, 8)) d_y_closeOrder_29 fl_y_33 rfl ?_
      refine ch_iload_n (i := 1) d_y_closeOrder_32 rfl rfl ?_
      refine ch_iload_n (i := 3) d_y_closeOrder_33 rfl rfl ?_
      have b4 := h.1
      replace h := h.2
      refine ch_iast (n := 5) d_y_closeOrder_34 (by decide) rfl b4 ?_
      show ch_J g _ _ _ _ _ _ (ch_wr m (1, j, 8) (Int32.toNatClampNeg x1) (m (1, j, 8) (Int32.toNatClampNeg x2))) _
      generalize hmm5 : ch_wr m (1, j, 8) (Int32.toNatClampNeg x1) (m (1, j, 8) (Int32.toNatClampNeg x2)) = m5
      replace h := h m5 hmm5.symm
      refine ch_iinc (i := 1) (v := (x1 + 1)) d_y_closeOrder_35 rfl rfl (Nat.le_of_ble_eq_true rfl) (ls' := [some (.inr (1, j, 0)), some (.inl (.int (x1 + 1))), some (.inl (.int x2)), some (.inl (.int (m (1, j, 8) (Int32.toNatClampNeg x2))))]) rfl ?_
      refine ch_iinc (i := 2) (v := (x2 + 1)) d_y_closeOrder_38 rfl rfl (Nat.le_of_ble_eq_true rfl) (ls' := [some (.inr (1, j, 0)), some (.inl (.int (x1 + 1))), some (.inl (.int (x2 + 1))), some (.inl (.int (m (1, j, 8) (Int32.toNatClampNeg x2))))]) rfl ?_
      refine ch_goto (tgt := 4) d_y_closeOrder_41 (by decide) ?_
      exact h
theorem e_y_hasChild (g : ch_G) (Q : ch_O → ch_M → Prop) (j : Nat) (p1 : Int32) (m : ch_M) (h : ch_J g m_y_hasChild (ch_rm m_y_hasChild) (ch_E g m_y_hasChild Q) 0 [some (.inr (1, j, 0)), some (.inl (.int p1))] [] m 0) : ch_C g m_y_hasChild [.inr (1, j, 0), .inl (.int p1)] m Q :=
  ch_enter mf_y_hasChild (by intro v hv; simp only [List.mem_cons, List.not_mem_nil, or_false] at hv; rcases hv with rfl | rfl <;> rfl) (Nat.le_of_ble_eq_true rfl) h
set_option maxHeartbeats 1600000 in
theorem g_y_hasChild_0 (g : ch_G) (Q : ch_O → ch_M → Prop) (j : Nat) (p1 : Int32) (m : ch_M) (h : ((p1 < 0 → Q (.inl (some (.inl (.int 0)))) m) ∧ (¬ p1 < 0 → (((m (1, j, 0) 8) ≤ p1 → Q (.inl (some (.inl (.int 0)))) m) ∧ (¬ (m (1, j, 0) 8) ≤ p1 → Q (.inl (some (.inl (.int 1)))) m))))) : ch_J g m_y_hasChild (ch_rm m_y_hasChild) (ch_E g m_y_hasChild Q) 0 [some (.inr (1, j, 0)), some (.inl (.int p1))] [] m 0 := by
  refine ch_iload_n (i := 1) d_y_hasChild_0 rfl rfl ?_
  refine ch_if_lt (tgt := 16) d_y_hasChild_1 (by decide) (fun c => ?_) (fun c => ?_)
  · replace h := h.1 c
    refine ch_iconst (v := 0) d_y_hasChild_16 (by decide) ?_
    exact ch_iret (ty := .boolean) d_y_hasChild_17 rfl rfl (Nat.le_of_ble_eq_true rfl) h
  · replace h := h.2 c
    refine ch_iload_n (i := 1) d_y_hasChild_4 rfl rfl ?_
    refine ch_aload_n (i := 0) d_y_hasChild_5 rfl rfl ?_
    refine ch_get (v := .inl (.int (m (1, j, 0) 8))) d_y_hasChild_6 fl_y_42 rfl ?_
    refine ch_icmp_ge (tgt := 16) d_y_hasChild_9 (by decide) (fun c => ?_) (fun c => ?_)
    · replace h := h.1 c
      refine ch_iconst (v := 0) d_y_hasChild_16 (by decide) ?_
      exact ch_iret (ty := .boolean) d_y_hasChild_17 rfl rfl (Nat.le_of_ble_eq_true rfl) h
    · replace h := h.2 c
      refine ch_iconst (v := 1) d_y_hasChild_12 (by decide) ?_
      refine ch_goto (tgt := 17) d_y_hasChild_13 (by decide) ?_
      exact ch_iret (ty := .boolean) d_y_hasChild_17 rfl rfl (Nat.le_of_ble_eq_true rfl) h
theorem e_y_isLineFor (g : ch_G) (Q : ch_O → ch_M → Prop) (j : Nat) (p1 : Int32) (p2 : Int32) (m : ch_M) (h : ch_J g m_y_isLineFor (ch_rm m_y_isLineFor) (ch_E g m_y_isLineFor Q) 0 [some (.inr (1, j, 0)), some (.inl (.int p1)), some (.inl (.int p2))] [] m 0) : ch_C g m_y_isLineFor [.inr (1, j, 0), .inl (.int p1), .inl (.int p2)] m Q :=
  ch_enter mf_y_isLineFor (by intro v hv; simp only [List.mem_cons, List.not_mem_nil, or_false] at hv; rcases hv with rfl | rfl | rfl <;> rfl) (Nat.le_of_ble_eq_true rfl) h
set_option maxHeartbeats 1600000 in
theorem g_y_isLineFor_0 (g : ch_G) (Q : ch_O → ch_M → Prop) (j : Nat) (p1 : Int32) (p2 : Int32) (m : ch_M) (h : ((p2 < 0 → Q (.inl (some (.inl (.int 0)))) m) ∧ (¬ p2 < 0 → ((12 ≤ p2 → Q (.inl (some (.inl (.int 0)))) m) ∧ (¬ 12 ≤ p2 → (vp_in p2 12) ∧ (((m (1, j, 1) (Int32.toNatClampNeg p2)) = (-1) → Q (.inl (some (.inl (.int 0)))) m) ∧ (¬ (m (1, j, 1) (Int32.toNatClampNeg p2)) = (-1) → (((m (1, j, 1) (Int32.toNatClampNeg p2)) = p1 → Q (.inl (some (.inl (.int 0)))) m) ∧ (¬ (m (1, j, 1) (Int32.toNatClampNeg p2)) = p1 → Q (.inl (some (.inl (.int 1)))) m))))))))) : ch_J g m_y_isLineFor (ch_rm m_y_isLineFor) (ch_E g m_y_isLineFor Q) 0 [some (.inr (1, j, 0)), some (.inl (.int p1)), some (.inl (.int p2))] [] m 0 := by
  refine ch_iload_n (i := 2) d_y_isLineFor_0 rfl rfl ?_
  refine ch_if_lt (tgt := 34) d_y_isLineFor_1 (by decide) (fun c => ?_) (fun c => ?_)
  · replace h := h.1 c
    refine ch_iconst (v := 0) d_y_isLineFor_34 (by decide) ?_
    exact ch_iret (ty := .boolean) d_y_isLineFor_35 rfl rfl (Nat.le_of_ble_eq_true rfl) h
  · replace h := h.2 c
    refine ch_iload_n (i := 2) d_y_isLineFor_4 rfl rfl ?_
    refine ch_bipush (v := 12) d_y_isLineFor_5 (by decide) ?_
    refine ch_icmp_ge (tgt := 34) d_y_isLineFor_7 (by decide) (fun c => ?_) (fun c => ?_)
    · replace h := h.1 c
      refine ch_iconst (v := 0) d_y_isLineFor_34 (by decide) ?_
      exact ch_iret (ty := .boolean) d_y_isLineFor_35 rfl rfl (Nat.le_of_ble_eq_true rfl) h
    · replace h := h.2 c
      refine ch_aload_n (i := 0) d_y_isLineFor_10 rfl rfl ?_
      refine ch_get (v := .inr (1, j, 1)) d_y_isLineFor_11 fl_y_9 rfl ?_
      refine ch_iload_n (i := 2) d_y_isLineFor_14 rfl rfl ?_
      have b1 := h.1
      replace h := h.2
      refine ch_iald (n := 12) d_y_isLineFor_15 (by decide) rfl b1 ?_
      refine ch_iconst (v := (-1)) d_y_isLineFor_16 (by decide) ?_
      refine ch_icmp_eq (tgt := 34) d_y_isLineFor_17 (by decide) (fun c => ?_) (fun c => ?_)
      · replace h := h.1 c
        refine ch_iconst (v := 0) d_y_isLineFor_34 (by decide) ?_
        exact ch_iret (ty := .boolean) d_y_isLineFor_35 rfl rfl (Nat.le_of_ble_eq_true rfl) h
      · replace h := h.2 c
        refine ch_aload_n (i := 0) d_y_isLineFor_20 rfl rfl ?_
        refine ch_get (v := .inr (1, j, 1)) d_y_isLineFor_21 fl_y_9 rfl ?_
        refine ch_iload_n (i := 2) d_y_isLineFor_24 rfl rfl ?_
        refine ch_iald (n := 12) d_y_isLineFor_25 (by decide) rfl b1 ?_
        refine ch_iload_n (i := 1) d_y_isLineFor_26 rfl rfl ?_
        refine ch_icmp_eq (tgt := 34) d_y_isLineFor_27 (by decide) (fun c => ?_) (fun c => ?_)
        · replace h := h.1 c
          refine ch_iconst (v := 0) d_y_isLineFor_34 (by decide) ?_
          exact ch_iret (ty := .boolean) d_y_isLineFor_35 rfl rfl (Nat.le_of_ble_eq_true rfl) h
        · replace h := h.2 c
          refine ch_iconst (v := 1) d_y_isLineFor_30 (by decide) ?_
          refine ch_goto (tgt := 35) d_y_isLineFor_31 (by decide) ?_
          exact ch_iret (ty := .boolean) d_y_isLineFor_35 rfl rfl (Nat.le_of_ble_eq_true rfl) h
theorem e_y_countTreads (g : ch_G) (Q : ch_O → ch_M → Prop) (j : Nat) (p1 : Int32) (j2 : Nat) (m : ch_M) (h : ch_J g m_y_countTreads (ch_rm m_y_countTreads) (ch_E g m_y_countTreads Q) 0 [some (.inr (1, j, 0)), some (.inl (.int p1)), some (.inr (5, j2, 0)), none, none, none] [] m 0) : ch_C g m_y_countTreads [.inr (1, j, 0), .inl (.int p1), .inr (5, j2, 0)] m Q :=
  ch_enter mf_y_countTreads (by intro v hv; simp only [List.mem_cons, List.not_mem_nil, or_false] at hv; rcases hv with rfl | rfl | rfl <;> rfl) (Nat.le_of_ble_eq_true rfl) h
set_option maxHeartbeats 1600000 in
theorem g_y_countTreads_0 (g : ch_G) (Q : ch_O → ch_M → Prop) (j : Nat) (p1 : Int32) (j2 : Nat) (m : ch_M) (h : ch_J g m_y_countTreads (ch_rm m_y_countTreads) (ch_E g m_y_countTreads Q) 8 [some (.inr (1, j, 0)), some (.inl (.int p1)), some (.inr (5, j2, 0)), some (.inl (.int 0)), some (.inl (.int (-1))), some (.inl (.int 0))] [] m 0) : ch_J g m_y_countTreads (ch_rm m_y_countTreads) (ch_E g m_y_countTreads Q) 0 [some (.inr (1, j, 0)), some (.inl (.int p1)), some (.inr (5, j2, 0)), none, none, none] [] m 0 := by
  refine ch_iconst (v := 0) d_y_countTreads_0 (by decide) ?_
  refine ch_istore_n (i := 3) d_y_countTreads_1 rfl (Nat.le_of_ble_eq_true rfl) (ls' := [some (.inr (1, j, 0)), some (.inl (.int p1)), some (.inr (5, j2, 0)), some (.inl (.int 0)), none, none]) rfl ?_
  refine ch_iconst (v := (-1)) d_y_countTreads_2 (by decide) ?_
  refine ch_istore (i := 4) d_y_countTreads_3 (Nat.le_of_ble_eq_true rfl) (ls' := [some (.inr (1, j, 0)), some (.inl (.int p1)), some (.inr (5, j2, 0)), some (.inl (.int 0)), some (.inl (.int (-1))), none]) rfl ?_
  refine ch_iconst (v := 0) d_y_countTreads_5 (by decide) ?_
  refine ch_istore (i := 5) d_y_countTreads_6 (Nat.le_of_ble_eq_true rfl) (ls' := [some (.inr (1, j, 0)), some (.inl (.int p1)), some (.inr (5, j2, 0)), some (.inl (.int 0)), some (.inl (.int (-1))), some (.inl (.int 0))]) rfl ?_
  exact h
set_option maxHeartbeats 1600000 in
theorem g_y_countTreads_8 (g : ch_G) (Q : ch_O → ch_M → Prop) (j : Nat) (x1 : Int32) (j2 : Nat) (x3 : Int32) (x4 : Int32) (x5 : Int32) (m : ch_M) (h : (((m (5, j2, 0) 1) ≤ x5 → Q (.inl (some (.inl (.int x3)))) m) ∧ (¬ (m (5, j2, 0) 1) ≤ x5 → (vp_in x5 12) ∧ (ch_C g m_y_isLineFor [.inr (1, j, 0), .inl (.int x1), .inl (.int (x4 + (m (5, j2, 1) (Int32.toNatClampNeg x5))))] m (ch_oi (fun (r2 : Int32) (m3 : ch_M) => ((r2 = 0 → ch_J g m_y_countTreads (ch_rm m_y_countTreads) (ch_E g m_y_countTreads Q) 8 [some (.inr (1, j, 0)), some (.inl (.int x1)), some (.inr (5, j2, 0)), some (.inl (.int x3)), some (.inl (.int (x4 + (m (5, j2, 1) (Int32.toNatClampNeg x5))))), some (.inl (.int (x5 + 1)))] [] m3 0) ∧ (¬ r2 = 0 → ch_J g m_y_countTreads (ch_rm m_y_countTreads) (ch_E g m_y_countTreads Q) 8 [some (.inr (1, j, 0)), some (.inl (.int x1)), some (.inr (5, j2, 0)), some (.inl (.int (x3 + 1))), some (.inl (.int (x4 + (m (5, j2, 1) (Int32.toNatClampNeg x5))))), some (.inl (.int (x5 + 1)))] [] m3 0)))))))) : ch_J g m_y_countTreads (ch_rm m_y_countTreads) (ch_E g m_y_countTreads Q) 8 [some (.inr (1, j, 0)), some (.inl (.int x1)), some (.inr (5, j2, 0)), some (.inl (.int x3)), some (.inl (.int x4)), some (.inl (.int x5))] [] m 0 := by
  refine ch_iload d_y_countTreads_8 rfl ?_
  refine ch_aload_n (i := 2) d_y_countTreads_10 rfl rfl ?_
  refine ch_get (v := .inl (.int (m (5, j2, 0) 1))) d_y_countTreads_11 fl_y_125 rfl ?_
  refine ch_icmp_ge (tgt := 48) d_y_countTreads_14 (by decide) (fun c => ?_) (fun c => ?_)
  · replace h := h.1 c
    refine ch_iload_n (i := 3) d_y_countTreads_48 rfl rfl ?_
    exact ch_iret (ty := .int) d_y_countTreads_49 rfl rfl (Nat.le_of_ble_eq_true rfl) h
  · replace h := h.2 c
    refine ch_iload d_y_countTreads_17 rfl ?_
    refine ch_aload_n (i := 2) d_y_countTreads_19 rfl rfl ?_
    refine ch_get (v := .inr (5, j2, 1)) d_y_countTreads_20 fl_y_130 rfl ?_
    refine ch_iload d_y_countTreads_23 rfl ?_
    have b1 := h.1
    replace h := h.2
    refine ch_iald (n := 12) d_y_countTreads_25 (by decide) rfl b1 ?_
    refine ch_iadd d_y_countTreads_26 ?_
    refine ch_istore (i := 4) d_y_countTreads_27 (Nat.le_of_ble_eq_true rfl) (ls' := [some (.inr (1, j, 0)), some (.inl (.int x1)), some (.inr (5, j2, 0)), some (.inl (.int x3)), some (.inl (.int (x4 + (m (5, j2, 1) (Int32.toNatClampNeg x5))))), some (.inl (.int x5))]) rfl ?_
    refine ch_aload_n (i := 0) d_y_countTreads_29 rfl rfl ?_
    refine ch_iload_n (i := 1) d_y_countTreads_30 rfl rfl ?_
    refine ch_iload d_y_countTreads_31 rfl ?_
    refine ch_callV (as := [.inl (.int x1), .inl (.int (x4 + (m (5, j2, 1) (Int32.toNatClampNeg x5))))]) d_y_countTreads_33 lk_y_133 mi_y_isLineFor me_y_isLineFor rfl rfl rfl ⟨Nat.le_of_ble_eq_true rfl, Nat.le_of_ble_eq_true rfl⟩ (Nat.le_of_ble_eq_true rfl) ⟨Nat.le_of_ble_eq_true rfl, Nat.le_of_ble_eq_true rfl⟩ (ch_mono (ch_Ki (fun r2 m3 h => ?_)) h)
    refine ch_if_eq (tgt := 42) d_y_countTreads_36 (by decide) (fun c => ?_) (fun c => ?_)
    · replace h := h.1 c
      refine ch_iinc (i := 5) (v := (x5 + 1)) d_y_countTreads_42 rfl rfl (Nat.le_of_ble_eq_true rfl) (ls' := [some (.inr (1, j, 0)), some (.inl (.int x1)), some (.inr (5, j2, 0)), some (.inl (.int x3)), some (.inl (.int (x4 + (m (5, j2, 1) (Int32.toNatClampNeg x5))))), some (.inl (.int (x5 + 1)))]) rfl ?_
      refine ch_goto (tgt := 8) d_y_countTreads_45 (by decide) ?_
      exact h
    · replace h := h.2 c
      refine ch_iinc (i := 3) (v := (x3 + 1)) d_y_countTreads_39 rfl rfl (Nat.le_of_ble_eq_true rfl) (ls' := [some (.inr (1, j, 0)), some (.inl (.int x1)), some (.inr (5, j2, 0)), some (.inl (.int (x3 + 1))), some (.inl (.int (x4 + (m (5, j2, 1) (Int32.toNatClampNeg x5))))), some (.inl (.int x5))]) rfl ?_
      refine ch_iinc (i := 5) (v := (x5 + 1)) d_y_countTreads_42 rfl rfl (Nat.le_of_ble_eq_true rfl) (ls' := [some (.inr (1, j, 0)), some (.inl (.int x1)), some (.inr (5, j2, 0)), some (.inl (.int (x3 + 1))), some (.inl (.int (x4 + (m (5, j2, 1) (Int32.toNatClampNeg x5))))), some (.inl (.int (x5 + 1)))]) rfl ?_
      refine ch_goto (tgt := 8) d_y_countTreads_45 (by decide) ?_
      exact h
theorem e_y_countOwned (g : ch_G) (Q : ch_O → ch_M → Prop) (j : Nat) (p1 : Int32) (m : ch_M) (h : ch_J g m_y_countOwned (ch_rm m_y_countOwned) (ch_E g m_y_countOwned Q) 0 [some (.inr (1, j, 0)), some (.inl (.int p1)), none, none] [] m 0) : ch_C g m_y_countOwned [.inr (1, j, 0), .inl (.int p1)] m Q :=
  ch_enter mf_y_countOwned (by intro v hv; simp only [List.mem_cons, List.not_mem_nil, or_false] at hv; rcases hv with rfl | rfl <;> rfl) (Nat.le_of_ble_eq_true rfl) h
set_option maxHeartbeats 1600000 in
theorem g_y_countOwned_0 (g : ch_G) (Q : ch_O → ch_M → Prop) (j : Nat) (p1 : Int32) (m : ch_M) (h : ch_J g m_y_countOwned (ch_rm m_y_countOwned) (ch_E g m_y_countOwned Q) 4 [some (.inr (1, j, 0)), some (.inl (.int p1)), some (.inl (.int 0)), some (.inl (.int 0))] [] m 0) : ch_J g m_y_countOwned (ch_rm m_y_countOwned) (ch_E g m_y_countOwned Q) 0 [some (.inr (1, j, 0)), some (.inl (.int p1)), none, none] [] m 0 := by
  refine ch_iconst (v := 0) d_y_countOwned_0 (by decide) ?_
  refine ch_istore_n (i := 2) d_y_countOwned_1 rfl (Nat.le_of_ble_eq_true rfl) (ls' := [some (.inr (1, j, 0)), some (.inl (.int p1)), some (.inl (.int 0)), none]) rfl ?_
  refine ch_iconst (v := 0) d_y_countOwned_2 (by decide) ?_
  refine ch_istore_n (i := 3) d_y_countOwned_3 rfl (Nat.le_of_ble_eq_true rfl) (ls' := [some (.inr (1, j, 0)), some (.inl (.int p1)), some (.inl (.int 0)), some (.inl (.int 0))]) rfl ?_
  exact h
set_option maxHeartbeats 1600000 in
theorem g_y_countOwned_4 (g : ch_G) (Q : ch_O → ch_M → Prop) (j : Nat) (x1 : Int32) (x2 : Int32) (x3 : Int32) (m : ch_M) (h : ((12 ≤ x3 → Q (.inl (some (.inl (.int x2)))) m) ∧ (¬ 12 ≤ x3 → (vp_in x3 12) ∧ ((¬ (m (1, j, 1) (Int32.toNatClampNeg x3)) = x1 → ch_J g m_y_countOwned (ch_rm m_y_countOwned) (ch_E g m_y_countOwned Q) 4 [some (.inr (1, j, 0)), some (.inl (.int x1)), some (.inl (.int x2)), some (.inl (.int (x3 + 1)))] [] m 0) ∧ ((m (1, j, 1) (Int32.toNatClampNeg x3)) = x1 → ch_J g m_y_countOwned (ch_rm m_y_countOwned) (ch_E g m_y_countOwned Q) 4 [some (.inr (1, j, 0)), some (.inl (.int x1)), some (.inl (.int (x2 + 1))), some (.inl (.int (x3 + 1)))] [] m 0))))) : ch_J g m_y_countOwned (ch_rm m_y_countOwned) (ch_E g m_y_countOwned Q) 4 [some (.inr (1, j, 0)), some (.inl (.int x1)), some (.inl (.int x2)), some (.inl (.int x3))] [] m 0 := by
  refine ch_iload_n (i := 3) d_y_countOwned_4 rfl rfl ?_
  refine ch_bipush (v := 12) d_y_countOwned_5 (by decide) ?_
  refine ch_icmp_ge (tgt := 29) d_y_countOwned_7 (by decide) (fun c => ?_) (fun c => ?_)
  · replace h := h.1 c
    refine ch_iload_n (i := 2) d_y_countOwned_29 rfl rfl ?_
    exact ch_iret (ty := .int) d_y_countOwned_30 rfl rfl (Nat.le_of_ble_eq_true rfl) h
  · replace h := h.2 c
    refine ch_aload_n (i := 0) d_y_countOwned_10 rfl rfl ?_
    refine ch_get (v := .inr (1, j, 1)) d_y_countOwned_11 fl_y_9 rfl ?_
    refine ch_iload_n (i := 3) d_y_countOwned_14 rfl rfl ?_
    have b1 := h.1
    replace h := h.2
    refine ch_iald (n := 12) d_y_countOwned_15 (by decide) rfl b1 ?_
    refine ch_iload_n (i := 1) d_y_countOwned_16 rfl rfl ?_
    refine ch_icmp_ne (tgt := 23) d_y_countOwned_17 (by decide) (fun c => ?_) (fun c => ?_)
    · replace h := h.1 c
      refine ch_iinc (i := 3) (v := (x3 + 1)) d_y_countOwned_23 rfl rfl (Nat.le_of_ble_eq_true rfl) (ls' := [some (.inr (1, j, 0)), some (.inl (.int x1)), some (.inl (.int x2)), some (.inl (.int (x3 + 1)))]) rfl ?_
      refine ch_goto (tgt := 4) d_y_countOwned_26 (by decide) ?_
      exact h
    · replace h := h.2 c
      refine ch_iinc (i := 2) (v := (x2 + 1)) d_y_countOwned_20 rfl rfl (Nat.le_of_ble_eq_true rfl) (ls' := [some (.inr (1, j, 0)), some (.inl (.int x1)), some (.inl (.int (x2 + 1))), some (.inl (.int x3))]) rfl ?_
      refine ch_iinc (i := 3) (v := (x3 + 1)) d_y_countOwned_23 rfl rfl (Nat.le_of_ble_eq_true rfl) (ls' := [some (.inr (1, j, 0)), some (.inl (.int x1)), some (.inl (.int (x2 + 1))), some (.inl (.int (x3 + 1)))]) rfl ?_
      refine ch_goto (tgt := 4) d_y_countOwned_26 (by decide) ?_
      exact h
theorem e_y_ownedFrom (g : ch_G) (Q : ch_O → ch_M → Prop) (j : Nat) (p1 : Int32) (p2 : Int32) (m : ch_M) (h : ch_J g m_y_ownedFrom (ch_rm m_y_ownedFrom) (ch_E g m_y_ownedFrom Q) 0 [some (.inr (1, j, 0)), some (.inl (.int p1)), some (.inl (.int p2)), none, none, none] [] m 0) : ch_C g m_y_ownedFrom [.inr (1, j, 0), .inl (.int p1), .inl (.int p2)] m Q :=
  ch_enter mf_y_ownedFrom (by intro v hv; simp only [List.mem_cons, List.not_mem_nil, or_false] at hv; rcases hv with rfl | rfl | rfl <;> rfl) (Nat.le_of_ble_eq_true rfl) h
set_option maxHeartbeats 1600000 in
theorem g_y_ownedFrom_0 (g : ch_G) (Q : ch_O → ch_M → Prop) (j : Nat) (p1 : Int32) (p2 : Int32) (m : ch_M) (h : ch_J g m_y_ownedFrom (ch_rm m_y_ownedFrom) (ch_E g m_y_ownedFrom Q) 8 [some (.inr (1, j, 0)), some (.inl (.int p1)), some (.inl (.int p2)), some (.inl (.int 0)), some (.inl (.int 0)), some (.inl (.int 0))] [] m 0) : ch_J g m_y_ownedFrom (ch_rm m_y_ownedFrom) (ch_E g m_y_ownedFrom Q) 0 [some (.inr (1, j, 0)), some (.inl (.int p1)), some (.inl (.int p2)), none, none, none] [] m 0 := by
  refine ch_iconst (v := 0) d_y_ownedFrom_0 (by decide) ?_
  refine ch_istore_n (i := 3) d_y_ownedFrom_1 rfl (Nat.le_of_ble_eq_true rfl) (ls' := [some (.inr (1, j, 0)), some (.inl (.int p1)), some (.inl (.int p2)), some (.inl (.int 0)), none, none]) rfl ?_
  refine ch_iconst (v := 0) d_y_ownedFrom_2 (by decide) ?_
  refine ch_istore (i := 4) d_y_ownedFrom_3 (Nat.le_of_ble_eq_true rfl) (ls' := [some (.inr (1, j, 0)), some (.inl (.int p1)), some (.inl (.int p2)), some (.inl (.int 0)), some (.inl (.int 0)), none]) rfl ?_
  refine ch_iconst (v := 0) d_y_ownedFrom_5 (by decide) ?_
  refine ch_istore (i := 5) d_y_ownedFrom_6 (Nat.le_of_ble_eq_true rfl) (ls' := [some (.inr (1, j, 0)), some (.inl (.int p1)), some (.inl (.int p2)), some (.inl (.int 0)), some (.inl (.int 0)), some (.inl (.int 0))]) rfl ?_
  exact h
set_option maxHeartbeats 1600000 in
theorem g_y_ownedFrom_8 (g : ch_G) (Q : ch_O → ch_M → Prop) (j : Nat) (x1 : Int32) (x2 : Int32) (x3 : Int32) (x4 : Int32) (x5 : Int32) (m : ch_M) (h : ((12 ≤ x5 → Q (.inl (some (.inl (.int x3)))) m) ∧ (¬ 12 ≤ x5 → (vp_in x5 12) ∧ ((¬ (m (1, j, 1) (Int32.toNatClampNeg x5)) = x1 → ch_J g m_y_ownedFrom (ch_rm m_y_ownedFrom) (ch_E g m_y_ownedFrom Q) 8 [some (.inr (1, j, 0)), some (.inl (.int x1)), some (.inl (.int x2)), some (.inl (.int x3)), some (.inl (.int x4)), some (.inl (.int (x5 + 1)))] [] m 0) ∧ ((m (1, j, 1) (Int32.toNatClampNeg x5)) = x1 → ((x4 < x2 → ch_J g m_y_ownedFrom (ch_rm m_y_ownedFrom) (ch_E g m_y_ownedFrom Q) 8 [some (.inr (1, j, 0)), some (.inl (.int x1)), some (.inl (.int x2)), some (.inl (.int (x3 ||| 0))), some (.inl (.int (x4 + 1))), some (.inl (.int (x5 + 1)))] [] m 0) ∧ (¬ x4 < x2 → ch_J g m_y_ownedFrom (ch_rm m_y_ownedFrom) (ch_E g m_y_ownedFrom Q) 8 [some (.inr (1, j, 0)), some (.inl (.int x1)), some (.inl (.int x2)), some (.inl (.int (x3 ||| (1 <<< (x5 &&& 31))))), some (.inl (.int (x4 + 1))), some (.inl (.int (x5 + 1)))] [] m 0))))))) : ch_J g m_y_ownedFrom (ch_rm m_y_ownedFrom) (ch_E g m_y_ownedFrom Q) 8 [some (.inr (1, j, 0)), some (.inl (.int x1)), some (.inl (.int x2)), some (.inl (.int x3)), some (.inl (.int x4)), some (.inl (.int x5))] [] m 0 := by
  refine ch_iload d_y_ownedFrom_8 rfl ?_
  refine ch_bipush (v := 12) d_y_ownedFrom_10 (by decide) ?_
  refine ch_icmp_ge (tgt := 52) d_y_ownedFrom_12 (by decide) (fun c => ?_) (fun c => ?_)
  · replace h := h.1 c
    refine ch_iload_n (i := 3) d_y_ownedFrom_52 rfl rfl ?_
    exact ch_iret (ty := .int) d_y_ownedFrom_53 rfl rfl (Nat.le_of_ble_eq_true rfl) h
  · replace h := h.2 c
    refine ch_aload_n (i := 0) d_y_ownedFrom_15 rfl rfl ?_
    refine ch_get (v := .inr (1, j, 1)) d_y_ownedFrom_16 fl_y_9 rfl ?_
    refine ch_iload d_y_ownedFrom_19 rfl ?_
    have b1 := h.1
    replace h := h.2
    refine ch_iald (n := 12) d_y_ownedFrom_21 (by decide) rfl b1 ?_
    refine ch_iload_n (i := 1) d_y_ownedFrom_22 rfl rfl ?_
    refine ch_icmp_ne (tgt := 46) d_y_ownedFrom_23 (by decide) (fun c => ?_) (fun c => ?_)
    · replace h := h.1 c
      refine ch_iinc (i := 5) (v := (x5 + 1)) d_y_ownedFrom_46 rfl rfl (Nat.le_of_ble_eq_true rfl) (ls' := [some (.inr (1, j, 0)), some (.inl (.int x1)), some (.inl (.int x2)), some (.inl (.int x3)), some (.inl (.int x4)), some (.inl (.int (x5 + 1)))]) rfl ?_
      refine ch_goto (tgt := 8) d_y_ownedFrom_49 (by decide) ?_
      exact h
    · replace h := h.2 c
      refine ch_iload_n (i := 3) d_y_ownedFrom_26 rfl rfl ?_
      refine ch_iload d_y_ownedFrom_27 rfl ?_
      refine ch_iload_n (i := 2) d_y_ownedFrom_29 rfl rfl ?_
      refine ch_icmp_lt (tgt := 40) d_y_ownedFrom_30 (by decide) (fun c => ?_) (fun c => ?_)
      · replace h := h.1 c
        refine ch_iconst (v := 0) d_y_ownedFrom_40 (by decide) ?_
        refine ch_ior d_y_ownedFrom_41 ?_
        refine ch_istore_n (i := 3) d_y_ownedFrom_42 rfl (Nat.le_of_ble_eq_true rfl) (ls' := [some (.inr (1, j, 0)), some (.inl (.int x1)), some (.inl (.int x2)), some (.inl (.int (x3 ||| 0))), some (.inl (.int x4)), some (.inl (.int x5))]) rfl ?_
        refine ch_iinc (i := 4) (v := (x4 + 1)) d_y_ownedFrom_43 rfl rfl (Nat.le_of_ble_eq_true rfl) (ls' := [some (.inr (1, j, 0)), some (.inl (.int x1)), some (.inl (.int x2)), some (.inl (.int (x3 ||| 0))), some (.inl (.int (x4 + 1))), some (.inl (.int x5))]) rfl ?_
        refine ch_iinc (i := 5) (v := (x5 + 1)) d_y_ownedFrom_46 rfl rfl (Nat.le_of_ble_eq_true rfl) (ls' := [some (.inr (1, j, 0)), some (.inl (.int x1)), some (.inl (.int x2)), some (.inl (.int (x3 ||| 0))), some (.inl (.int (x4 + 1))), some (.inl (.int (x5 + 1)))]) rfl ?_
        refine ch_goto (tgt := 8) d_y_ownedFrom_49 (by decide) ?_
        exact h
      · replace h := h.2 c
        refine ch_iconst (v := 1) d_y_ownedFrom_33 (by decide) ?_
        refine ch_iload d_y_ownedFrom_34 rfl ?_
        refine ch_ishl d_y_ownedFrom_36 ?_
        refine ch_goto (tgt := 41) d_y_ownedFrom_37 (by decide) ?_
        refine ch_ior d_y_ownedFrom_41 ?_
        refine ch_istore_n (i := 3) d_y_ownedFrom_42 rfl (Nat.le_of_ble_eq_true rfl) (ls' := [some (.inr (1, j, 0)), some (.inl (.int x1)), some (.inl (.int x2)), some (.inl (.int (x3 ||| (1 <<< (x5 &&& 31))))), some (.inl (.int x4)), some (.inl (.int x5))]) rfl ?_
        refine ch_iinc (i := 4) (v := (x4 + 1)) d_y_ownedFrom_43 rfl rfl (Nat.le_of_ble_eq_true rfl) (ls' := [some (.inr (1, j, 0)), some (.inl (.int x1)), some (.inl (.int x2)), some (.inl (.int (x3 ||| (1 <<< (x5 &&& 31))))), some (.inl (.int (x4 + 1))), some (.inl (.int x5))]) rfl ?_
        refine ch_iinc (i := 5) (v := (x5 + 1)) d_y_ownedFrom_46 rfl rfl (Nat.le_of_ble_eq_true rfl) (ls' := [some (.inr (1, j, 0)), some (.inl (.int x1)), some (.inl (.int x2)), some (.inl (.int (x3 ||| (1 <<< (x5 &&& 31))))), some (.inl (.int (x4 + 1))), some (.inl (.int (x5 + 1)))]) rfl ?_
        refine ch_goto (tgt := 8) d_y_ownedFrom_49 (by decide) ?_
        exact h
theorem e_y_sumChalk (g : ch_G) (Q : ch_O → ch_M → Prop) (j : Nat) (p1 : Int32) (m : ch_M) (h : ch_J g m_y_sumChalk (ch_rm m_y_sumChalk) (ch_E g m_y_sumChalk Q) 0 [some (.inr (1, j, 0)), some (.inl (.int p1)), none, none] [] m 0) : ch_C g m_y_sumChalk [.inr (1, j, 0), .inl (.int p1)] m Q :=
  ch_enter mf_y_sumChalk (by intro v hv; simp only [List.mem_cons, List.not_mem_nil, or_false] at hv; rcases hv with rfl | rfl <;> rfl) (Nat.le_of_ble_eq_true rfl) h
set_option maxHeartbeats 1600000 in
theorem g_y_sumChalk_0 (g : ch_G) (Q : ch_O → ch_M → Prop) (j : Nat) (p1 : Int32) (m : ch_M) (h : ch_J g m_y_sumChalk (ch_rm m_y_sumChalk) (ch_E g m_y_sumChalk Q) 4 [some (.inr (1, j, 0)), some (.inl (.int p1)), some (.inl (.int 0)), some (.inl (.int 0))] [] m 0) : ch_J g m_y_sumChalk (ch_rm m_y_sumChalk) (ch_E g m_y_sumChalk Q) 0 [some (.inr (1, j, 0)), some (.inl (.int p1)), none, none] [] m 0 := by
  refine ch_iconst (v := 0) d_y_sumChalk_0 (by decide) ?_
  refine ch_istore_n (i := 2) d_y_sumChalk_1 rfl (Nat.le_of_ble_eq_true rfl) (ls' := [some (.inr (1, j, 0)), some (.inl (.int p1)), some (.inl (.int 0)), none]) rfl ?_
  refine ch_iconst (v := 0) d_y_sumChalk_2 (by decide) ?_
  refine ch_istore_n (i := 3) d_y_sumChalk_3 rfl (Nat.le_of_ble_eq_true rfl) (ls' := [some (.inr (1, j, 0)), some (.inl (.int p1)), some (.inl (.int 0)), some (.inl (.int 0))]) rfl ?_
  exact h
set_option maxHeartbeats 1600000 in
theorem g_y_sumChalk_4 (g : ch_G) (Q : ch_O → ch_M → Prop) (j : Nat) (x1 : Int32) (x2 : Int32) (x3 : Int32) (m : ch_M) (h : ((12 ≤ x3 → Q (.inl (some (.inl (.int x2)))) m) ∧ (¬ 12 ≤ x3 → (vp_in x3 12) ∧ ((¬ (m (1, j, 1) (Int32.toNatClampNeg x3)) = x1 → ch_J g m_y_sumChalk (ch_rm m_y_sumChalk) (ch_E g m_y_sumChalk Q) 4 [some (.inr (1, j, 0)), some (.inl (.int x1)), some (.inl (.int (x2 + 0))), some (.inl (.int (x3 + 1)))] [] m 0) ∧ ((m (1, j, 1) (Int32.toNatClampNeg x3)) = x1 → ch_J g m_y_sumChalk (ch_rm m_y_sumChalk) (ch_E g m_y_sumChalk Q) 4 [some (.inr (1, j, 0)), some (.inl (.int x1)), some (.inl (.int (x2 + (m (1, j, 2) (Int32.toNatClampNeg x3))))), some (.inl (.int (x3 + 1)))] [] m 0))))) : ch_J g m_y_sumChalk (ch_rm m_y_sumChalk) (ch_E g m_y_sumChalk Q) 4 [some (.inr (1, j, 0)), some (.inl (.int x1)), some (.inl (.int x2)), some (.inl (.int x3))] [] m 0 := by
  refine ch_iload_n (i := 3) d_y_sumChalk_4 rfl rfl ?_
  refine ch_bipush (v := 12) d_y_sumChalk_5 (by decide) ?_
  refine ch_icmp_ge (tgt := 39) d_y_sumChalk_7 (by decide) (fun c => ?_) (fun c => ?_)
  · replace h := h.1 c
    refine ch_iload_n (i := 2) d_y_sumChalk_39 rfl rfl ?_
    exact ch_iret (ty := .int) d_y_sumChalk_40 rfl rfl (Nat.le_of_ble_eq_true rfl) h
  · replace h := h.2 c
    refine ch_iload_n (i := 2) d_y_sumChalk_10 rfl rfl ?_
    refine ch_aload_n (i := 0) d_y_sumChalk_11 rfl rfl ?_
    refine ch_get (v := .inr (1, j, 1)) d_y_sumChalk_12 fl_y_9 rfl ?_
    refine ch_iload_n (i := 3) d_y_sumChalk_15 rfl rfl ?_
    have b1 := h.1
    replace h := h.2
    refine ch_iald (n := 12) d_y_sumChalk_16 (by decide) rfl b1 ?_
    refine ch_iload_n (i := 1) d_y_sumChalk_17 rfl rfl ?_
    refine ch_icmp_ne (tgt := 30) d_y_sumChalk_18 (by decide) (fun c => ?_) (fun c => ?_)
    · replace h := h.1 c
      refine ch_iconst (v := 0) d_y_sumChalk_30 (by decide) ?_
      refine ch_iadd d_y_sumChalk_31 ?_
      refine ch_istore_n (i := 2) d_y_sumChalk_32 rfl (Nat.le_of_ble_eq_true rfl) (ls' := [some (.inr (1, j, 0)), some (.inl (.int x1)), some (.inl (.int (x2 + 0))), some (.inl (.int x3))]) rfl ?_
      refine ch_iinc (i := 3) (v := (x3 + 1)) d_y_sumChalk_33 rfl rfl (Nat.le_of_ble_eq_true rfl) (ls' := [some (.inr (1, j, 0)), some (.inl (.int x1)), some (.inl (.int (x2 + 0))), some (.inl (.int (x3 + 1)))]) rfl ?_
      refine ch_goto (tgt := 4) d_y_sumChalk_36 (by decide) ?_
      exact h
    · replace h := h.2 c
      refine ch_aload_n (i := 0) d_y_sumChalk_21 rfl rfl ?_
      refine ch_get (v := .inr (1, j, 2)) d_y_sumChalk_22 fl_y_15 rfl ?_
      refine ch_iload_n (i := 3) d_y_sumChalk_25 rfl rfl ?_
      refine ch_iald (n := 12) d_y_sumChalk_26 (by decide) rfl b1 ?_
      refine ch_goto (tgt := 31) d_y_sumChalk_27 (by decide) ?_
      refine ch_iadd d_y_sumChalk_31 ?_
      refine ch_istore_n (i := 2) d_y_sumChalk_32 rfl (Nat.le_of_ble_eq_true rfl) (ls' := [some (.inr (1, j, 0)), some (.inl (.int x1)), some (.inl (.int (x2 + (m (1, j, 2) (Int32.toNatClampNeg x3))))), some (.inl (.int x3))]) rfl ?_
      refine ch_iinc (i := 3) (v := (x3 + 1)) d_y_sumChalk_33 rfl rfl (Nat.le_of_ble_eq_true rfl) (ls' := [some (.inr (1, j, 0)), some (.inl (.int x1)), some (.inl (.int (x2 + (m (1, j, 2) (Int32.toNatClampNeg x3))))), some (.inl (.int (x3 + 1)))]) rfl ?_
      refine ch_goto (tgt := 4) d_y_sumChalk_36 (by decide) ?_
      exact h
theorem e_y_sumAllChalk (g : ch_G) (Q : ch_O → ch_M → Prop) (j : Nat) (m : ch_M) (h : ch_J g m_y_sumAllChalk (ch_rm m_y_sumAllChalk) (ch_E g m_y_sumAllChalk Q) 0 [some (.inr (1, j, 0)), none, none] [] m 0) : ch_C g m_y_sumAllChalk [.inr (1, j, 0)] m Q :=
  ch_enter mf_y_sumAllChalk (by intro v hv; simp only [List.mem_cons, List.not_mem_nil, or_false] at hv; rcases hv with rfl <;> rfl) (Nat.le_of_ble_eq_true rfl) h
set_option maxHeartbeats 1600000 in
theorem g_y_sumAllChalk_0 (g : ch_G) (Q : ch_O → ch_M → Prop) (j : Nat) (m : ch_M) (h : ch_J g m_y_sumAllChalk (ch_rm m_y_sumAllChalk) (ch_E g m_y_sumAllChalk Q) 4 [some (.inr (1, j, 0)), some (.inl (.int 0)), some (.inl (.int 0))] [] m 0) : ch_J g m_y_sumAllChalk (ch_rm m_y_sumAllChalk) (ch_E g m_y_sumAllChalk Q) 0 [some (.inr (1, j, 0)), none, none] [] m 0 := by
  refine ch_iconst (v := 0) d_y_sumAllChalk_0 (by decide) ?_
  refine ch_istore_n (i := 1) d_y_sumAllChalk_1 rfl (Nat.le_of_ble_eq_true rfl) (ls' := [some (.inr (1, j, 0)), some (.inl (.int 0)), none]) rfl ?_
  refine ch_iconst (v := 0) d_y_sumAllChalk_2 (by decide) ?_
  refine ch_istore_n (i := 2) d_y_sumAllChalk_3 rfl (Nat.le_of_ble_eq_true rfl) (ls' := [some (.inr (1, j, 0)), some (.inl (.int 0)), some (.inl (.int 0))]) rfl ?_
  exact h
set_option maxHeartbeats 1600000 in
theorem g_y_sumAllChalk_4 (g : ch_G) (Q : ch_O → ch_M → Prop) (j : Nat) (x1 : Int32) (x2 : Int32) (m : ch_M) (h : ((12 ≤ x2 → Q (.inl (some (.inl (.int x1)))) m) ∧ (¬ 12 ≤ x2 → (vp_in x2 12) ∧ ch_J g m_y_sumAllChalk (ch_rm m_y_sumAllChalk) (ch_E g m_y_sumAllChalk Q) 4 [some (.inr (1, j, 0)), some (.inl (.int (x1 + (m (1, j, 2) (Int32.toNatClampNeg x2))))), some (.inl (.int (x2 + 1)))] [] m 0))) : ch_J g m_y_sumAllChalk (ch_rm m_y_sumAllChalk) (ch_E g m_y_sumAllChalk Q) 4 [some (.inr (1, j, 0)), some (.inl (.int x1)), some (.inl (.int x2))] [] m 0 := by
  refine ch_iload_n (i := 2) d_y_sumAllChalk_4 rfl rfl ?_
  refine ch_bipush (v := 12) d_y_sumAllChalk_5 (by decide) ?_
  refine ch_icmp_ge (tgt := 25) d_y_sumAllChalk_7 (by decide) (fun c => ?_) (fun c => ?_)
  · replace h := h.1 c
    refine ch_iload_n (i := 1) d_y_sumAllChalk_25 rfl rfl ?_
    exact ch_iret (ty := .int) d_y_sumAllChalk_26 rfl rfl (Nat.le_of_ble_eq_true rfl) h
  · replace h := h.2 c
    refine ch_iload_n (i := 1) d_y_sumAllChalk_10 rfl rfl ?_
    refine ch_aload_n (i := 0) d_y_sumAllChalk_11 rfl rfl ?_
    refine ch_get (v := .inr (1, j, 2)) d_y_sumAllChalk_12 fl_y_15 rfl ?_
    refine ch_iload_n (i := 2) d_y_sumAllChalk_15 rfl rfl ?_
    have b1 := h.1
    replace h := h.2
    refine ch_iald (n := 12) d_y_sumAllChalk_16 (by decide) rfl b1 ?_
    refine ch_iadd d_y_sumAllChalk_17 ?_
    refine ch_istore_n (i := 1) d_y_sumAllChalk_18 rfl (Nat.le_of_ble_eq_true rfl) (ls' := [some (.inr (1, j, 0)), some (.inl (.int (x1 + (m (1, j, 2) (Int32.toNatClampNeg x2))))), some (.inl (.int x2))]) rfl ?_
    refine ch_iinc (i := 2) (v := (x2 + 1)) d_y_sumAllChalk_19 rfl rfl (Nat.le_of_ble_eq_true rfl) (ls' := [some (.inr (1, j, 0)), some (.inl (.int (x1 + (m (1, j, 2) (Int32.toNatClampNeg x2))))), some (.inl (.int (x2 + 1)))]) rfl ?_
    refine ch_goto (tgt := 4) d_y_sumAllChalk_22 (by decide) ?_
    exact h
theorem e_y_sumPebbles (g : ch_G) (Q : ch_O → ch_M → Prop) (j : Nat) (m : ch_M) (h : ch_J g m_y_sumPebbles (ch_rm m_y_sumPebbles) (ch_E g m_y_sumPebbles Q) 0 [some (.inr (1, j, 0)), none, none] [] m 0) : ch_C g m_y_sumPebbles [.inr (1, j, 0)] m Q :=
  ch_enter mf_y_sumPebbles (by intro v hv; simp only [List.mem_cons, List.not_mem_nil, or_false] at hv; rcases hv with rfl <;> rfl) (Nat.le_of_ble_eq_true rfl) h
set_option maxHeartbeats 1600000 in
theorem g_y_sumPebbles_0 (g : ch_G) (Q : ch_O → ch_M → Prop) (j : Nat) (m : ch_M) (h : ch_J g m_y_sumPebbles (ch_rm m_y_sumPebbles) (ch_E g m_y_sumPebbles Q) 4 [some (.inr (1, j, 0)), some (.inl (.int 0)), some (.inl (.int 0))] [] m 0) : ch_J g m_y_sumPebbles (ch_rm m_y_sumPebbles) (ch_E g m_y_sumPebbles Q) 0 [some (.inr (1, j, 0)), none, none] [] m 0 := by
  refine ch_iconst (v := 0) d_y_sumPebbles_0 (by decide) ?_
  refine ch_istore_n (i := 1) d_y_sumPebbles_1 rfl (Nat.le_of_ble_eq_true rfl) (ls' := [some (.inr (1, j, 0)), some (.inl (.int 0)), none]) rfl ?_
  refine ch_iconst (v := 0) d_y_sumPebbles_2 (by decide) ?_
  refine ch_istore_n (i := 2) d_y_sumPebbles_3 rfl (Nat.le_of_ble_eq_true rfl) (ls' := [some (.inr (1, j, 0)), some (.inl (.int 0)), some (.inl (.int 0))]) rfl ?_
  exact h
set_option maxHeartbeats 1600000 in
theorem g_y_sumPebbles_4 (g : ch_G) (Q : ch_O → ch_M → Prop) (j : Nat) (x1 : Int32) (x2 : Int32) (m : ch_M) (h : (((m (1, j, 0) 8) ≤ x2 → Q (.inl (some (.inl (.int x1)))) m) ∧ (¬ (m (1, j, 0) 8) ≤ x2 → (vp_in x2 5) ∧ ch_J g m_y_sumPebbles (ch_rm m_y_sumPebbles) (ch_E g m_y_sumPebbles Q) 4 [some (.inr (1, j, 0)), some (.inl (.int (x1 + (m (1, j, 3) (Int32.toNatClampNeg x2))))), some (.inl (.int (x2 + 1)))] [] m 0))) : ch_J g m_y_sumPebbles (ch_rm m_y_sumPebbles) (ch_E g m_y_sumPebbles Q) 4 [some (.inr (1, j, 0)), some (.inl (.int x1)), some (.inl (.int x2))] [] m 0 := by
  refine ch_iload_n (i := 2) d_y_sumPebbles_4 rfl rfl ?_
  refine ch_aload_n (i := 0) d_y_sumPebbles_5 rfl rfl ?_
  refine ch_get (v := .inl (.int (m (1, j, 0) 8))) d_y_sumPebbles_6 fl_y_42 rfl ?_
  refine ch_icmp_ge (tgt := 27) d_y_sumPebbles_9 (by decide) (fun c => ?_) (fun c => ?_)
  · replace h := h.1 c
    refine ch_iload_n (i := 1) d_y_sumPebbles_27 rfl rfl ?_
    exact ch_iret (ty := .int) d_y_sumPebbles_28 rfl rfl (Nat.le_of_ble_eq_true rfl) h
  · replace h := h.2 c
    refine ch_iload_n (i := 1) d_y_sumPebbles_12 rfl rfl ?_
    refine ch_aload_n (i := 0) d_y_sumPebbles_13 rfl rfl ?_
    refine ch_get (v := .inr (1, j, 3)) d_y_sumPebbles_14 fl_y_18 rfl ?_
    refine ch_iload_n (i := 2) d_y_sumPebbles_17 rfl rfl ?_
    have b1 := h.1
    replace h := h.2
    refine ch_iald (n := 5) d_y_sumPebbles_18 (by decide) rfl b1 ?_
    refine ch_iadd d_y_sumPebbles_19 ?_
    refine ch_istore_n (i := 1) d_y_sumPebbles_20 rfl (Nat.le_of_ble_eq_true rfl) (ls' := [some (.inr (1, j, 0)), some (.inl (.int (x1 + (m (1, j, 3) (Int32.toNatClampNeg x2))))), some (.inl (.int x2))]) rfl ?_
    refine ch_iinc (i := 2) (v := (x2 + 1)) d_y_sumPebbles_21 rfl rfl (Nat.le_of_ble_eq_true rfl) (ls' := [some (.inr (1, j, 0)), some (.inl (.int (x1 + (m (1, j, 3) (Int32.toNatClampNeg x2))))), some (.inl (.int (x2 + 1)))]) rfl ?_
    refine ch_goto (tgt := 4) d_y_sumPebbles_24 (by decide) ?_
    exact h
theorem e_y_longestRun (g : ch_G) (Q : ch_O → ch_M → Prop) (j : Nat) (p1 : Int32) (m : ch_M) (h : ch_J g m_y_longestRun (ch_rm m_y_longestRun) (ch_E g m_y_longestRun Q) 0 [some (.inr (1, j, 0)), some (.inl (.int p1)), none, none, none] [] m 0) : ch_C g m_y_longestRun [.inr (1, j, 0), .inl (.int p1)] m Q :=
  ch_enter mf_y_longestRun (by intro v hv; simp only [List.mem_cons, List.not_mem_nil, or_false] at hv; rcases hv with rfl | rfl <;> rfl) (Nat.le_of_ble_eq_true rfl) h
set_option maxHeartbeats 1600000 in
theorem g_y_longestRun_0 (g : ch_G) (Q : ch_O → ch_M → Prop) (j : Nat) (p1 : Int32) (m : ch_M) (h : ch_J g m_y_longestRun (ch_rm m_y_longestRun) (ch_E g m_y_longestRun Q) 7 [some (.inr (1, j, 0)), some (.inl (.int p1)), some (.inl (.int 0)), some (.inl (.int 0)), some (.inl (.int 0))] [] m 0) : ch_J g m_y_longestRun (ch_rm m_y_longestRun) (ch_E g m_y_longestRun Q) 0 [some (.inr (1, j, 0)), some (.inl (.int p1)), none, none, none] [] m 0 := by
  refine ch_iconst (v := 0) d_y_longestRun_0 (by decide) ?_
  refine ch_istore_n (i := 2) d_y_longestRun_1 rfl (Nat.le_of_ble_eq_true rfl) (ls' := [some (.inr (1, j, 0)), some (.inl (.int p1)), some (.inl (.int 0)), none, none]) rfl ?_
  refine ch_iconst (v := 0) d_y_longestRun_2 (by decide) ?_
  refine ch_istore_n (i := 3) d_y_longestRun_3 rfl (Nat.le_of_ble_eq_true rfl) (ls' := [some (.inr (1, j, 0)), some (.inl (.int p1)), some (.inl (.int 0)), some (.inl (.int 0)), none]) rfl ?_
  refine ch_iconst (v := 0) d_y_longestRun_4 (by decide) ?_
  refine ch_istore (i := 4) d_y_longestRun_5 (Nat.le_of_ble_eq_true rfl) (ls' := [some (.inr (1, j, 0)), some (.inl (.int p1)), some (.inl (.int 0)), some (.inl (.int 0)), some (.inl (.int 0))]) rfl ?_
  exact h
set_option maxHeartbeats 1600000 in
theorem g_y_longestRun_7 (g : ch_G) (Q : ch_O → ch_M → Prop) (j : Nat) (x1 : Int32) (x2 : Int32) (x3 : Int32) (x4 : Int32) (m : ch_M) (h : ((12 ≤ x4 → Q (.inl (some (.inl (.int x2)))) m) ∧ (¬ 12 ≤ x4 → (vp_in x4 12) ∧ ((¬ (m (1, j, 1) (Int32.toNatClampNeg x4)) = x1 → ch_J g m_y_longestRun (ch_rm m_y_longestRun) (ch_E g m_y_longestRun Q) 7 [some (.inr (1, j, 0)), some (.inl (.int x1)), some (.inl (.int (if x2 < 0 then 0 else x2))), some (.inl (.int 0)), some (.inl (.int (x4 + 1)))] [] m 0) ∧ ((m (1, j, 1) (Int32.toNatClampNeg x4)) = x1 → ch_J g m_y_longestRun (ch_rm m_y_longestRun) (ch_E g m_y_longestRun Q) 7 [some (.inr (1, j, 0)), some (.inl (.int x1)), some (.inl (.int (if x2 < (x3 + 1) then (x3 + 1) else x2))), some (.inl (.int (x3 + 1))), some (.inl (.int (x4 + 1)))] [] m 0))))) : ch_J g m_y_longestRun (ch_rm m_y_longestRun) (ch_E g m_y_longestRun Q) 7 [some (.inr (1, j, 0)), some (.inl (.int x1)), some (.inl (.int x2)), some (.inl (.int x3)), some (.inl (.int x4))] [] m 0 := by
  refine ch_iload d_y_longestRun_7 rfl ?_
  refine ch_bipush (v := 12) d_y_longestRun_9 (by decide) ?_
  refine ch_icmp_ge (tgt := 45) d_y_longestRun_11 (by decide) (fun c => ?_) (fun c => ?_)
  · replace h := h.1 c
    refine ch_iload_n (i := 2) d_y_longestRun_45 rfl rfl ?_
    exact ch_iret (ty := .int) d_y_longestRun_46 rfl rfl (Nat.le_of_ble_eq_true rfl) h
  · replace h := h.2 c
    refine ch_aload_n (i := 0) d_y_longestRun_14 rfl rfl ?_
    refine ch_get (v := .inr (1, j, 1)) d_y_longestRun_15 fl_y_9 rfl ?_
    refine ch_iload d_y_longestRun_18 rfl ?_
    have b1 := h.1
    replace h := h.2
    refine ch_iald (n := 12) d_y_longestRun_20 (by decide) rfl b1 ?_
    refine ch_iload_n (i := 1) d_y_longestRun_21 rfl rfl ?_
    refine ch_icmp_ne (tgt := 31) d_y_longestRun_22 (by decide) (fun c => ?_) (fun c => ?_)
    · replace h := h.1 c
      refine ch_iconst (v := 0) d_y_longestRun_31 (by decide) ?_
      refine ch_istore_n (i := 3) d_y_longestRun_32 rfl (Nat.le_of_ble_eq_true rfl) (ls' := [some (.inr (1, j, 0)), some (.inl (.int x1)), some (.inl (.int x2)), some (.inl (.int 0)), some (.inl (.int x4))]) rfl ?_
      refine ch_iload_n (i := 2) d_y_longestRun_33 rfl rfl ?_
      refine ch_iload_n (i := 3) d_y_longestRun_34 rfl rfl ?_
      refine ch_max d_y_longestRun_35 lk_y_143 ⟨Nat.le_of_ble_eq_true rfl, Nat.le_of_ble_eq_true rfl⟩ ⟨Nat.le_of_ble_eq_true rfl, Nat.le_of_ble_eq_true rfl⟩ (Nat.le_of_ble_eq_true rfl) ?_
      refine ch_istore_n (i := 2) d_y_longestRun_38 rfl (Nat.le_of_ble_eq_true rfl) (ls' := [some (.inr (1, j, 0)), some (.inl (.int x1)), some (.inl (.int (if x2 < 0 then 0 else x2))), some (.inl (.int 0)), some (.inl (.int x4))]) rfl ?_
      refine ch_iinc (i := 4) (v := (x4 + 1)) d_y_longestRun_39 rfl rfl (Nat.le_of_ble_eq_true rfl) (ls' := [some (.inr (1, j, 0)), some (.inl (.int x1)), some (.inl (.int (if x2 < 0 then 0 else x2))), some (.inl (.int 0)), some (.inl (.int (x4 + 1)))]) rfl ?_
      refine ch_goto (tgt := 7) d_y_longestRun_42 (by decide) ?_
      exact h
    · replace h := h.2 c
      refine ch_iload_n (i := 3) d_y_longestRun_25 rfl rfl ?_
      refine ch_iconst (v := 1) d_y_longestRun_26 (by decide) ?_
      refine ch_iadd d_y_longestRun_27 ?_
      refine ch_goto (tgt := 32) d_y_longestRun_28 (by decide) ?_
      refine ch_istore_n (i := 3) d_y_longestRun_32 rfl (Nat.le_of_ble_eq_true rfl) (ls' := [some (.inr (1, j, 0)), some (.inl (.int x1)), some (.inl (.int x2)), some (.inl (.int (x3 + 1))), some (.inl (.int x4))]) rfl ?_
      refine ch_iload_n (i := 2) d_y_longestRun_33 rfl rfl ?_
      refine ch_iload_n (i := 3) d_y_longestRun_34 rfl rfl ?_
      refine ch_max d_y_longestRun_35 lk_y_143 ⟨Nat.le_of_ble_eq_true rfl, Nat.le_of_ble_eq_true rfl⟩ ⟨Nat.le_of_ble_eq_true rfl, Nat.le_of_ble_eq_true rfl⟩ (Nat.le_of_ble_eq_true rfl) ?_
      refine ch_istore_n (i := 2) d_y_longestRun_38 rfl (Nat.le_of_ble_eq_true rfl) (ls' := [some (.inr (1, j, 0)), some (.inl (.int x1)), some (.inl (.int (if x2 < (x3 + 1) then (x3 + 1) else x2))), some (.inl (.int (x3 + 1))), some (.inl (.int x4))]) rfl ?_
      refine ch_iinc (i := 4) (v := (x4 + 1)) d_y_longestRun_39 rfl rfl (Nat.le_of_ble_eq_true rfl) (ls' := [some (.inr (1, j, 0)), some (.inl (.int x1)), some (.inl (.int (if x2 < (x3 + 1) then (x3 + 1) else x2))), some (.inl (.int (x3 + 1))), some (.inl (.int (x4 + 1)))]) rfl ?_
      refine ch_goto (tgt := 7) d_y_longestRun_42 (by decide) ?_
      exact h
theorem e_y_isChalkedJustIfOwned (g : ch_G) (Q : ch_O → ch_M → Prop) (j : Nat) (m : ch_M) (h : ch_J g m_y_isChalkedJustIfOwned (ch_rm m_y_isChalkedJustIfOwned) (ch_E g m_y_isChalkedJustIfOwned Q) 0 [some (.inr (1, j, 0)), none] [] m 0) : ch_C g m_y_isChalkedJustIfOwned [.inr (1, j, 0)] m Q :=
  ch_enter mf_y_isChalkedJustIfOwned (by intro v hv; simp only [List.mem_cons, List.not_mem_nil, or_false] at hv; rcases hv with rfl <;> rfl) (Nat.le_of_ble_eq_true rfl) h
set_option maxHeartbeats 1600000 in
theorem g_y_isChalkedJustIfOwned_0 (g : ch_G) (Q : ch_O → ch_M → Prop) (j : Nat) (m : ch_M) (h : ch_J g m_y_isChalkedJustIfOwned (ch_rm m_y_isChalkedJustIfOwned) (ch_E g m_y_isChalkedJustIfOwned Q) 2 [some (.inr (1, j, 0)), some (.inl (.int 0))] [] m 0) : ch_J g m_y_isChalkedJustIfOwned (ch_rm m_y_isChalkedJustIfOwned) (ch_E g m_y_isChalkedJustIfOwned Q) 0 [some (.inr (1, j, 0)), none] [] m 0 := by
  refine ch_iconst (v := 0) d_y_isChalkedJustIfOwned_0 (by decide) ?_
  refine ch_istore_n (i := 1) d_y_isChalkedJustIfOwned_1 rfl (Nat.le_of_ble_eq_true rfl) (ls' := [some (.inr (1, j, 0)), some (.inl (.int 0))]) rfl ?_
  exact h
set_option maxHeartbeats 1600000 in
theorem g_y_isChalkedJustIfOwned_2 (g : ch_G) (Q : ch_O → ch_M → Prop) (j : Nat) (x1 : Int32) (m : ch_M) (h : ((12 ≤ x1 → Q (.inl (some (.inl (.int 1)))) m) ∧ (¬ 12 ≤ x1 → (vp_in x1 12) ∧ (((m (1, j, 2) (Int32.toNatClampNeg x1)) ≤ 0 → (((m (1, j, 1) (Int32.toNatClampNeg x1)) = (-1) → ch_J g m_y_isChalkedJustIfOwned (ch_rm m_y_isChalkedJustIfOwned) (ch_E g m_y_isChalkedJustIfOwned Q) 2 [some (.inr (1, j, 0)), some (.inl (.int (x1 + 1)))] [] m 0) ∧ (¬ (m (1, j, 1) (Int32.toNatClampNeg x1)) = (-1) → Q (.inl (some (.inl (.int 0)))) m))) ∧ (¬ (m (1, j, 2) (Int32.toNatClampNeg x1)) ≤ 0 → (((m (1, j, 1) (Int32.toNatClampNeg x1)) = (-1) → Q (.inl (some (.inl (.int 0)))) m) ∧ (¬ (m (1, j, 1) (Int32.toNatClampNeg x1)) = (-1) → ch_J g m_y_isChalkedJustIfOwned (ch_rm m_y_isChalkedJustIfOwned) (ch_E g m_y_isChalkedJustIfOwned Q) 2 [some (.inr (1, j, 0)), some (.inl (.int (x1 + 1)))] [] m 0))))))) : ch_J g m_y_isChalkedJustIfOwned (ch_rm m_y_isChalkedJustIfOwned) (ch_E g m_y_isChalkedJustIfOwned Q) 2 [some (.inr (1, j, 0)), some (.inl (.int x1))] [] m 0 := by
  refine ch_iload_n (i := 1) d_y_isChalkedJustIfOwned_2 rfl rfl ?_
  refine ch_bipush (v := 12) d_y_isChalkedJustIfOwned_3 (by decide) ?_
  refine ch_icmp_ge (tgt := 48) d_y_isChalkedJustIfOwned_5 (by decide) (fun c => ?_) (fun c => ?_)
  · replace h := h.1 c
    refine ch_iconst (v := 1) d_y_isChalkedJustIfOwned_48 (by decide) ?_
    exact ch_iret (ty := .boolean) d_y_isChalkedJustIfOwned_49 rfl rfl (Nat.le_of_ble_eq_true rfl) h
  · replace h := h.2 c
    refine ch_aload_n (i := 0) d_y_isChalkedJustIfOwned_8 rfl rfl ?_
    refine ch_get (v := .inr (1, j, 2)) d_y_isChalkedJustIfOwned_9 fl_y_15 rfl ?_
    refine ch_iload_n (i := 1) d_y_isChalkedJustIfOwned_12 rfl rfl ?_
    have b1 := h.1
    replace h := h.2
    refine ch_iald (n := 12) d_y_isChalkedJustIfOwned_13 (by decide) rfl b1 ?_
    refine ch_if_le (tgt := 21) d_y_isChalkedJustIfOwned_14 (by decide) (fun c => ?_) (fun c => ?_)
    · replace h := h.1 c
      refine ch_iconst (v := 0) d_y_isChalkedJustIfOwned_21 (by decide) ?_
      refine ch_aload_n (i := 0) d_y_isChalkedJustIfOwned_22 rfl rfl ?_
      refine ch_get (v := .inr (1, j, 1)) d_y_isChalkedJustIfOwned_23 fl_y_9 rfl ?_
      refine ch_iload_n (i := 1) d_y_isChalkedJustIfOwned_26 rfl rfl ?_
      refine ch_iald (n := 12) d_y_isChalkedJustIfOwned_27 (by decide) rfl b1 ?_
      refine ch_iconst (v := (-1)) d_y_isChalkedJustIfOwned_28 (by decide) ?_
      refine ch_icmp_eq (tgt := 36) d_y_isChalkedJustIfOwned_29 (by decide) (fun c => ?_) (fun c => ?_)
      · replace h := h.1 c
        refine ch_iconst (v := 0) d_y_isChalkedJustIfOwned_36 (by decide) ?_
        refine ch_icmp_eq (tgt := 42) d_y_isChalkedJustIfOwned_37 (by decide) (fun _ => ?_) (fun c => absurd c (by decide))
        refine ch_iinc (i := 1) (v := (x1 + 1)) d_y_isChalkedJustIfOwned_42 rfl rfl (Nat.le_of_ble_eq_true rfl) (ls' := [some (.inr (1, j, 0)), some (.inl (.int (x1 + 1)))]) rfl ?_
        refine ch_goto (tgt := 2) d_y_isChalkedJustIfOwned_45 (by decide) ?_
        exact h
      · replace h := h.2 c
        refine ch_iconst (v := 1) d_y_isChalkedJustIfOwned_32 (by decide) ?_
        refine ch_goto (tgt := 37) d_y_isChalkedJustIfOwned_33 (by decide) ?_
        refine ch_icmp_eq (tgt := 42) d_y_isChalkedJustIfOwned_37 (by decide) (fun c => absurd c (by decide)) (fun _ => ?_)
        refine ch_iconst (v := 0) d_y_isChalkedJustIfOwned_40 (by decide) ?_
        exact ch_iret (ty := .boolean) d_y_isChalkedJustIfOwned_41 rfl rfl (Nat.le_of_ble_eq_true rfl) h
    · replace h := h.2 c
      refine ch_iconst (v := 1) d_y_isChalkedJustIfOwned_17 (by decide) ?_
      refine ch_goto (tgt := 22) d_y_isChalkedJustIfOwned_18 (by decide) ?_
      refine ch_aload_n (i := 0) d_y_isChalkedJustIfOwned_22 rfl rfl ?_
      refine ch_get (v := .inr (1, j, 1)) d_y_isChalkedJustIfOwned_23 fl_y_9 rfl ?_
      refine ch_iload_n (i := 1) d_y_isChalkedJustIfOwned_26 rfl rfl ?_
      refine ch_iald (n := 12) d_y_isChalkedJustIfOwned_27 (by decide) rfl b1 ?_
      refine ch_iconst (v := (-1)) d_y_isChalkedJustIfOwned_28 (by decide) ?_
      refine ch_icmp_eq (tgt := 36) d_y_isChalkedJustIfOwned_29 (by decide) (fun c => ?_) (fun c => ?_)
      · replace h := h.1 c
        refine ch_iconst (v := 0) d_y_isChalkedJustIfOwned_36 (by decide) ?_
        refine ch_icmp_eq (tgt := 42) d_y_isChalkedJustIfOwned_37 (by decide) (fun c => absurd c (by decide)) (fun _ => ?_)
        refine ch_iconst (v := 0) d_y_isChalkedJustIfOwned_40 (by decide) ?_
        exact ch_iret (ty := .boolean) d_y_isChalkedJustIfOwned_41 rfl rfl (Nat.le_of_ble_eq_true rfl) h
      · replace h := h.2 c
        refine ch_iconst (v := 1) d_y_isChalkedJustIfOwned_32 (by decide) ?_
        refine ch_goto (tgt := 37) d_y_isChalkedJustIfOwned_33 (by decide) ?_
        refine ch_icmp_eq (tgt := 42) d_y_isChalkedJustIfOwned_37 (by decide) (fun _ => ?_) (fun c => absurd c (by decide))
        refine ch_iinc (i := 1) (v := (x1 + 1)) d_y_isChalkedJustIfOwned_42 rfl rfl (Nat.le_of_ble_eq_true rfl) (ls' := [some (.inr (1, j, 0)), some (.inl (.int (x1 + 1)))]) rfl ?_
        refine ch_goto (tgt := 2) d_y_isChalkedJustIfOwned_45 (by decide) ?_
        exact h
