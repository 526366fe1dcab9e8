theorem e_y_ownedFrom (g : ch_G) (Q : ch_O → ch_M → Prop) (j : Nat) (p1 : Int32) (p2 : Int32) (m : ch_M) (h : ch_J g m_y_ownedFrom (ch_rm m_y_ownedFrom) (ch_E g m_y_ownedFrom Q) 0 [some (.inr (1, j, 0)), some (.inl (.int p1)), some (.inl (.int p2)), none, none, none] [] m 0) : ch_C g m_y_ownedFrom [.inr (1, j, 0), .inl (.int p1), .inl (.int p2)] m Q :=
  ch_enter mf_y_ownedFrom (by intro v hv; simp only [List.mem_cons, List.not_mem_nil, or_false] at hv; rcases hv with rfl | rfl | rfl <;> rfl) (Nat.le_of_ble_eq_true rfl) h
set_option maxHeartbeats 1600000 in
theorem g_y_ownedFrom_0 (g : ch_G) (Q : ch_O → ch_M → Prop) (j : Nat) (p1 : Int32) (p2 : Int32) (m : ch_M) (h : ch_J g m_y_ownedFrom (ch_rm m_y_ownedFrom) (ch_E g m_y_ownedFrom Q) 8 [some (.inr (1, j, 0)), some (.inl (.int p1)), some (.inl (.int p2)), some (.inl (.int 0)), some (.inl (.int 0)), some (.inl (.int 0))] [] m 0) : ch_J g m_y_ownedFrom (ch_rm m_y_ownedFrom) (ch_E g m_y_ownedFrom Q) 0 [some (.inr (1, j, 0)), some (.inl (.int p1)), some (.inl (.int p2)), none, none, none] [] m 0 := by
  refine ch_iconst (v := 0) d_y_ownedFrom_0 (by decide) ?_
  refine ch_istore_n (i := 3) d_y_ownedFrom_1 rfl (Nat.le_of_ble_eq_true rfl) (ls' := [some (.inr (1, j, 0)), some (.inl (.int p1)), some (.inl (.int p2)), some (.inl (.int 0)), none, none]) rfl ?_
  refine ch_iconst (v := 0) d_y_ownedFrom_2 (by decide) ?_
  refine ch_istore (i := 4) d_y_ownedFrom_3 (Nat.le_of_ble_eq_true rfl) (ls' := [some (.inr (1, j, 0)), some (.inl (.int p1)), some (.inl (.int p2)), some (.inl (.int 0)), some (.inl (.int 0)), none]) rfl ?_
  refine ch_iconst (v := 0) d_y_ownedFrom_5 (by decide) ?_
  refine ch_istore (i := 5) d_y_ownedFrom_6 (Nat.le_of_ble_eq_true rfl) (ls' := [some (.inr (1, j, 0)), some (.inl (.int p1)), some (.inl (.int p2)), some (.inl (.int 0)), some (.inl (.int 0)), some (.inl (.int 0))]) rfl ?_
  exact h
set_option maxHeartbeats 1600000 in
theorem g_y_ownedFrom_8 (g : ch_G) (Q : ch_O → ch_M → Prop) (j : Nat) (x1 : Int32) (x2 : Int32) (x3 : Int32) (x4 : Int32) (x5 : Int32) (m : ch_M) (h : ((12 ≤ x5 → Q (.inl (some (.inl (.int x3)))) m) ∧ (¬ 12 ≤ x5 → (vp_in x5 12) ∧ ((¬ (m (1, j, 1) (Int32.toNatClampNeg x5)) = x1 → ch_J g m_y_ownedFrom (ch_rm m_y_ownedFrom) (ch_E g m_y_ownedFrom Q) 8 [some (.inr (1, j, 0)), some (.inl (.int x1)), some (.inl (.int x2)), some (.inl (.int x3)), some (.inl (.int x4)), some (.inl (.int (x5 + 1)))] [] m 0) ∧ ((m (1, j, 1) (Int32.toNatClampNeg x5)) = x1 → ((x4 < x2 → ch_J g m_y_ownedFrom (ch_rm m_y_ownedFrom) (ch_E g m_y_ownedFrom Q) 8 [some (.inr (1, j, 0)), some (.inl (.int x1)), some (.inl (.int x2)), some (.inl (.int (x3 ||| 0))), some (.inl (.int (x4 + 1))), some (.inl (.int (x5 + 1)))] [] m 0) ∧ (¬ x4 < x2 → ch_J g m_y_ownedFrom (ch_rm m_y_ownedFrom) (ch_E g m_y_ownedFrom Q) 8 [some (.inr (1, j, 0)), some (.inl (.int x1)), some (.inl (.int x2)), some (.inl (.int (x3 ||| (1 <<< (x5 &&& 31))))), some (.inl (.int (x4 + 1))), some (.inl (.int (x5 + 1)))] [] m 0))))))) : ch_J g m_y_ownedFrom (ch_rm m_y_ownedFrom) (ch_E g m_y_ownedFrom Q) 8 [some (.inr (1, j, 0)), some (.inl (.int x1)), some (.inl (.int x2)), some (.inl (.int x3)), some (.inl (.int x4)), some (.inl (.int x5))] [] m 0 := by
  refine ch_iload d_y_ownedFrom_8 rfl ?_
  refine ch_bipush (v := 12) d_y_ownedFrom_10 (by decide) ?_
  refine ch_icmp_ge (tgt := 52) d_y_ownedFrom_12 (by decide) (fun c => ?_) (fun c => ?_)
  · replace h := h.1 c
    refine ch_iload_n (i := 3) d_y_ownedFrom_52 rfl rfl ?_
    exact ch_iret (ty := .int) d_y_ownedFrom_53 rfl rfl (Nat.le_of_ble_eq_true rfl) h
  · replace h := h.2 c
    refine ch_aload_n (i := 0) d_y_ownedFrom_15 rfl rfl ?_
    refine ch_get (v := .inr (1, j, 1)) d_y_ownedFrom_16 fl_y_9 rfl ?_
    refine ch_iload d_y_ownedFrom_19 rfl ?_
    have b1 := h.1
    replace h := h.2
    refine ch_iald (n := 12) d_y_ownedFrom_21 (by decide) rfl b1 ?_
    refine ch_iload_n (i := 1) d_y_ownedFrom_22 rfl rfl ?_
    refine ch_icmp_ne (tgt := 46) d_y_ownedFrom_23 (by decide) (fun c => ?_) (fun c => ?_)
    · replace h := h.1 c
      refine ch_iinc (i := 5) (v := (x5 + 1)) d_y_ownedFrom_46 rfl rfl (Nat.le_of_ble_eq_true rfl) (ls' := [some (.inr (1, j, 0)), some (.inl (.int x1)), some (.inl (.int x2)), some (.inl (.int x3)), some (.inl (.int x4)), some (.inl (.int (x5 + 1)))]) rfl ?_
      refine ch_goto (tgt := 8) d_y_ownedFrom_49 (by decide) ?_
      exact h
    · replace h := h.2 c
      refine ch_iload_n (i := 3) d_y_ownedFrom_26 rfl rfl ?_
      refine ch_iload d_y_ownedFrom_27 rfl ?_
      refine ch_iload_n (i := 2) d_y_ownedFrom_29 rfl rfl ?_
      refine ch_icmp_lt (tgt := 40) d_y_ownedFrom_30 (by decide) (fun c => ?_) (fun c => ?_)
      · replace h := h.1 c
        refine ch_iconst (v := 0) d_y_ownedFrom_40 (by decide) ?_
        refine ch_ior d_y_ownedFrom_41 ?_
        refine ch_istore_n (i := 3) d_y_ownedFrom_42 rfl (Nat.le_of_ble_eq_true rfl) (ls' := [some (.inr (1, j, 0)), some (.inl (.int x1)), some (.inl (.int x2)), some (.inl (.int (x3 ||| 0))), some (.inl (.int x4)), some (.inl (.int x5))]) rfl ?_
        refine ch_iinc (i := 4) (v := (x4 + 1)) d_y_ownedFrom_43 rfl rfl (Nat.le_of_ble_eq_true rfl) (ls' := [some (.inr (1, j, 0)), some (.inl (.int x1)), some (.inl (.int x2)), some (.inl (.int (x3 ||| 0))), some (.inl (.int (x4 + 1))), some (.inl (.int x5))]) rfl ?_
        refine ch_iinc (i := 5) (v := (x5 + 1)) d_y_ownedFrom_46 rfl rfl (Nat.le_of_ble_eq_true rfl) (ls' := [some (.inr (1, j, 0)), some (.inl (.int x1)), some (.inl (.int x2)), some (.inl (.int (x3 ||| 0))), some (.inl (.int (x4 + 1))), some (.inl (.int (x5 + 1)))]) rfl ?_
        refine ch_goto (tgt := 8) d_y_ownedFrom_49 (by decide) ?_
        exact h
      · replace h := h.2 c
        refine ch_iconst (v := 1) d_y_ownedFrom_33 (by decide) ?_
        refine ch_iload d_y_ownedFrom_34 rfl ?_
        refine ch_ishl d_y_ownedFrom_36 ?_
        refine ch_goto (tgt := 41) d_y_ownedFrom_37 (by decide) ?_
        refine ch_ior d_y_ownedFrom_41 ?_
        refine ch_istore_n (i := 3) d_y_ownedFrom_42 rfl (Nat.le_of_ble_eq_true rfl) (ls' := [some (.inr (1, j, 0)), some (.inl (.int x1)), some (.inl (.int x2)), some (.inl (.int (x3 ||| (1 <<< (x5 &&& 31))))), some (.inl (.int x4)), some (.inl (.int x5))]) rfl ?_
        refine ch_iinc (i := 4) (v := (x4 + 1)) d_y_ownedFrom_43 rfl rfl (Nat.le_of_ble_eq_true rfl) (ls' := [some (.inr (1, j, 0)), some (.inl (.int x1)), some (.inl (.int x2)), some (.inl (.int (x3 ||| (1 <<< (x5 &&& 31))))), some (.inl (.int (x4 + 1))), some (.inl (.int x5))]) rfl ?_
        refine ch_iinc (i := 5) (v := (x5 + 1)) d_y_ownedFrom_46 rfl rfl (Nat.le_of_ble_eq_true rfl) (ls' := [some (.inr (1, j, 0)), some (.inl (.int x1)), some (.inl (.int x2)), some (.inl (.int (x3 ||| (1 <<< (x5 &&& 31))))), some (.inl (.int (x4 + 1))), some (.inl (.int (x5 + 1)))]) rfl ?_
        refine ch_goto (tgt := 8) d_y_ownedFrom_49 (by decide) ?_
        exact h
theorem e_y_sumChalk (g : ch_G) (Q : ch_O → ch_M → Prop) (j : Nat) (p1 : Int32) (m : ch_M) (h : ch_J g m_y_sumChalk (ch_rm m_y_sumChalk) (ch_E g m_y_sumChalk Q) 0 [some (.inr (1, j, 0)), some (.inl (.int p1)), none, none] [] m 0) : ch_C g m_y_sumChalk [.inr (1, j, 0), .inl (.int p1)] m Q :=
  ch_enter mf_y_sumChalk (by intro v hv; simp only [List.mem_cons, List.not_mem_nil, or_false] at hv; rcases hv with rfl | rfl <;> rfl) (Nat.le_of_ble_eq_true rfl) h
set_option maxHeartbeats 1600000 in
theorem g_y_sumChalk_0 (g : ch_G) (Q : ch_O → ch_M → Prop) (j : Nat) (p1 : Int32) (m : ch_M) (h : ch_J g m_y_sumChalk (ch_rm m_y_sumChalk) (ch_E g m_y_sumChalk Q) 4 [some (.inr (1, j, 0)), some (.inl (.int p1)), some (.inl (.int 0)), some (.inl (.int 0))] [] m 0) : ch_J g m_y_sumChalk (ch_rm m_y_sumChalk) (ch_E g m_y_sumChalk Q) 0 [some (.inr (1, j, 0)), some (.inl (.int p1)), none, none] [] m 0 := by
  refine ch_iconst (v := 0) d_y_sumChalk_0 (by decide) ?_
  refine ch_istore_n (i := 2) d_y_sumChalk_1 rfl (Nat.le_of_ble_eq_true rfl) (ls' := [some (.inr (1, j, 0)), some (.inl (.int p1)), some (.inl (.int 0)), none]) rfl ?_
  refine ch_iconst (v := 0) d_y_sumChalk_2 (by decide) ?_
  refine ch_istore_n (i := 3) d_y_sumChalk_3 rfl (Nat.le_of_ble_eq_true rfl) (ls' := [some (.inr (1, j, 0)), some (.inl (.int p1)), some (.inl (.int 0)), some (.inl (.int 0))]) rfl ?_
  exact h
set_option maxHeartbeats 1600000 in
theorem g_y_sumChalk_4 (g : ch_G) (Q : ch_O → ch_M → Prop) (j : Nat) (x1 : Int32) (x2 : Int32) (x3 : Int32) (m : ch_M) (h : ((12 ≤ x3 → Q (.inl (some (.inl (.int x2)))) m) ∧ (¬ 12 ≤ x3 → (vp_in x3 12) ∧ ((¬ (m (1, j, 1) (Int32.toNatClampNeg x3)) = x1 → ch_J g m_y_sumChalk (ch_rm m_y_sumChalk) (ch_E g m_y_sumChalk Q) 4 [some (.inr (1, j, 0)), some (.inl (.int x1)), some (.inl (.int (x2 + 0))), some (.inl (.int (x3 + 1)))] [] m 0) ∧ ((m (1, j, 1) (Int32.toNatClampNeg x3)) = x1 → ch_J g m_y_sumChalk (ch_rm m_y_sumChalk) (ch_E g m_y_sumChalk Q) 4 [some (.inr (1, j, 0)), some (.inl (.int x1)), some (.inl (.int (x2 + (m (1, j, 2) (Int32.toNatClampNeg x3))))), some (.inl (.int (x3 + 1)))] [] m 0))))) : ch_J g m_y_sumChalk (ch_rm m_y_sumChalk) (ch_E g m_y_sumChalk Q) 4 [some (.inr (1, j, 0)), some (.inl (.int x1)), some (.inl (.int x2)), some (.inl (.int x3))] [] m 0 := by
  refine ch_iload_n (i := 3) d_y_sumChalk_4 rfl rfl ?_
  refine ch_bipush (v := 12) d_y_sumChalk_5 (by decide) ?_
  refine ch_icmp_ge (tgt := 39) d_y_sumChalk_7 (by decide) (fun c => ?_) (fun c => ?_)
  · replace h := h.1 c
    refine ch_iload_n (i := 2) d_y_sumChalk_39 rfl rfl ?_
    exact ch_iret (ty := .int) d_y_sumChalk_40 rfl rfl (Nat.le_of_ble_eq_true rfl) h
  · replace h := h.2 c
    refine ch_iload_n (i := 2) d_y_sumChalk_10 rfl rfl ?_
    refine ch_aload_n (i := 0) d_y_sumChalk_11 rfl rfl ?_
    refine ch_get (v := .inr (1, j, 1)) d_y_sumChalk_12 fl_y_9 rfl ?_
    refine ch_iload_n (i := 3) d_y_sumChalk_15 rfl rfl ?_
    have b1 := h.1
    replace h := h.2
    refine ch_iald (n := 12) d_y_sumChalk_16 (by decide) rfl b1 ?_
    refine ch_iload_n (i := 1) d_y_sumChalk_17 rfl rfl ?_
    refine ch_icmp_ne (tgt := 30) d_y_sumChalk_18 (by decide) (fun c => ?_) (fun c => ?_)
    · replace h := h.1 c
      refine ch_iconst (v := 0) d_y_sumChalk_30 (by decide) ?_
      refine ch_iadd d_y_sumChalk_31 ?_
      refine ch_istore_n (i := 2) d_y_sumChalk_32 rfl (Nat.le_of_ble_eq_true rfl) (ls' := [some (.inr (1, j, 0)), some (.inl (.int x1)), some (.inl (.int (x2 + 0))), some (.inl (.int x3))]) rfl ?_
      refine ch_iinc (i := 3) (v := (x3 + 1)) d_y_sumChalk_33 rfl rfl (Nat.le_of_ble_eq_true rfl) (ls' := [some (.inr (1, j, 0)), some (.inl (.int x1)), some (.inl (.int (x2 + 0))), some (.inl (.int (x3 + 1)))]) rfl ?_
      refine ch_goto (tgt := 4) d_y_sumChalk_36 (by decide) ?_
      exact h
    · replace h := h.2 c
      refine ch_aload_n (i := 0) d_y_sumChalk_21 rfl rfl ?_
      refine ch_get (v := .inr (1, j, 2)) d_y_sumChalk_22 fl_y_15 rfl ?_
      refine ch_iload_n (i := 3) d_y_sumChalk_25 rfl rfl ?_
      refine ch_iald (n := 12) d_y_sumChalk_26 (by decide) rfl b1 ?_
      refine ch_goto (tgt := 31) d_y_sumChalk_27 (by decide) ?_
      refine ch_iadd d_y_sumChalk_31 ?_
      refine ch_istore_n (i := 2) d_y_sumChalk_32 rfl (Nat.le_of_ble_eq_true rfl) (ls' := [some (.inr (1, j, 0)), some (.inl (.int x1)), some (.inl (.int (x2 + (m (1, j, 2) (Int32.toNatClampNeg x3))))), some (.inl (.int x3))]) rfl ?_
      refine ch_iinc (i := 3) (v := (x3 + 1)) d_y_sumChalk_33 rfl rfl (Nat.le_of_ble_eq_true rfl) (ls' := [some (.inr (1, j, 0)), some (.inl (.int x1)), some (.inl (.int (x2 + (m (1, j, 2) (Int32.toNatClampNeg x3))))), some (.inl (.int (x3 + 1)))]) rfl ?_
      refine ch_goto (tgt := 4) d_y_sumChalk_36 (by decide) ?_
      exact h
theorem e_y_sumAllChalk (g : ch_G) (Q : ch_O → ch_M → Prop) (j : Nat) (m : ch_M) (h : ch_J g m_y_sumAllChalk (ch_rm m_y_sumAllChalk) (ch_E g m_y_sumAllChalk Q) 0 [some (.inr (1, j, 0)), none, none] [] m 0) : ch_C g m_y_sumAllChalk [.inr (1, j, 0)] m Q :=
  ch_enter mf_y_sumAllChalk (by intro v hv; simp only [List.mem_cons, List.not_mem_nil, or_false] at hv; rcases hv with rfl <;> rfl) (Nat.le_of_ble_eq_true rfl) h
set_option maxHeartbeats 1600000 in
theorem g_y_sumAllChalk_0 (g : ch_G) (Q : ch_O → ch_M → Prop) (j : Nat) (m : ch_M) (h : ch_J g m_y_sumAllChalk (ch_rm m_y_sumAllChalk) (ch_E g m_y_sumAllChalk Q) 4 [some (.inr (1, j, 0)), some (.inl (.int 0)), some (.inl (.int 0))] [] m 0) : ch_J g m_y_sumAllChalk (ch_rm m_y_sumAllChalk) (ch_E g m_y_sumAllChalk Q) 0 [some (.inr (1, j, 0)), none, none] [] m 0 := by
  refine ch_iconst (v := 0) d_y_sumAllChalk_0 (by decide) ?_
  refine ch_istore_n (i := 1) d_y_sumAllChalk_1 rfl (Nat.le_of_ble_eq_true rfl) (ls' := [some (.inr (1, j, 0)), some (.inl (.int 0)), none]) rfl ?_
  refine ch_iconst (v := 0) d_y_sumAllChalk_2 (by decide) ?_
  refine ch_istore_n (i := 2) d_y_sumAllChalk_3 rfl (Nat.le_of_ble_eq_true rfl) (ls' := [some (.inr (1, j, 0)), some (.inl (.int 0)), some (.inl (.int 0))]) rfl ?_
  exact h
set_option maxHeartbeats 1600000 in
theorem g_y_sumAllChalk_4 (g : ch_G) (Q : ch_O → ch_M → Prop) (j : Nat) (x1 : Int32) (x2 : Int32) (m : ch_M) (h : ((12 ≤ x2 → Q (.inl (some (.inl (.int x1)))) m) ∧ (¬ 12 ≤ x2 → (vp_in x2 12) ∧ ch_J g m_y_sumAllChalk (ch_rm m_y_sumAllChalk) (ch_E g m_y_sumAllChalk Q) 4 [some (.inr (1, j, 0)), some (.inl (.int (x1 + (m (1, j, 2) (Int32.toNatClampNeg x2))))), some (.inl (.int (x2 + 1)))] [] m 0))) : ch_J g m_y_sumAllChalk (ch_rm m_y_sumAllChalk) (ch_E g m_y_sumAllChalk Q) 4 [some (.inr (1, j, 0)), some (.inl (.int x1)), some (.inl (.int x2))] [] m 0 := by
  refine ch_iload_n (i := 2) d_y_sumAllChalk_4 rfl rfl ?_
  refine ch_bipush (v := 12) d_y_sumAllChalk_5 (by decide) ?_
  refine ch_icmp_ge (tgt := 25) d_y_sumAllChalk_7 (by decide) (fun c => ?_) (fun c => ?_)
  · replace h := h.1 c
    refine ch_iload_n (i := 1) d_y_sumAllChalk_25 rfl rfl ?_
    exact ch_iret (ty := .int) d_y_sumAllChalk_26 rfl rfl (Nat.le_of_ble_eq_true rfl) h
  · replace h := h.2 c
    refine ch_iload_n (i := 1) d_y_sumAllChalk_10 rfl rfl ?_
    refine ch_aload_n (i := 0) d_y_sumAllChalk_11 rfl rfl ?_
    refine ch_get (v := .inr (1, j, 2)) d_y_sumAllChalk_12 fl_y_15 rfl ?_
    refine ch_iload_n (i := 2) d_y_sumAllChalk_15 rfl rfl ?_
    have b1 := h.1
    replace h := h.2
    refine ch_iald (n := 12) d_y_sumAllChalk_16 (by decide) rfl b1 ?_
    refine ch_iadd d_y_sumAllChalk_17 ?_
    refine ch_istore_n (i := 1) d_y_sumAllChalk_18 rfl (Nat.le_of_ble_eq_true rfl) (ls' := [some (.inr (1, j, 0)), some (.inl (.int (x1 + (m (1, j, 2) (Int32.toNatClampNeg x2))))), some (.inl (.int x2))]) rfl ?_
    refine ch_iinc (i := 2) (v := (x2 + 1)) d_y_sumAllChalk_19 rfl rfl (Nat.le_of_ble_eq_true rfl) (ls' := [some (.inr (1, j, 0)), some (.inl (.int (x1 + (m (1, j, 2) (Int32.toNatClampNeg x2))))), some (.inl (.int (x2 + 1)))]) rfl ?_
    refine ch_goto (tgt := 4) d_y_sumAllChalk_22 (by decide) ?_
    exact h
theorem e_y_longestRun (g : ch_G) (Q : ch_O → ch_M → Prop) (j : Nat) (p1 : Int32) (m : ch_M) (h : ch_J g m_y_longestRun (ch_rm m_y_longestRun) (ch_E g m_y_longestRun Q) 0 [some (.inr (1, j, 0)), some (.inl (.int p1)), none, none, none] [] m 0) : ch_C g m_y_longestRun [.inr (1, j, 0), .inl (.int p1)] m Q :=
  ch_enter mf_y_longestRun (by intro v hv; simp only [List.mem_cons, List.not_mem_nil, or_false] at hv; rcases hv with rfl | rfl <;> rfl) (Nat.le_of_ble_eq_true rfl) h
set_option maxHeartbeats 1600000 in
theorem g_y_longestRun_0 (g : ch_G) (Q : ch_O → ch_M → Prop) (j : Nat) (p1 : Int32) (m : ch_M) (h : ch_J g m_y_longestRun (ch_rm m_y_longestRun) (ch_E g m_y_longestRun Q) 7 [some (.inr (1, j, 0)), some (.inl (.int p1)), some (.inl (.int 0)), some (.inl (.int 0)), some (.inl (.int 0))] [] m 0) : ch_J g m_y_longestRun (ch_rm m_y_longestRun) (ch_E g m_y_longestRun Q) 0 [some (.inr (1, j, 0)), some (.inl (.int p1)), none, none, none] [] m 0 := by
  refine ch_iconst (v := 0) d_y_longestRun_0 (by decide) ?_
  refine ch_istore_n (i := 2) d_y_longestRun_1 rfl (Nat.le_of_ble_eq_true rfl) (ls' := [some (.inr (1, j, 0)), some (.inl (.int p1)), some (.inl (.int 0)), none, none]) rfl ?_
  refine ch_iconst (v := 0) d_y_longestRun_2 (by decide) ?_
  refine ch_istore_n (i := 3) d_y_longestRun_3 rfl (Nat.le_of_ble_eq_true rfl) (ls' := [some (.inr (1, j, 0)), some (.inl (.int p1)), some (.inl (.int 0)), some (.inl (.int 0)), none]) rfl ?_
  refine ch_iconst (v := 0) d_y_longestRun_4 (by decide) ?_
  refine ch_istore (i := 4) d_y_longestRun_5 (Nat.le_of_ble_eq_true rfl) (ls' := [some (.inr (1, j, 0)), some (.inl (.int p1)), some (.inl (.int 0)), some (.inl (.int 0)), some (.inl (.int 0))]) rfl ?_
  exact h
set_option maxHeartbeats 1600000 in
theorem g_y_longestRun_7 (g : ch_G) (Q : ch_O → ch_M → Prop) (j : Nat) (x1 : Int32) (x2 : Int32) (x3 : Int32) (x4 : Int32) (m : ch_M) (h : ((12 ≤ x4 → Q (.inl (some (.inl (.int x2)))) m) ∧ (¬ 12 ≤ x4 → (vp_in x4 12) ∧ ((¬ (m (1, j, 1) (Int32.toNatClampNeg x4)) = x1 → ch_J g m_y_longestRun (ch_rm m_y_longestRun) (ch_E g m_y_longestRun Q) 7 [some (.inr (1, j, 0)), some (.inl (.int x1)), some (.inl (.int (if x2 < 0 then 0 else x2))), some (.inl (.int 0)), some (.inl (.int (x4 + 1)))] [] m 0) ∧ ((m (1, j, 1) (Int32.toNatClampNeg x4)) = x1 → ch_J g m_y_longestRun (ch_rm m_y_longestRun) (ch_E g m_y_longestRun Q) 7 [some (.inr (1, j, 0)), some (.inl (.int x1)), some (.inl (.int (if x2 < (x3 + 1) then (x3 + 1) else x2))), some (.inl (.int (x3 + 1))), some (.inl (.int (x4 + 1)))] [] m 0))))) : ch_J g m_y_longestRun (ch_rm m_y_longestRun) (ch_E g m_y_longestRun Q) 7 [some (.inr (1, j, 0)), some (.inl (.int x1)), some (.inl (.int x2)), some (.inl (.int x3)), some (.inl (.int x4))] [] m 0 := by
  refine ch_iload d_y_longestRun_7 rfl ?_
  refine ch_bipush (v := 12) d_y_longestRun_9 (by decide) ?_
  refine ch_icmp_ge (tgt := 45) d_y_longestRun_11 (by decide) (fun c => ?_) (fun c => ?_)
  · replace h := h.1 c
    refine ch_iload_n (i := 2) d_y_longestRun_45 rfl rfl ?_
    exact ch_iret (ty := .int) d_y_longestRun_46 rfl rfl (Nat.le_of_ble_eq_true rfl) h
  · replace h := h.2 c
    refine ch_aload_n (i := 0) d_y_longestRun_14 rfl rfl ?_
    refine ch_get (v := .inr (1, j, 1)) d_y_longestRun_15 fl_y_9 rfl ?_
    refine ch_iload d_y_longestRun_18 rfl ?_
    have b1 := h.1
    replace h := h.2
    refine ch_iald (n := 12) d_y_longestRun_20 (by decide) rfl b1 ?_
    refine ch_iload_n (i := 1) d_y_longestRun_21 rfl rfl ?_
    refine ch_icmp_ne (tgt := 31) d_y_longestRun_22 (by decide) (fun c => ?_) (fun c => ?_)
    · replace h := h.1 c
      refine ch_iconst (v := 0) d_y_longestRun_31 (by decide) ?_
      refine ch_istore_n (i := 3) d_y_longestRun_32 rfl (Nat.le_of_ble_eq_true rfl) (ls' := [some (.inr (1, j, 0)), some (.inl (.int x1)), some (.inl (.int x2)), some (.inl (.int 0)), some (.inl (.int x4))]) rfl ?_
      refine ch_iload_n (i := 2) d_y_longestRun_33 rfl rfl ?_
      refine ch_iload_n (i := 3) d_y_longestRun_34 rfl rfl ?_
      refine ch_max d_y_longestRun_35 lk_y_143 ⟨Nat.le_of_ble_eq_true rfl, Nat.le_of_ble_eq_true rfl⟩ ⟨Nat.le_of_ble_eq_true rfl, Nat.le_of_ble_eq_true rfl⟩ (Nat.le_of_ble_eq_true rfl) ?_
      refine ch_istore_n (i := 2) d_y_longestRun_38 rfl (Nat.le_of_ble_eq_true rfl) (ls' := [some (.inr (1, j, 0)), some (.inl (.int x1)), some (.inl (.int (if x2 < 0 then 0 else x2))), some (.inl (.int 0)), some (.inl (.int x4))]) rfl ?_
      refine ch_iinc (i := 4) (v := (x4 + 1)) d_y_longestRun_39 rfl rfl (Nat.le_of_ble_eq_true rfl) (ls' := [some (.inr (1, j, 0)), some (.inl (.int x1)), some (.inl (.int (if x2 < 0 then 0 else x2))), some (.inl (.int 0)), some (.inl (.int (x4 + 1)))]) rfl ?_
      refine ch_goto (tgt := 7) d_y_longestRun_42 (by decide) ?_
      exact h
    · replace h := h.2 c
      refine ch_iload_n (i := 3) d_y_longestRun_25 rfl rfl ?_
      refine ch_iconst (v := 1) d_y_longestRun_26 (by decide) ?_
      refine ch_iadd d_y_longestRun_27 ?_
      refine ch_goto (tgt := 32) d_y_longestRun_28 (by decide) ?_
      refine ch_istore_n (i := 3) d_y_longestRun_32 rfl (Nat.le_of_ble_eq_true rfl) (ls' := [some (.inr (1, j, 0)), some (.inl (.int x1)), some (.inl (.int x2)), some (.inl (.int (x3 + 1))), some (.inl (.int x4))]) rfl ?_
      refine ch_iload_n (i := 2) d_y_longestRun_33 rfl rfl ?_
      refine ch_iload_n (i := 3) d_y_longestRun_34 rfl rfl ?_
      refine ch_max d_y_longestRun_35 lk_y_143 ⟨Nat.le_of_ble_eq_true rfl, Nat.le_of_ble_eq_true rfl⟩ ⟨Nat.le_of_ble_eq_true rfl, Nat.le_of_ble_eq_true rfl⟩ (Nat.le_of_ble_eq_true rfl) ?_
      refine ch_istore_n (i := 2) d_y_longestRun_38 rfl (Nat.le_of_ble_eq_true rfl) (ls' := [some (.inr (1, j, 0)), some (.inl (.int x1)), some (.inl (.int (if x2 < (x3 + 1) then (x3 + 1) else x2))), some (.inl (.int (x3 + 1))), some (.inl (.int x4))]) rfl ?_
      refine ch_iinc (i := 4) (v := (x4 + 1)) d_y_longestRun_39 rfl rfl (Nat.le_of_ble_eq_true rfl) (ls' := [some (.inr (1, j, 0)), some (.inl (.int x1)), some (.inl (.int (if x2 < (x3 + 1) then (x3 + 1) else x2))), some (.inl (.int (x3 + 1))), some (.inl (.int (x4 + 1)))]) rfl ?_
      refine ch_goto (tgt := 7) d_y_longestRun_42 (by decide) ?_
      exact h
theorem e_y_sumPebbles (g : ch_G) (Q : ch_O → ch_M → Prop) (j : Nat) (m : ch_M) (h : ch_J g m_y_sumPebbles (ch_rm m_y_sumPebbles) (ch_E g m_y_sumPebbles Q) 0 [some (.inr (1, j, 0)), none, none] [] m 0) : ch_C g m_y_sumPebbles [.inr (1, j, 0)] m Q :=
  ch_enter mf_y_sumPebbles (by intro v hv; simp only [List.mem_cons, List.not_mem_nil, or_false] at hv; rcases hv with rfl <;> rfl) (Nat.le_of_ble_eq_true rfl) h
set_option maxHeartbeats 1600000 in
theorem g_y_sumPebbles_0 (g : ch_G) (Q : ch_O → ch_M → Prop) (j : Nat) (m : ch_M) (h : ch_J g m_y_sumPebbles (ch_rm m_y_sumPebbles) (ch_E g m_y_sumPebbles Q) 4 [some (.inr (1, j, 0)), some (.inl (.int 0)), some (.inl (.int 0))] [] m 0) : ch_J g m_y_sumPebbles (ch_rm m_y_sumPebbles) (ch_E g m_y_sumPebbles Q) 0 [some (.inr (1, j, 0)), none, none] [] m 0 := by
  refine ch_iconst (v := 0) d_y_sumPebbles_0 (by decide) ?_
  refine ch_istore_n (i := 1) d_y_sumPebbles_1 rfl (Nat.le_of_ble_eq_true rfl) (ls' := [some (.inr (1, j, 0)), some (.inl (.int 0)), none]) rfl ?_
  refine ch_iconst (v := 0) d_y_sumPebbles_2 (by decide) ?_
  refine ch_istore_n (i := 2) d_y_sumPebbles_3 rfl (Nat.le_of_ble_eq_true rfl) (ls' := [some (.inr (1, j, 0)), some (.inl (.int 0)), some (.inl (.int 0))]) rfl ?_
  exact h
set_option maxHeartbeats 1600000 in
theorem g_y_sumPebbles_4 (g : ch_G) (Q : ch_O → ch_M → Prop) (j : Nat) (x1 : Int32) (x2 : Int32) (m : ch_M) (h : (((m (1, j, 0) 8) ≤ x2 → Q (.inl (some (.inl (.int x1)))) m) ∧ (¬ (m (1, j, 0) 8) ≤ x2 → (vp_in x2 5) ∧ ch_J g m_y_sumPebbles (ch_rm m_y_sumPebbles) (ch_E g m_y_sumPebbles Q) 4 [some (.inr (1, j, 0)), some (.inl (.int (x1 + (m (1, j, 3) (Int32.toNatClampNeg x2))))), some (.inl (.int (x2 + 1)))] [] m 0))) : ch_J g m_y_sumPebbles (ch_rm m_y_sumPebbles) (ch_E g m_y_sumPebbles Q) 4 [some (.inr (1, j, 0)), some (.inl (.int x1)), some (.inl (.int x2))] [] m 0 := by
  refine ch_iload_n (i := 2) d_y_sumPebbles_4 rfl rfl ?_
  refine ch_aload_n (i := 0) d_y_sumPebbles_5 rfl rfl ?_
  refine ch_get (v := .inl (.int (m (1, j, 0) 8))) d_y_sumPebbles_6 fl_y_42 rfl ?_
  refine ch_icmp_ge (tgt := 27) d_y_sumPebbles_9 (by decide) (fun c => ?_) (fun c => ?_)
  · replace h := h.1 c
    refine ch_iload_n (i := 1) d_y_sumPebbles_27 rfl rfl ?_
    exact ch_iret (ty := .int) d_y_sumPebbles_28 rfl rfl (Nat.le_of_ble_eq_true rfl) h
  · replace h := h.2 c
    refine ch_iload_n (i := 1) d_y_sumPebbles_12 rfl rfl ?_
    refine ch_aload_n (i := 0) d_y_sumPebbles_13 rfl rfl ?_
    refine ch_get (v := .inr (1, j, 3)) d_y_sumPebbles_14 fl_y_18 rfl ?_
    refine ch_iload_n (i := 2) d_y_sumPebbles_17 rfl rfl ?_
    have b1 := h.1
    replace h := h.2
    refine ch_iald (n := 5) d_y_sumPebbles_18 (by decide) rfl b1 ?_
    refine ch_iadd d_y_sumPebbles_19 ?_
    refine ch_istore_n (i := 1) d_y_sumPebbles_20 rfl (Nat.le_of_ble_eq_true rfl) (ls' := [some (.inr (1, j, 0)), some (.inl (.int (x1 + (m (1, j, 3) (Int32.toNatClampNeg x2))))), some (.inl (.int x2))]) rfl ?_
    refine ch_iinc (i := 2) (v := (x2 + 1)) d_y_sumPebbles_21 rfl rfl (Nat.le_of_ble_eq_true rfl) (ls' := [some (.inr (1, j, 0)), some (.inl (.int (x1 + (m (1, j, 3) (Int32.toNatClampNeg x2))))), some (.inl (.int (x2 + 1)))]) rfl ?_
    refine ch_goto (tgt := 4) d_y_sumPebbles_24 (by decide) ?_
    exact h
theorem e_y_countTreads (g : ch_G) (Q : ch_O → ch_M → Prop) (j : Nat) (p1 : Int32) (j2 : Nat) (m : ch_M) (h : ch_J g m_y_countTreads (ch_rm m_y_countTreads) (ch_E g m_y_countTreads Q) 0 [some (.inr (1, j, 0)), some (.inl (.int p1)), some (.inr (5, j2, 0)), none, none, none] [] m 0) : ch_C g m_y_countTreads [.inr (1, j, 0), .inl (.int p1), .inr (5, j2, 0)] m Q :=
  ch_enter mf_y_countTreads (by intro v hv; simp only [List.mem_cons, List.not_mem_nil, or_false] at hv; rcases hv with rfl | rfl | rfl <;> rfl) (Nat.le_of_ble_eq_true rfl) h
set_option maxHeartbeats 1600000 in
theorem g_y_countTreads_0 (g : ch_G) (Q : ch_O → ch_M → Prop) (j : Nat) (p1 : Int32) (j2 : Nat) (m : ch_M) (h : ch_J g m_y_countTreads (ch_rm m_y_countTreads) (ch_E g m_y_countTreads Q) 8 [some (.inr (1, j, 0)), some (.inl (.int p1)), some (.inr (5, j2, 0)), some (.inl (.int 0)), some (.inl (.int (-1))), some (.inl (.int 0))] [] m 0) : ch_J g m_y_countTreads (ch_rm m_y_countTreads) (ch_E g m_y_countTreads Q) 0 [some (.inr (1, j, 0)), some (.inl (.int p1)), some (.inr (5, j2, 0)), none, none, none] [] m 0 := by
  refine ch_iconst (v := 0) d_y_countTreads_0 (by decide) ?_
  refine ch_istore_n (i := 3) d_y_countTreads_1 rfl (Nat.le_of_ble_eq_true rfl) (ls' := [some (.inr (1, j, 0)), some (.inl (.int p1)), some (.inr (5, j2, 0)), some (.inl (.int 0)), none, none]) rfl ?_
  refine ch_iconst (v := (-1)) d_y_countTreads_2 (by decide) ?_
  refine ch_istore (i := 4) d_y_countTreads_3 (Nat.le_of_ble_eq_true rfl) (ls' := [some (.inr (1, j, 0)), some (.inl (.int p1)), some (.inr (5, j2, 0)), some (.inl (.int 0)), some (.inl (.int (-1))), none]) rfl ?_
  refine ch_iconst (v := 0) d_y_countTreads_5 (by decide) ?_
  refine ch_istore (i := 5) d_y_countTreads_6 (Nat.le_of_ble_eq_true rfl) (ls' := [some (.inr (1, j, 0)), some (.inl (.int p1)), some (.inr (5, j2, 0)), some (.inl (.int 0)), some (.inl (.int (-1))), some (.inl (.int 0))]) rfl ?_
  exact h
set_option maxHeartbeats 1600000 in
theorem g_y_countTreads_8 (g : ch_G) (Q : ch_O → ch_M → Prop) (j : Nat) (x1 : Int32) (j2 : Nat) (x3 : Int32) (x4 : Int32) (x5 : Int32) (m : ch_M) (h : (((m (5, j2, 0) 1) ≤ x5 → Q (.inl (some (.inl (.int x3)))) m) ∧ (¬ (m (5, j2, 0) 1) ≤ x5 → (vp_in x5 12) ∧ (((ch_line (ch_ob m 1 j) x1 (x4 + (m (5, j2, 1) (Int32.toNatClampNeg x5)))) → ch_J g m_y_countTreads (ch_rm m_y_countTreads) (ch_E g m_y_countTreads Q) 8 [some (.inr (1, j, 0)), some (.inl (.int x1)), some (.inr (5, j2, 0)), some (.inl (.int (x3 + 1))), some (.inl (.int (x4 + (m (5, j2, 1) (Int32.toNatClampNeg x5))))), some (.inl (.int (x5 + 1)))] [] m 0) ∧ ((¬ ch_line (ch_ob m 1 j) x1 (x4 + (m (5, j2, 1) (Int32.toNatClampNeg x5)))) → ch_J g m_y_countTreads (ch_rm m_y_countTreads) (ch_E g m_y_countTreads Q) 8 [some (.inr (1, j, 0)), some (.inl (.int x1)), some (.inr (5, j2, 0)), some (.inl (.int x3)), some (.inl (.int (x4 + (m (5, j2, 1) (Int32.toNatClampNeg x5))))), some (.inl (.int (x5 + 1)))] [] m 0))))) : ch_J g m_y_countTreads (ch_rm m_y_countTreads) (ch_E g m_y_countTreads Q) 8 [some (.inr (1, j, 0)), some (.inl (.int x1)), some (.inr (5, j2, 0)), some (.inl (.int x3)), some (.inl (.int x4)), some (.inl (.int x5))] [] m 0 := by
  refine ch_iload d_y_countTreads_8 rfl ?_
  refine ch_aload_n (i := 2) d_y_countTreads_10 rfl rfl ?_
  refine ch_get (v := .inl (.int (m (5, j2, 0) 1))) d_y_countTreads_11 fl_y_125 rfl ?_
  refine ch_icmp_ge (tgt := 48) d_y_countTreads_14 (by decide) (fun c => ?_) (fun c => ?_)
  · replace h := h.1 c
    refine ch_iload_n (i := 3) d_y_countTreads_48 rfl rfl ?_
    exact ch_iret (ty := .int) d_y_countTreads_49 rfl rfl (Nat.le_of_ble_eq_true rfl) h
  · replace h := h.2 c
    refine ch_iload d_y_countTreads_17 rfl ?_
    refine ch_aload_n (i := 2) d_y_countTreads_19 rfl rfl ?_
    refine ch_get (v := .inr (5, j2, 1)) d_y_countTreads_20 fl_y_130 rfl ?_
    refine ch_iload d_y_countTreads_23 rfl ?_
    have b1 := h.1
    replace h := h.2
    refine ch_iald (n := 12) d_y_countTreads_25 (by decide) rfl b1 ?_
    refine ch_iadd d_y_countTreads_26 ?_
    refine ch_istore (i := 4) d_y_countTreads_27 (Nat.le_of_ble_eq_true rfl) (ls' := [some (.inr (1, j, 0)), some (.inl (.int x1)), some (.inr (5, j2, 0)), some (.inl (.int x3)), some (.inl (.int (x4 + (m (5, j2, 1) (Int32.toNatClampNeg x5))))), some (.inl (.int x5))]) rfl ?_
    refine ch_aload_n (i := 0) d_y_countTreads_29 rfl rfl ?_
    refine ch_iload_n (i := 1) d_y_countTreads_30 rfl rfl ?_
    refine ch_iload d_y_countTreads_31 rfl ?_
    refine ch_callV (as := [.inl (.int x1), .inl (.int (x4 + (m (5, j2, 1) (Int32.toNatClampNeg x5))))]) d_y_countTreads_33 lk_y_133 mi_y_isLineFor me_y_isLineFor rfl rfl rfl ⟨Nat.le_of_ble_eq_true rfl, Nat.le_of_ble_eq_true rfl⟩ (Nat.le_of_ble_eq_true rfl) ⟨Nat.le_of_ble_eq_true rfl, Nat.le_of_ble_eq_true rfl⟩ (ch_mono (ch_Ki (fun r2 m3 q4 => ?_)) (s_y_isLineFor g (fun (r_ : Int32) (m_ : ch_M) => ((ch_line (ch_ob m 1 j) x1 (x4 + (m (5, j2, 1) (Int32.toNatClampNeg x5)))) ∧ 1 = r_ ∧ m = m_) ∨ ((¬ ch_line (ch_ob m 1 j) x1 (x4 + (m (5, j2, 1) (Int32.toNatClampNeg x5)))) ∧ 0 = r_ ∧ m = m_)) (j) (x1) ((x4 + (m (5, j2, 1) (Int32.toNatClampNeg x5)))) m ⟨(fun c_ => (Or.inl ⟨c_, rfl, rfl⟩)), (fun c_ => (Or.inr ⟨c_, rfl, rfl⟩))⟩))
    rcases q4 with ⟨c_, rfl, rfl⟩ | ⟨c_, rfl, rfl⟩
    · replace h := h.1 c_
      refine ch_if_eq (tgt := 42) d_y_countTreads_36 (by decide) (fun c => absurd c (by decide)) (fun _ => ?_)
      refine ch_iinc (i := 3) (v := (x3 + 1)) d_y_countTreads_39 rfl rfl (Nat.le_of_ble_eq_true rfl) (ls' := [some (.inr (1, j, 0)), some (.inl (.int x1)), some (.inr (5, j2, 0)), some (.inl (.int (x3 + 1))), some (.inl (.int (x4 + (m (5, j2, 1) (Int32.toNatClampNeg x5))))), some (.inl (.int x5))]) rfl ?_
      refine ch_iinc (i := 5) (v := (x5 + 1)) d_y_countTreads_42 rfl rfl (Nat.le_of_ble_eq_true rfl) (ls' := [some (.inr (1, j, 0)), some (.inl (.int x1)), some (.inr (5, j2, 0)), some (.inl (.int (x3 + 1))), some (.inl (.int (x4 + (m (5, j2, 1) (Int32.toNatClampNeg x5))))), some (.inl (.int (x5 + 1)))]) rfl ?_
      refine ch_goto (tgt := 8) d_y_countTreads_45 (by decide) ?_
      exact h
    · replace h := h.2 c_
      refine ch_if_eq (tgt := 42) d_y_countTreads_36 (by decide) (fun _ => ?_) (fun c => absurd c (by decide))
      refine ch_iinc (i := 5) (v := (x5 + 1)) d_y_countTreads_42 rfl rfl (Nat.le_of_ble_eq_true rfl) (ls' := [some (.inr (1, j, 0)), some (.inl (.int x1)), some (.inr (5, j2, 0)), some (.inl (.int x3)), some (.inl (.int (x4 + (m (5, j2, 1) (Int32.toNatClampNeg x5))))), some (.inl (.int (x5 + 1)))]) rfl ?_
      refine ch_goto (tgt := 8) d_y_countTreads_45 (by decide) ?_
      exact h
theorem e_s_misfit (g : ch_G) (Q : ch_O → ch_M → Prop) (j : Nat) (m : ch_M) (h : ch_J g m_s_misfit (ch_rm m_s_misfit) (ch_E g m_s_misfit Q) 0 [some (.inr (5, j, 0)), none, none] [] m 0) : ch_C g m_s_misfit [.inr (5, j, 0)] m Q :=
  ch_enter mf_s_misfit (by intro v hv; simp only [List.mem_cons, List.not_mem_nil, or_false] at hv; rcases hv with rfl <;> rfl) (Nat.le_of_ble_eq_true rfl) h
set_option maxHeartbeats 1600000 in
theorem g_s_misfit_0 (g : ch_G) (Q : ch_O → ch_M → Prop) (j : Nat) (m : ch_M) (h : ch_J g m_s_misfit (ch_rm m_s_misfit) (ch_E g m_s_misfit Q) 4 [some (.inr (5, j, 0)), some (.inl (.int (-1))), some (.inl (.int 0))] [] m 0) : ch_J g m_s_misfit (ch_rm m_s_misfit) (ch_E g m_s_misfit Q) 0 [some (.inr (5, j, 0)), none, none] [] m 0 := by
  refine ch_iconst (v := (-1)) d_s_misfit_0 (by decide) ?_
  refine ch_istore_n (i := 1) d_s_misfit_1 rfl (Nat.le_of_ble_eq_true rfl) (ls' := [some (.inr (5, j, 0)), some (.inl (.int (-1))), none]) rfl ?_
  refine ch_iconst (v := 0) d_s_misfit_2 (by decide) ?_
  refine ch_istore_n (i := 2) d_s_misfit_3 rfl (Nat.le_of_ble_eq_true rfl) (ls' := [some (.inr (5, j, 0)), some (.inl (.int (-1))), some (.inl (.int 0))]) rfl ?_
  exact h
set_option maxHeartbeats 1600000 in
theorem g_s_misfit_4 (g : ch_G) (Q : ch_O → ch_M → Prop) (j : Nat) (x1 : Int32) (x2 : Int32) (m : ch_M) (h : (((m (5, j, 0) 1) ≤ x2 → ((x1 < 11 → Q (.inl (some (.inl (.int x1)))) m) ∧ (¬ x1 < 11 → Q (.inl (some (.inl (.int (-1))))) m))) ∧ (¬ (m (5, j, 0) 1) ≤ x2 → ((x1 < 11 → (vp_in x2 12) ∧ ch_J g m_s_misfit (ch_rm m_s_misfit) (ch_E g m_s_misfit Q) 4 [some (.inr (5, j, 0)), some (.inl (.int (x1 + (m (5, j, 1) (Int32.toNatClampNeg x2))))), some (.inl (.int (x2 + 1)))] [] m 0) ∧ (¬ x1 < 11 → Q (.inl (some (.inl (.int 12)))) m))))) : ch_J g m_s_misfit (ch_rm m_s_misfit) (ch_E g m_s_misfit Q) 4 [some (.inr (5, j, 0)), some (.inl (.int x1)), some (.inl (.int x2))] [] m 0 := by
  refine ch_iload_n (i := 2) d_s_misfit_4 rfl rfl ?_
  refine ch_aload_n (i := 0) d_s_misfit_5 rfl rfl ?_
  refine ch_get (v := .inl (.int (m (5, j, 0) 1))) d_s_misfit_6 fl_s_15 rfl ?_
  refine ch_icmp_ge (tgt := 36) d_s_misfit_9 (by decide) (fun c => ?_) (fun c => ?_)
  · replace h := h.1 c
    refine ch_iload_n (i := 1) d_s_misfit_36 rfl rfl ?_
    refine ch_bipush (v := 11) d_s_misfit_37 (by decide) ?_
    refine ch_icmp_lt (tgt := 46) d_s_misfit_39 (by decide) (fun c => ?_) (fun c => ?_)
    · replace h := h.1 c
      refine ch_iload_n (i := 1) d_s_misfit_46 rfl rfl ?_
      exact ch_iret (ty := .int) d_s_misfit_47 rfl rfl (Nat.le_of_ble_eq_true rfl) h
    · replace h := h.2 c
      refine ch_iconst (v := (-1)) d_s_misfit_42 (by decide) ?_
      refine ch_goto (tgt := 47) d_s_misfit_43 (by decide) ?_
      exact ch_iret (ty := .int) d_s_misfit_47 rfl rfl (Nat.le_of_ble_eq_true rfl) h
  · replace h := h.2 c
    refine ch_iload_n (i := 1) d_s_misfit_12 rfl rfl ?_
    refine ch_bipush (v := 11) d_s_misfit_13 (by decide) ?_
    refine ch_icmp_lt (tgt := 21) d_s_misfit_15 (by decide) (fun c => ?_) (fun c => ?_)
    · replace h := h.1 c
      refine ch_iload_n (i := 1) d_s_misfit_21 rfl rfl ?_
      refine ch_aload_n (i := 0) d_s_misfit_22 rfl rfl ?_
      refine ch_get (v := .inr (5, j, 1)) d_s_misfit_23 fl_s_9 rfl ?_
      refine ch_iload_n (i := 2) d_s_misfit_26 rfl rfl ?_
      have b1 := h.1
      replace h := h.2
      refine ch_iald (n := 12) d_s_misfit_27 (by decide) rfl b1 ?_
      refine ch_iadd d_s_misfit_28 ?_
      refine ch_istore_n (i := 1) d_s_misfit_29 rfl (Nat.le_of_ble_eq_true rfl) (ls' := [some (.inr (5, j, 0)), some (.inl (.int (x1 + (m (5, j, 1) (Int32.toNatClampNeg x2))))), some (.inl (.int x2))]) rfl ?_
      refine ch_iinc (i := 2) (v := (x2 + 1)) d_s_misfit_30 rfl rfl (Nat.le_of_ble_eq_true rfl) (ls' := [some (.inr (5, j, 0)), some (.inl (.int (x1 + (m (5, j, 1) (Int32.toNatClampNeg x2))))), some (.inl (.int (x2 + 1)))]) rfl ?_
      refine ch_goto (tgt := 4) d_s_misfit_33 (by decide) ?_
      exact h
    · replace h := h.2 c
      refine ch_bipush (v := 12) d_s_misfit_18 (by decide) ?_
      exact ch_iret (ty := .int) d_s_misfit_20 rfl rfl (Nat.le_of_ble_eq_true rfl) h
theorem e_y_measureOf (g : ch_G) (Q : ch_O → ch_M → Prop) (j : Nat) (p1 : Int32) (p2 : Int32) (m : ch_M) (h : ch_J g m_y_measureOf (ch_rm m_y_measureOf) (ch_E g m_y_measureOf Q) 0 [some (.inr (1, j, 0)), some (.inl (.int p1)), some (.inl (.int p2))] [] m 0) : ch_C g m_y_measureOf [.inr (1, j, 0), .inl (.int p1), .inl (.int p2)] m Q :=
  ch_enter mf_y_measureOf (by intro v hv; simp only [List.mem_cons, List.not_mem_nil, or_false] at hv; rcases hv with rfl | rfl | rfl <;> rfl) (Nat.le_of_ble_eq_true rfl) h
set_option maxHeartbeats 1600000 in
theorem g_y_measureOf_0 (g : ch_G) (Q : ch_O → ch_M → Prop) (j : Nat) (p1 : Int32) (p2 : Int32) (m : ch_M) (h : ((p2 = 0 → (vp_in p1 5) ∧ Q (.inl (some (.inl (.int (m (1, j, 3) (Int32.toNatClampNeg p1)))))) m) ∧ (p2 = 1 → (Q (.inl (some (.inl (.int (ch_cnO (m (1, j, 1)) p1 12))))) m)) ∧ (p2 = 2 → (vp_in p1 5) ∧ Q (.inl (some (.inl (.int (m (1, j, 4) (Int32.toNatClampNeg p1)))))) m) ∧ ((Int32.toInt p2 < 0 ∨ 2 < Int32.toInt p2) → (vp_in p1 5) ∧ Q (.inl (some (.inl (.int (m (1, j, 5) (Int32.toNatClampNeg p1)))))) m))) : ch_J g m_y_measureOf (ch_rm m_y_measureOf) (ch_E g m_y_measureOf Q) 0 [some (.inr (1, j, 0)), some (.inl (.int p1)), some (.inl (.int p2))] [] m 0 := by
  refine ch_iload_n (i := 2) d_y_measureOf_0 rfl rfl ?_
  by_cases e0 : p2 = 0
  · replace h := h.1 e0
    refine ch_tswIn (tgt := 28) (off := 27) d_y_measureOf_1 (by rw [e0]; decide) (by rw [e0]; decide) (by rw [e0]; rfl) (by decide) ?_
    refine ch_aload_n (i := 0) d_y_measureOf_28 rfl rfl ?_
    refine ch_get (v := .inr (1, j, 3)) d_y_measureOf_29 fl_y_18 rfl ?_
    refine ch_iload_n (i := 1) d_y_measureOf_32 rfl rfl ?_
    have b1 := h.1
    replace h := h.2
    refine ch_iald (n := 5) d_y_measureOf_33 (by decide) rfl b1 ?_
    exact ch_iret (ty := .int) d_y_measureOf_34 rfl rfl (Nat.le_of_ble_eq_true rfl) h
  replace h := h.2
  by_cases e1 : p2 = 1
  · replace h := h.1 e1
    refine ch_tswIn (tgt := 35) (off := 34) d_y_measureOf_1 (by rw [e1]; decide) (by rw [e1]; decide) (by rw [e1]; rfl) (by decide) ?_
    refine ch_aload_n (i := 0) d_y_measureOf_35 rfl rfl ?_
    refine ch_iload_n (i := 1) d_y_measureOf_36 rfl rfl ?_
    refine ch_callV (as := [.inl (.int p1)]) d_y_measureOf_37 lk_y_152 mi_y_countOwned me_y_countOwned rfl rfl rfl ⟨Nat.le_of_ble_eq_true rfl, Nat.le_of_ble_eq_true rfl⟩ (Nat.le_of_ble_eq_true rfl) ⟨Nat.le_of_ble_eq_true rfl, Nat.le_of_ble_eq_true rfl⟩ (ch_mono (ch_Ki (fun r2 m3 q4 => ?_)) (s_y_countOwned g (fun (r_ : Int32) (m_ : ch_M) => ((ch_cnO (m (1, j, 1)) p1 12) = r_ ∧ m = m_)) (j) (p1) m ⟨rfl, rfl⟩))
    obtain ⟨rfl, rfl⟩ := q4
    replace h := h
    exact ch_iret (ty := .int) d_y_measureOf_40 rfl rfl (Nat.le_of_ble_eq_true rfl) h
  replace h := h.2
  by_cases e2 : p2 = 2
  · replace h := h.1 e2
    refine ch_tswIn (tgt := 41) (off := 40) d_y_measureOf_1 (by rw [e2]; decide) (by rw [e2]; decide) (by rw [e2]; rfl) (by decide) ?_
    refine ch_aload_n (i := 0) d_y_measureOf_41 rfl rfl ?_
    refine ch_get (v := .inr (1, j, 4)) d_y_measureOf_42 fl_y_21 rfl ?_
    refine ch_iload_n (i := 1) d_y_measureOf_45 rfl rfl ?_
    have b5 := h.1
    replace h := h.2
    refine ch_iald (n := 5) d_y_measureOf_46 (by decide) rfl b5 ?_
    exact ch_iret (ty := .int) d_y_measureOf_47 rfl rfl (Nat.le_of_ble_eq_true rfl) h
  replace h := h.2
  have hx : (Int32.toInt p2 < 0 ∨ 2 < Int32.toInt p2) := by
    have f0 : Int32.toInt p2 ≠ 0 := fun q => e0 (Int32.toInt_inj.mp (q.trans (by decide)))
    have f1 : Int32.toInt p2 ≠ 1 := fun q => e1 (Int32.toInt_inj.mp (q.trans (by decide)))
    have f2 : Int32.toInt p2 ≠ 2 := fun q => e2 (Int32.toInt_inj.mp (q.trans (by decide)))
    omega
  replace h := h hx
  refine ch_tswOut (tgt := 48) d_y_measureOf_1 hx (by decide) ?_
  refine ch_aload_n (i := 0) d_y_measureOf_48 rfl rfl ?_
  refine ch_get (v := .inr (1, j, 5)) d_y_measureOf_49 fl_y_24 rfl ?_
  refine ch_iload_n (i := 1) d_y_measureOf_52 rfl rfl ?_
  have b6 := h.1
  replace h := h.2
  refine ch_iald (n := 5) d_y_measureOf_53 (by decide) rfl b6 ?_
  exact ch_iret (ty := .int) d_y_measureOf_54 rfl rfl (Nat.le_of_ble_eq_true rfl) h
