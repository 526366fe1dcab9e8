theorem e_y_hasChild (g : ch_G) (Q : ch_O → ch_M → Prop) (j : Nat) (p1 : Int32) (m : ch_M) (h : ch_J g m_y_hasChild (ch_rm m_y_hasChild) (ch_E g m_y_hasChild Q) 0 [some (.inr (1, j, 0)), some (.inl (.int p1))] [] m 0) : ch_C g m_y_hasChild [.inr (1, j, 0), .inl (.int p1)] m Q :=
  ch_enter mf_y_hasChild (by intro v hv; simp only [List.mem_cons, List.not_mem_nil, or_false] at hv; rcases hv with rfl | rfl <;> rfl) (Nat.le_of_ble_eq_true rfl) h
set_option maxHeartbeats 1600000 in
theorem g_y_hasChild_0 (g : ch_G) (Q : ch_O → ch_M → Prop) (j : Nat) (p1 : Int32) (m : ch_M) (h : ((p1 < 0 → Q (.inl (some (.inl (.int 0)))) m) ∧ (¬ p1 < 0 → (((m (1, j, 0) 8) ≤ p1 → Q (.inl (some (.inl (.int 0)))) m) ∧ (¬ (m (1, j, 0) 8) ≤ p1 → Q (.inl (some (.inl (.int 1)))) m))))) : ch_J g m_y_hasChild (ch_rm m_y_hasChild) (ch_E g m_y_hasChild Q) 0 [some (.inr (1, j, 0)), some (.inl (.int p1))] [] m 0 := by
  refine ch_iload_n (i := 1) d_y_hasChild_0 rfl rfl ?_
  refine ch_if_lt (tgt := 16) d_y_hasChild_1 (by decide) (fun c => ?_) (fun c => ?_)
  · replace h := h.1 c
    refine ch_iconst (v := 0) d_y_hasChild_16 (by decide) ?_
    exact ch_iret (ty := .boolean) d_y_hasChild_17 rfl rfl (Nat.le_of_ble_eq_true rfl) h
  · replace h := h.2 c
    refine ch_iload_n (i := 1) d_y_hasChild_4 rfl rfl ?_
    refine ch_aload_n (i := 0) d_y_hasChild_5 rfl rfl ?_
    refine ch_get (v := .inl (.int (m (1, j, 0) 8))) d_y_hasChild_6 fl_y_42 rfl ?_
    refine ch_icmp_ge (tgt := 16) d_y_hasChild_9 (by decide) (fun c => ?_) (fun c => ?_)
    · replace h := h.1 c
      refine ch_iconst (v := 0) d_y_hasChild_16 (by decide) ?_
      exact ch_iret (ty := .boolean) d_y_hasChild_17 rfl rfl (Nat.le_of_ble_eq_true rfl) h
    · replace h := h.2 c
      refine ch_iconst (v := 1) d_y_hasChild_12 (by decide) ?_
      refine ch_goto (tgt := 17) d_y_hasChild_13 (by decide) ?_
      exact ch_iret (ty := .boolean) d_y_hasChild_17 rfl rfl (Nat.le_of_ble_eq_true rfl) h
theorem e_y_isLineFor (g : ch_G) (Q : ch_O → ch_M → Prop) (j : Nat) (p1 : Int32) (p2 : Int32) (m : ch_M) (h : ch_J g m_y_isLineFor (ch_rm m_y_isLineFor) (ch_E g m_y_isLineFor Q) 0 [some (.inr (1, j, 0)), some (.inl (.int p1)), some (.inl (.int p2))] [] m 0) : ch_C g m_y_isLineFor [.inr (1, j, 0), .inl (.int p1), .inl (.int p2)] m Q :=
  ch_enter mf_y_isLineFor (by intro v hv; simp only [List.mem_cons, List.not_mem_nil, or_false] at hv; rcases hv with rfl | rfl | rfl <;> rfl) (Nat.le_of_ble_eq_true rfl) h
set_option maxHeartbeats 1600000 in
theorem g_y_isLineFor_0 (g : ch_G) (Q : ch_O → ch_M → Prop) (j : Nat) (p1 : Int32) (p2 : Int32) (m : ch_M) (h : ((p2 < 0 → Q (.inl (some (.inl (.int 0)))) m) ∧ (¬ p2 < 0 → ((12 ≤ p2 → Q (.inl (some (.inl (.int 0)))) m) ∧ (¬ 12 ≤ p2 → (vp_in p2 12) ∧ (((m (1, j, 1) (Int32.toNatClampNeg p2)) = (-1) → Q (.inl (some (.inl (.int 0)))) m) ∧ (¬ (m (1, j, 1) (Int32.toNatClampNeg p2)) = (-1) → (((m (1, j, 1) (Int32.toNatClampNeg p2)) = p1 → Q (.inl (some (.inl (.int 0)))) m) ∧ (¬ (m (1, j, 1) (Int32.toNatClampNeg p2)) = p1 → Q (.inl (some (.inl (.int 1)))) m))))))))) : ch_J g m_y_isLineFor (ch_rm m_y_isLineFor) (ch_E g m_y_isLineFor Q) 0 [some (.inr (1, j, 0)), some (.inl (.int p1)), some (.inl (.int p2))] [] m 0 := by
  refine ch_iload_n (i := 2) d_y_isLineFor_0 rfl rfl ?_
  refine ch_if_lt (tgt := 34) d_y_isLineFor_1 (by decide) (fun c => ?_) (fun c => ?_)
  · replace h := h.1 c
    refine ch_iconst (v := 0) d_y_isLineFor_34 (by decide) ?_
    exact ch_iret (ty := .boolean) d_y_isLineFor_35 rfl rfl (Nat.le_of_ble_eq_true rfl) h
  · replace h := h.2 c
    refine ch_iload_n (i := 2) d_y_isLineFor_4 rfl rfl ?_
    refine ch_bipush (v := 12) d_y_isLineFor_5 (by decide) ?_
    refine ch_icmp_ge (tgt := 34) d_y_isLineFor_7 (by decide) (fun c => ?_) (fun c => ?_)
    · replace h := h.1 c
      refine ch_iconst (v := 0) d_y_isLineFor_34 (by decide) ?_
      exact ch_iret (ty := .boolean) d_y_isLineFor_35 rfl rfl (Nat.le_of_ble_eq_true rfl) h
    · replace h := h.2 c
      refine ch_aload_n (i := 0) d_y_isLineFor_10 rfl rfl ?_
      refine ch_get (v := .inr (1, j, 1)) d_y_isLineFor_11 fl_y_9 rfl ?_
      refine ch_iload_n (i := 2) d_y_isLineFor_14 rfl rfl ?_
      have b1 := h.1
      replace h := h.2
      refine ch_iald (n := 12) d_y_isLineFor_15 (by decide) rfl b1 ?_
      refine ch_iconst (v := (-1)) d_y_isLineFor_16 (by decide) ?_
      refine ch_icmp_eq (tgt := 34) d_y_isLineFor_17 (by decide) (fun c => ?_) (fun c => ?_)
      · replace h := h.1 c
        refine ch_iconst (v := 0) d_y_isLineFor_34 (by decide) ?_
        exact ch_iret (ty := .boolean) d_y_isLineFor_35 rfl rfl (Nat.le_of_ble_eq_true rfl) h
      · replace h := h.2 c
        refine ch_aload_n (i := 0) d_y_isLineFor_20 rfl rfl ?_
        refine ch_get (v := .inr (1, j, 1)) d_y_isLineFor_21 fl_y_9 rfl ?_
        refine ch_iload_n (i := 2) d_y_isLineFor_24 rfl rfl ?_
        refine ch_iald (n := 12) d_y_isLineFor_25 (by decide) rfl b1 ?_
        refine ch_iload_n (i := 1) d_y_isLineFor_26 rfl rfl ?_
        refine ch_icmp_eq (tgt := 34) d_y_isLineFor_27 (by decide) (fun c => ?_) (fun c => ?_)
        · replace h := h.1 c
          refine ch_iconst (v := 0) d_y_isLineFor_34 (by decide) ?_
          exact ch_iret (ty := .boolean) d_y_isLineFor_35 rfl rfl (Nat.le_of_ble_eq_true rfl) h
        · replace h := h.2 c
          refine ch_iconst (v := 1) d_y_isLineFor_30 (by decide) ?_
          refine ch_goto (tgt := 35) d_y_isLineFor_31 (by decide) ?_
          exact ch_iret (ty := .boolean) d_y_isLineFor_35 rfl rfl (Nat.le_of_ble_eq_true rfl) h
theorem e_y_countOwned (g : ch_G) (Q : ch_O → ch_M → Prop) (j : Nat) (p1 : Int32) (m : ch_M) (h : ch_J g m_y_countOwned (ch_rm m_y_countOwned) (ch_E g m_y_countOwned Q) 0 [some (.inr (1, j, 0)), some (.inl (.int p1)), none, none] [] m 0) : ch_C g m_y_countOwned [.inr (1, j, 0), .inl (.int p1)] m Q :=
  ch_enter mf_y_countOwned (by intro v hv; simp only [List.mem_cons, List.not_mem_nil, or_false] at hv; rcases hv with rfl | rfl <;> rfl) (Nat.le_of_ble_eq_true rfl) h
set_option maxHeartbeats 1600000 in
theorem g_y_countOwned_0 (g : ch_G) (Q : ch_O → ch_M → Prop) (j : Nat) (p1 : Int32) (m : ch_M) (h : ch_J g m_y_countOwned (ch_rm m_y_countOwned) (ch_E g m_y_countOwned Q) 4 [some (.inr (1, j, 0)), some (.inl (.int p1)), some (.inl (.int 0)), some (.inl (.int 0))] [] m 0) : ch_J g m_y_countOwned (ch_rm m_y_countOwned) (ch_E g m_y_countOwned Q) 0 [some (.inr (1, j, 0)), some (.inl (.int p1)), none, none] [] m 0 := by
  refine ch_iconst (v := 0) d_y_countOwned_0 (by decide) ?_
  refine ch_istore_n (i := 2) d_y_countOwned_1 rfl (Nat.le_of_ble_eq_true rfl) (ls' := [some (.inr (1, j, 0)), some (.inl (.int p1)), some (.inl (.int 0)), none]) rfl ?_
  refine ch_iconst (v := 0) d_y_countOwned_2 (by decide) ?_
  refine ch_istore_n (i := 3) d_y_countOwned_3 rfl (Nat.le_of_ble_eq_true rfl) (ls' := [some (.inr (1, j, 0)), some (.inl (.int p1)), some (.inl (.int 0)), some (.inl (.int 0))]) rfl ?_
  exact h
set_option maxHeartbeats 1600000 in
theorem g_y_countOwned_4 (g : ch_G) (Q : ch_O → ch_M → Prop) (j : Nat) (x1 : Int32) (x2 : Int32) (x3 : Int32) (m : ch_M) (h : ((12 ≤ x3 → Q (.inl (some (.inl (.int x2)))) m) ∧ (¬ 12 ≤ x3 → (vp_in x3 12) ∧ ((¬ (m (1, j, 1) (Int32.toNatClampNeg x3)) = x1 → ch_J g m_y_countOwned (ch_rm m_y_countOwned) (ch_E g m_y_countOwned Q) 4 [some (.inr (1, j, 0)), some (.inl (.int x1)), some (.inl (.int x2)), some (.inl (.int (x3 + 1)))] [] m 0) ∧ ((m (1, j, 1) (Int32.toNatClampNeg x3)) = x1 → ch_J g m_y_countOwned (ch_rm m_y_countOwned) (ch_E g m_y_countOwned Q) 4 [some (.inr (1, j, 0)), some (.inl (.int x1)), some (.inl (.int (x2 + 1))), some (.inl (.int (x3 + 1)))] [] m 0))))) : ch_J g m_y_countOwned (ch_rm m_y_countOwned) (ch_E g m_y_countOwned Q) 4 [some (.inr (1, j, 0)), some (.inl (.int x1)), some (.inl (.int x2)), some (.inl (.int x3))] [] m 0 := by
  refine ch_iload_n (i := 3) d_y_countOwned_4 rfl rfl ?_
  refine ch_bipush (v := 12) d_y_countOwned_5 (by decide) ?_
  refine ch_icmp_ge (tgt := 29) d_y_countOwned_7 (by decide) (fun c => ?_) (fun c => ?_)
  · replace h := h.1 c
    refine ch_iload_n (i := 2) d_y_countOwned_29 rfl rfl ?_
    exact ch_iret (ty := .int) d_y_countOwned_30 rfl rfl (Nat.le_of_ble_eq_true rfl) h
  · replace h := h.2 c
    refine ch_aload_n (i := 0) d_y_countOwned_10 rfl rfl ?_
    refine ch_get (v := .inr (1, j, 1)) d_y_countOwned_11 fl_y_9 rfl ?_
    refine ch_iload_n (i := 3) d_y_countOwned_14 rfl rfl ?_
    have b1 := h.1
    replace h := h.2
    refine ch_iald (n := 12) d_y_countOwned_15 (by decide) rfl b1 ?_
    refine ch_iload_n (i := 1) d_y_countOwned_16 rfl rfl ?_
    refine ch_icmp_ne (tgt := 23) d_y_countOwned_17 (by decide) (fun c => ?_) (fun c => ?_)
    · replace h := h.1 c
      refine ch_iinc (i := 3) (v := (x3 + 1)) d_y_countOwned_23 rfl rfl (Nat.le_of_ble_eq_true rfl) (ls' := [some (.inr (1, j, 0)), some (.inl (.int x1)), some (.inl (.int x2)), some (.inl (.int (x3 + 1)))]) rfl ?_
      refine ch_goto (tgt := 4) d_y_countOwned_26 (by decide) ?_
      exact h
    · replace h := h.2 c
      refine ch_iinc (i := 2) (v := (x2 + 1)) d_y_countOwned_20 rfl rfl (Nat.le_of_ble_eq_true rfl) (ls' := [some (.inr (1, j, 0)), some (.inl (.int x1)), some (.inl (.int (x2 + 1))), some (.inl (.int x3))]) rfl ?_
      refine ch_iinc (i := 3) (v := (x3 + 1)) d_y_countOwned_23 rfl rfl (Nat.le_of_ble_eq_true rfl) (ls' := [some (.inr (1, j, 0)), some (.inl (.int x1)), some (.inl (.int (x2 + 1))), some (.inl (.int (x3 + 1)))]) rfl ?_
      refine ch_goto (tgt := 4) d_y_countOwned_26 (by decide) ?_
      exact h
