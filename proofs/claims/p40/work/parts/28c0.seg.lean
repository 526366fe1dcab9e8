theorem e_x_squareOf (g : ch_G) (Q : ch_O → ch_M → Prop) (p1 : Int32) (p2 : Int32) (m : ch_M) (h : ch_J g m_x_squareOf (ch_rm m_x_squareOf) (ch_E g m_x_squareOf Q) 0 [some (.inr (0, 0, 0)), some (.inl (.int p1)), some (.inl (.int p2))] [] m 0) : ch_C g m_x_squareOf [.inr (0, 0, 0), .inl (.int p1), .inl (.int p2)] m Q :=
  ch_enter mf_x_squareOf (by intro v hv; simp only [List.mem_cons, List.not_mem_nil, or_false] at hv; rcases hv with rfl | rfl | rfl <;> rfl) (Nat.le_of_ble_eq_true rfl) h
set_option maxHeartbeats 1600000 in
theorem g_x_squareOf_0 (g : ch_G) (Q : ch_O → ch_M → Prop) (p1 : Int32) (p2 : Int32) (m : ch_M) (h : ((p1 < 0 → Q (.inr 1) m) ∧ (¬ p1 < 0 → ((p1 < 12 → ((p2 = 0 → (vp_in p1 12) ∧ Q (.inl (some (.inl (.int (m (1, 0, 1) (Int32.toNatClampNeg p1)))))) m) ∧ (¬ p2 = 0 → (vp_in p1 12) ∧ Q (.inl (some (.inl (.int (m (1, 0, 2) (Int32.toNatClampNeg p1)))))) m))) ∧ (¬ p1 < 12 → Q (.inr 1) m))))) : ch_J g m_x_squareOf (ch_rm m_x_squareOf) (ch_E g m_x_squareOf Q) 0 [some (.inr (0, 0, 0)), some (.inl (.int p1)), some (.inl (.int p2))] [] m 0 := by
  refine ch_iload_n (i := 1) d_x_squareOf_0 rfl rfl ?_
  refine ch_if_lt (tgt := 10) d_x_squareOf_1 (by decide) (fun c => ?_) (fun c => ?_)
  · replace h := h.1 c
    exact ch_throw d_x_squareOf_10 d_x_squareOf_13 d_x_squareOf_14 d_x_squareOf_17 tw_x_96 (by decide) rfl (Nat.le_of_ble_eq_true rfl) (Nat.le_of_ble_eq_true rfl) (Nat.le_of_ble_eq_true rfl) h
  · replace h := h.2 c
    refine ch_iload_n (i := 1) d_x_squareOf_4 rfl rfl ?_
    refine ch_bipush (v := 12) d_x_squareOf_5 (by decide) ?_
    refine ch_icmp_lt (tgt := 18) d_x_squareOf_7 (by decide) (fun c => ?_) (fun c => ?_)
    · replace h := h.1 c
      refine ch_iload_n (i := 2) d_x_squareOf_18 rfl rfl ?_
      refine ch_if_eq (tgt := 34) d_x_squareOf_19 (by decide) (fun c => ?_) (fun c => ?_)
      · replace h := h.1 c
        refine ch_aload_n (i := 0) d_x_squareOf_34 rfl rfl ?_
        refine ch_get (v := .inr (1, 0, 0)) d_x_squareOf_35 fl_x_10 rfl ?_
        refine ch_get (v := .inr (1, 0, 1)) d_x_squareOf_38 fl_x_103 rfl ?_
        refine ch_iload_n (i := 1) d_x_squareOf_41 rfl rfl ?_
        have b1 := h.1
        replace h := h.2
        refine ch_iald (n := 12) d_x_squareOf_42 (by decide) rfl b1 ?_
        exact ch_iret (ty := .int) d_x_squareOf_43 rfl rfl (Nat.le_of_ble_eq_true rfl) h
      · replace h := h.2 c
        refine ch_aload_n (i := 0) d_x_squareOf_22 rfl rfl ?_
        refine ch_get (v := .inr (1, 0, 0)) d_x_squareOf_23 fl_x_10 rfl ?_
        refine ch_get (v := .inr (1, 0, 2)) d_x_squareOf_26 fl_x_99 rfl ?_
        refine ch_iload_n (i := 1) d_x_squareOf_29 rfl rfl ?_
        have b2 := h.1
        replace h := h.2
        refine ch_iald (n := 12) d_x_squareOf_30 (by decide) rfl b2 ?_
        refine ch_goto (tgt := 43) d_x_squareOf_31 (by decide) ?_
        exact ch_iret (ty := .int) d_x_squareOf_43 rfl rfl (Nat.le_of_ble_eq_true rfl) h
    · replace h := h.2 c
      exact ch_throw d_x_squareOf_10 d_x_squareOf_13 d_x_squareOf_14 d_x_squareOf_17 tw_x_96 (by decide) rfl (Nat.le_of_ble_eq_true rfl) (Nat.le_of_ble_eq_true rfl) (Nat.le_of_ble_eq_true rfl) h
theorem e_x_squares (g : ch_G) (Q : ch_O → ch_M → Prop) (p1 : Int32) (m : ch_M) (h : ch_J g m_x_squares (ch_rm m_x_squares) (ch_E g m_x_squares Q) 0 [some (.inr (0, 0, 0)), some (.inl (.int p1))] [] m 0) : ch_C g m_x_squares [.inr (0, 0, 0), .inl (.int p1)] m Q :=
  ch_enter mf_x_squares (by intro v hv; simp only [List.mem_cons, List.not_mem_nil, or_false] at hv; rcases hv with rfl | rfl <;> rfl) (Nat.le_of_ble_eq_true rfl) h
set_option maxHeartbeats 1600000 in
theorem g_x_squares_0 (g : ch_G) (Q : ch_O → ch_M → Prop) (p1 : Int32) (m : ch_M) (h : (((0 ≤ p1 ∧ p1 < m (1, 0, 0) 8) → (Q (.inl (some (.inl (.int (y_ofS (m (1, 0, 1)) p1 0 12))))) m)) ∧ ((¬ (0 ≤ p1 ∧ p1 < m (1, 0, 0) 8)) → Q (.inr 1) m))) : ch_J g m_x_squares (ch_rm m_x_squares) (ch_E g m_x_squares Q) 0 [some (.inr (0, 0, 0)), some (.inl (.int p1))] [] m 0 := by
  refine ch_aload_n (i := 0) d_x_squares_0 rfl rfl ?_
  refine ch_iload_n (i := 1) d_x_squares_1 rfl rfl ?_
  refine ch_callV (as := [.inl (.int p1)]) d_x_squares_2 lk_x_106 mi_x_checkChild me_x_checkChild rfl rfl rfl ⟨Nat.le_of_ble_eq_true rfl, Nat.le_of_ble_eq_true rfl⟩ (Nat.le_of_ble_eq_true rfl) ⟨Nat.le_of_ble_eq_true rfl, Nat.le_of_ble_eq_true rfl⟩ (ch_mono (ch_Kx (ch_Kv (fun m2 q3 => ?_)) (fun n4 m5 hn_ q3 => ?_)) (s_x_checkChild g (fun (m_ : ch_M) => ((0 ≤ p1 ∧ p1 < m (1, 0, 0) 8) ∧ m = m_)) (fun (n_ : Nat) (m_ : ch_M) => ((¬ (0 ≤ p1 ∧ p1 < m (1, 0, 0) 8)) ∧ n_ = 1 ∧ m = m_)) (p1) m ⟨(fun c_ => ⟨c_, rfl⟩), (fun c_ => ⟨c_, rfl, rfl⟩)⟩))
  · obtain ⟨c_, rfl⟩ := q3
    replace h := h.1 c_
    refine ch_aload_n (i := 0) d_x_squares_5 rfl rfl ?_
    refine ch_get (v := .inr (1, 0, 0)) d_x_squares_6 fl_x_10 rfl ?_
    refine ch_iload_n (i := 1) d_x_squares_9 rfl rfl ?_
    refine ch_iconst (v := 0) d_x_squares_10 (by decide) ?_
    refine ch_callV (as := [.inl (.int p1), .inl (.int 0)]) d_x_squares_11 lk_x_134 mi_y_ownedFrom me_y_ownedFrom rfl rfl rfl ⟨Nat.le_of_ble_eq_true rfl, Nat.le_of_ble_eq_true rfl⟩ (Nat.le_of_ble_eq_true rfl) ⟨Nat.le_of_ble_eq_true rfl, Nat.le_of_ble_eq_true rfl⟩ (ch_mono (ch_Ki (fun r6 m7 q8 => ?_)) (s_y_ownedFrom g (fun (r_ : Int32) (m_ : ch_M) => ((y_ofS (m (1, 0, 1)) p1 0 12) = r_ ∧ m = m_)) (0) (p1) (0) m ⟨rfl, rfl⟩))
    obtain ⟨rfl, rfl⟩ := q8
    replace h := h
    exact ch_iret (ty := .int) d_x_squares_14 rfl rfl (Nat.le_of_ble_eq_true rfl) h
  · obtain ⟨c_, rfl, rfl⟩ := q3
    replace h := h.2 c_
    exact ch_xout rfl (Nat.le_of_ble_eq_true rfl) h
theorem e_x_warrantAt (g : ch_G) (Q : ch_O → ch_M → Prop) (p1 : Int32) (m : ch_M) (h : ch_J g m_x_warrantAt (ch_rm m_x_warrantAt) (ch_E g m_x_warrantAt Q) 0 [some (.inr (0, 0, 0)), some (.inl (.int p1))] [] m 0) : ch_C g m_x_warrantAt [.inr (0, 0, 0), .inl (.int p1)] m Q :=
  ch_enter mf_x_warrantAt (by intro v hv; simp only [List.mem_cons, List.not_mem_nil, or_false] at hv; rcases hv with rfl | rfl <;> rfl) (Nat.le_of_ble_eq_true rfl) h
set_option maxHeartbeats 1600000 in
theorem g_x_warrantAt_0 (g : ch_G) (Q : ch_O → ch_M → Prop) (p1 : Int32) (m : ch_M) (h : ((p1 < 0 → Q (.inr 3) m) ∧ (¬ p1 < 0 → ((p1 < (m (1, 0, 0) 9) → (vp_in p1 5) ∧ Q (.inl (some (.inl (.int (m (1, 0, 8) (Int32.toNatClampNeg p1)))))) m) ∧ (¬ p1 < (m (1, 0, 0) 9) → Q (.inr 3) m))))) : ch_J g m_x_warrantAt (ch_rm m_x_warrantAt) (ch_E g m_x_warrantAt Q) 0 [some (.inr (0, 0, 0)), some (.inl (.int p1))] [] m 0 := by
  refine ch_iload_n (i := 1) d_x_warrantAt_0 rfl rfl ?_
  refine ch_if_lt (tgt := 15) d_x_warrantAt_1 (by decide) (fun c => ?_) (fun c => ?_)
  · replace h := h.1 c
    exact ch_throw d_x_warrantAt_15 d_x_warrantAt_18 d_x_warrantAt_19 d_x_warrantAt_22 tw_x_141 (by decide) rfl (Nat.le_of_ble_eq_true rfl) (Nat.le_of_ble_eq_true rfl) (Nat.le_of_ble_eq_true rfl) h
  · replace h := h.2 c
    refine ch_iload_n (i := 1) d_x_warrantAt_4 rfl rfl ?_
    refine ch_aload_n (i := 0) d_x_warrantAt_5 rfl rfl ?_
    refine ch_get (v := .inr (1, 0, 0)) d_x_warrantAt_6 fl_x_10 rfl ?_
    refine ch_get (v := .inl (.int (m (1, 0, 0) 9))) d_x_warrantAt_9 fl_x_138 rfl ?_
    refine ch_icmp_lt (tgt := 23) d_x_warrantAt_12 (by decide) (fun c => ?_) (fun c => ?_)
    · replace h := h.1 c
      refine ch_aload_n (i := 0) d_x_warrantAt_23 rfl rfl ?_
      refine ch_get (v := .inr (1, 0, 0)) d_x_warrantAt_24 fl_x_10 rfl ?_
      refine ch_get (v := .inr (1, 0, 8)) d_x_warrantAt_27 fl_x_144 rfl ?_
      refine ch_iload_n (i := 1) d_x_warrantAt_30 rfl rfl ?_
      have b1 := h.1
      replace h := h.2
      refine ch_iald (n := 5) d_x_warrantAt_31 (by decide) rfl b1 ?_
      exact ch_iret (ty := .int) d_x_warrantAt_32 rfl rfl (Nat.le_of_ble_eq_true rfl) h
    · replace h := h.2 c
      exact ch_throw d_x_warrantAt_15 d_x_warrantAt_18 d_x_warrantAt_19 d_x_warrantAt_22 tw_x_141 (by decide) rfl (Nat.le_of_ble_eq_true rfl) (Nat.le_of_ble_eq_true rfl) (Nat.le_of_ble_eq_true rfl) h
theorem e_x_longest (g : ch_G) (Q : ch_O → ch_M → Prop) (p1 : Int32) (m : ch_M) (h : ch_J g m_x_longest (ch_rm m_x_longest) (ch_E g m_x_longest Q) 0 [some (.inr (0, 0, 0)), some (.inl (.int p1))] [] m 0) : ch_C g m_x_longest [.inr (0, 0, 0), .inl (.int p1)] m Q :=
  ch_enter mf_x_longest (by intro v hv; simp only [List.mem_cons, List.not_mem_nil, or_false] at hv; rcases hv with rfl | rfl <;> rfl) (Nat.le_of_ble_eq_true rfl) h
set_option maxHeartbeats 1600000 in
theorem g_x_longest_0 (g : ch_G) (Q : ch_O → ch_M → Prop) (p1 : Int32) (m : ch_M) (h : (((0 ≤ p1 ∧ p1 < m (1, 0, 0) 8) → (Q (.inl (some (.inl (.int ((y_lr (m (1, 0, 1)) p1 12).1))))) m)) ∧ ((¬ (0 ≤ p1 ∧ p1 < m (1, 0, 0) 8)) → Q (.inr 1) m))) : ch_J g m_x_longest (ch_rm m_x_longest) (ch_E g m_x_longest Q) 0 [some (.inr (0, 0, 0)), some (.inl (.int p1))] [] m 0 := by
  refine ch_aload_n (i := 0) d_x_longest_0 rfl rfl ?_
  refine ch_iload_n (i := 1) d_x_longest_1 rfl rfl ?_
  refine ch_callV (as := [.inl (.int p1)]) d_x_longest_2 lk_x_106 mi_x_checkChild me_x_checkChild rfl rfl rfl ⟨Nat.le_of_ble_eq_true rfl, Nat.le_of_ble_eq_true rfl⟩ (Nat.le_of_ble_eq_true rfl) ⟨Nat.le_of_ble_eq_true rfl, Nat.le_of_ble_eq_true rfl⟩ (ch_mono (ch_Kx (ch_Kv (fun m2 q3 => ?_)) (fun n4 m5 hn_ q3 => ?_)) (s_x_checkChild g (fun (m_ : ch_M) => ((0 ≤ p1 ∧ p1 < m (1, 0, 0) 8) ∧ m = m_)) (fun (n_ : Nat) (m_ : ch_M) => ((¬ (0 ≤ p1 ∧ p1 < m (1, 0, 0) 8)) ∧ n_ = 1 ∧ m = m_)) (p1) m ⟨(fun c_ => ⟨c_, rfl⟩), (fun c_ => ⟨c_, rfl, rfl⟩)⟩))
  · obtain ⟨c_, rfl⟩ := q3
    replace h := h.1 c_
    refine ch_aload_n (i := 0) d_x_longest_5 rfl rfl ?_
    refine ch_get (v := .inr (1, 0, 0)) d_x_longest_6 fl_x_10 rfl ?_
    refine ch_iload_n (i := 1) d_x_longest_9 rfl rfl ?_
    refine ch_callV (as := [.inl (.int p1)]) d_x_longest_10 lk_x_171 mi_y_longestRun me_y_longestRun rfl rfl rfl ⟨Nat.le_of_ble_eq_true rfl, Nat.le_of_ble_eq_true rfl⟩ (Nat.le_of_ble_eq_true rfl) ⟨Nat.le_of_ble_eq_true rfl, Nat.le_of_ble_eq_true rfl⟩ (ch_mono (ch_Ki (fun r6 m7 q8 => ?_)) (s_y_longestRun g (fun (r_ : Int32) (m_ : ch_M) => (((y_lr (m (1, 0, 1)) p1 12).1) = r_ ∧ m = m_)) (0) (p1) m ⟨rfl, rfl⟩))
    obtain ⟨rfl, rfl⟩ := q8
    replace h := h
    exact ch_iret (ty := .int) d_x_longest_13 rfl rfl (Nat.le_of_ble_eq_true rfl) h
  · obtain ⟨c_, rfl, rfl⟩ := q3
    replace h := h.2 c_
    exact ch_xout rfl (Nat.le_of_ble_eq_true rfl) h
theorem e_x_gap (g : ch_G) (Q : ch_O → ch_M → Prop)  (m : ch_M) (h : ch_J g m_x_gap (ch_rm m_x_gap) (ch_E g m_x_gap Q) 0 [some (.inr (0, 0, 0))] [] m 0) : ch_C g m_x_gap [.inr (0, 0, 0)] m Q :=
  ch_enter mf_x_gap (by intro v hv; simp only [List.mem_cons, List.not_mem_nil, or_false] at hv; rcases hv with rfl <;> rfl) (Nat.le_of_ble_eq_true rfl) h
set_option maxHeartbeats 1600000 in
theorem g_x_gap_0 (g : ch_G) (Q : ch_O → ch_M → Prop)  (m : ch_M) (h : (Q (.inl (some (.inl (.int ((y_lr (m (1, 0, 1)) (-1) 12).1))))) m)) : ch_J g m_x_gap (ch_rm m_x_gap) (ch_E g m_x_gap Q) 0 [some (.inr (0, 0, 0))] [] m 0 := by
  refine ch_aload_n (i := 0) d_x_gap_0 rfl rfl ?_
  refine ch_get (v := .inr (1, 0, 0)) d_x_gap_1 fl_x_10 rfl ?_
  refine ch_iconst (v := (-1)) d_x_gap_4 (by decide) ?_
  refine ch_callV (as := [.inl (.int (-1))]) d_x_gap_5 lk_x_171 mi_y_longestRun me_y_longestRun rfl rfl rfl ⟨Nat.le_of_ble_eq_true rfl, Nat.le_of_ble_eq_true rfl⟩ (Nat.le_of_ble_eq_true rfl) ⟨Nat.le_of_ble_eq_true rfl, Nat.le_of_ble_eq_true rfl⟩ (ch_mono (ch_Ki (fun r1 m2 q3 => ?_)) (s_y_longestRun g (fun (r_ : Int32) (m_ : ch_M) => (((y_lr (m (1, 0, 1)) (-1) 12).1) = r_ ∧ m = m_)) (0) ((-1)) m ⟨rfl, rfl⟩))
  obtain ⟨rfl, rfl⟩ := q3
  replace h := h
  exact ch_iret (ty := .int) d_x_gap_8 rfl rfl (Nat.le_of_ble_eq_true rfl) h
theorem e_x_rainFor (g : ch_G) (Q : ch_O → ch_M → Prop) (p1 : Int32) (m : ch_M) (h : ch_J g m_x_rainFor (ch_rm m_x_rainFor) (ch_E g m_x_rainFor Q) 0 [some (.inr (0, 0, 0)), some (.inl (.int p1))] [] m 0) : ch_C g m_x_rainFor [.inr (0, 0, 0), .inl (.int p1)] m Q :=
  ch_enter mf_x_rainFor (by intro v hv; simp only [List.mem_cons, List.not_mem_nil, or_false] at hv; rcases hv with rfl | rfl <;> rfl) (Nat.le_of_ble_eq_true rfl) h
set_option maxHeartbeats 1600000 in
theorem g_x_rainFor_0 (g : ch_G) (Q : ch_O → ch_M → Prop) (p1 : Int32) (m : ch_M) (h : (((0 ≤ p1 ∧ p1 < m (1, 0, 0) 8) → (vp_in p1 5) ∧ ((¬ (m (1, 0, 5) (Int32.toNatClampNeg p1)) = 0 → Q (.inl (some (.inl (.int (m (1, 0, 5) (Int32.toNatClampNeg p1)))))) m) ∧ ((m (1, 0, 5) (Int32.toNatClampNeg p1)) = 0 → Q (.inr 3) m))) ∧ ((¬ (0 ≤ p1 ∧ p1 < m (1, 0, 0) 8)) → Q (.inr 1) m))) : ch_J g m_x_rainFor (ch_rm m_x_rainFor) (ch_E g m_x_rainFor Q) 0 [some (.inr (0, 0, 0)), some (.inl (.int p1))] [] m 0 := by
  refine ch_aload_n (i := 0) d_x_rainFor_0 rfl rfl ?_
  refine ch_iload_n (i := 1) d_x_rainFor_1 rfl rfl ?_
  refine ch_callV (as := [.inl (.int p1)]) d_x_rainFor_2 lk_x_106 mi_x_checkChild me_x_checkChild rfl rfl rfl ⟨Nat.le_of_ble_eq_true rfl, Nat.le_of_ble_eq_true rfl⟩ (Nat.le_of_ble_eq_true rfl) ⟨Nat.le_of_ble_eq_true rfl, Nat.le_of_ble_eq_true rfl⟩ (ch_mono (ch_Kx (ch_Kv (fun m2 q3 => ?_)) (fun n4 m5 hn_ q3 => ?_)) (s_x_checkChild g (fun (m_ : ch_M) => ((0 ≤ p1 ∧ p1 < m (1, 0, 0) 8) ∧ m = m_)) (fun (n_ : Nat) (m_ : ch_M) => ((¬ (0 ≤ p1 ∧ p1 < m (1, 0, 0) 8)) ∧ n_ = 1 ∧ m = m_)) (p1) m ⟨(fun c_ => ⟨c_, rfl⟩), (fun c_ => ⟨c_, rfl, rfl⟩)⟩))
  · obtain ⟨c_, rfl⟩ := q3
    replace h := h.1 c_
    refine ch_aload_n (i := 0) d_x_rainFor_5 rfl rfl ?_
    refine ch_get (v := .inr (1, 0, 0)) d_x_rainFor_6 fl_x_10 rfl ?_
    refine ch_get (v := .inr (1, 0, 5)) d_x_rainFor_9 fl_x_115 rfl ?_
    refine ch_iload_n (i := 1) d_x_rainFor_12 rfl rfl ?_
    have b6 := h.1
    replace h := h.2
    refine ch_iald (n := 5) d_x_rainFor_13 (by decide) rfl b6 ?_
    refine ch_if_ne (tgt := 25) d_x_rainFor_14 (by decide) (fun c => ?_) (fun c => ?_)
    · replace h := h.1 c
      refine ch_aload_n (i := 0) d_x_rainFor_25 rfl rfl ?_
      refine ch_get (v := .inr (1, 0, 0)) d_x_rainFor_26 fl_x_10 rfl ?_
      refine ch_get (v := .inr (1, 0, 5)) d_x_rainFor_29 fl_x_115 rfl ?_
      refine ch_iload_n (i := 1) d_x_rainFor_32 rfl rfl ?_
      refine ch_iald (n := 5) d_x_rainFor_33 (by decide) rfl b6 ?_
      exact ch_iret (ty := .int) d_x_rainFor_34 rfl rfl (Nat.le_of_ble_eq_true rfl) h
    · replace h := h.2 c
      exact ch_throw d_x_rainFor_17 d_x_rainFor_20 d_x_rainFor_21 d_x_rainFor_24 tw_x_141 (by decide) rfl (Nat.le_of_ble_eq_true rfl) (Nat.le_of_ble_eq_true rfl) (Nat.le_of_ble_eq_true rfl) h
  · obtain ⟨c_, rfl, rfl⟩ := q3
    replace h := h.2 c_
    exact ch_xout rfl (Nat.le_of_ble_eq_true rfl) h
theorem e_x_wouldLose (g : ch_G) (Q : ch_O → ch_M → Prop) (p1 : Int32) (m : ch_M) (h : ch_J g m_x_wouldLose (ch_rm m_x_wouldLose) (ch_E g m_x_wouldLose Q) 0 [some (.inr (0, 0, 0)), some (.inl (.int p1))] [] m 0) : ch_C g m_x_wouldLose [.inr (0, 0, 0), .inl (.int p1)] m Q :=
  ch_enter mf_x_wouldLose (by intro v hv; simp only [List.mem_cons, List.not_mem_nil, or_false] at hv; rcases hv with rfl | rfl <;> rfl) (Nat.le_of_ble_eq_true rfl) h
set_option maxHeartbeats 1600000 in
theorem g_x_wouldLose_0 (g : ch_G) (Q : ch_O → ch_M → Prop) (p1 : Int32) (m : ch_M) (h : (((0 ≤ p1 ∧ p1 < m (1, 0, 0) 8) → (vp_in p1 5) ∧ (Q (.inl (some (.inl (.int (y_ofS (m (1, 0, 1)) p1 (m (1, 0, 3) (Int32.toNatClampNeg p1)) 12))))) m)) ∧ ((¬ (0 ≤ p1 ∧ p1 < m (1, 0, 0) 8)) → Q (.inr 1) m))) : ch_J g m_x_wouldLose (ch_rm m_x_wouldLose) (ch_E g m_x_wouldLose Q) 0 [some (.inr (0, 0, 0)), some (.inl (.int p1))] [] m 0 := by
  refine ch_aload_n (i := 0) d_x_wouldLose_0 rfl rfl ?_
  refine ch_iload_n (i := 1) d_x_wouldLose_1 rfl rfl ?_
  refine ch_callV (as := [.inl (.int p1)]) d_x_wouldLose_2 lk_x_106 mi_x_checkChild me_x_checkChild rfl rfl rfl ⟨Nat.le_of_ble_eq_true rfl, Nat.le_of_ble_eq_true rfl⟩ (Nat.le_of_ble_eq_true rfl) ⟨Nat.le_of_ble_eq_true rfl, Nat.le_of_ble_eq_true rfl⟩ (ch_mono (ch_Kx (ch_Kv (fun m2 q3 => ?_)) (fun n4 m5 hn_ q3 => ?_)) (s_x_checkChild g (fun (m_ : ch_M) => ((0 ≤ p1 ∧ p1 < m (1, 0, 0) 8) ∧ m = m_)) (fun (n_ : Nat) (m_ : ch_M) => ((¬ (0 ≤ p1 ∧ p1 < m (1, 0, 0) 8)) ∧ n_ = 1 ∧ m = m_)) (p1) m ⟨(fun c_ => ⟨c_, rfl⟩), (fun c_ => ⟨c_, rfl, rfl⟩)⟩))
  · obtain ⟨c_, rfl⟩ := q3
    replace h := h.1 c_
    refine ch_aload_n (i := 0) d_x_wouldLose_5 rfl rfl ?_
    refine ch_get (v := .inr (1, 0, 0)) d_x_wouldLose_6 fl_x_10 rfl ?_
    refine ch_iload_n (i := 1) d_x_wouldLose_9 rfl rfl ?_
    refine ch_aload_n (i := 0) d_x_wouldLose_10 rfl rfl ?_
    refine ch_get (v := .inr (1, 0, 0)) d_x_wouldLose_11 fl_x_10 rfl ?_
    refine ch_get (v := .inr (1, 0, 3)) d_x_wouldLose_14 fl_x_109 rfl ?_
    refine ch_iload_n (i := 1) d_x_wouldLose_17 rfl rfl ?_
    have b6 := h.1
    replace h := h.2
    refine ch_iald (n := 5) d_x_wouldLose_18 (by decide) rfl b6 ?_
    refine ch_callV (as := [.inl (.int p1), .inl (.int (m (1, 0, 3) (Int32.toNatClampNeg p1)))]) d_x_wouldLose_19 lk_x_134 mi_y_ownedFrom me_y_ownedFrom rfl rfl rfl ⟨Nat.le_of_ble_eq_true rfl, Nat.le_of_ble_eq_true rfl⟩ (Nat.le_of_ble_eq_true rfl) ⟨Nat.le_of_ble_eq_true rfl, Nat.le_of_ble_eq_true rfl⟩ (ch_mono (ch_Ki (fun r7 m8 q9 => ?_)) (s_y_ownedFrom g (fun (r_ : Int32) (m_ : ch_M) => ((y_ofS (m (1, 0, 1)) p1 (m (1, 0, 3) (Int32.toNatClampNeg p1)) 12) = r_ ∧ m = m_)) (0) (p1) ((m (1, 0, 3) (Int32.toNatClampNeg p1))) m ⟨rfl, rfl⟩))
    obtain ⟨rfl, rfl⟩ := q9
    replace h := h
    exact ch_iret (ty := .int) d_x_wouldLose_22 rfl rfl (Nat.le_of_ble_eq_true rfl) h
  · obtain ⟨c_, rfl, rfl⟩ := q3
    replace h := h.2 c_
    exact ch_xout rfl (Nat.le_of_ble_eq_true rfl) h
theorem e_x_fewest (g : ch_G) (Q : ch_O → ch_M → Prop) (p1 : Int32) (m : ch_M) (h : ch_J g m_x_fewest (ch_rm m_x_fewest) (ch_E g m_x_fewest Q) 0 [some (.inr (0, 0, 0)), some (.inl (.int p1))] [] m 0) : ch_C g m_x_fewest [.inr (0, 0, 0), .inl (.int p1)] m Q :=
  ch_enter mf_x_fewest (by intro v hv; simp only [List.mem_cons, List.not_mem_nil, or_false] at hv; rcases hv with rfl | rfl <;> rfl) (Nat.le_of_ble_eq_true rfl) h
set_option maxHeartbeats 1600000 in
theorem g_x_fewest_0 (g : ch_G) (Q : ch_O → ch_M → Prop) (p1 : Int32) (m : ch_M) (h : (((0 ≤ p1 ∧ p1 < m (1, 0, 0) 8) → ((∀ m7 : ch_M, m7 = ch_os m 8 0 (w_fl (ch_ob m 8 0) (w_l (ch_ob m 1 0) p1) 12) → Q (.inl (some (.inl (.int (w_fl (ch_ob m 8 0) (w_l (ch_ob m 1 0) p1) 12 1 0))))) m7))) ∧ ((¬ (0 ≤ p1 ∧ p1 < m (1, 0, 0) 8)) → Q (.inr 1) m))) : ch_J g m_x_fewest (ch_rm m_x_fewest) (ch_E g m_x_fewest Q) 0 [some (.inr (0, 0, 0)), some (.inl (.int p1))] [] m 0 := by
  refine ch_aload_n (i := 0) d_x_fewest_0 rfl rfl ?_
  refine ch_iload_n (i := 1) d_x_fewest_1 rfl rfl ?_
  refine ch_callV (as := [.inl (.int p1)]) d_x_fewest_2 lk_x_106 mi_x_checkChild me_x_checkChild rfl rfl rfl ⟨Nat.le_of_ble_eq_true rfl, Nat.le_of_ble_eq_true rfl⟩ (Nat.le_of_ble_eq_true rfl) ⟨Nat.le_of_ble_eq_true rfl, Nat.le_of_ble_eq_true rfl⟩ (ch_mono (ch_Kx (ch_Kv (fun m2 q3 => ?_)) (fun n4 m5 hn_ q3 => ?_)) (s_x_checkChild g (fun (m_ : ch_M) => ((0 ≤ p1 ∧ p1 < m (1, 0, 0) 8) ∧ m = m_)) (fun (n_ : Nat) (m_ : ch_M) => ((¬ (0 ≤ p1 ∧ p1 < m (1, 0, 0) 8)) ∧ n_ = 1 ∧ m = m_)) (p1) m ⟨(fun c_ => ⟨c_, rfl⟩), (fun c_ => ⟨c_, rfl, rfl⟩)⟩))
  · obtain ⟨c_, rfl⟩ := q3
    replace h := h.1 c_
    refine ch_aload_n (i := 0) d_x_fewest_5 rfl rfl ?_
    refine ch_get (v := .inr (8, 0, 0)) d_x_fewest_6 fl_x_66 rfl ?_
    refine ch_aload_n (i := 0) d_x_fewest_9 rfl rfl ?_
    refine ch_get (v := .inr (1, 0, 0)) d_x_fewest_10 fl_x_10 rfl ?_
    refine ch_iload_n (i := 1) d_x_fewest_13 rfl rfl ?_
    refine ch_callV (as := [.inr (1, 0, 0), .inl (.int p1)]) d_x_fewest_14 lk_x_147 mi_w_fewestBack me_w_fewestBack rfl rfl rfl ⟨Nat.le_of_ble_eq_true rfl, Nat.le_of_ble_eq_true rfl⟩ (Nat.le_of_ble_eq_true rfl) ⟨Nat.le_of_ble_eq_true rfl, Nat.le_of_ble_eq_true rfl⟩ (ch_mono (ch_Ki (fun r6 m7 q8 => ?_)) (s_w_fewestBack g (fun (r_ : Int32) (m_ : ch_M) => ((w_fl (ch_ob m 8 0) (w_l (ch_ob m 1 0) p1) 12 1 0) = r_ ∧ m_ = ch_os m 8 0 (w_fl (ch_ob m 8 0) (w_l (ch_ob m 1 0) p1) 12))) (0) (p1) m ⟨rfl, rfl⟩))
    obtain ⟨rfl, hm_⟩ := q8
    replace h := h m7 hm_
    exact ch_iret (ty := .int) d_x_fewest_17 rfl rfl (Nat.le_of_ble_eq_true rfl) h
  · obtain ⟨c_, rfl, rfl⟩ := q3
    replace h := h.2 c_
    exact ch_xout rfl (Nat.le_of_ble_eq_true rfl) h
theorem e_x_fewestAgain (g : ch_G) (Q : ch_O → ch_M → Prop) (p1 : Int32) (m : ch_M) (h : ch_J g m_x_fewestAgain (ch_rm m_x_fewestAgain) (ch_E g m_x_fewestAgain Q) 0 [some (.inr (0, 0, 0)), some (.inl (.int p1))] [] m 0) : ch_C g m_x_fewestAgain [.inr (0, 0, 0), .inl (.int p1)] m Q :=
  ch_enter mf_x_fewestAgain (by intro v hv; simp only [List.mem_cons, List.not_mem_nil, or_false] at hv; rcases hv with rfl | rfl <;> rfl) (Nat.le_of_ble_eq_true rfl) h
set_option maxHeartbeats 1600000 in
theorem g_x_fewestAgain_0 (g : ch_G) (Q : ch_O → ch_M → Prop) (p1 : Int32) (m : ch_M) (h : (((0 ≤ p1 ∧ p1 < m (1, 0, 0) 8) → ((∀ m7 : ch_M, m7 = ch_os m 8 0 ((w_fo (ch_ob m 8 0) (w_l (ch_ob m 1 0) p1) 14).1) → Q (.inl (some (.inl (.int ((w_fo (ch_ob m 8 0) (w_l (ch_ob m 1 0) p1) 14).2))))) m7))) ∧ ((¬ (0 ≤ p1 ∧ p1 < m (1, 0, 0) 8)) → Q (.inr 1) m))) : ch_J g m_x_fewestAgain (ch_rm m_x_fewestAgain) (ch_E g m_x_fewestAgain Q) 0 [some (.inr (0, 0, 0)), some (.inl (.int p1))] [] m 0 := by
  refine ch_aload_n (i := 0) d_x_fewestAgain_0 rfl rfl ?_
  refine ch_iload_n (i := 1) d_x_fewestAgain_1 rfl rfl ?_
  refine ch_callV (as := [.inl (.int p1)]) d_x_fewestAgain_2 lk_x_106 mi_x_checkChild me_x_checkChild rfl rfl rfl ⟨Nat.le_of_ble_eq_true rfl, Nat.le_of_ble_eq_true rfl⟩ (Nat.le_of_ble_eq_true rfl) ⟨Nat.le_of_ble_eq_true rfl, Nat.le_of_ble_eq_true rfl⟩ (ch_mono (ch_Kx (ch_Kv (fun m2 q3 => ?_)) (fun n4 m5 hn_ q3 => ?_)) (s_x_checkChild g (fun (m_ : ch_M) => ((0 ≤ p1 ∧ p1 < m (1, 0, 0) 8) ∧ m = m_)) (fun (n_ : Nat) (m_ : ch_M) => ((¬ (0 ≤ p1 ∧ p1 < m (1, 0, 0) 8)) ∧ n_ = 1 ∧ m = m_)) (p1) m ⟨(fun c_ => ⟨c_, rfl⟩), (fun c_ => ⟨c_, rfl, rfl⟩)⟩))
  · obtain ⟨c_, rfl⟩ := q3
    replace h := h.1 c_
    refine ch_aload_n (i := 0) d_x_fewestAgain_5 rfl rfl ?_
    refine ch_get (v := .inr (8, 0, 0)) d_x_fewestAgain_6 fl_x_66 rfl ?_
    refine ch_aload_n (i := 0) d_x_fewestAgain_9 rfl rfl ?_
    refine ch_get (v := .inr (1, 0, 0)) d_x_fewestAgain_10 fl_x_10 rfl ?_
    refine ch_iload_n (i := 1) d_x_fewestAgain_13 rfl rfl ?_
    refine ch_callV (as := [.inr (1, 0, 0), .inl (.int p1)]) d_x_fewestAgain_14 lk_x_151 mi_w_fewestOn me_w_fewestOn rfl rfl rfl ⟨Nat.le_of_ble_eq_true rfl, Nat.le_of_ble_eq_true rfl⟩ (Nat.le_of_ble_eq_true rfl) ⟨Nat.le_of_ble_eq_true rfl, Nat.le_of_ble_eq_true rfl⟩ (ch_mono (ch_Ki (fun r6 m7 q8 => ?_)) (s_w_fewestOn g (fun (r_ : Int32) (m_ : ch_M) => (((w_fo (ch_ob m 8 0) (w_l (ch_ob m 1 0) p1) 14).2) = r_ ∧ m_ = ch_os m 8 0 ((w_fo (ch_ob m 8 0) (w_l (ch_ob m 1 0) p1) 14).1))) (0) (p1) m ⟨rfl, rfl⟩))
    obtain ⟨rfl, hm_⟩ := q8
    replace h := h m7 hm_
    exact ch_iret (ty := .int) d_x_fewestAgain_17 rfl rfl (Nat.le_of_ble_eq_true rfl) h
  · obtain ⟨c_, rfl, rfl⟩ := q3
    replace h := h.2 c_
    exact ch_xout rfl (Nat.le_of_ble_eq_true rfl) h
