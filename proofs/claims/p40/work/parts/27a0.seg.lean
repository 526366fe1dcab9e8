theorem e_d_findFault (g : ch_G) (Q : ch_O → ch_M → Prop) (j1 : Nat) (m : ch_M) (h : ch_J g m_d_findFault (ch_rm m_d_findFault) (ch_E g m_d_findFault Q) 0 [some (.inr (7, 0, 0)), some (.inr (6, j1, 0)), some (.inr (4, 0, 0)), none] [] m 0) : ch_C g m_d_findFault [.inr (7, 0, 0), .inr (6, j1, 0), .inr (4, 0, 0)] m Q :=
  ch_enter mf_d_findFault (by intro v hv; simp only [List.mem_cons, List.not_mem_nil, or_false] at hv; rcases hv with rfl | rfl | rfl <;> rfl) (Nat.le_of_ble_eq_true rfl) h
set_option maxHeartbeats 1600000 in
theorem g_d_findFault_0 (g : ch_G) (Q : ch_O → ch_M → Prop) (j1 : Nat) (m : ch_M) (h : (∀ m1 : ch_M, m1 = ch_wr m (7, 0, 0) 0 0 → ch_J g m_d_findFault (ch_rm m_d_findFault) (ch_E g m_d_findFault Q) 7 [some (.inr (7, 0, 0)), some (.inr (6, j1, 0)), some (.inr (4, 0, 0)), some (.inl (.int 0))] [] m1 0)) : ch_J g m_d_findFault (ch_rm m_d_findFault) (ch_E g m_d_findFault Q) 0 [some (.inr (7, 0, 0)), some (.inr (6, j1, 0)), some (.inr (4, 0, 0)), none] [] m 0 := by
  refine ch_aload_n (i := 0) d_d_findFault_0 rfl rfl ?_
  refine ch_iconst (v := 0) d_d_findFault_1 (by decide) ?_
  refine ch_put d_d_findFault_2 fp_d_9 rfl rfl rfl ?_
  generalize hmm1 : ch_wr m (7, 0, 0) 0 0 = m1
  replace h := h m1 hmm1.symm
  refine ch_iconst (v := 0) d_d_findFault_5 (by decide) ?_
  refine ch_istore_n (i := 3) d_d_findFault_6 rfl (Nat.le_of_ble_eq_true rfl) (ls' := [some (.inr (7, 0, 0)), some (.inr (6, j1, 0)), some (.inr (4, 0, 0)), some (.inl (.int 0))]) rfl ?_
  exact h
set_option maxHeartbeats 1600000 in
theorem g_d_findFault_7 (g : ch_G) (Q : ch_O → ch_M → Prop) (j1 : Nat) (x3 : Int32) (m : ch_M) (h : ((60 ≤ x3 → Q (.inl (some (.inl (.int (m (7, 0, 0) 0))))) m) ∧ (¬ 60 ≤ x3 → ((((d_tc m j1).1 = true) → (∀ m2 : ch_M, m2 = ((d_tc m j1).2) → ((¬ (m2 (7, 0, 0) 0) = (m2 (6, j1, 0) 1) → ((((d_ts m2 j1 59).1 = true) → (∀ m5 : ch_M, m5 = ((d_ts m2 j1 59).2) → ch_J g m_d_findFault (ch_rm m_d_findFault) (ch_E g m_d_findFault Q) 7 [some (.inr (7, 0, 0)), some (.inr (6, j1, 0)), some (.inr (4, 0, 0)), some (.inl (.int (x3 + 1)))] [] m5 0)) ∧ ((¬ (d_ts m2 j1 59).1 = true) → (∀ m5 : ch_M, m5 = ((d_ts m2 j1 59).2) → Q (.inl (some (.inl (.int (m5 (7, 0, 0) 0))))) m5)))) ∧ ((m2 (7, 0, 0) 0) = (m2 (6, j1, 0) 1) → Q (.inl (some (.inl (.int (-1))))) m2)))) ∧ ((¬ (d_tc m j1).1 = true) → (∀ m2 : ch_M, m2 = ((d_tc m j1).2) → Q (.inl (some (.inl (.int (m2 (7, 0, 0) 0))))) m2)))))) : ch_J g m_d_findFault (ch_rm m_d_findFault) (ch_E g m_d_findFault Q) 7 [some (.inr (7, 0, 0)), some (.inr (6, j1, 0)), some (.inr (4, 0, 0)), some (.inl (.int x3))] [] m 0 := by
  refine ch_iload_n (i := 3) d_d_findFault_7 rfl rfl ?_
  refine ch_bipush (v := 60) d_d_findFault_8 (by decide) ?_
  refine ch_icmp_ge (tgt := 61) d_d_findFault_10 (by decide) (fun c => ?_) (fun c => ?_)
  · replace h := h.1 c
    refine ch_aload_n (i := 0) d_d_findFault_61 rfl rfl ?_
    refine ch_get (v := .inl (.int (m (7, 0, 0) 0))) d_d_findFault_62 fl_d_9 rfl ?_
    exact ch_iret (ty := .int) d_d_findFault_65 rfl rfl (Nat.le_of_ble_eq_true rfl) h
  · replace h := h.2 c
    refine ch_aload_n (i := 0) d_d_findFault_13 rfl rfl ?_
    refine ch_aload_n (i := 1) d_d_findFault_14 rfl rfl ?_
    refine ch_aload_n (i := 2) d_d_findFault_15 rfl rfl ?_
    refine ch_callV (as := [.inr (6, j1, 0), .inr (4, 0, 0)]) d_d_findFault_16 lk_d_15 mi_d_takeCommand me_d_takeCommand rfl rfl rfl ⟨Nat.le_of_ble_eq_true rfl, Nat.le_of_ble_eq_true rfl⟩ (Nat.le_of_ble_eq_true rfl) ⟨Nat.le_of_ble_eq_true rfl, Nat.le_of_ble_eq_true rfl⟩ (ch_mono (ch_Ki (fun r1 m2 q3 => ?_)) (s_d_takeCommand g (fun (r_ : Int32) (m_ : ch_M) => (((d_tc m j1).1 = true) ∧ 1 = r_ ∧ m_ = ((d_tc m j1).2)) ∨ ((¬ (d_tc m j1).1 = true) ∧ 0 = r_ ∧ m_ = ((d_tc m j1).2))) (j1) m ⟨(fun c_ => (Or.inl ⟨c_, rfl, rfl⟩)), (fun c_ => (Or.inr ⟨c_, rfl, rfl⟩))⟩))
    rcases q3 with ⟨c_, rfl, hm_⟩ | ⟨c_, rfl, hm_⟩
    · replace h := h.1 c_ m2 hm_
      refine ch_if_ne (tgt := 27) d_d_findFault_19 (by decide) (fun _ => ?_) (fun c => absurd c (by decide))
      refine ch_aload_n (i := 0) d_d_findFault_27 rfl rfl ?_
      refine ch_get (v := .inl (.int (m2 (7, 0, 0) 0))) d_d_findFault_28 fl_d_9 rfl ?_
      refine ch_aload_n (i := 1) d_d_findFault_31 rfl rfl ?_
      refine ch_get (v := .inl (.int (m2 (6, j1, 0) 1))) d_d_findFault_32 fl_d_19 rfl ?_
      refine ch_icmp_ne (tgt := 40) d_d_findFault_35 (by decide) (fun c => ?_) (fun c => ?_)
      · replace h := h.1 c
        refine ch_aload_n (i := 0) d_d_findFault_40 rfl rfl ?_
        refine ch_aload_n (i := 1) d_d_findFault_41 rfl rfl ?_
        refine ch_bipush (v := 59) d_d_findFault_42 (by decide) ?_
        refine ch_callV (as := [.inr (6, j1, 0), .inl (.int 59)]) d_d_findFault_44 lk_d_24 mi_d_takeSign me_d_takeSign rfl rfl rfl ⟨Nat.le_of_ble_eq_true rfl, Nat.le_of_ble_eq_true rfl⟩ (Nat.le_of_ble_eq_true rfl) ⟨Nat.le_of_ble_eq_true rfl, Nat.le_of_ble_eq_true rfl⟩ (ch_mono (ch_Ki (fun r4 m5 q6 => ?_)) (s_d_takeSign g (fun (r_ : Int32) (m_ : ch_M) => (((d_ts m2 j1 59).1 = true) ∧ 1 = r_ ∧ m_ = ((d_ts m2 j1 59).2)) ∨ ((¬ (d_ts m2 j1 59).1 = true) ∧ 0 = r_ ∧ m_ = ((d_ts m2 j1 59).2))) (j1) (59) m2 ⟨(fun c_ => (Or.inl ⟨c_, rfl, rfl⟩)), (fun c_ => (Or.inr ⟨c_, rfl, rfl⟩))⟩))
        rcases q6 with ⟨c_, rfl, hm_⟩ | ⟨c_, rfl, hm_⟩
        · replace h := h.1 c_ m5 hm_
          refine ch_if_ne (tgt := 55) d_d_findFault_47 (by decide) (fun _ => ?_) (fun c => absurd c (by decide))
          refine ch_iinc (i := 3) (v := (x3 + 1)) d_d_findFault_55 rfl rfl (Nat.le_of_ble_eq_true rfl) (ls' := [some (.inr (7, 0, 0)), some (.inr (6, j1, 0)), some (.inr (4, 0, 0)), some (.inl (.int (x3 + 1)))]) rfl ?_
          refine ch_goto (tgt := 7) d_d_findFault_58 (by decide) ?_
          exact h
        · replace h := h.2 c_ m5 hm_
          refine ch_if_ne (tgt := 55) d_d_findFault_47 (by decide) (fun c => absurd c (by decide)) (fun _ => ?_)
          refine ch_aload_n (i := 0) d_d_findFault_50 rfl rfl ?_
          refine ch_get (v := .inl (.int (m5 (7, 0, 0) 0))) d_d_findFault_51 fl_d_9 rfl ?_
          exact ch_iret (ty := .int) d_d_findFault_54 rfl rfl (Nat.le_of_ble_eq_true rfl) h
      · replace h := h.2 c
        refine ch_iconst (v := (-1)) d_d_findFault_38 (by decide) ?_
        exact ch_iret (ty := .int) d_d_findFault_39 rfl rfl (Nat.le_of_ble_eq_true rfl) h
    · replace h := h.2 c_ m2 hm_
      refine ch_if_ne (tgt := 27) d_d_findFault_19 (by decide) (fun c => absurd c (by decide)) (fun _ => ?_)
      refine ch_aload_n (i := 0) d_d_findFault_22 rfl rfl ?_
      refine ch_get (v := .inl (.int (m2 (7, 0, 0) 0))) d_d_findFault_23 fl_d_9 rfl ?_
      exact ch_iret (ty := .int) d_d_findFault_26 rfl rfl (Nat.le_of_ble_eq_true rfl) h
theorem e_w_lineAt (g : ch_G) (Q : ch_O → ch_M → Prop) (j1 : Nat) (p2 : Int32) (p3 : Int32) (m : ch_M) (h : ch_J g m_w_lineAt (ch_rm m_w_lineAt) (ch_E g m_w_lineAt Q) 0 [some (.inr (8, 0, 0)), some (.inr (1, j1, 0)), some (.inl (.int p2)), some (.inl (.int p3))] [] m 0) : ch_C g m_w_lineAt [.inr (8, 0, 0), .inr (1, j1, 0), .inl (.int p2), .inl (.int p3)] m Q :=
  ch_enter mf_w_lineAt (by intro v hv; simp only [List.mem_cons, List.not_mem_nil, or_false] at hv; rcases hv with rfl | rfl | rfl | rfl <;> rfl) (Nat.le_of_ble_eq_true rfl) h
set_option maxHeartbeats 1600000 in
theorem g_w_lineAt_0 (g : ch_G) (Q : ch_O → ch_M → Prop) (j1 : Nat) (p2 : Int32) (p3 : Int32) (m : ch_M) (h : (((ch_line (ch_ob m 1 j1) p2 (p3 - 1)) → Q (.inl (some (.inl (.int 1)))) m) ∧ ((¬ ch_line (ch_ob m 1 j1) p2 (p3 - 1)) → Q (.inl (some (.inl (.int 0)))) m))) : ch_J g m_w_lineAt (ch_rm m_w_lineAt) (ch_E g m_w_lineAt Q) 0 [some (.inr (8, 0, 0)), some (.inr (1, j1, 0)), some (.inl (.int p2)), some (.inl (.int p3))] [] m 0 := by
  refine ch_aload_n (i := 1) d_w_lineAt_0 rfl rfl ?_
  refine ch_iload_n (i := 2) d_w_lineAt_1 rfl rfl ?_
  refine ch_iload_n (i := 3) d_w_lineAt_2 rfl rfl ?_
  refine ch_iconst (v := 1) d_w_lineAt_3 (by decide) ?_
  refine ch_isub d_w_lineAt_4 ?_
  refine ch_callV (as := [.inl (.int p2), .inl (.int (p3 - 1))]) d_w_lineAt_5 lk_w_48 mi_y_isLineFor me_y_isLineFor rfl rfl rfl ⟨Nat.le_of_ble_eq_true rfl, Nat.le_of_ble_eq_true rfl⟩ (Nat.le_of_ble_eq_true rfl) ⟨Nat.le_of_ble_eq_true rfl, Nat.le_of_ble_eq_true rfl⟩ (ch_mono (ch_Ki (fun r1 m2 q3 => ?_)) (s_y_isLineFor g (fun (r_ : Int32) (m_ : ch_M) => ((ch_line (ch_ob m 1 j1) p2 (p3 - 1)) ∧ 1 = r_ ∧ m = m_) ∨ ((¬ ch_line (ch_ob m 1 j1) p2 (p3 - 1)) ∧ 0 = r_ ∧ m = m_)) (j1) (p2) ((p3 - 1)) m ⟨(fun c_ => (Or.inl ⟨c_, rfl, rfl⟩)), (fun c_ => (Or.inr ⟨c_, rfl, rfl⟩))⟩))
  rcases q3 with ⟨c_, rfl, rfl⟩ | ⟨c_, rfl, rfl⟩
  · replace h := h.1 c_
    refine ch_if_eq (tgt := 15) d_w_lineAt_8 (by decide) (fun c => absurd c (by decide)) (fun _ => ?_)
    refine ch_iconst (v := 1) d_w_lineAt_11 (by decide) ?_
    refine ch_goto (tgt := 16) d_w_lineAt_12 (by decide) ?_
    exact ch_iret (ty := .int) d_w_lineAt_16 rfl rfl (Nat.le_of_ble_eq_true rfl) h
  · replace h := h.2 c_
    refine ch_if_eq (tgt := 15) d_w_lineAt_8 (by decide) (fun _ => ?_) (fun c => absurd c (by decide))
    refine ch_iconst (v := 0) d_w_lineAt_15 (by decide) ?_
    exact ch_iret (ty := .int) d_w_lineAt_16 rfl rfl (Nat.le_of_ble_eq_true rfl) h
