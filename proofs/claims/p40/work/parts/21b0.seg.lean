theorem e_y_countAhead (g : ch_G) (Q : ch_O → ch_M → Prop) (j : Nat) (p1 : Int32) (p2 : Int32) (m : ch_M) (h : ch_J g m_y_countAhead (ch_rm m_y_countAhead) (ch_E g m_y_countAhead Q) 0 [some (.inr (1, j, 0)), some (.inl (.int p1)), some (.inl (.int p2)), none, none, none, none] [] m 0) : ch_C g m_y_countAhead [.inr (1, j, 0), .inl (.int p1), .inl (.int p2)] m Q :=
  ch_enter mf_y_countAhead (by intro v hv; simp only [List.mem_cons, List.not_mem_nil, or_false] at hv; rcases hv with rfl | rfl | rfl <;> rfl) (Nat.le_of_ble_eq_true rfl) h
set_option maxHeartbeats 1600000 in
theorem g_y_countAhead_0 (g : ch_G) (Q : ch_O → ch_M → Prop) (j : Nat) (p1 : Int32) (p2 : Int32) (m : ch_M) (h : (vp_in p1 5) ∧ (ch_J g m_y_countAhead (ch_rm m_y_countAhead) (ch_E g m_y_countAhead Q) 13 [some (.inr (1, j, 0)), some (.inl (.int p1)), some (.inl (.int p2)), some (.inl (.int (y_ms (ch_ob m 1 j) p1 p2))), some (.inl (.int 0)), some (.inl (.int 0)), none] [] m 0)) : ch_J g m_y_countAhead (ch_rm m_y_countAhead) (ch_E g m_y_countAhead Q) 0 [some (.inr (1, j, 0)), some (.inl (.int p1)), some (.inl (.int p2)), none, none, none, none] [] m 0 := by
  refine ch_aload_n (i := 0) d_y_countAhead_0 rfl rfl ?_
  refine ch_iload_n (i := 1) d_y_countAhead_1 rfl rfl ?_
  refine ch_iload_n (i := 2) d_y_countAhead_2 rfl rfl ?_
  have b4 := h.1
  replace h := h.2
  refine ch_callV (as := [.inl (.int p1), .inl (.int p2)]) d_y_countAhead_3 lk_y_149 mi_y_measureOf me_y_measureOf rfl rfl rfl ⟨Nat.le_of_ble_eq_true rfl, Nat.le_of_ble_eq_true rfl⟩ (Nat.le_of_ble_eq_true rfl) ⟨Nat.le_of_ble_eq_true rfl, Nat.le_of_ble_eq_true rfl⟩ (ch_mono (ch_Ki (fun r1 m2 q3 => ?_)) (s_y_measureOf g (fun (r_ : Int32) (m_ : ch_M) => ((y_ms (ch_ob m 1 j) p1 p2) = r_ ∧ m = m_)) (j) (p1) (p2) m ⟨b4, ⟨rfl, rfl⟩⟩))
  obtain ⟨rfl, rfl⟩ := q3
  replace h := h
  refine ch_istore_n (i := 3) d_y_countAhead_6 rfl (Nat.le_of_ble_eq_true rfl) (ls' := [some (.inr (1, j, 0)), some (.inl (.int p1)), some (.inl (.int p2)), some (.inl (.int (y_ms (ch_ob m 1 j) p1 p2))), none, none, none]) rfl ?_
  refine ch_iconst (v := 0) d_y_countAhead_7 (by decide) ?_
  refine ch_istore (i := 4) d_y_countAhead_8 (Nat.le_of_ble_eq_true rfl) (ls' := [some (.inr (1, j, 0)), some (.inl (.int p1)), some (.inl (.int p2)), some (.inl (.int (y_ms (ch_ob m 1 j) p1 p2))), some (.inl (.int 0)), none, none]) rfl ?_
  refine ch_iconst (v := 0) d_y_countAhead_10 (by decide) ?_
  refine ch_istore (i := 5) d_y_countAhead_11 (Nat.le_of_ble_eq_true rfl) (ls' := [some (.inr (1, j, 0)), some (.inl (.int p1)), some (.inl (.int p2)), some (.inl (.int (y_ms (ch_ob m 1 j) p1 p2))), some (.inl (.int 0)), some (.inl (.int 0)), none]) rfl ?_
  exact h
set_option maxHeartbeats 1600000 in
theorem g_y_countAhead_13 (g : ch_G) (Q : ch_O → ch_M → Prop) (j : Nat) (x1 : Int32) (x2 : Int32) (x3 : Int32) (x4 : Int32) (x5 : Int32) (o6 : Option ch_V) (m : ch_M) (h : (((m (1, j, 0) 8) ≤ x5 → Q (.inl (some (.inl (.int x4)))) m) ∧ (¬ (m (1, j, 0) 8) ≤ x5 → (vp_in x5 5) ∧ (((x3 < (y_ms (ch_ob m 1 j) x5 x2) → ch_J g m_y_countAhead (ch_rm m_y_countAhead) (ch_E g m_y_countAhead Q) 13 [some (.inr (1, j, 0)), some (.inl (.int x1)), some (.inl (.int x2)), some (.inl (.int x3)), some (.inl (.int (x4 + 1))), some (.inl (.int (x5 + 1))), some (.inl (.int (y_ms (ch_ob m 1 j) x5 x2)))] [] m 0) ∧ (¬ x3 < (y_ms (ch_ob m 1 j) x5 x2) → ((¬ (y_ms (ch_ob m 1 j) x5 x2) = x3 → ch_J g m_y_countAhead (ch_rm m_y_countAhead) (ch_E g m_y_countAhead Q) 13 [some (.inr (1, j, 0)), some (.inl (.int x1)), some (.inl (.int x2)), some (.inl (.int x3)), some (.inl (.int x4)), some (.inl (.int (x5 + 1))), some (.inl (.int (y_ms (ch_ob m 1 j) x5 x2)))] [] m 0) ∧ ((y_ms (ch_ob m 1 j) x5 x2) = x3 → ((x1 ≤ x5 → ch_J g m_y_countAhead (ch_rm m_y_countAhead) (ch_E g m_y_countAhead Q) 13 [some (.inr (1, j, 0)), some (.inl (.int x1)), some (.inl (.int x2)), some (.inl (.int x3)), some (.inl (.int x4)), some (.inl (.int (x5 + 1))), some (.inl (.int (y_ms (ch_ob m 1 j) x5 x2)))] [] m 0) ∧ (¬ x1 ≤ x5 → ch_J g m_y_countAhead (ch_rm m_y_countAhead) (ch_E g m_y_countAhead Q) 13 [some (.inr (1, j, 0)), some (.inl (.int x1)), some (.inl (.int x2)), some (.inl (.int x3)), some (.inl (.int (x4 + 1))), some (.inl (.int (x5 + 1))), some (.inl (.int (y_ms (ch_ob m 1 j) x5 x2)))] [] m 0)))))))))) : ch_J g m_y_countAhead (ch_rm m_y_countAhead) (ch_E g m_y_countAhead Q) 13 [some (.inr (1, j, 0)), some (.inl (.int x1)), some (.inl (.int x2)), some (.inl (.int x3)), some (.inl (.int x4)), some (.inl (.int x5)), o6] [] m 0 := by
  refine ch_iload d_y_countAhead_13 rfl ?_
  refine ch_aload_n (i := 0) d_y_countAhead_15 rfl rfl ?_
  refine ch_get (v := .inl (.int (m (1, j, 0) 8))) d_y_countAhead_16 fl_y_42 rfl ?_
  refine ch_icmp_ge (tgt := 58) d_y_countAhead_19 (by decide) (fun c => ?_) (fun c => ?_)
  · replace h := h.1 c
    refine ch_iload d_y_countAhead_58 rfl ?_
    exact ch_iret (ty := .int) d_y_countAhead_60 rfl rfl (Nat.le_of_ble_eq_true rfl) h
  · replace h := h.2 c
    refine ch_aload_n (i := 0) d_y_countAhead_22 rfl rfl ?_
    refine ch_iload d_y_countAhead_23 rfl ?_
    refine ch_iload_n (i := 2) d_y_countAhead_25 rfl rfl ?_
    have b4 := h.1
    replace h := h.2
    refine ch_callV (as := [.inl (.int x5), .inl (.int x2)]) d_y_countAhead_26 lk_y_149 mi_y_measureOf me_y_measureOf rfl rfl rfl ⟨Nat.le_of_ble_eq_true rfl, Nat.le_of_ble_eq_true rfl⟩ (Nat.le_of_ble_eq_true rfl) ⟨Nat.le_of_ble_eq_true rfl, Nat.le_of_ble_eq_true rfl⟩ (ch_mono (ch_Ki (fun r1 m2 q3 => ?_)) (s_y_measureOf g (fun (r_ : Int32) (m_ : ch_M) => ((y_ms (ch_ob m 1 j) x5 x2) = r_ ∧ m = m_)) (j) (x5) (x2) m ⟨b4, ⟨rfl, rfl⟩⟩))
    obtain ⟨rfl, rfl⟩ := q3
    replace h := h
    refine ch_istore (i := 6) d_y_countAhead_29 (Nat.le_of_ble_eq_true rfl) (ls' := [some (.inr (1, j, 0)), some (.inl (.int x1)), some (.inl (.int x2)), some (.inl (.int x3)), some (.inl (.int x4)), some (.inl (.int x5)), some (.inl (.int (y_ms (ch_ob m 1 j) x5 x2)))]) rfl ?_
    refine ch_iload d_y_countAhead_31 rfl ?_
    refine ch_iload_n (i := 3) d_y_countAhead_33 rfl rfl ?_
    refine ch_icmp_gt (tgt := 49) d_y_countAhead_34 (by decide) (fun c => ?_) (fun c => ?_)
    · replace h := h.1 c
      refine ch_iinc (i := 4) (v := (x4 + 1)) d_y_countAhead_49 rfl rfl (Nat.le_of_ble_eq_true rfl) (ls' := [some (.inr (1, j, 0)), some (.inl (.int x1)), some (.inl (.int x2)), some (.inl (.int x3)), some (.inl (.int (x4 + 1))), some (.inl (.int x5)), some (.inl (.int (y_ms (ch_ob m 1 j) x5 x2)))]) rfl ?_
      refine ch_iinc (i := 5) (v := (x5 + 1)) d_y_countAhead_52 rfl rfl (Nat.le_of_ble_eq_true rfl) (ls' := [some (.inr (1, j, 0)), some (.inl (.int x1)), some (.inl (.int x2)), some (.inl (.int x3)), some (.inl (.int (x4 + 1))), some (.inl (.int (x5 + 1))), some (.inl (.int (y_ms (ch_ob m 1 j) x5 x2)))]) rfl ?_
      refine ch_goto (tgt := 13) d_y_countAhead_55 (by decide) ?_
      exact h
    · replace h := h.2 c
      refine ch_iload d_y_countAhead_37 rfl ?_
      refine ch_iload_n (i := 3) d_y_countAhead_39 rfl rfl ?_
      refine ch_icmp_ne (tgt := 52) d_y_countAhead_40 (by decide) (fun c => ?_) (fun c => ?_)
      · replace h := h.1 c
        refine ch_iinc (i := 5) (v := (x5 + 1)) d_y_countAhead_52 rfl rfl (Nat.le_of_ble_eq_true rfl) (ls' := [some (.inr (1, j, 0)), some (.inl (.int x1)), some (.inl (.int x2)), some (.inl (.int x3)), some (.inl (.int x4)), some (.inl (.int (x5 + 1))), some (.inl (.int (y_ms (ch_ob m 1 j) x5 x2)))]) rfl ?_
        refine ch_goto (tgt := 13) d_y_countAhead_55 (by decide) ?_
        exact h
      · replace h := h.2 c
        refine ch_iload d_y_countAhead_43 rfl ?_
        refine ch_iload_n (i := 1) d_y_countAhead_45 rfl rfl ?_
        refine ch_icmp_ge (tgt := 52) d_y_countAhead_46 (by decide) (fun c => ?_) (fun c => ?_)
        · replace h := h.1 c
          refine ch_iinc (i := 5) (v := (x5 + 1)) d_y_countAhead_52 rfl rfl (Nat.le_of_ble_eq_true rfl) (ls' := [some (.inr (1, j, 0)), some (.inl (.int x1)), some (.inl (.int x2)), some (.inl (.int x3)), some (.inl (.int x4)), some (.inl (.int (x5 + 1))), some (.inl (.int (y_ms (ch_ob m 1 j) x5 x2)))]) rfl ?_
          refine ch_goto (tgt := 13) d_y_countAhead_55 (by decide) ?_
          exact h
        · replace h := h.2 c
          refine ch_iinc (i := 4) (v := (x4 + 1)) d_y_countAhead_49 rfl rfl (Nat.le_of_ble_eq_true rfl) (ls' := [some (.inr (1, j, 0)), some (.inl (.int x1)), some (.inl (.int x2)), some (.inl (.int x3)), some (.inl (.int (x4 + 1))), some (.inl (.int x5)), some (.inl (.int (y_ms (ch_ob m 1 j) x5 x2)))]) rfl ?_
          refine ch_iinc (i := 5) (v := (x5 + 1)) d_y_countAhead_52 rfl rfl (Nat.le_of_ble_eq_true rfl) (ls' := [some (.inr (1, j, 0)), some (.inl (.int x1)), some (.inl (.int x2)), some (.inl (.int x3)), some (.inl (.int (x4 + 1))), some (.inl (.int (x5 + 1))), some (.inl (.int (y_ms (ch_ob m 1 j) x5 x2)))]) rfl ?_
          refine ch_goto (tgt := 13) d_y_countAhead_55 (by decide) ?_
          exact h
