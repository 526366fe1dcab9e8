theorem e_y_countAhead (g : ch_G) (Q : ch_O → ch_M → Prop) (j : Nat) (p1 : Int32) (p2 : Int32) (m : ch_M) (h : ch_J g m_y_countAhead (ch_rm m_y_countAhead) (ch_E g m_y_countAhead Q) 0 [some (.inr (1, j, 0)), some (.inl (.int p1)), some (.inl (.int p2)), none, none, none, none] [] m 0) : ch_C g m_y_countAhead [.inr (1, j, 0), .inl (.int p1), .inl (.int p2)] m Q :=
  ch_enter mf_y_countAhead (by intro v hv; simp only [List.mem_cons, List.not_mem_nil, or_false] at hv; rcases hv with rfl | rfl | rfl <;> rfl) (Nat.le_of_ble_eq_true rfl) h
set_option maxHeartbeats 1600000 in
theorem g_y_countAhead_0 (g : ch_G) (Q : ch_O → ch_M → Prop) (j : Nat) (p1 : Int32) (p2 : Int32) (m : ch_M) (h : (ch_C g m_y_measureOf [.inr (1, j, 0), .inl (.int p1), .inl (.int p2)] m (ch_oi (fun (r1 : Int32) (m2 : ch_M) => ch_J g m_y_countAhead (ch_rm m_y_countAhead) (ch_E g m_y_countAhead Q) 13 [some (.inr (1, j, 0)), some (.inl (.int p1)), some (.inl (.int p2)), some (.inl (.int r1)), some (.inl (.int 0)), some (.inl (.int 0)), none] [] m2 0)))) : ch_J g m_y_countAhead (ch_rm m_y_countAhead) (ch_E g m_y_countAhead Q) 0 [some (.inr (1, j, 0)), some (.inl (.int p1)), some (.inl (.int p2)), none, none, none, none] [] m 0 := by
  refine ch_aload_n (i := 0) d_y_countAhead_0 rfl rfl ?_
  refine ch_iload_n (i := 1) d_y_countAhead_1 rfl rfl ?_
  refine ch_iload_n (i := 2) d_y_countAhead_2 rfl rfl ?_
  refine ch_callV (as := [.inl (.int p1), .inl (.int p2)]) d_y_countAhead_3 lk_y_149 mi_y_measureOf me_y_measureOf rfl rfl rfl ⟨Nat.le_of_ble_eq_true rfl, Nat.le_of_ble_eq_true rfl⟩ (Nat.le_of_ble_eq_true rfl) ⟨Nat.le_of_ble_eq_true rfl, Nat.le_of_ble_eq_true rfl⟩ (ch_mono (ch_Ki (fun r1 m2 h => ?_)) h)
  refine ch_istore_n (i := 3) d_y_countAhead_6 rfl (Nat.le_of_ble_eq_true rfl) (ls' := [some (.inr (1, j, 0)), some (.inl (.int p1)), some (.inl (.int p2)), some (.inl (.int r1)), none, none, none]) rfl ?_
  refine ch_iconst (v := 0) d_y_countAhead_7 (by decide) ?_
  refine ch_istore (i := 4) d_y_countAhead_8 (Nat.le_of_ble_eq_true rfl) (ls' := [some (.inr (1, j, 0)), some (.inl (.int p1)), some (.inl (.int p2)), some (.inl (.int r1)), some (.inl (.int 0)), none, none]) rfl ?_
  refine ch_iconst (v := 0) d_y_countAhead_10 (by decide) ?_
  refine ch_istore (i := 5) d_y_countAhead_11 (Nat.le_of_ble_eq_true rfl) (ls' := [some (.inr (1, j, 0)), some (.inl (.int p1)), some (.inl (.int p2)), some (.inl (.int r1)), some (.inl (.int 0)), some (.inl (.int 0)), none]) rfl ?_
  exact h
set_option maxHeartbeats 1600000 in
theorem g_y_countAhead_13 (g : ch_G) (Q : ch_O → ch_M → Prop) (j : Nat) (x1 : Int32) (x2 : Int32) (x3 : Int32) (x4 : Int32) (x5 : Int32) (o6 : Option ch_V) (m : ch_M) (h : (((m (1, j, 0) 8) ≤ x5 → Q (.inl (some (.inl (.int x4)))) m) ∧ (¬ (m (1, j, 0) 8) ≤ x5 → (ch_C g m_y_measureOf [.inr (1, j, 0), .inl (.int x5), .inl (.int x2)] m (ch_oi (fun (r1 : Int32) (m2 : ch_M) => ((x3 < r1 → ch_J g m_y_countAhead (ch_rm m_y_countAhead) (ch_E g m_y_countAhead Q) 13 [some (.inr (1, j, 0)), some (.inl (.int x1)), some (.inl (.int x2)), some (.inl (.int x3)), some (.inl (.int (x4 + 1))), some (.inl (.int (x5 + 1))), some (.inl (.int r1))] [] m2 0) ∧ (¬ x3 < r1 → ((¬ r1 = x3 → ch_J g m_y_countAhead (ch_rm m_y_countAhead) (ch_E g m_y_countAhead Q) 13 [some (.inr (1, j, 0)), some (.inl (.int x1)), some (.inl (.int x2)), some (.inl (.int x3)), some (.inl (.int x4)), some (.inl (.int (x5 + 1))), some (.inl (.int r1))] [] m2 0) ∧ (r1 = x3 → ((x1 ≤ x5 → ch_J g m_y_countAhead (ch_rm m_y_countAhead) (ch_E g m_y_countAhead Q) 13 [some (.inr (1, j, 0)), some (.inl (.int x1)), some (.inl (.int x2)), some (.inl (.int x3)), some (.inl (.int x4)), some (.inl (.int (x5 + 1))), some (.inl (.int r1))] [] m2 0) ∧ (¬ x1 ≤ x5 → ch_J g m_y_countAhead (ch_rm m_y_countAhead) (ch_E g m_y_countAhead Q) 13 [some (.inr (1, j, 0)), some (.inl (.int x1)), some (.inl (.int x2)), some (.inl (.int x3)), some (.inl (.int (x4 + 1))), some (.inl (.int (x5 + 1))), some (.inl (.int r1))] [] m2 0)))))))))))) : ch_J g m_y_countAhead (ch_rm m_y_countAhead) (ch_E g m_y_countAhead Q) 13 [some (.inr (1, j, 0)), some (.inl (.int x1)), some (.inl (.int x2)), some (.inl (.int x3)), some (.inl (.int x4)), some (.inl (.int x5)), o6] [] m 0 := by
  refine ch_iload d_y_countAhead_13 rfl ?_
  refine ch_aload_n (i := 0) d_y_countAhead_15 rfl rfl ?_
  refine ch_get (v := .inl (.int (m (1, j, 0) 8))) d_y_countAhead_16 fl_y_42 rfl ?_
  refine ch_icmp_ge (tgt := 58) d_y_countAhead_19 (by decide) (fun c => ?_) (fun c => ?_)
  · replace h := h.1 c
    refine ch_iload d_y_countAhead_58 rfl ?_
    exact ch_iret (ty := .int) d_y_countAhead_60 rfl rfl (Nat.le_of_ble_eq_true rfl) h
  · replace h := h.2 c
    refine ch_aload_n (i := 0) d_y_countAhead_22 rfl rfl ?_
    refine ch_iload d_y_countAhead_23 rfl ?_
    refine ch_iload_n (i := 2) d_y_countAhead_25 rfl rfl ?_
    refine ch_callV (as := [.inl (.int x5), .inl (.int x2)]) d_y_countAhead_26 lk_y_149 mi_y_measureOf me_y_measureOf rfl rfl rfl ⟨Nat.le_of_ble_eq_true rfl, Nat.le_of_ble_eq_true rfl⟩ (Nat.le_of_ble_eq_true rfl) ⟨Nat.le_of_ble_eq_true rfl, Nat.le_of_ble_eq_true rfl⟩ (ch_mono (ch_Ki (fun r1 m2 h => ?_)) h)
    refine ch_istore (i := 6) d_y_countAhead_29 (Nat.le_of_ble_eq_true rfl) (ls' := [some (.inr (1, j, 0)), some (.inl (.int x1)), some (.inl (.int x2)), some (.inl (.int x3)), some (.inl (.int x4)), some (.inl (.int x5)), some (.inl (.int r1))]) rfl ?_
    refine ch_iload d_y_countAhead_31 rfl ?_
    refine ch_iload_n (i := 3) d_y_countAhead_33 rfl rfl ?_
    refine ch_icmp_gt (tgt := 49) d_y_countAhead_34 (by decide) (fun c => ?_) (fun c => ?_)
    · replace h := h.1 c
      refine ch_iinc (i := 4) (v := (x4 + 1)) d_y_countAhead_49 rfl rfl (Nat.le_of_ble_eq_true rfl) (ls' := [some (.inr (1, j, 0)), some (.inl (.int x1)), some (.inl (.int x2)), some (.inl (.int x3)), some (.inl (.int (x4 + 1))), some (.inl (.int x5)), some (.inl (.int r1))]) rfl ?_
      refine ch_iinc (i := 5) (v := (x5 + 1)) d_y_countAhead_52 rfl rfl (Nat.le_of_ble_eq_true rfl) (ls' := [some (.inr (1, j, 0)), some (.inl (.int x1)), some (.inl (.int x2)), some (.inl (.int x3)), some (.inl (.int (x4 + 1))), some (.inl (.int (x5 + 1))), some (.inl (.int r1))]) rfl ?_
      refine ch_goto (tgt := 13) d_y_countAhead_55 (by decide) ?_
      exact h
    · replace h := h.2 c
      refine ch_iload d_y_countAhead_37 rfl ?_
      refine ch_iload_n (i := 3) d_y_countAhead_39 rfl rfl ?_
      refine ch_icmp_ne (tgt := 52) d_y_countAhead_40 (by decide) (fun c => ?_) (fun c => ?_)
      · replace h := h.1 c
        refine ch_iinc (i := 5) (v := (x5 + 1)) d_y_countAhead_52 rfl rfl (Nat.le_of_ble_eq_true rfl) (ls' := [some (.inr (1, j, 0)), some (.inl (.int x1)), some (.inl (.int x2)), some (.inl (.int x3)), some (.inl (.int x4)), some (.inl (.int (x5 + 1))), some (.inl (.int r1))]) rfl ?_
        refine ch_goto (tgt := 13) d_y_countAhead_55 (by decide) ?_
        exact h
      · replace h := h.2 c
        refine ch_iload d_y_countAhead_43 rfl ?_
        refine ch_iload_n (i := 1) d_y_countAhead_45 rfl rfl ?_
        refine ch_icmp_ge (tgt := 52) d_y_countAhead_46 (by decide) (fun c => ?_) (fun c => ?_)
        · replace h := h.1 c
          refine ch_iinc (i := 5) (v := (x5 + 1)) d_y_countAhead_52 rfl rfl (Nat.le_of_ble_eq_true rfl) (ls' := [some (.inr (1, j, 0)), some (.inl (.int x1)), some (.inl (.int x2)), some (.inl (.int x3)), some (.inl (.int x4)), some (.inl (.int (x5 + 1))), some (.inl (.int r1))]) rfl ?_
          refine ch_goto (tgt := 13) d_y_countAhead_55 (by decide) ?_
          exact h
        · replace h := h.2 c
          refine ch_iinc (i := 4) (v := (x4 + 1)) d_y_countAhead_49 rfl rfl (Nat.le_of_ble_eq_true rfl) (ls' := [some (.inr (1, j, 0)), some (.inl (.int x1)), some (.inl (.int x2)), some (.inl (.int x3)), some (.inl (.int (x4 + 1))), some (.inl (.int x5)), some (.inl (.int r1))]) rfl ?_
          refine ch_iinc (i := 5) (v := (x5 + 1)) d_y_countAhead_52 rfl rfl (Nat.le_of_ble_eq_true rfl) (ls' := [some (.inr (1, j, 0)), some (.inl (.int x1)), some (.inl (.int x2)), some (.inl (.int x3)), some (.inl (.int (x4 + 1))), some (.inl (.int (x5 + 1))), some (.inl (.int r1))]) rfl ?_
          refine ch_goto (tgt := 13) d_y_countAhead_55 (by decide) ?_
          exact h
theorem e_y_measureOf (g : ch_G) (Q : ch_O → ch_M → Prop) (j : Nat) (p1 : Int32) (p2 : Int32) (m : ch_M) (h : ch_J g m_y_measureOf (ch_rm m_y_measureOf) (ch_E g m_y_measureOf Q) 0 [some (.inr (1, j, 0)), some (.inl (.int p1)), some (.inl (.int p2))] [] m 0) : ch_C g m_y_measureOf [.inr (1, j, 0), .inl (.int p1), .inl (.int p2)] m Q :=
  ch_enter mf_y_measureOf (by intro v hv; simp only [List.mem_cons, List.not_mem_nil, or_false] at hv; rcases hv with rfl | rfl | rfl <;> rfl) (Nat.le_of_ble_eq_true rfl) h
set_option maxHeartbeats 1600000 in
theorem g_y_measureOf_0 (g : ch_G) (Q : ch_O → ch_M → Prop) (j : Nat) (p1 : Int32) (p2 : Int32) (m : ch_M) (h : ((p2 = 0 → (vp_in p1 5) ∧ Q (.inl (some (.inl (.int (m (1, j, 3) (Int32.toNatClampNeg p1)))))) m) ∧ (p2 = 1 → (ch_C g m_y_countOwned [.inr (1, j, 0), .inl (.int p1)] m (ch_oi (fun (r2 : Int32) (m3 : ch_M) => Q (.inl (some (.inl (.int r2)))) m3)))) ∧ (p2 = 2 → (vp_in p1 5) ∧ Q (.inl (some (.inl (.int (m (1, j, 4) (Int32.toNatClampNeg p1)))))) m) ∧ ((Int32.toInt p2 < 0 ∨ 2 < Int32.toInt p2) → (vp_in p1 5) ∧ Q (.inl (some (.inl (.int (m (1, j, 5) (Int32.toNatClampNeg p1)))))) m))) : ch_J g m_y_measureOf (ch_rm m_y_measureOf) (ch_E g m_y_measureOf Q) 0 [some (.inr (1, j, 0)), some (.inl (.int p1)), some (.inl (.int p2))] [] m 0 := by
  refine ch_iload_n (i := 2) d_y_measureOf_0 rfl rfl ?_
  by_cases e0 : p2 = 0
  · replace h := h.1 e0
    refine ch_tswIn (tgt := 28) (off := 27) d_y_measureOf_1 (by rw [e0]; decide) (by rw [e0]; decide) (by rw [e0]; rfl) (by decide) ?_
    refine ch_aload_n (i := 0) d_y_measureOf_28 rfl rfl ?_
    refine ch_get (v := .inr (1, j, 3)) d_y_measureOf_29 fl_y_18 rfl ?_
    refine ch_iload_n (i := 1) d_y_measureOf_32 rfl rfl ?_
    have b1 := h.1
    replace h := h.2
    refine ch_iald (n := 5) d_y_measureOf_33 (by decide) rfl b1 ?_
    exact ch_iret (ty := .int) d_y_measureOf_34 rfl rfl (Nat.le_of_ble_eq_true rfl) h
  replace h := h.2
  by_cases e1 : p2 = 1
  · replace h := h.1 e1
    refine ch_tswIn (tgt := 35) (off := 34) d_y_measureOf_1 (by rw [e1]; decide) (by rw [e1]; decide) (by rw [e1]; rfl) (by decide) ?_
    refine ch_aload_n (i := 0) d_y_measureOf_35 rfl rfl ?_
    refine ch_iload_n (i := 1) d_y_measureOf_36 rfl rfl ?_
    refine ch_callV (as := [.inl (.int p1)]) d_y_measureOf_37 lk_y_152 mi_y_countOwned me_y_countOwned rfl rfl rfl ⟨Nat.le_of_ble_eq_true rfl, Nat.le_of_ble_eq_true rfl⟩ (Nat.le_of_ble_eq_true rfl) ⟨Nat.le_of_ble_eq_true rfl, Nat.le_of_ble_eq_true rfl⟩ (ch_mono (ch_Ki (fun r2 m3 h => ?_)) h)
    exact ch_iret (ty := .int) d_y_measureOf_40 rfl rfl (Nat.le_of_ble_eq_true rfl) h
  replace h := h.2
  by_cases e2 : p2 = 2
  · replace h := h.1 e2
    refine ch_tswIn (tgt := 41) (off := 40) d_y_measureOf_1 (by rw [e2]; decide) (by rw [e2]; decide) (by rw [e2]; rfl) (by decide) ?_
    refine ch_aload_n (i := 0) d_y_measureOf_41 rfl rfl ?_
    refine ch_get (v := .inr (1, j, 4)) d_y_measureOf_42 fl_y_21 rfl ?_
    refine ch_iload_n (i := 1) d_y_measureOf_45 rfl rfl ?_
    have b4 := h.1
    replace h := h.2
    refine ch_iald (n := 5) d_y_measureOf_46 (by decide) rfl b4 ?_
    exact ch_iret (ty := .int) d_y_measureOf_47 rfl rfl (Nat.le_of_ble_eq_true rfl) h
  replace h := h.2
  have hx : (Int32.toInt p2 < 0 ∨ 2 < Int32.toInt p2) := by
    have f0 : Int32.toInt p2 ≠ 0 := fun q => e0 (Int32.toInt_inj.mp (q.trans (by decide)))
    have f1 : Int32.toInt p2 ≠ 1 := fun q => e1 (Int32.toInt_inj.mp (q.trans (by decide)))
    have f2 : Int32.toInt p2 ≠ 2 := fun q => e2 (Int32.toInt_inj.mp (q.trans (by decide)))
    omega
  replace h := h hx
  refine ch_tswOut (tgt := 48) d_y_measureOf_1 hx (by decide) ?_
  refine ch_aload_n (i := 0) d_y_measureOf_48 rfl rfl ?_
  refine ch_get (v := .inr (1, j, 5)) d_y_measureOf_49 fl_y_24 rfl ?_
  refine ch_iload_n (i := 1) d_y_measureOf_52 rfl rfl ?_
  have b5 := h.1
  replace h := h.2
  refine ch_iald (n := 5) d_y_measureOf_53 (by decide) rfl b5 ?_
  exact ch_iret (ty := .int) d_y_measureOf_54 rfl rfl (Nat.le_of_ble_eq_true rfl) h
