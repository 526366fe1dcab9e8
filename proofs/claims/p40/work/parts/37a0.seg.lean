theorem e_l_steps (g : ch_G) (Q : ch_O → ch_M → Prop) (p0 : Int32) (m : ch_M) (h : ch_J g m_l_steps (ch_rm m_l_steps) (ch_E g m_l_steps Q) 0 [some (.inl (.int p0)), none, none, none, none, none] [] m 0) : ch_C g m_l_steps [.inl (.int p0)] m Q :=
  ch_enter mf_l_steps (by intro v hv; simp only [List.mem_cons, List.not_mem_nil, or_false] at hv; rcases hv with rfl <;> rfl) (Nat.le_of_ble_eq_true rfl) h
set_option maxHeartbeats 1600000 in
theorem g_l_steps_0 (g : ch_G) (Q : ch_O → ch_M → Prop) (p0 : Int32) (m : ch_M) (h : ch_J g m_l_steps (ch_rm m_l_steps) (ch_E g m_l_steps Q) 9 [some (.inl (.int p0)), some (.inl (.int (-1))), some (.inl (.int 0)), some (.inl (.int p0)), some (.inl (.int 0)), none] [] m 0) : ch_J g m_l_steps (ch_rm m_l_steps) (ch_E g m_l_steps Q) 0 [some (.inl (.int p0)), none, none, none, none, none] [] m 0 := by
  refine ch_iconst (v := (-1)) d_l_steps_0 (by decide) ?_
  refine ch_istore_n (i := 1) d_l_steps_1 rfl (Nat.le_of_ble_eq_true rfl) (ls' := [some (.inl (.int p0)), some (.inl (.int (-1))), none, none, none, none]) rfl ?_
  refine ch_iconst (v := 0) d_l_steps_2 (by decide) ?_
  refine ch_istore_n (i := 2) d_l_steps_3 rfl (Nat.le_of_ble_eq_true rfl) (ls' := [some (.inl (.int p0)), some (.inl (.int (-1))), some (.inl (.int 0)), none, none, none]) rfl ?_
  refine ch_iload_n (i := 0) d_l_steps_4 rfl rfl ?_
  refine ch_istore_n (i := 3) d_l_steps_5 rfl (Nat.le_of_ble_eq_true rfl) (ls' := [some (.inl (.int p0)), some (.inl (.int (-1))), some (.inl (.int 0)), some (.inl (.int p0)), none, none]) rfl ?_
  refine ch_iconst (v := 0) d_l_steps_6 (by decide) ?_
  refine ch_istore (i := 4) d_l_steps_7 (Nat.le_of_ble_eq_true rfl) (ls' := [some (.inl (.int p0)), some (.inl (.int (-1))), some (.inl (.int 0)), some (.inl (.int p0)), some (.inl (.int 0)), none]) rfl ?_
  exact h
set_option maxHeartbeats 1600000 in
theorem g_l_steps_9 (g : ch_G) (Q : ch_O → ch_M → Prop) (x0 : Int32) (x1 : Int32) (x2 : Int32) (x3 : Int32) (x4 : Int32) (o5 : Option ch_V) (m : ch_M) (h : ((11 ≤ x1 → Q (.inl (some (.inl (.int x2)))) m) ∧ (¬ 11 ≤ x1 → (¬ 3 = (0 : Int32)) ∧ (((x4 ≤ 3 → ch_J g m_l_steps (ch_rm m_l_steps) (ch_E g m_l_steps Q) 9 [some (.inl (.int x0)), some (.inl (.int (x1 + (1 + (l_sm x3 3))))), some (.inl (.int ((10 * x2) + (1 + (l_sm x3 3))))), some (.inl (.int (x3 >>> (2 &&& (31 : Int32))))), some (.inl (.int (x4 + 1))), some (.inl (.int (1 + (l_sm x3 3))))] [] m 0) ∧ (¬ x4 ≤ 3 → ch_J g m_l_steps (ch_rm m_l_steps) (ch_E g m_l_steps Q) 9 [some (.inl (.int x0)), some (.inl (.int (x1 + 3))), some (.inl (.int ((10 * x2) + 3))), some (.inl (.int (x3 >>> (2 &&& (31 : Int32))))), some (.inl (.int (x4 + 1))), some (.inl (.int 3))] [] m 0)))))) : ch_J g m_l_steps (ch_rm m_l_steps) (ch_E g m_l_steps Q) 9 [some (.inl (.int x0)), some (.inl (.int x1)), some (.inl (.int x2)), some (.inl (.int x3)), some (.inl (.int x4)), o5] [] m 0 := by
  refine ch_iload_n (i := 1) d_l_steps_9 rfl rfl ?_
  refine ch_bipush (v := 11) d_l_steps_10 (by decide) ?_
  refine ch_icmp_ge (tgt := 56) d_l_steps_12 (by decide) (fun c => ?_) (fun c => ?_)
  · replace h := h.1 c
    refine ch_iload_n (i := 2) d_l_steps_56 rfl rfl ?_
    exact ch_iret (ty := .int) d_l_steps_57 rfl rfl (Nat.le_of_ble_eq_true rfl) h
  · replace h := h.2 c
    refine ch_iconst (v := 1) d_l_steps_15 (by decide) ?_
    refine ch_iload_n (i := 3) d_l_steps_16 rfl rfl ?_
    refine ch_iconst (v := 3) d_l_steps_17 (by decide) ?_
    have b4 := h.1
    replace h := h.2
    refine ch_callS (as := [.inl (.int x3), .inl (.int 3)]) d_l_steps_18 lk_l_146 ms_l_some rfl rfl ⟨Nat.le_of_ble_eq_true rfl, Nat.le_of_ble_eq_true rfl⟩ (Nat.le_of_ble_eq_true rfl) ⟨Nat.le_of_ble_eq_true rfl, Nat.le_of_ble_eq_true rfl⟩ (ch_mono (ch_Ki (fun r1 m2 q3 => ?_)) (s_l_some g (fun (r_ : Int32) (m_ : ch_M) => ((l_sm x3 3) = r_ ∧ m = m_)) (x3) (3) m ⟨b4, ⟨rfl, rfl⟩⟩))
    obtain ⟨rfl, rfl⟩ := q3
    replace h := h
    refine ch_iadd d_l_steps_21 ?_
    refine ch_istore (i := 5) d_l_steps_22 (Nat.le_of_ble_eq_true rfl) (ls' := [some (.inl (.int x0)), some (.inl (.int x1)), some (.inl (.int x2)), some (.inl (.int x3)), some (.inl (.int x4)), some (.inl (.int (1 + (l_sm x3 3))))]) rfl ?_
    refine ch_iload d_l_steps_24 rfl ?_
    refine ch_iconst (v := 3) d_l_steps_26 (by decide) ?_
    refine ch_icmp_le (tgt := 33) d_l_steps_27 (by decide) (fun c => ?_) (fun c => ?_)
    · replace h := h.1 c
      refine ch_iload_n (i := 1) d_l_steps_33 rfl rfl ?_
      refine ch_iload d_l_steps_34 rfl ?_
      refine ch_iadd d_l_steps_36 ?_
      refine ch_istore_n (i := 1) d_l_steps_37 rfl (Nat.le_of_ble_eq_true rfl) (ls' := [some (.inl (.int x0)), some (.inl (.int (x1 + (1 + (l_sm x3 3))))), some (.inl (.int x2)), some (.inl (.int x3)), some (.inl (.int x4)), some (.inl (.int (1 + (l_sm x3 3))))]) rfl ?_
      refine ch_bipush (v := 10) d_l_steps_38 (by decide) ?_
      refine ch_iload_n (i := 2) d_l_steps_40 rfl rfl ?_
      refine ch_imul d_l_steps_41 ?_
      refine ch_iload d_l_steps_42 rfl ?_
      refine ch_iadd d_l_steps_44 ?_
      refine ch_istore_n (i := 2) d_l_steps_45 rfl (Nat.le_of_ble_eq_true rfl) (ls' := [some (.inl (.int x0)), some (.inl (.int (x1 + (1 + (l_sm x3 3))))), some (.inl (.int ((10 * x2) + (1 + (l_sm x3 3))))), some (.inl (.int x3)), some (.inl (.int x4)), some (.inl (.int (1 + (l_sm x3 3))))]) rfl ?_
      refine ch_iload_n (i := 3) d_l_steps_46 rfl rfl ?_
      refine ch_iconst (v := 2) d_l_steps_47 (by decide) ?_
      refine ch_ishr d_l_steps_48 ?_
      refine ch_istore_n (i := 3) d_l_steps_49 rfl (Nat.le_of_ble_eq_true rfl) (ls' := [some (.inl (.int x0)), some (.inl (.int (x1 + (1 + (l_sm x3 3))))), some (.inl (.int ((10 * x2) + (1 + (l_sm x3 3))))), some (.inl (.int (x3 >>> (2 &&& (31 : Int32))))), some (.inl (.int x4)), some (.inl (.int (1 + (l_sm x3 3))))]) rfl ?_
      refine ch_iinc (i := 4) (v := (x4 + 1)) d_l_steps_50 rfl rfl (Nat.le_of_ble_eq_true rfl) (ls' := [some (.inl (.int x0)), some (.inl (.int (x1 + (1 + (l_sm x3 3))))), some (.inl (.int ((10 * x2) + (1 + (l_sm x3 3))))), some (.inl (.int (x3 >>> (2 &&& (31 : Int32))))), some (.inl (.int (x4 + 1))), some (.inl (.int (1 + (l_sm x3 3))))]) rfl ?_
      refine ch_goto (tgt := 9) d_l_steps_53 (by decide) ?_
      exact h
    · replace h := h.2 c
      refine ch_iconst (v := 3) d_l_steps_30 (by decide) ?_
      refine ch_istore (i := 5) d_l_steps_31 (Nat.le_of_ble_eq_true rfl) (ls' := [some (.inl (.int x0)), some (.inl (.int x1)), some (.inl (.int x2)), some (.inl (.int x3)), some (.inl (.int x4)), some (.inl (.int 3))]) rfl ?_
      refine ch_iload_n (i := 1) d_l_steps_33 rfl rfl ?_
      refine ch_iload d_l_steps_34 rfl ?_
      refine ch_iadd d_l_steps_36 ?_
      refine ch_istore_n (i := 1) d_l_steps_37 rfl (Nat.le_of_ble_eq_true rfl) (ls' := [some (.inl (.int x0)), some (.inl (.int (x1 + 3))), some (.inl (.int x2)), some (.inl (.int x3)), some (.inl (.int x4)), some (.inl (.int 3))]) rfl ?_
      refine ch_bipush (v := 10) d_l_steps_38 (by decide) ?_
      refine ch_iload_n (i := 2) d_l_steps_40 rfl rfl ?_
      refine ch_imul d_l_steps_41 ?_
      refine ch_iload d_l_steps_42 rfl ?_
      refine ch_iadd d_l_steps_44 ?_
      refine ch_istore_n (i := 2) d_l_steps_45 rfl (Nat.le_of_ble_eq_true rfl) (ls' := [some (.inl (.int x0)), some (.inl (.int (x1 + 3))), some (.inl (.int ((10 * x2) + 3))), some (.inl (.int x3)), some (.inl (.int x4)), some (.inl (.int 3))]) rfl ?_
      refine ch_iload_n (i := 3) d_l_steps_46 rfl rfl ?_
      refine ch_iconst (v := 2) d_l_steps_47 (by decide) ?_
      refine ch_ishr d_l_steps_48 ?_
      refine ch_istore_n (i := 3) d_l_steps_49 rfl (Nat.le_of_ble_eq_true rfl) (ls' := [some (.inl (.int x0)), some (.inl (.int (x1 + 3))), some (.inl (.int ((10 * x2) + 3))), some (.inl (.int (x3 >>> (2 &&& (31 : Int32))))), some (.inl (.int x4)), some (.inl (.int 3))]) rfl ?_
      refine ch_iinc (i := 4) (v := (x4 + 1)) d_l_steps_50 rfl rfl (Nat.le_of_ble_eq_true rfl) (ls' := [some (.inl (.int x0)), some (.inl (.int (x1 + 3))), some (.inl (.int ((10 * x2) + 3))), some (.inl (.int (x3 >>> (2 &&& (31 : Int32))))), some (.inl (.int (x4 + 1))), some (.inl (.int 3))]) rfl ?_
      refine ch_goto (tgt := 9) d_l_steps_53 (by decide) ?_
      exact h
theorem e_l_isAt (g : ch_G) (Q : ch_O → ch_M → Prop) (p1 : Int32) (p2 : Int32) (p3 : Int32) (m : ch_M) (h : ch_J g m_l_isAt (ch_rm m_l_isAt) (ch_E g m_l_isAt Q) 0 [some (.inr (0, 0, 0)), some (.inl (.int p1)), some (.inl (.int p2)), some (.inl (.int p3))] [] m 0) : ch_C g m_l_isAt [.inr (0, 0, 0), .inl (.int p1), .inl (.int p2), .inl (.int p3)] m Q :=
  ch_enter mf_l_isAt (by intro v hv; simp only [List.mem_cons, List.not_mem_nil, or_false] at hv; rcases hv with rfl | rfl | rfl | rfl <;> rfl) (Nat.le_of_ble_eq_true rfl) h
set_option maxHeartbeats 1600000 in
theorem g_l_isAt_0 (g : ch_G) (Q : ch_O → ch_M → Prop) (k : Nat) (hk : k + 4 ≤ 4) (p1 : Int32) (p2 : Int32) (p3 : Int32) (m : ch_M) (h : (¬ m (3, 0, 0) 0 = 0) ∧ (((¬ (l_rs m 0) = p2 → Q (.inl (some (.inl (.int 0)))) m) ∧ ((l_rs m 0) = p2 → (¬ m (3, 0, 0) 0 = 0) ∧ (((¬ (l_rs m 1) = p3 → Q (.inl (some (.inl (.int 0)))) m) ∧ ((l_rs m 1) = p3 → (¬ m (3, 0, 0) 0 = 0) ∧ (((¬ (l_rs m 2) = p1 → Q (.inl (some (.inl (.int 0)))) m) ∧ ((l_rs m 2) = p1 → (¬ m (3, 0, 0) 0 = 0) ∧ (((¬ (l_rs m 3) = (-1001) → Q (.inl (some (.inl (.int 0)))) m) ∧ ((l_rs m 3) = (-1001) → Q (.inl (some (.inl (.int 1)))) m))))))))))))) : ch_J g m_l_isAt (ch_rm m_l_isAt) (ch_E g m_l_isAt Q) 0 [some (.inr (0, 0, 0)), some (.inl (.int p1)), some (.inl (.int p2)), some (.inl (.int p3))] [] m k := by
  refine ch_aload_n (i := 0) d_l_isAt_0 rfl rfl ?_
  refine ch_iconst (v := 0) d_l_isAt_1 (by decide) ?_
  have b4 := h.1
  replace h := h.2
  refine ch_callSX (as := [.inr (0, 0, 0), .inl (.int 0)]) d_l_isAt_2 lk_l_141 ms_l_reason rfl rfl ⟨Nat.le_of_ble_eq_true rfl, Nat.le_of_ble_eq_true rfl⟩ (Nat.le_of_ble_eq_true rfl) (ch_rk0 (b := 1) hk (Nat.le_of_ble_eq_true rfl) (Nat.le_of_ble_eq_true rfl)) (ch_mono (ch_Ki (fun r1 m2 q3 => ?_)) (t_l_reason g (fun (r_ : Int32) (m_ : ch_M) => ((l_rs m 0) = r_ ∧ m = m_)) (0) m ⟨b4, ⟨rfl, rfl⟩⟩))
  obtain ⟨rfl, rfl⟩ := q3
  replace h := h
  refine ch_iload_n (i := 2) d_l_isAt_5 rfl rfl ?_
  refine ch_icmp_ne (tgt := 42) d_l_isAt_6 (by decide) (fun c => ?_) (fun c => ?_)
  · replace h := h.1 c
    refine ch_iconst (v := 0) d_l_isAt_42 (by decide) ?_
    exact ch_iret (ty := .boolean) d_l_isAt_43 rfl rfl (show (k + 1) ≤ 4 by omega) h
  · replace h := h.2 c
    refine ch_aload_n (i := 0) d_l_isAt_9 rfl rfl ?_
    refine ch_iconst (v := 1) d_l_isAt_10 (by decide) ?_
    have b8 := h.1
    replace h := h.2
    refine ch_callSX (as := [.inr (0, 0, 0), .inl (.int 1)]) d_l_isAt_11 lk_l_141 ms_l_reason rfl rfl ⟨Nat.le_of_ble_eq_true rfl, Nat.le_of_ble_eq_true rfl⟩ (Nat.le_of_ble_eq_true rfl) (ch_rk (a := 1) (b := 1) hk (Nat.le_of_ble_eq_true rfl) (Nat.le_of_ble_eq_true rfl)) (ch_mono (ch_Ki (fun r5 m6 q7 => ?_)) (t_l_reason g (fun (r_ : Int32) (m_ : ch_M) => ((l_rs m 1) = r_ ∧ m = m_)) (1) m ⟨b8, ⟨rfl, rfl⟩⟩))
    obtain ⟨rfl, rfl⟩ := q7
    replace h := h
    refine ch_iload_n (i := 3) d_l_isAt_14 rfl rfl ?_
    refine ch_icmp_ne (tgt := 42) d_l_isAt_15 (by decide) (fun c => ?_) (fun c => ?_)
    · replace h := h.1 c
      refine ch_iconst (v := 0) d_l_isAt_42 (by decide) ?_
      exact ch_iret (ty := .boolean) d_l_isAt_43 rfl rfl (show (k + 2) ≤ 4 by omega) h
    · replace h := h.2 c
      refine ch_aload_n (i := 0) d_l_isAt_18 rfl rfl ?_
      refine ch_iconst (v := 2) d_l_isAt_19 (by decide) ?_
      have b12 := h.1
      replace h := h.2
      refine ch_callSX (as := [.inr (0, 0, 0), .inl (.int 2)]) d_l_isAt_20 lk_l_141 ms_l_reason rfl rfl ⟨Nat.le_of_ble_eq_true rfl, Nat.le_of_ble_eq_true rfl⟩ (Nat.le_of_ble_eq_true rfl) (ch_rk (a := 2) (b := 1) hk (Nat.le_of_ble_eq_true rfl) (Nat.le_of_ble_eq_true rfl)) (ch_mono (ch_Ki (fun r9 m10 q11 => ?_)) (t_l_reason g (fun (r_ : Int32) (m_ : ch_M) => ((l_rs m 2) = r_ ∧ m = m_)) (2) m ⟨b12, ⟨rfl, rfl⟩⟩))
      obtain ⟨rfl, rfl⟩ := q11
      replace h := h
      refine ch_iload_n (i := 1) d_l_isAt_23 rfl rfl ?_
      refine ch_icmp_ne (tgt := 42) d_l_isAt_24 (by decide) (fun c => ?_) (fun c => ?_)
      · replace h := h.1 c
        refine ch_iconst (v := 0) d_l_isAt_42 (by decide) ?_
        exact ch_iret (ty := .boolean) d_l_isAt_43 rfl rfl (show (k + 3) ≤ 4 by omega) h
      · replace h := h.2 c
        refine ch_aload_n (i := 0) d_l_isAt_27 rfl rfl ?_
        refine ch_iconst (v := 3) d_l_isAt_28 (by decide) ?_
        have b16 := h.1
        replace h := h.2
        refine ch_callSX (as := [.inr (0, 0, 0), .inl (.int 3)]) d_l_isAt_29 lk_l_141 ms_l_reason rfl rfl ⟨Nat.le_of_ble_eq_true rfl, Nat.le_of_ble_eq_true rfl⟩ (Nat.le_of_ble_eq_true rfl) (ch_rk (a := 3) (b := 1) hk (Nat.le_of_ble_eq_true rfl) (Nat.le_of_ble_eq_true rfl)) (ch_mono (ch_Ki (fun r13 m14 q15 => ?_)) (t_l_reason g (fun (r_ : Int32) (m_ : ch_M) => ((l_rs m 3) = r_ ∧ m = m_)) (3) m ⟨b16, ⟨rfl, rfl⟩⟩))
        obtain ⟨rfl, rfl⟩ := q15
        replace h := h
        refine ch_sipush (v := (-1001)) d_l_isAt_32 (by decide) ?_
        refine ch_icmp_ne (tgt := 42) d_l_isAt_35 (by decide) (fun c => ?_) (fun c => ?_)
        · replace h := h.1 c
          refine ch_iconst (v := 0) d_l_isAt_42 (by decide) ?_
          exact ch_iret (ty := .boolean) d_l_isAt_43 rfl rfl (show (k + 4) ≤ 4 by omega) h
        · replace h := h.2 c
          refine ch_iconst (v := 1) d_l_isAt_38 (by decide) ?_
          refine ch_goto (tgt := 43) d_l_isAt_39 (by decide) ?_
          exact ch_iret (ty := .boolean) d_l_isAt_43 rfl rfl (show (k + 4) ≤ 4 by omega) h
