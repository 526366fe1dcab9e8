theorem e_w_fewestOn (g : ch_G) (Q : ch_O → ch_M → Prop) (j1 : Nat) (p2 : Int32) (m : ch_M) (h : ch_J g m_w_fewestOn (ch_rm m_w_fewestOn) (ch_E g m_w_fewestOn Q) 0 [some (.inr (8, 0, 0)), some (.inr (1, j1, 0)), some (.inl (.int p2)), none, none, none, none] [] m 0) : ch_C g m_w_fewestOn [.inr (8, 0, 0), .inr (1, j1, 0), .inl (.int p2)] m Q :=
  ch_enter mf_w_fewestOn (by intro v hv; simp only [List.mem_cons, List.not_mem_nil, or_false] at hv; rcases hv with rfl | rfl | rfl <;> rfl) (Nat.le_of_ble_eq_true rfl) h
set_option maxHeartbeats 1600000 in
theorem g_w_fewestOn_0 (g : ch_G) (Q : ch_O → ch_M → Prop) (j1 : Nat) (p2 : Int32) (m : ch_M) (h : (∀ m1 : ch_M, m1 = ch_wr m (8, 0, 1) (0) 0 → ch_J g m_w_fewestOn (ch_rm m_w_fewestOn) (ch_E g m_w_fewestOn Q) 13 [some (.inr (8, 0, 0)), some (.inr (1, j1, 0)), some (.inl (.int p2)), some (.inl (.int 12)), some (.inl (.int 1)), none, none] [] m1 0)) : ch_J g m_w_fewestOn (ch_rm m_w_fewestOn) (ch_E g m_w_fewestOn Q) 0 [some (.inr (8, 0, 0)), some (.inr (1, j1, 0)), some (.inl (.int p2)), none, none, none, none] [] m 0 := by
  refine ch_aload_n (i := 0) d_w_fewestOn_0 rfl rfl ?_
  refine ch_get (v := .inr (8, 0, 1)) d_w_fewestOn_1 fl_w_11 rfl ?_
  refine ch_iconst (v := 0) d_w_fewestOn_4 (by decide) ?_
  refine ch_iconst (v := 0) d_w_fewestOn_5 (by decide) ?_
  refine ch_iast (n := 15) d_w_fewestOn_6 (by decide) rfl (vp_in_nI (n := 0) (by decide) (by decide)) ?_
  show ch_J g _ _ _ _ _ _ (ch_wr m (8, 0, 1) (0) 0) _
  generalize hmm1 : ch_wr m (8, 0, 1) (0) 0 = m1
  replace h := h m1 hmm1.symm
  refine ch_bipush (v := 12) d_w_fewestOn_7 (by decide) ?_
  refine ch_istore_n (i := 3) d_w_fewestOn_9 rfl (Nat.le_of_ble_eq_true rfl) (ls' := [some (.inr (8, 0, 0)), some (.inr (1, j1, 0)), some (.inl (.int p2)), some (.inl (.int 12)), none, none, none]) rfl ?_
  refine ch_iconst (v := 1) d_w_fewestOn_10 (by decide) ?_
  refine ch_istore (i := 4) d_w_fewestOn_11 (Nat.le_of_ble_eq_true rfl) (ls' := [some (.inr (8, 0, 0)), some (.inr (1, j1, 0)), some (.inl (.int p2)), some (.inl (.int 12)), some (.inl (.int 1)), none, none]) rfl ?_
  exact h
set_option maxHeartbeats 1600000 in
theorem g_w_fewestOn_13 (g : ch_G) (Q : ch_O → ch_M → Prop) (j1 : Nat) (x2 : Int32) (x3 : Int32) (x4 : Int32) (o5 : Option ch_V) (o6 : Option ch_V) (m : ch_M) (h : ((15 ≤ x4 → Q (.inl (some (.inl (.int x3)))) m) ∧ (¬ 15 ≤ x4 → ch_J g m_w_fewestOn (ch_rm m_w_fewestOn) (ch_E g m_w_fewestOn Q) 34 [some (.inr (8, 0, 0)), some (.inr (1, j1, 0)), some (.inl (.int x2)), some (.inl (.int x3)), some (.inl (.int x4)), some (.inl (.int 12)), some (.inl (.int (if (x4 - 3) < 0 then 0 else (x4 - 3))))] [] m 0))) : ch_J g m_w_fewestOn (ch_rm m_w_fewestOn) (ch_E g m_w_fewestOn Q) 13 [some (.inr (8, 0, 0)), some (.inr (1, j1, 0)), some (.inl (.int x2)), some (.inl (.int x3)), some (.inl (.int x4)), o5, o6] [] m 0 := by
  refine ch_iload d_w_fewestOn_13 rfl ?_
  refine ch_bipush (v := 15) d_w_fewestOn_15 (by decide) ?_
  refine ch_icmp_ge (tgt := 115) d_w_fewestOn_17 (by decide) (fun c => ?_) (fun c => ?_)
  · replace h := h.1 c
    refine ch_iload_n (i := 3) d_w_fewestOn_115 rfl rfl ?_
    exact ch_iret (ty := .int) d_w_fewestOn_116 rfl rfl (Nat.le_of_ble_eq_true rfl) h
  · replace h := h.2 c
    refine ch_bipush (v := 12) d_w_fewestOn_20 (by decide) ?_
    refine ch_istore (i := 5) d_w_fewestOn_22 (Nat.le_of_ble_eq_true rfl) (ls' := [some (.inr (8, 0, 0)), some (.inr (1, j1, 0)), some (.inl (.int x2)), some (.inl (.int x3)), some (.inl (.int x4)), some (.inl (.int 12)), o6]) rfl ?_
    refine ch_iload d_w_fewestOn_24 rfl ?_
    refine ch_iconst (v := 3) d_w_fewestOn_26 (by decide) ?_
    refine ch_isub d_w_fewestOn_27 ?_
    refine ch_iconst (v := 0) d_w_fewestOn_28 (by decide) ?_
    refine ch_max d_w_fewestOn_29 lk_w_39 ⟨Nat.le_of_ble_eq_true rfl, Nat.le_of_ble_eq_true rfl⟩ ⟨Nat.le_of_ble_eq_true rfl, Nat.le_of_ble_eq_true rfl⟩ (Nat.le_of_ble_eq_true rfl) ?_
    refine ch_istore (i := 6) d_w_fewestOn_32 (Nat.le_of_ble_eq_true rfl) (ls' := [some (.inr (8, 0, 0)), some (.inr (1, j1, 0)), some (.inl (.int x2)), some (.inl (.int x3)), some (.inl (.int x4)), some (.inl (.int 12)), some (.inl (.int (if (x4 - 3) < 0 then 0 else (x4 - 3))))]) rfl ?_
    exact h
set_option maxHeartbeats 1600000 in
theorem g_w_fewestOn_34 (g : ch_G) (Q : ch_O → ch_M → Prop) (j1 : Nat) (x2 : Int32) (x3 : Int32) (x4 : Int32) (x5 : Int32) (x6 : Int32) (m : ch_M) (h : ((x4 ≤ x6 → ch_J g m_w_fewestOn (ch_rm m_w_fewestOn) (ch_E g m_w_fewestOn Q) 68 [some (.inr (8, 0, 0)), some (.inr (1, j1, 0)), some (.inl (.int x2)), some (.inl (.int x3)), some (.inl (.int x4)), some (.inl (.int x5)), some (.inl (.int x6))] [] m 0) ∧ (¬ x4 ≤ x6 → ((12 ≤ x6 → ch_J g m_w_fewestOn (ch_rm m_w_fewestOn) (ch_E g m_w_fewestOn Q) 68 [some (.inr (8, 0, 0)), some (.inr (1, j1, 0)), some (.inl (.int x2)), some (.inl (.int x3)), some (.inl (.int x4)), some (.inl (.int x5)), some (.inl (.int x6))] [] m 0) ∧ (¬ 12 ≤ x6 → (vp_in x6 15) ∧ ch_J g m_w_fewestOn (ch_rm m_w_fewestOn) (ch_E g m_w_fewestOn Q) 34 [some (.inr (8, 0, 0)), some (.inr (1, j1, 0)), some (.inl (.int x2)), some (.inl (.int x3)), some (.inl (.int x4)), some (.inl (.int (if (m (8, 0, 1) (Int32.toNatClampNeg x6)) < x5 then (m (8, 0, 1) (Int32.toNatClampNeg x6)) else x5))), some (.inl (.int (x6 + 1)))] [] m 0))))) : ch_J g m_w_fewestOn (ch_rm m_w_fewestOn) (ch_E g m_w_fewestOn Q) 34 [some (.inr (8, 0, 0)), some (.inr (1, j1, 0)), some (.inl (.int x2)), some (.inl (.int x3)), some (.inl (.int x4)), some (.inl (.int x5)), some (.inl (.int x6))] [] m 0 := by
  refine ch_iload d_w_fewestOn_34 rfl ?_
  refine ch_iload d_w_fewestOn_36 rfl ?_
  refine ch_icmp_ge (tgt := 68) d_w_fewestOn_38 (by decide) (fun c => ?_) (fun c => ?_)
  · replace h := h.1 c
    exact h
  · replace h := h.2 c
    refine ch_iload d_w_fewestOn_41 rfl ?_
    refine ch_bipush (v := 12) d_w_fewestOn_43 (by decide) ?_
    refine ch_icmp_ge (tgt := 68) d_w_fewestOn_45 (by decide) (fun c => ?_) (fun c => ?_)
    · replace h := h.1 c
      exact h
    · replace h := h.2 c
      refine ch_iload d_w_fewestOn_48 rfl ?_
      refine ch_aload_n (i := 0) d_w_fewestOn_50 rfl rfl ?_
      refine ch_get (v := .inr (8, 0, 1)) d_w_fewestOn_51 fl_w_11 rfl ?_
      refine ch_iload d_w_fewestOn_54 rfl ?_
      have b1 := h.1
      replace h := h.2
      refine ch_iald (n := 15) d_w_fewestOn_56 (by decide) rfl b1 ?_
      refine ch_min d_w_fewestOn_57 lk_w_45 ⟨Nat.le_of_ble_eq_true rfl, Nat.le_of_ble_eq_true rfl⟩ ⟨Nat.le_of_ble_eq_true rfl, Nat.le_of_ble_eq_true rfl⟩ (Nat.le_of_ble_eq_true rfl) ?_
      refine ch_istore (i := 5) d_w_fewestOn_60 (Nat.le_of_ble_eq_true rfl) (ls' := [some (.inr (8, 0, 0)), some (.inr (1, j1, 0)), some (.inl (.int x2)), some (.inl (.int x3)), some (.inl (.int x4)), some (.inl (.int (if (m (8, 0, 1) (Int32.toNatClampNeg x6)) < x5 then (m (8, 0, 1) (Int32.toNatClampNeg x6)) else x5))), some (.inl (.int x6))]) rfl ?_
      refine ch_iinc (i := 6) (v := (x6 + 1)) d_w_fewestOn_62 rfl rfl (Nat.le_of_ble_eq_true rfl) (ls' := [some (.inr (8, 0, 0)), some (.inr (1, j1, 0)), some (.inl (.int x2)), some (.inl (.int x3)), some (.inl (.int x4)), some (.inl (.int (if (m (8, 0, 1) (Int32.toNatClampNeg x6)) < x5 then (m (8, 0, 1) (Int32.toNatClampNeg x6)) else x5))), some (.inl (.int (x6 + 1)))]) rfl ?_
      refine ch_goto (tgt := 34) d_w_fewestOn_65 (by decide) ?_
      exact h
set_option maxHeartbeats 1600000 in
theorem g_w_fewestOn_68 (g : ch_G) (Q : ch_O → ch_M → Prop) (j1 : Nat) (x2 : Int32) (x3 : Int32) (x4 : Int32) (x5 : Int32) (x6 : Int32) (m : ch_M) (h : (((ch_line (ch_ob m 1 j1) x2 (x4 - 1)) → (vp_in x4 15) ∧ (∀ m5 : ch_M, m5 = ch_wr m (8, 0, 1) (Int32.toNatClampNeg x4) (x5 + 1) → ((x4 < 12 → ch_J g m_w_fewestOn (ch_rm m_w_fewestOn) (ch_E g m_w_fewestOn Q) 13 [some (.inr (8, 0, 0)), some (.inr (1, j1, 0)), some (.inl (.int x2)), some (.inl (.int x3)), some (.inl (.int (x4 + 1))), some (.inl (.int x5)), some (.inl (.int x6))] [] m5 0) ∧ (¬ x4 < 12 → ch_J g m_w_fewestOn (ch_rm m_w_fewestOn) (ch_E g m_w_fewestOn Q) 13 [some (.inr (8, 0, 0)), some (.inr (1, j1, 0)), some (.inl (.int x2)), some (.inl (.int (if (m5 (8, 0, 1) (Int32.toNatClampNeg x4)) < x3 then (m5 (8, 0, 1) (Int32.toNatClampNeg x4)) else x3))), some (.inl (.int (x4 + 1))), some (.inl (.int x5)), some (.inl (.int x6))] [] m5 0)))) ∧ ((¬ ch_line (ch_ob m 1 j1) x2 (x4 - 1)) → (vp_in x4 15) ∧ (∀ m7 : ch_M, m7 = ch_wr m (8, 0, 1) (Int32.toNatClampNeg x4) (x5 + 0) → ((x4 < 12 → ch_J g m_w_fewestOn (ch_rm m_w_fewestOn) (ch_E g m_w_fewestOn Q) 13 [some (.inr (8, 0, 0)), some (.inr (1, j1, 0)), some (.inl (.int x2)), some (.inl (.int x3)), some (.inl (.int (x4 + 1))), some (.inl (.int x5)), some (.inl (.int x6))] [] m7 0) ∧ (¬ x4 < 12 → ch_J g m_w_fewestOn (ch_rm m_w_fewestOn) (ch_E g m_w_fewestOn Q) 13 [some (.inr (8, 0, 0)), some (.inr (1, j1, 0)), some (.inl (.int x2)), some (.inl (.int (if (m7 (8, 0, 1) (Int32.toNatClampNeg x4)) < x3 then (m7 (8, 0, 1) (Int32.toNatClampNeg x4)) else x3))), some (.inl (.int (x4 + 1))), some (.inl (.int x5)), some (.inl (.int x6))] [] m7 0)))))) : ch_J g m_w_fewestOn (ch_rm m_w_fewestOn) (ch_E g m_w_fewestOn Q) 68 [some (.inr (8, 0, 0)), some (.inr (1, j1, 0)), some (.inl (.int x2)), some (.inl (.int x3)), some (.inl (.int x4)), some (.inl (.int x5)), some (.inl (.int x6))] [] m 0 := by
  refine ch_aload_n (i := 0) d_w_fewestOn_68 rfl rfl ?_
  refine ch_get (v := .inr (8, 0, 1)) d_w_fewestOn_69 fl_w_11 rfl ?_
  refine ch_iload d_w_fewestOn_72 rfl ?_
  refine ch_iload d_w_fewestOn_74 rfl ?_
  refine ch_aload_n (i := 0) d_w_fewestOn_76 rfl rfl ?_
  refine ch_aload_n (i := 1) d_w_fewestOn_77 rfl rfl ?_
  refine ch_iload_n (i := 2) d_w_fewestOn_78 rfl rfl ?_
  refine ch_iload d_w_fewestOn_79 rfl ?_
  refine ch_callV (as := [.inr (1, j1, 0), .inl (.int x2), .inl (.int x4)]) d_w_fewestOn_81 lk_w_25 mi_w_lineAt me_w_lineAt rfl rfl rfl ⟨Nat.le_of_ble_eq_true rfl, Nat.le_of_ble_eq_true rfl⟩ (Nat.le_of_ble_eq_true rfl) ⟨Nat.le_of_ble_eq_true rfl, Nat.le_of_ble_eq_true rfl⟩ (ch_mono (ch_Ki (fun r1 m2 q3 => ?_)) (s_w_lineAt g (fun (r_ : Int32) (m_ : ch_M) => ((ch_line (ch_ob m 1 j1) x2 (x4 - 1)) ∧ 1 = r_ ∧ m = m_) ∨ ((¬ ch_line (ch_ob m 1 j1) x2 (x4 - 1)) ∧ 0 = r_ ∧ m = m_)) (j1) (x2) (x4) m ⟨(fun c_ => (Or.inl ⟨c_, rfl, rfl⟩)), (fun c_ => (Or.inr ⟨c_, rfl, rfl⟩))⟩))
  rcases q3 with ⟨c_, rfl, rfl⟩ | ⟨c_, rfl, rfl⟩
  · replace h := h.1 c_
    refine ch_iadd d_w_fewestOn_84 ?_
    have b4 := h.1
    replace h := h.2
    refine ch_iast (n := 15) d_w_fewestOn_85 (by decide) rfl b4 ?_
    show ch_J g _ _ _ _ _ _ (ch_wr m (8, 0, 1) (Int32.toNatClampNeg x4) (x5 + 1)) _
    generalize hmm5 : ch_wr m (8, 0, 1) (Int32.toNatClampNeg x4) (x5 + 1) = m5
    replace h := h m5 hmm5.symm
    refine ch_iload d_w_fewestOn_86 rfl ?_
    refine ch_bipush (v := 12) d_w_fewestOn_88 (by decide) ?_
    refine ch_icmp_lt (tgt := 107) d_w_fewestOn_90 (by decide) (fun c => ?_) (fun c => ?_)
    · replace h := h.1 c
      refine ch_iload_n (i := 3) d_w_fewestOn_107 rfl rfl ?_
      refine ch_istore_n (i := 3) d_w_fewestOn_108 rfl (Nat.le_of_ble_eq_true rfl) (ls' := [some (.inr (8, 0, 0)), some (.inr (1, j1, 0)), some (.inl (.int x2)), some (.inl (.int x3)), some (.inl (.int x4)), some (.inl (.int x5)), some (.inl (.int x6))]) rfl ?_
      refine ch_iinc (i := 4) (v := (x4 + 1)) d_w_fewestOn_109 rfl rfl (Nat.le_of_ble_eq_true rfl) (ls' := [some (.inr (8, 0, 0)), some (.inr (1, j1, 0)), some (.inl (.int x2)), some (.inl (.int x3)), some (.inl (.int (x4 + 1))), some (.inl (.int x5)), some (.inl (.int x6))]) rfl ?_
      refine ch_goto (tgt := 13) d_w_fewestOn_112 (by decide) ?_
      exact h
    · replace h := h.2 c
      refine ch_iload_n (i := 3) d_w_fewestOn_93 rfl rfl ?_
      refine ch_aload_n (i := 0) d_w_fewestOn_94 rfl rfl ?_
      refine ch_get (v := .inr (8, 0, 1)) d_w_fewestOn_95 fl_w_11 rfl ?_
      refine ch_iload d_w_fewestOn_98 rfl ?_
      refine ch_iald (n := 15) d_w_fewestOn_100 (by decide) rfl b4 ?_
      refine ch_min d_w_fewestOn_101 lk_w_45 ⟨Nat.le_of_ble_eq_true rfl, Nat.le_of_ble_eq_true rfl⟩ ⟨Nat.le_of_ble_eq_true rfl, Nat.le_of_ble_eq_true rfl⟩ (Nat.le_of_ble_eq_true rfl) ?_
      refine ch_goto (tgt := 108) d_w_fewestOn_104 (by decide) ?_
      refine ch_istore_n (i := 3) d_w_fewestOn_108 rfl (Nat.le_of_ble_eq_true rfl) (ls' := [some (.inr (8, 0, 0)), some (.inr (1, j1, 0)), some (.inl (.int x2)), some (.inl (.int (if (m5 (8, 0, 1) (Int32.toNatClampNeg x4)) < x3 then (m5 (8, 0, 1) (Int32.toNatClampNeg x4)) else x3))), some (.inl (.int x4)), some (.inl (.int x5)), some (.inl (.int x6))]) rfl ?_
      refine ch_iinc (i := 4) (v := (x4 + 1)) d_w_fewestOn_109 rfl rfl (Nat.le_of_ble_eq_true rfl) (ls' := [some (.inr (8, 0, 0)), some (.inr (1, j1, 0)), some (.inl (.int x2)), some (.inl (.int (if (m5 (8, 0, 1) (Int32.toNatClampNeg x4)) < x3 then (m5 (8, 0, 1) (Int32.toNatClampNeg x4)) else x3))), some (.inl (.int (x4 + 1))), some (.inl (.int x5)), some (.inl (.int x6))]) rfl ?_
      refine ch_goto (tgt := 13) d_w_fewestOn_112 (by decide) ?_
      exact h
  · replace h := h.2 c_
    refine ch_iadd d_w_fewestOn_84 ?_
    have b6 := h.1
    replace h := h.2
    refine ch_iast (n := 15) d_w_fewestOn_85 (by decide) rfl b6 ?_
    show ch_J g _ _ _ _ _ _ (ch_wr m (8, 0, 1) (Int32.toNatClampNeg x4) (x5 + 0)) _
    generalize hmm7 : ch_wr m (8, 0, 1) (Int32.toNatClampNeg x4) (x5 + 0) = m7
    replace h := h m7 hmm7.symm
    refine ch_iload d_w_fewestOn_86 rfl ?_
    refine ch_bipush (v := 12) d_w_fewestOn_88 (by decide) ?_
    refine ch_icmp_lt (tgt := 107) d_w_fewestOn_90 (by decide) (fun c => ?_) (fun c => ?_)
    · replace h := h.1 c
      refine ch_iload_n (i := 3) d_w_fewestOn_107 rfl rfl ?_
      refine ch_istore_n (i := 3) d_w_fewestOn_108 rfl (Nat.le_of_ble_eq_true rfl) (ls' := [some (.inr (8, 0, 0)), some (.inr (1, j1, 0)), some (.inl (.int x2)), some (.inl (.int x3)), some (.inl (.int x4)), some (.inl (.int x5)), some (.inl (.int x6))]) rfl ?_
      refine ch_iinc (i := 4) (v := (x4 + 1)) d_w_fewestOn_109 rfl rfl (Nat.le_of_ble_eq_true rfl) (ls' := [some (.inr (8, 0, 0)), some (.inr (1, j1, 0)), some (.inl (.int x2)), some (.inl (.int x3)), some (.inl (.int (x4 + 1))), some (.inl (.int x5)), some (.inl (.int x6))]) rfl ?_
      refine ch_goto (tgt := 13) d_w_fewestOn_112 (by decide) ?_
      exact h
    · replace h := h.2 c
      refine ch_iload_n (i := 3) d_w_fewestOn_93 rfl rfl ?_
      refine ch_aload_n (i := 0) d_w_fewestOn_94 rfl rfl ?_
      refine ch_get (v := .inr (8, 0, 1)) d_w_fewestOn_95 fl_w_11 rfl ?_
      refine ch_iload d_w_fewestOn_98 rfl ?_
      refine ch_iald (n := 15) d_w_fewestOn_100 (by decide) rfl b6 ?_
      refine ch_min d_w_fewestOn_101 lk_w_45 ⟨Nat.le_of_ble_eq_true rfl, Nat.le_of_ble_eq_true rfl⟩ ⟨Nat.le_of_ble_eq_true rfl, Nat.le_of_ble_eq_true rfl⟩ (Nat.le_of_ble_eq_true rfl) ?_
      refine ch_goto (tgt := 108) d_w_fewestOn_104 (by decide) ?_
      refine ch_istore_n (i := 3) d_w_fewestOn_108 rfl (Nat.le_of_ble_eq_true rfl) (ls' := [some (.inr (8, 0, 0)), some (.inr (1, j1, 0)), some (.inl (.int x2)), some (.inl (.int (if (m7 (8, 0, 1) (Int32.toNatClampNeg x4)) < x3 then (m7 (8, 0, 1) (Int32.toNatClampNeg x4)) else x3))), some (.inl (.int x4)), some (.inl (.int x5)), some (.inl (.int x6))]) rfl ?_
      refine ch_iinc (i := 4) (v := (x4 + 1)) d_w_fewestOn_109 rfl rfl (Nat.le_of_ble_eq_true rfl) (ls' := [some (.inr (8, 0, 0)), some (.inr (1, j1, 0)), some (.inl (.int x2)), some (.inl (.int (if (m7 (8, 0, 1) (Int32.toNatClampNeg x4)) < x3 then (m7 (8, 0, 1) (Int32.toNatClampNeg x4)) else x3))), some (.inl (.int (x4 + 1))), some (.inl (.int x5)), some (.inl (.int x6))]) rfl ?_
      refine ch_goto (tgt := 13) d_w_fewestOn_112 (by decide) ?_
      exact h
