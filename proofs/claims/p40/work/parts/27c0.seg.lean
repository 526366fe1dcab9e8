theorem e_w_fewestBack (g : ch_G) (Q : ch_O → ch_M → Prop) (j1 : Nat) (p2 : Int32) (m : ch_M) (h : ch_J g m_w_fewestBack (ch_rm m_w_fewestBack) (ch_E g m_w_fewestBack Q) 0 [some (.inr (8, 0, 0)), some (.inr (1, j1, 0)), some (.inl (.int p2)), none, none] [] m 0) : ch_C g m_w_fewestBack [.inr (8, 0, 0), .inr (1, j1, 0), .inl (.int p2)] m Q :=
  ch_enter mf_w_fewestBack (by intro v hv; simp only [List.mem_cons, List.not_mem_nil, or_false] at hv; rcases hv with rfl | rfl | rfl <;> rfl) (Nat.le_of_ble_eq_true rfl) h
set_option maxHeartbeats 1600000 in
theorem g_w_fewestBack_0 (g : ch_G) (Q : ch_O → ch_M → Prop) (j1 : Nat) (p2 : Int32) (m : ch_M) (h : ch_J g m_w_fewestBack (ch_rm m_w_fewestBack) (ch_E g m_w_fewestBack Q) 3 [some (.inr (8, 0, 0)), some (.inr (1, j1, 0)), some (.inl (.int p2)), some (.inl (.int 12)), none] [] m 0) : ch_J g m_w_fewestBack (ch_rm m_w_fewestBack) (ch_E g m_w_fewestBack Q) 0 [some (.inr (8, 0, 0)), some (.inr (1, j1, 0)), some (.inl (.int p2)), none, none] [] m 0 := by
  refine ch_bipush (v := 12) d_w_fewestBack_0 (by decide) ?_
  refine ch_istore_n (i := 3) d_w_fewestBack_2 rfl (Nat.le_of_ble_eq_true rfl) (ls' := [some (.inr (8, 0, 0)), some (.inr (1, j1, 0)), some (.inl (.int p2)), some (.inl (.int 12)), none]) rfl ?_
  exact h
set_option maxHeartbeats 1600000 in
theorem g_w_fewestBack_3 (g : ch_G) (Q : ch_O → ch_M → Prop) (j1 : Nat) (x2 : Int32) (x3 : Int32) (o4 : Option ch_V) (m : ch_M) (h : ((15 ≤ x3 → ch_J g m_w_fewestBack (ch_rm m_w_fewestBack) (ch_E g m_w_fewestBack Q) 32 [some (.inr (8, 0, 0)), some (.inr (1, j1, 0)), some (.inl (.int x2)), some (.inl (.int 11)), o4] [] m 0) ∧ (¬ 15 ≤ x3 → (vp_in x3 15) ∧ (∀ m2 : ch_M, m2 = ch_wr m (8, 0, 1) (Int32.toNatClampNeg x3) 0 → (∀ m3 : ch_M, m3 = ch_wr m2 (8, 0, 2) (Int32.toNatClampNeg x3) 0 → ch_J g m_w_fewestBack (ch_rm m_w_fewestBack) (ch_E g m_w_fewestBack Q) 3 [some (.inr (8, 0, 0)), some (.inr (1, j1, 0)), some (.inl (.int x2)), some (.inl (.int (x3 + 1))), o4] [] m3 0))))) : ch_J g m_w_fewestBack (ch_rm m_w_fewestBack) (ch_E g m_w_fewestBack Q) 3 [some (.inr (8, 0, 0)), some (.inr (1, j1, 0)), some (.inl (.int x2)), some (.inl (.int x3)), o4] [] m 0 := by
  refine ch_iload_n (i := 3) d_w_fewestBack_3 rfl rfl ?_
  refine ch_bipush (v := 15) d_w_fewestBack_4 (by decide) ?_
  refine ch_icmp_ge (tgt := 29) d_w_fewestBack_6 (by decide) (fun c => ?_) (fun c => ?_)
  · replace h := h.1 c
    refine ch_bipush (v := 11) d_w_fewestBack_29 (by decide) ?_
    refine ch_istore_n (i := 3) d_w_fewestBack_31 rfl (Nat.le_of_ble_eq_true rfl) (ls' := [some (.inr (8, 0, 0)), some (.inr (1, j1, 0)), some (.inl (.int x2)), some (.inl (.int 11)), o4]) rfl ?_
    exact h
  · replace h := h.2 c
    refine ch_aload_n (i := 0) d_w_fewestBack_9 rfl rfl ?_
    refine ch_get (v := .inr (8, 0, 1)) d_w_fewestBack_10 fl_w_11 rfl ?_
    refine ch_iload_n (i := 3) d_w_fewestBack_13 rfl rfl ?_
    refine ch_iconst (v := 0) d_w_fewestBack_14 (by decide) ?_
    have b1 := h.1
    replace h := h.2
    refine ch_iast (n := 15) d_w_fewestBack_15 (by decide) rfl b1 ?_
    show ch_J g _ _ _ _ _ _ (ch_wr m (8, 0, 1) (Int32.toNatClampNeg x3) 0) _
    generalize hmm2 : ch_wr m (8, 0, 1) (Int32.toNatClampNeg x3) 0 = m2
    replace h := h m2 hmm2.symm
    refine ch_aload_n (i := 0) d_w_fewestBack_16 rfl rfl ?_
    refine ch_get (v := .inr (8, 0, 2)) d_w_fewestBack_17 fl_w_15 rfl ?_
    refine ch_iload_n (i := 3) d_w_fewestBack_20 rfl rfl ?_
    refine ch_iconst (v := 0) d_w_fewestBack_21 (by decide) ?_
    refine ch_iast (n := 15) d_w_fewestBack_22 (by decide) rfl b1 ?_
    show ch_J g _ _ _ _ _ _ (ch_wr m2 (8, 0, 2) (Int32.toNatClampNeg x3) 0) _
    generalize hmm3 : ch_wr m2 (8, 0, 2) (Int32.toNatClampNeg x3) 0 = m3
    replace h := h m3 hmm3.symm
    refine ch_iinc (i := 3) (v := (x3 + 1)) d_w_fewestBack_23 rfl rfl (Nat.le_of_ble_eq_true rfl) (ls' := [some (.inr (8, 0, 0)), some (.inr (1, j1, 0)), some (.inl (.int x2)), some (.inl (.int (x3 + 1))), o4]) rfl ?_
    refine ch_goto (tgt := 3) d_w_fewestBack_26 (by decide) ?_
    exact h
set_option maxHeartbeats 1600000 in
theorem g_w_fewestBack_32 (g : ch_G) (Q : ch_O → ch_M → Prop) (j1 : Nat) (x2 : Int32) (x3 : Int32) (o4 : Option ch_V) (m : ch_M) (h : ((x3 < 0 → Q (.inl (some (.inl (.int (m (8, 0, 1) (0)))))) m) ∧ (¬ x3 < 0 → (vp_in x3 15) ∧ (∀ m2 : ch_M, m2 = ch_wr m (8, 0, 3) (Int32.toNatClampNeg x3) 0 → ch_J g m_w_fewestBack (ch_rm m_w_fewestBack) (ch_E g m_w_fewestBack Q) 46 [some (.inr (8, 0, 0)), some (.inr (1, j1, 0)), some (.inl (.int x2)), some (.inl (.int x3)), some (.inl (.int 3))] [] m2 0)))) : ch_J g m_w_fewestBack (ch_rm m_w_fewestBack) (ch_E g m_w_fewestBack Q) 32 [some (.inr (8, 0, 0)), some (.inr (1, j1, 0)), some (.inl (.int x2)), some (.inl (.int x3)), o4] [] m 0 := by
  refine ch_iload_n (i := 3) d_w_fewestBack_32 rfl rfl ?_
  refine ch_if_lt (tgt := 73) d_w_fewestBack_33 (by decide) (fun c => ?_) (fun c => ?_)
  · replace h := h.1 c
    refine ch_aload_n (i := 0) d_w_fewestBack_73 rfl rfl ?_
    refine ch_get (v := .inr (8, 0, 1)) d_w_fewestBack_74 fl_w_11 rfl ?_
    refine ch_iconst (v := 0) d_w_fewestBack_77 (by decide) ?_
    refine ch_iald (n := 15) d_w_fewestBack_78 (by decide) rfl (vp_in_nI (n := 0) (by decide) (by decide)) ?_
    exact ch_iret (ty := .int) d_w_fewestBack_79 rfl rfl (Nat.le_of_ble_eq_true rfl) h
  · replace h := h.2 c
    refine ch_aload_n (i := 0) d_w_fewestBack_36 rfl rfl ?_
    refine ch_get (v := .inr (8, 0, 3)) d_w_fewestBack_37 fl_w_18 rfl ?_
    refine ch_iload_n (i := 3) d_w_fewestBack_40 rfl rfl ?_
    refine ch_iconst (v := 0) d_w_fewestBack_41 (by decide) ?_
    have b1 := h.1
    replace h := h.2
    refine ch_iast (n := 15) d_w_fewestBack_42 (by decide) rfl b1 ?_
    show ch_J g _ _ _ _ _ _ (ch_wr m (8, 0, 3) (Int32.toNatClampNeg x3) 0) _
    generalize hmm2 : ch_wr m (8, 0, 3) (Int32.toNatClampNeg x3) 0 = m2
    replace h := h m2 hmm2.symm
    refine ch_iconst (v := 3) d_w_fewestBack_43 (by decide) ?_
    refine ch_istore (i := 4) d_w_fewestBack_44 (Nat.le_of_ble_eq_true rfl) (ls' := [some (.inr (8, 0, 0)), some (.inr (1, j1, 0)), some (.inl (.int x2)), some (.inl (.int x3)), some (.inl (.int 3))]) rfl ?_
    exact h
set_option maxHeartbeats 1600000 in
theorem g_w_fewestBack_46 (g : ch_G) (Q : ch_O → ch_M → Prop) (j1 : Nat) (x2 : Int32) (x3 : Int32) (x4 : Int32) (m : ch_M) (h : ((x4 < 1 → ch_J g m_w_fewestBack (ch_rm m_w_fewestBack) (ch_E g m_w_fewestBack Q) 32 [some (.inr (8, 0, 0)), some (.inr (1, j1, 0)), some (.inl (.int x2)), some (.inl (.int (x3 + (-1)))), some (.inl (.int x4))] [] m 0) ∧ (¬ x4 < 1 → (vp_in x3 15) ∧ (vp_in (x3 + x4) 15) ∧ ((∀ m2 : ch_M, m2 = ch_os m 8 0 (w_ty (ch_ob m 8 0) (w_l (ch_ob m 1 j1) x2 (x3 + x4)) (Int32.toNatClampNeg x3) (Int32.toNatClampNeg (x3 + x4)) x4) → ch_J g m_w_fewestBack (ch_rm m_w_fewestBack) (ch_E g m_w_fewestBack Q) 46 [some (.inr (8, 0, 0)), some (.inr (1, j1, 0)), some (.inl (.int x2)), some (.inl (.int x3)), some (.inl (.int (x4 + (-1))))] [] m2 0))))) : ch_J g m_w_fewestBack (ch_rm m_w_fewestBack) (ch_E g m_w_fewestBack Q) 46 [some (.inr (8, 0, 0)), some (.inr (1, j1, 0)), some (.inl (.int x2)), some (.inl (.int x3)), some (.inl (.int x4))] [] m 0 := by
  refine ch_iload d_w_fewestBack_46 rfl ?_
  refine ch_iconst (v := 1) d_w_fewestBack_48 (by decide) ?_
  refine ch_icmp_lt (tgt := 67) d_w_fewestBack_49 (by decide) (fun c => ?_) (fun c => ?_)
  · replace h := h.1 c
    refine ch_iinc (i := 3) (v := (x3 + (-1))) d_w_fewestBack_67 rfl rfl (Nat.le_of_ble_eq_true rfl) (ls' := [some (.inr (8, 0, 0)), some (.inr (1, j1, 0)), some (.inl (.int x2)), some (.inl (.int (x3 + (-1)))), some (.inl (.int x4))]) rfl ?_
    refine ch_goto (tgt := 32) d_w_fewestBack_70 (by decide) ?_
    exact h
  · replace h := h.2 c
    refine ch_aload_n (i := 0) d_w_fewestBack_52 rfl rfl ?_
    refine ch_aload_n (i := 1) d_w_fewestBack_53 rfl rfl ?_
    refine ch_iload_n (i := 2) d_w_fewestBack_54 rfl rfl ?_
    refine ch_iload_n (i := 3) d_w_fewestBack_55 rfl rfl ?_
    refine ch_iload d_w_fewestBack_56 rfl ?_
    have b4 := h.1
    replace h := h.2
    have b5 := h.1
    replace h := h.2
    refine ch_callV (as := [.inr (1, j1, 0), .inl (.int x2), .inl (.int x3), .inl (.int x4)]) d_w_fewestBack_58 lk_w_21 mi_w_tryStep me_w_tryStep rfl rfl rfl ⟨Nat.le_of_ble_eq_true rfl, Nat.le_of_ble_eq_true rfl⟩ (Nat.le_of_ble_eq_true rfl) ⟨Nat.le_of_ble_eq_true rfl, Nat.le_of_ble_eq_true rfl⟩ (ch_mono (ch_Kv (fun m2 q3 => ?_)) (s_w_tryStep g (fun (m_ : ch_M) => (m_ = ch_os m 8 0 (w_ty (ch_ob m 8 0) (w_l (ch_ob m 1 j1) x2 (x3 + x4)) (Int32.toNatClampNeg x3) (Int32.toNatClampNeg (x3 + x4)) x4))) (j1) (x2) (x3) (x4) m ⟨b4, b5, rfl⟩))
    have hm_ := q3
    replace h := h m2 hm_
    refine ch_iinc (i := 4) (v := (x4 + (-1))) d_w_fewestBack_61 rfl rfl (Nat.le_of_ble_eq_true rfl) (ls' := [some (.inr (8, 0, 0)), some (.inr (1, j1, 0)), some (.inl (.int x2)), some (.inl (.int x3)), some (.inl (.int (x4 + (-1))))]) rfl ?_
    refine ch_goto (tgt := 46) d_w_fewestBack_64 (by decide) ?_
    exact h
