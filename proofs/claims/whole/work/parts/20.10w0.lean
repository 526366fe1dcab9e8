theorem e_w_fewestBack (g : ch_G) (Q : ch_O → ch_M → Prop) (j1 : Nat) (p2 : Int32) (m : ch_M) (h : ch_J g m_w_fewestBack (ch_rm m_w_fewestBack) (ch_E g m_w_fewestBack Q) 0 [some (.inr (8, 0, 0)), some (.inr (1, j1, 0)), some (.inl (.int p2)), none, none] [] m 0) : ch_C g m_w_fewestBack [.inr (8, 0, 0), .inr (1, j1, 0), .inl (.int p2)] m Q :=
  ch_enter mf_w_fewestBack (by intro v hv; simp only [List.mem_cons, List.not_mem_nil, or_false] at hv; rcases hv with rfl | rfl | rfl <;> rfl) (Nat.le_of_ble_eq_true rfl) h
set_option maxHeartbeats 1600000 in
theorem g_w_fewestBack_0 (g : ch_G) (Q : ch_O → ch_M → Prop) (j1 : Nat) (p2 : Int32) (m : ch_M) (h : ch_J g m_w_fewestBack (ch_rm m_w_fewestBack) (ch_E g m_w_fewestBack Q) 3 [some (.inr (8, 0, 0)), some (.inr (1, j1, 0)), some (.inl (.int p2)), some (.inl (.int 12)), none] [] m 0) : ch_J g m_w_fewestBack (ch_rm m_w_fewestBack) (ch_E g m_w_fewestBack Q) 0 [some (.inr (8, 0, 0)), some (.inr (1, j1, 0)), some (.inl (.int p2)), none, none] [] m 0 := by
  refine ch_bipush (v := 12) d_w_fewestBack_0 (by decide) ?_
  refine ch_istore_n (i := 3) d_w_fewestBack_2 rfl (Nat.le_of_ble_eq_true rfl) (ls' := [some (.inr (8, 0, 0)), some (.inr (1, j1, 0)), some (.inl (.int p2)), some (.inl (.int 12)), none]) rfl ?_
  exact h
set_option maxHeartbeats 1600000 in
theorem g_w_fewestBack_3 (g : ch_G) (Q : ch_O → ch_M → Prop) (j1 : Nat) (x2 : Int32) (x3 : Int32) (o4 : Option ch_V) (m : ch_M) (h : ((15 ≤ x3 → ch_J g m_w_fewestBack (ch_rm m_w_fewestBack) (ch_E g m_w_fewestBack Q) 32 [some (.inr (8, 0, 0)), some (.inr (1, j1, 0)), some (.inl (.int x2)), some (.inl (.int 11)), o4] [] m 0) ∧ (¬ 15 ≤ x3 → (vp_in x3 15) ∧ (∀ m2 : ch_M, m2 = ch_wr m (8, 0, 1) (Int32.toNatClampNeg x3) 0 → (∀ m3 : ch_M, m3 = ch_wr m2 (8, 0, 2) (Int32.toNatClampNeg x3) 0 → ch_J g m_w_fewestBack (ch_rm m_w_fewestBack) (ch_E g m_w_fewestBack Q) 3 [some (.inr (8, 0, 0)), some (.inr (1, j1, 0)), some (.inl (.int x2)), some (.inl (.int (x3 + 1))), o4] [] m3 0))))) : ch_J g m_w_fewestBack (ch_rm m_w_fewestBack) (ch_E g m_w_fewestBack Q) 3 [some (.inr (8, 0, 0)), some (.inr (1, j1, 0)), some (.inl (.int x2)), some (.inl (.int x3)), o4] [] m 0 := by
  refine ch_iload_n (i := 3) d_w_fewestBack_3 rfl rfl ?_
  refine ch_bipush (v := 15) d_w_fewestBack_4 (by decide) ?_
  refine ch_icmp_ge (tgt := 29) d_w_fewestBack_6 (by decide) (fun c => ?_) (fun c => ?_)
  · replace h := h.1 c
    refine ch_bipush (v := 11) d_w_fewestBack_29 (by decide) ?_
    refine ch_istore_n (i := 3) d_w_fewestBack_31 rfl (Nat.le_of_ble_eq_true rfl) (ls' := [some (.inr (8, 0, 0)), some (.inr (1, j1, 0)), some (.inl (.int x2)), some (.inl (.int 11)), o4]) rfl ?_
    exact h
  · replace h := h.2 c
    refine ch_aload_n (i := 0) d_w_fewestBack_9 rfl rfl ?_
    refine ch_get (v := .inr (8, 0, 1)) d_w_fewestBack_10 fl_w_11 rfl ?_
    refine ch_iload_n (i := 3) d_w_fewestBack_13 rfl rfl ?_
    refine ch_iconst (v := 0) d_w_fewestBack_14 (by decide) ?_
    have b1 := h.1
    replace h := h.2
    refine ch_iast (n := 15) d_w_fewestBack_15 (by decide) rfl b1 ?_
    show ch_J g _ _ _ _ _ _ (ch_wr m (8, 0, 1) (Int32.toNatClampNeg x3) 0) _
    generalize hmm2 : ch_wr m (8, 0, 1) (Int32.toNatClampNeg x3) 0 = m2
    replace h := h m2 hmm2.symm
    refine ch_aload_n (i := 0) d_w_fewestBack_16 rfl rfl ?_
    refine ch_get (v := .inr (8, 0, 2)) d_w_fewestBack_17 fl_w_15 rfl ?_
    refine ch_iload_n (i := 3) d_w_fewestBack_20 rfl rfl ?_
    refine ch_iconst (v := 0) d_w_fewestBack_21 (by decide) ?_
    refine ch_iast (n := 15) d_w_fewestBack_22 (by decide) rfl b1 ?_
    show ch_J g _ _ _ _ _ _ (ch_wr m2 (8, 0, 2) (Int32.toNatClampNeg x3) 0) _
    generalize hmm3 : ch_wr m2 (8, 0, 2) (Int32.toNatClampNeg x3) 0 = m3
    replace h := h m3 hmm3.symm
    refine ch_iinc (i := 3) (v := (x3 + 1)) d_w_fewestBack_23 rfl rfl (Nat.le_of_ble_eq_true rfl) (ls' := [some (.inr (8, 0, 0)), some (.inr (1, j1, 0)), some (.inl (.int x2)), some (.inl (.int (x3 + 1))), o4]) rfl ?_
    refine ch_goto (tgt := 3) d_w_fewestBack_26 (by decide) ?_
    exact h
set_option maxHeartbeats 1600000 in
theorem g_w_fewestBack_32 (g : ch_G) (Q : ch_O → ch_M → Prop) (j1 : Nat) (x2 : Int32) (x3 : Int32) (o4 : Option ch_V) (m : ch_M) (h : ((x3 < 0 → Q (.inl (some (.inl (.int (m (8, 0, 1) (0)))))) m) ∧ (¬ x3 < 0 → (vp_in x3 15) ∧ (∀ m2 : ch_M, m2 = ch_wr m (8, 0, 3) (Int32.toNatClampNeg x3) 0 → ch_J g m_w_fewestBack (ch_rm m_w_fewestBack) (ch_E g m_w_fewestBack Q) 46 [some (.inr (8, 0, 0)), some (.inr (1, j1, 0)), some (.inl (.int x2)), some (.inl (.int x3)), some (.inl (.int 3))] [] m2 0)))) : ch_J g m_w_fewestBack (ch_rm m_w_fewestBack) (ch_E g m_w_fewestBack Q) 32 [some (.inr (8, 0, 0)), some (.inr (1, j1, 0)), some (.inl (.int x2)), some (.inl (.int x3)), o4] [] m 0 := by
  refine ch_iload_n (i := 3) d_w_fewestBack_32 rfl rfl ?_
  refine ch_if_lt (tgt := 73) d_w_fewestBack_33 (by decide) (fun c => ?_) (fun c => ?_)
  · replace h := h.1 c
    refine ch_aload_n (i := 0) d_w_fewestBack_73 rfl rfl ?_
    refine ch_get (v := .inr (8, 0, 1)) d_w_fewestBack_74 fl_w_11 rfl ?_
    refine ch_iconst (v := 0) d_w_fewestBack_77 (by decide) ?_
    refine ch_iald (n := 15) d_w_fewestBack_78 (by decide) rfl (vp_in_nI (n := 0) (by decide) (by decide)) ?_
    exact ch_iret (ty := .int) d_w_fewestBack_79 rfl rfl (Nat.le_of_ble_eq_true rfl) h
  · replace h := h.2 c
    refine ch_aload_n (i := 0) d_w_fewestBack_36 rfl rfl ?_
    refine ch_get (v := .inr (8, 0, 3)) d_w_fewestBack_37 fl_w_18 rfl ?_
    refine ch_iload_n (i := 3) d_w_fewestBack_40 rfl rfl ?_
    refine ch_iconst (v := 0) d_w_fewestBack_41 (by decide) ?_
    have b1 := h.1
    replace h := h.2
    refine ch_iast (n := 15) d_w_fewestBack_42 (by decide) rfl b1 ?_
    show ch_J g _ _ _ _ _ _ (ch_wr m (8, 0, 3) (Int32.toNatClampNeg x3) 0) _
    generalize hmm2 : ch_wr m (8, 0, 3) (Int32.toNatClampNeg x3) 0 = m2
    replace h := h m2 hmm2.symm
    refine ch_iconst (v := 3) d_w_fewestBack_43 (by decide) ?_
    refine ch_istore (i := 4) d_w_fewestBack_44 (Nat.le_of_ble_eq_true rfl) (ls' := [some (.inr (8, 0, 0)), some (.inr (1, j1, 0)), some (.inl (.int x2)), some (.inl (.int x3)), some (.inl (.int 3))]) rfl ?_
    exact h
set_option maxHeartbeats 1600000 in
theorem g_w_fewestBack_46 (g : ch_G) (Q : ch_O → ch_M → Prop) (j1 : Nat) (x2 : Int32) (x3 : Int32) (x4 : Int32) (m : ch_M) (h : ((x4 < 1 → ch_J g m_w_fewestBack (ch_rm m_w_fewestBack) (ch_E g m_w_fewestBack Q) 32 [some (.inr (8, 0, 0)), some (.inr (1, j1, 0)), some (.inl (.int x2)), some (.inl (.int (x3 + (-1)))), some (.inl (.int x4))] [] m 0) ∧ (¬ x4 < 1 → (ch_C g m_w_tryStep [.inr (8, 0, 0), .inr (1, j1, 0), .inl (.int x2), .inl (.int x3), .inl (.int x4)] m (ch_ov (fun (m2 : ch_M) => ch_J g m_w_fewestBack (ch_rm m_w_fewestBack) (ch_E g m_w_fewestBack Q) 46 [some (.inr (8, 0, 0)), some (.inr (1, j1, 0)), some (.inl (.int x2)), some (.inl (.int x3)), some (.inl (.int (x4 + (-1))))] [] m2 0)))))) : ch_J g m_w_fewestBack (ch_rm m_w_fewestBack) (ch_E g m_w_fewestBack Q) 46 [some (.inr (8, 0, 0)), some (.inr (1, j1, 0)), some (.inl (.int x2)), some (.inl (.int x3)), some (.inl (.int x4))] [] m 0 := by
  refine ch_iload d_w_fewestBack_46 rfl ?_
  refine ch_iconst (v := 1) d_w_fewestBack_48 (by decide) ?_
  refine ch_icmp_lt (tgt := 67) d_w_fewestBack_49 (by decide) (fun c => ?_) (fun c => ?_)
  · replace h := h.1 c
    refine ch_iinc (i := 3) (v := (x3 + (-1))) d_w_fewestBack_67 rfl rfl (Nat.le_of_ble_eq_true rfl) (ls' := [some (.inr (8, 0, 0)), some (.inr (1, j1, 0)), some (.inl (.int x2)), some (.inl (.int (x3 + (-1)))), some (.inl (.int x4))]) rfl ?_
    refine ch_goto (tgt := 32) d_w_fewestBack_70 (by decide) ?_
    exact h
  · replace h := h.2 c
    refine ch_aload_n (i := 0) d_w_fewestBack_52 rfl rfl ?_
    refine ch_aload_n (i := 1) d_w_fewestBack_53 rfl rfl ?_
    refine ch_iload_n (i := 2) d_w_fewestBack_54 rfl rfl ?_
    refine ch_iload_n (i := 3) d_w_fewestBack_55 rfl rfl ?_
    refine ch_iload d_w_fewestBack_56 rfl ?_
    refine ch_callV (as := [.inr (1, j1, 0), .inl (.int x2), .inl (.int x3), .inl (.int x4)]) d_w_fewestBack_58 lk_w_21 mi_w_tryStep me_w_tryStep rfl rfl rfl ⟨Nat.le_of_ble_eq_true rfl, Nat.le_of_ble_eq_true rfl⟩ (Nat.le_of_ble_eq_true rfl) ⟨Nat.le_of_ble_eq_true rfl, Nat.le_of_ble_eq_true rfl⟩ (ch_mono (ch_Kv (fun m2 h => ?_)) h)
    refine ch_iinc (i := 4) (v := (x4 + (-1))) d_w_fewestBack_61 rfl rfl (Nat.le_of_ble_eq_true rfl) (ls' := [some (.inr (8, 0, 0)), some (.inr (1, j1, 0)), some (.inl (.int x2)), some (.inl (.int x3)), some (.inl (.int (x4 + (-1))))]) rfl ?_
    refine ch_goto (tgt := 46) d_w_fewestBack_64 (by decide) ?_
    exact h
theorem e_w_tryStep (g : ch_G) (Q : ch_O → ch_M → Prop) (j1 : Nat) (p2 : Int32) (p3 : Int32) (p4 : Int32) (m : ch_M) (h : ch_J g m_w_tryStep (ch_rm m_w_tryStep) (ch_E g m_w_tryStep Q) 0 [some (.inr (8, 0, 0)), some (.inr (1, j1, 0)), some (.inl (.int p2)), some (.inl (.int p3)), some (.inl (.int p4)), none, none, none] [] m 0) : ch_C g m_w_tryStep [.inr (8, 0, 0), .inr (1, j1, 0), .inl (.int p2), .inl (.int p3), .inl (.int p4)] m Q :=
  ch_enter mf_w_tryStep (by intro v hv; simp only [List.mem_cons, List.not_mem_nil, or_false] at hv; rcases hv with rfl | rfl | rfl | rfl | rfl <;> rfl) (Nat.le_of_ble_eq_true rfl) h
set_option maxHeartbeats 1600000 in
theorem g_w_tryStep_0 (g : ch_G) (Q : ch_O → ch_M → Prop) (j1 : Nat) (p2 : Int32) (p3 : Int32) (p4 : Int32) (m : ch_M) (h : (vp_in (p3 + p4) 15) ∧ (ch_C g m_w_lineAt [.inr (8, 0, 0), .inr (1, j1, 0), .inl (.int p2), .inl (.int (p3 + p4))] m (ch_oi (fun (r2 : Int32) (m3 : ch_M) => (vp_in p3 15) ∧ (((m3 (8, 0, 3) (Int32.toNatClampNeg p3)) = 0 → (∀ m5 : ch_M, m5 = ch_wr m3 (8, 0, 1) (Int32.toNatClampNeg p3) ((m (8, 0, 1) (Int32.toNatClampNeg (p3 + p4))) + r2) → (∀ m6 : ch_M, m6 = ch_wr m5 (8, 0, 2) (Int32.toNatClampNeg p3) ((m3 (8, 0, 2) (Int32.toNatClampNeg (p3 + p4))) + 1) → (∀ m7 : ch_M, m7 = ch_wr m6 (8, 0, 3) (Int32.toNatClampNeg p3) p4 → Q (.inl none) m7)))) ∧ (¬ (m3 (8, 0, 3) (Int32.toNatClampNeg p3)) = 0 → ((((m (8, 0, 1) (Int32.toNatClampNeg (p3 + p4))) + r2) < (m3 (8, 0, 1) (Int32.toNatClampNeg p3)) → (∀ m8 : ch_M, m8 = ch_wr m3 (8, 0, 1) (Int32.toNatClampNeg p3) ((m (8, 0, 1) (Int32.toNatClampNeg (p3 + p4))) + r2) → (∀ m9 : ch_M, m9 = ch_wr m8 (8, 0, 2) (Int32.toNatClampNeg p3) ((m3 (8, 0, 2) (Int32.toNatClampNeg (p3 + p4))) + 1) → (∀ m10 : ch_M, m10 = ch_wr m9 (8, 0, 3) (Int32.toNatClampNeg p3) p4 → Q (.inl none) m10)))) ∧ (¬ ((m (8, 0, 1) (Int32.toNatClampNeg (p3 + p4))) + r2) < (m3 (8, 0, 1) (Int32.toNatClampNeg p3)) → ((¬ ((m (8, 0, 1) (Int32.toNatClampNeg (p3 + p4))) + r2) = (m3 (8, 0, 1) (Int32.toNatClampNeg p3)) → Q (.inl none) m3) ∧ (((m (8, 0, 1) (Int32.toNatClampNeg (p3 + p4))) + r2) = (m3 (8, 0, 1) (Int32.toNatClampNeg p3)) → (((m3 (8, 0, 2) (Int32.toNatClampNeg p3)) ≤ ((m3 (8, 0, 2) (Int32.toNatClampNeg (p3 + p4))) + 1) → Q (.inl none) m3) ∧ (¬ (m3 (8, 0, 2) (Int32.toNatClampNeg p3)) ≤ ((m3 (8, 0, 2) (Int32.toNatClampNeg (p3 + p4))) + 1) → (∀ m11 : ch_M, m11 = ch_wr m3 (8, 0, 1) (Int32.toNatClampNeg p3) ((m (8, 0, 1) (Int32.toNatClampNeg (p3 + p4))) + r2) → (∀ m12 : ch_M, m12 = ch_wr m11 (8, 0, 2) (Int32.toNatClampNeg p3) ((m3 (8, 0, 2) (Int32.toNatClampNeg (p3 + p4))) + 1) → (∀ m13 : ch_M, m13 = ch_wr m12 (8, 0, 3) (Int32.toNatClampNeg p3) p4 → Q (.inl none) m13))))))))))))))) : ch_J g m_w_tryStep (ch_rm m_w_tryStep) (ch_E g m_w_tryStep Q) 0 [some (.inr (8, 0, 0)), some (.inr (1, j1, 0)), some (.inl (.int p2)), some (.inl (.int p3)), some (.inl (.int p4)), none, none, none] [] m 0 := by
  refine ch_iload_n (i := 3) d_w_tryStep_0 rfl rfl ?_
  refine ch_iload d_w_tryStep_1 rfl ?_
  refine ch_iadd d_w_tryStep_3 ?_
  refine ch_istore (i := 5) d_w_tryStep_4 (Nat.le_of_ble_eq_true rfl) (ls' := [some (.inr (8, 0, 0)), some (.inr (1, j1, 0)), some (.inl (.int p2)), some (.inl (.int p3)), some (.inl (.int p4)), some (.inl (.int (p3 + p4))), none, none]) rfl ?_
  refine ch_aload_n (i := 0) d_w_tryStep_6 rfl rfl ?_
  refine ch_get (v := .inr (8, 0, 1)) d_w_tryStep_7 fl_w_11 rfl ?_
  refine ch_iload d_w_tryStep_10 rfl ?_
  have b1 := h.1
  replace h := h.2
  refine ch_iald (n := 15) d_w_tryStep_12 (by decide) rfl b1 ?_
  refine ch_aload_n (i := 0) d_w_tryStep_13 rfl rfl ?_
  refine ch_aload_n (i := 1) d_w_tryStep_14 rfl rfl ?_
  refine ch_iload_n (i := 2) d_w_tryStep_15 rfl rfl ?_
  refine ch_iload d_w_tryStep_16 rfl ?_
  refine ch_callV (as := [.inr (1, j1, 0), .inl (.int p2), .inl (.int (p3 + p4))]) d_w_tryStep_18 lk_w_25 mi_w_lineAt me_w_lineAt rfl rfl rfl ⟨Nat.le_of_ble_eq_true rfl, Nat.le_of_ble_eq_true rfl⟩ (Nat.le_of_ble_eq_true rfl) ⟨Nat.le_of_ble_eq_true rfl, Nat.le_of_ble_eq_true rfl⟩ (ch_mono (ch_Ki (fun r2 m3 h => ?_)) h)
  refine ch_iadd d_w_tryStep_21 ?_
  refine ch_istore (i := 6) d_w_tryStep_22 (Nat.le_of_ble_eq_true rfl) (ls' := [some (.inr (8, 0, 0)), some (.inr (1, j1, 0)), some (.inl (.int p2)), some (.inl (.int p3)), some (.inl (.int p4)), some (.inl (.int (p3 + p4))), some (.inl (.int ((m (8, 0, 1) (Int32.toNatClampNeg (p3 + p4))) + r2))), none]) rfl ?_
  refine ch_aload_n (i := 0) d_w_tryStep_24 rfl rfl ?_
  refine ch_get (v := .inr (8, 0, 2)) d_w_tryStep_25 fl_w_15 rfl ?_
  refine ch_iload d_w_tryStep_28 rfl ?_
  refine ch_iald (n := 15) d_w_tryStep_30 (by decide) rfl b1 ?_
  refine ch_iconst (v := 1) d_w_tryStep_31 (by decide) ?_
  refine ch_iadd d_w_tryStep_32 ?_
  refine ch_istore (i := 7) d_w_tryStep_33 (Nat.le_of_ble_eq_true rfl) (ls' := [some (.inr (8, 0, 0)), some (.inr (1, j1, 0)), some (.inl (.int p2)), some (.inl (.int p3)), some (.inl (.int p4)), some (.inl (.int (p3 + p4))), some (.inl (.int ((m (8, 0, 1) (Int32.toNatClampNeg (p3 + p4))) + r2))), some (.inl (.int ((m3 (8, 0, 2) (Int32.toNatClampNeg (p3 + p4))) + 1)))]) rfl ?_
  refine ch_aload_n (i := 0) d_w_tryStep_35 rfl rfl ?_
  refine ch_get (v := .inr (8, 0, 3)) d_w_tryStep_36 fl_w_18 rfl ?_
  refine ch_iload_n (i := 3) d_w_tryStep_39 rfl rfl ?_
  have b4 := h.1
  replace h := h.2
  refine ch_iald (n := 15) d_w_tryStep_40 (by decide) rfl b4 ?_
  refine ch_if_eq (tgt := 77) d_w_tryStep_41 (by decide) (fun c => ?_) (fun c => ?_)
  · replace h := h.1 c
    refine ch_aload_n (i := 0) d_w_tryStep_77 rfl rfl ?_
    refine ch_get (v := .inr (8, 0, 1)) d_w_tryStep_78 fl_w_11 rfl ?_
    refine ch_iload_n (i := 3) d_w_tryStep_81 rfl rfl ?_
    refine ch_iload d_w_tryStep_82 rfl ?_
    refine ch_iast (n := 15) d_w_tryStep_84 (by decide) rfl b4 ?_
    show ch_J g _ _ _ _ _ _ (ch_wr m3 (8, 0, 1) (Int32.toNatClampNeg p3) ((m (8, 0, 1) (Int32.toNatClampNeg (p3 + p4))) + r2)) _
    generalize hmm5 : ch_wr m3 (8, 0, 1) (Int32.toNatClampNeg p3) ((m (8, 0, 1) (Int32.toNatClampNeg (p3 + p4))) + r2) = m5
    replace h := h m5 hmm5.symm
    refine ch_aload_n (i := 0) d_w_tryStep_85 rfl rfl ?_
    refine ch_get (v := .inr (8, 0, 2)) d_w_tryStep_86 fl_w_15 rfl ?_
    refine ch_iload_n (i := 3) d_w_tryStep_89 rfl rfl ?_
    refine ch_iload d_w_tryStep_90 rfl ?_
    refine ch_iast (n := 15) d_w_tryStep_92 (by decide) rfl b4 ?_
    show ch_J g _ _ _ _ _ _ (ch_wr m5 (8, 0, 2) (Int32.toNatClampNeg p3) ((m3 (8, 0, 2) (Int32.toNatClampNeg (p3 + p4))) + 1)) _
    generalize hmm6 : ch_wr m5 (8, 0, 2) (Int32.toNatClampNeg p3) ((m3 (8, 0, 2) (Int32.toNatClampNeg (p3 + p4))) + 1) = m6
    replace h := h m6 hmm6.symm
    refine ch_aload_n (i := 0) d_w_tryStep_93 rfl rfl ?_
    refine ch_get (v := .inr (8, 0, 3)) d_w_tryStep_94 fl_w_18 rfl ?_
    refine ch_iload_n (i := 3) d_w_tryStep_97 rfl rfl ?_
    refine ch_iload d_w_tryStep_98 rfl ?_
    refine ch_iast (n := 15) d_w_tryStep_100 (by decide) rfl b4 ?_
    show ch_J g _ _ _ _ _ _ (ch_wr m6 (8, 0, 3) (Int32.toNatClampNeg p3) p4) _
    generalize hmm7 : ch_wr m6 (8, 0, 3) (Int32.toNatClampNeg p3) p4 = m7
    replace h := h m7 hmm7.symm
    exact ch_vret d_w_tryStep_101 rfl (Nat.le_of_ble_eq_true rfl) h
  · replace h := h.2 c
    refine ch_iload d_w_tryStep_44 rfl ?_
    refine ch_aload_n (i := 0) d_w_tryStep_46 rfl rfl ?_
    refine ch_get (v := .inr (8, 0, 1)) d_w_tryStep_47 fl_w_11 rfl ?_
    refine ch_iload_n (i := 3) d_w_tryStep_50 rfl rfl ?_
    refine ch_iald (n := 15) d_w_tryStep_51 (by decide) rfl b4 ?_
    refine ch_icmp_lt (tgt := 77) d_w_tryStep_52 (by decide) (fun c => ?_) (fun c => ?_)
    · replace h := h.1 c
      refine ch_aload_n (i := 0) d_w_tryStep_77 rfl rfl ?_
      refine ch_get (v := .inr (8, 0, 1)) d_w_tryStep_78 fl_w_11 rfl ?_
      refine ch_iload_n (i := 3) d_w_tryStep_81 rfl rfl ?_
      refine ch_iload d_w_tryStep_82 rfl ?_
      refine ch_iast (n := 15) d_w_tryStep_84 (by decide) rfl b4 ?_
      show ch_J g _ _ _ _ _ _ (ch_wr m3 (8, 0, 1) (Int32.toNatClampNeg p3) ((m (8, 0, 1) (Int32.toNatClampNeg (p3 + p4))) + r2)) _
      generalize hmm8 : ch_wr m3 (8, 0, 1) (Int32.toNatClampNeg p3) ((m (8, 0, 1) (Int32.toNatClampNeg (p3 + p4))) + r2) = m8
      replace h := h m8 hmm8.symm
      refine ch_aload_n (i := 0) d_w_tryStep_85 rfl rfl ?_
      refine ch_get (v := .inr (8, 0, 2)) d_w_tryStep_86 fl_w_15 rfl ?_
      refine ch_iload_n (i := 3) d_w_tryStep_89 rfl rfl ?_
      refine ch_iload d_w_tryStep_90 rfl ?_
      refine ch_iast (n := 15) d_w_tryStep_92 (by decide) rfl b4 ?_
      show ch_J g _ _ _ _ _ _ (ch_wr m8 (8, 0, 2) (Int32.toNatClampNeg p3) ((m3 (8, 0, 2) (Int32.toNatClampNeg (p3 + p4))) + 1)) _
      generalize hmm9 : ch_wr m8 (8, 0, 2) (Int32.toNatClampNeg p3) ((m3 (8, 0, 2) (Int32.toNatClampNeg (p3 + p4))) + 1) = m9
      replace h := h m9 hmm9.symm
      refine ch_aload_n (i := 0) d_w_tryStep_93 rfl rfl ?_
      refine ch_get (v := .inr (8, 0, 3)) d_w_tryStep_94 fl_w_18 rfl ?_
      refine ch_iload_n (i := 3) d_w_tryStep_97 rfl rfl ?_
      refine ch_iload d_w_tryStep_98 rfl ?_
      refine ch_iast (n := 15) d_w_tryStep_100 (by decide) rfl b4 ?_
      show ch_J g _ _ _ _ _ _ (ch_wr m9 (8, 0, 3) (Int32.toNatClampNeg p3) p4) _
      generalize hmm10 : ch_wr m9 (8, 0, 3) (Int32.toNatClampNeg p3) p4 = m10
      replace h := h m10 hmm10.symm
      exact ch_vret d_w_tryStep_101 rfl (Nat.le_of_ble_eq_true rfl) h
    · replace h := h.2 c
      refine ch_iload d_w_tryStep_55 rfl ?_
      refine ch_aload_n (i := 0) d_w_tryStep_57 rfl rfl ?_
      refine ch_get (v := .inr (8, 0, 1)) d_w_tryStep_58 fl_w_11 rfl ?_
      refine ch_iload_n (i := 3) d_w_tryStep_61 rfl rfl ?_
      refine ch_iald (n := 15) d_w_tryStep_62 (by decide) rfl b4 ?_
      refine ch_icmp_ne (tgt := 101) d_w_tryStep_63 (by decide) (fun c => ?_) (fun c => ?_)
      · replace h := h.1 c
        exact ch_vret d_w_tryStep_101 rfl (Nat.le_of_ble_eq_true rfl) h
      · replace h := h.2 c
        refine ch_iload d_w_tryStep_66 rfl ?_
        refine ch_aload_n (i := 0) d_w_tryStep_68 rfl rfl ?_
        refine ch_get (v := .inr (8, 0, 2)) d_w_tryStep_69 fl_w_15 rfl ?_
        refine ch_iload_n (i := 3) d_w_tryStep_72 rfl rfl ?_
        refine ch_iald (n := 15) d_w_tryStep_73 (by decide) rfl b4 ?_
        refine ch_icmp_ge (tgt := 101) d_w_tryStep_74 (by decide) (fun c => ?_) (fun c => ?_)
        · replace h := h.1 c
          exact ch_vret d_w_tryStep_101 rfl (Nat.le_of_ble_eq_true rfl) h
        · replace h := h.2 c
          refine ch_aload_n (i := 0) d_w_tryStep_77 rfl rfl ?_
          refine ch_get (v := .inr (8, 0, 1)) d_w_tryStep_78 fl_w_11 rfl ?_
          refine ch_iload_n (i := 3) d_w_tryStep_81 rfl rfl ?_
          refine ch_iload d_w_tryStep_82 rfl ?_
          refine ch_iast (n := 15) d_w_tryStep_84 (by decide) rfl b4 ?_
          show ch_J g _ _ _ _ _ _ (ch_wr m3 (8, 0, 1) (Int32.toNatClampNeg p3) ((m (8, 0, 1) (Int32.toNatClampNeg (p3 + p4))) + r2)) _
          generalize hmm11 : ch_wr m3 (8, 0, 1) (Int32.toNatClampNeg p3) ((m (8, 0, 1) (Int32.toNatClampNeg (p3 + p4))) + r2) = m11
          replace h := h m11 hmm11.symm
          refine ch_aload_n (i := 0) d_w_tryStep_85 rfl rfl ?_
          refine ch_get (v := .inr (8, 0, 2)) d_w_tryStep_86 fl_w_15 rfl ?_
          refine ch_iload_n (i := 3) d_w_tryStep_89 rfl rfl ?_
          refine ch_iload d_w_tryStep_90 rfl ?_
          refine ch_iast (n := 15) d_w_tryStep_92 (by decide) rfl b4 ?_
          show ch_J g _ _ _ _ _ _ (ch_wr m11 (8, 0, 2) (Int32.toNatClampNeg p3) ((m3 (8, 0, 2) (Int32.toNatClampNeg (p3 + p4))) + 1)) _
          generalize hmm12 : ch_wr m11 (8, 0, 2) (Int32.toNatClampNeg p3) ((m3 (8, 0, 2) (Int32.toNatClampNeg (p3 + p4))) + 1) = m12
          replace h := h m12 hmm12.symm
          refine ch_aload_n (i := 0) d_w_tryStep_93 rfl rfl ?_
          refine ch_get (v := .inr (8, 0, 3)) d_w_tryStep_94 fl_w_18 rfl ?_
          refine ch_iload_n (i := 3) d_w_tryStep_97 rfl rfl ?_
          refine ch_iload d_w_tryStep_98 rfl ?_
          refine ch_iast (n := 15) d_w_tryStep_100 (by decide) rfl b4 ?_
          show ch_J g _ _ _ _ _ _ (ch_wr m12 (8, 0, 3) (Int32.toNatClampNeg p3) p4) _
          generalize hmm13 : ch_wr m12 (8, 0, 3) (Int32.toNatClampNeg p3) p4 = m13
          replace h := h m13 hmm13.symm
          exact ch_vret d_w_tryStep_101 rfl (Nat.le_of_ble_eq_true rfl) h
theorem e_w_tellBest (g : ch_G) (Q : ch_O → ch_M → Prop) (j1 : Nat) (m : ch_M) (h : ch_J g m_w_tellBest (ch_rm m_w_tellBest) (ch_E g m_w_tellBest Q) 0 [some (.inr (8, 0, 0)), some (.inr (5, j1, 0)), none, none] [] m 0) : ch_C g m_w_tellBest [.inr (8, 0, 0), .inr (5, j1, 0)] m Q :=
  ch_enter mf_w_tellBest (by intro v hv; simp only [List.mem_cons, List.not_mem_nil, or_false] at hv; rcases hv with rfl | rfl <;> rfl) (Nat.le_of_ble_eq_true rfl) h
set_option maxHeartbeats 1600000 in
theorem g_w_tellBest_0 (g : ch_G) (Q : ch_O → ch_M → Prop) (j1 : Nat) (m : ch_M) (h : (∀ m1 : ch_M, m1 = ch_wr m (5, j1, 0) 1 0 → ch_J g m_w_tellBest (ch_rm m_w_tellBest) (ch_E g m_w_tellBest Q) 9 [some (.inr (8, 0, 0)), some (.inr (5, j1, 0)), some (.inl (.int 0)), some (.inl (.int 0))] [] m1 0)) : ch_J g m_w_tellBest (ch_rm m_w_tellBest) (ch_E g m_w_tellBest Q) 0 [some (.inr (8, 0, 0)), some (.inr (5, j1, 0)), none, none] [] m 0 := by
  refine ch_aload_n (i := 1) d_w_tellBest_0 rfl rfl ?_
  refine ch_iconst (v := 0) d_w_tellBest_1 (by decide) ?_
  refine ch_put d_w_tellBest_2 fp_w_29 rfl rfl rfl ?_
  generalize hmm1 : ch_wr m (5, j1, 0) 1 0 = m1
  replace h := h m1 hmm1.symm
  refine ch_iconst (v := 0) d_w_tellBest_5 (by decide) ?_
  refine ch_istore_n (i := 2) d_w_tellBest_6 rfl (Nat.le_of_ble_eq_true rfl) (ls' := [some (.inr (8, 0, 0)), some (.inr (5, j1, 0)), some (.inl (.int 0)), none]) rfl ?_
  refine ch_iconst (v := 0) d_w_tellBest_7 (by decide) ?_
  refine ch_istore_n (i := 3) d_w_tellBest_8 rfl (Nat.le_of_ble_eq_true rfl) (ls' := [some (.inr (8, 0, 0)), some (.inr (5, j1, 0)), some (.inl (.int 0)), some (.inl (.int 0))]) rfl ?_
  exact h
set_option maxHeartbeats 1600000 in
theorem g_w_tellBest_9 (g : ch_G) (Q : ch_O → ch_M → Prop) (j1 : Nat) (x2 : Int32) (x3 : Int32) (m : ch_M) (h : ((12 ≤ x3 → Q (.inl none) m) ∧ (¬ 12 ≤ x3 → ((12 ≤ x2 → Q (.inl none) m) ∧ (¬ 12 ≤ x2 → (vp_in x2 15) ∧ (ch_C g m_s_add [.inr (5, j1, 0), .inl (.int (m (8, 0, 3) (Int32.toNatClampNeg x2)))] m (ch_ov (fun (m3 : ch_M) => ch_J g m_w_tellBest (ch_rm m_w_tellBest) (ch_E g m_w_tellBest Q) 9 [some (.inr (8, 0, 0)), some (.inr (5, j1, 0)), some (.inl (.int (x2 + (m3 (8, 0, 3) (Int32.toNatClampNeg x2))))), some (.inl (.int (x3 + 1)))] [] m3 0)))))))) : ch_J g m_w_tellBest (ch_rm m_w_tellBest) (ch_E g m_w_tellBest Q) 9 [some (.inr (8, 0, 0)), some (.inr (5, j1, 0)), some (.inl (.int x2)), some (.inl (.int x3))] [] m 0 := by
  refine ch_iload_n (i := 3) d_w_tellBest_9 rfl rfl ?_
  refine ch_bipush (v := 12) d_w_tellBest_10 (by decide) ?_
  refine ch_icmp_ge (tgt := 46) d_w_tellBest_12 (by decide) (fun c => ?_) (fun c => ?_)
  · replace h := h.1 c
    exact ch_vret d_w_tellBest_46 rfl (Nat.le_of_ble_eq_true rfl) h
  · replace h := h.2 c
    refine ch_iload_n (i := 2) d_w_tellBest_15 rfl rfl ?_
    refine ch_bipush (v := 12) d_w_tellBest_16 (by decide) ?_
    refine ch_icmp_ge (tgt := 46) d_w_tellBest_18 (by decide) (fun c => ?_) (fun c => ?_)
    · replace h := h.1 c
      exact ch_vret d_w_tellBest_46 rfl (Nat.le_of_ble_eq_true rfl) h
    · replace h := h.2 c
      refine ch_aload_n (i := 1) d_w_tellBest_21 rfl rfl ?_
      refine ch_aload_n (i := 0) d_w_tellBest_22 rfl rfl ?_
      refine ch_get (v := .inr (8, 0, 3)) d_w_tellBest_23 fl_w_18 rfl ?_
      refine ch_iload_n (i := 2) d_w_tellBest_26 rfl rfl ?_
      have b1 := h.1
      replace h := h.2
      refine ch_iald (n := 15) d_w_tellBest_27 (by decide) rfl b1 ?_
      refine ch_callV (as := [.inl (.int (m (8, 0, 3) (Int32.toNatClampNeg x2)))]) d_w_tellBest_28 lk_w_35 mi_s_add me_s_add rfl rfl rfl ⟨Nat.le_of_ble_eq_true rfl, Nat.le_of_ble_eq_true rfl⟩ (Nat.le_of_ble_eq_true rfl) ⟨Nat.le_of_ble_eq_true rfl, Nat.le_of_ble_eq_true rfl⟩ (ch_mono (ch_Kv (fun m3 h => ?_)) h)
      refine ch_iload_n (i := 2) d_w_tellBest_31 rfl rfl ?_
      refine ch_aload_n (i := 0) d_w_tellBest_32 rfl rfl ?_
      refine ch_get (v := .inr (8, 0, 3)) d_w_tellBest_33 fl_w_18 rfl ?_
      refine ch_iload_n (i := 2) d_w_tellBest_36 rfl rfl ?_
      refine ch_iald (n := 15) d_w_tellBest_37 (by decide) rfl b1 ?_
      refine ch_iadd d_w_tellBest_38 ?_
      refine ch_istore_n (i := 2) d_w_tellBest_39 rfl (Nat.le_of_ble_eq_true rfl) (ls' := [some (.inr (8, 0, 0)), some (.inr (5, j1, 0)), some (.inl (.int (x2 + (m3 (8, 0, 3) (Int32.toNatClampNeg x2))))), some (.inl (.int x3))]) rfl ?_
      refine ch_iinc (i := 3) (v := (x3 + 1)) d_w_tellBest_40 rfl rfl (Nat.le_of_ble_eq_true rfl) (ls' := [some (.inr (8, 0, 0)), some (.inr (5, j1, 0)), some (.inl (.int (x2 + (m3 (8, 0, 3) (Int32.toNatClampNeg x2))))), some (.inl (.int (x3 + 1)))]) rfl ?_
      refine ch_goto (tgt := 9) d_w_tellBest_43 (by decide) ?_
      exact h
theorem e_w_fewestOn (g : ch_G) (Q : ch_O → ch_M → Prop) (j1 : Nat) (p2 : Int32) (m : ch_M) (h : ch_J g m_w_fewestOn (ch_rm m_w_fewestOn) (ch_E g m_w_fewestOn Q) 0 [some (.inr (8, 0, 0)), some (.inr (1, j1, 0)), some (.inl (.int p2)), none, none, none, none] [] m 0) : ch_C g m_w_fewestOn [.inr (8, 0, 0), .inr (1, j1, 0), .inl (.int p2)] m Q :=
  ch_enter mf_w_fewestOn (by intro v hv; simp only [List.mem_cons, List.not_mem_nil, or_false] at hv; rcases hv with rfl | rfl | rfl <;> rfl) (Nat.le_of_ble_eq_true rfl) h
set_option maxHeartbeats 1600000 in
theorem g_w_fewestOn_0 (g : ch_G) (Q : ch_O → ch_M → Prop) (j1 : Nat) (p2 : Int32) (m : ch_M) (h : (∀ m1 : ch_M, m1 = ch_wr m (8, 0, 1) (0) 0 → ch_J g m_w_fewestOn (ch_rm m_w_fewestOn) (ch_E g m_w_fewestOn Q) 13 [some (.inr (8, 0, 0)), some (.inr (1, j1, 0)), some (.inl (.int p2)), some (.inl (.int 12)), some (.inl (.int 1)), none, none] [] m1 0)) : ch_J g m_w_fewestOn (ch_rm m_w_fewestOn) (ch_E g m_w_fewestOn Q) 0 [some (.inr (8, 0, 0)), some (.inr (1, j1, 0)), some (.inl (.int p2)), none, none, none, none] [] m 0 := by
  refine ch_aload_n (i := 0) d_w_fewestOn_0 rfl rfl ?_
  refine ch_get (v := .inr (8, 0, 1)) d_w_fewestOn_1 fl_w_11 rfl ?_
  refine ch_iconst (v := 0) d_w_fewestOn_4 (by decide) ?_
  refine ch_iconst (v := 0) d_w_fewestOn_5 (by decide) ?_
  refine ch_iast (n := 15) d_w_fewestOn_6 (by decide) rfl (vp_in_nI (n := 0) (by decide) (by decide)) ?_
  show ch_J g _ _ _ _ _ _ (ch_wr m (8, 0, 1) (0) 0) _
  generalize hmm1 : ch_wr m (8, 0, 1) (0) 0 = m1
  replace h := h m1 hmm1.symm
  refine ch_bipush (v := 12) d_w_fewestOn_7 (by decide) ?_
  refine ch_istore_n (i := 3) d_w_fewestOn_9 rfl (Nat.le_of_ble_eq_true rfl) (ls' := [some (.inr (8, 0, 0)), some (.inr (1, j1, 0)), some (.inl (.int p2)), some (.inl (.int 12)), none, none, none]) rfl ?_
  refine ch_iconst (v := 1) d_w_fewestOn_10 (by decide) ?_
  refine ch_istore (i := 4) d_w_fewestOn_11 (Nat.le_of_ble_eq_true rfl) (ls' := [some (.inr (8, 0, 0)), some (.inr (1, j1, 0)), some (.inl (.int p2)), some (.inl (.int 12)), some (.inl (.int 1)), none, none]) rfl ?_
  exact h
set_option maxHeartbeats 1600000 in
theorem g_w_fewestOn_13 (g : ch_G) (Q : ch_O → ch_M → Prop) (j1 : Nat) (x2 : Int32) (x3 : Int32) (x4 : Int32) (o5 : Option ch_V) (o6 : Option ch_V) (m : ch_M) (h : ((15 ≤ x4 → Q (.inl (some (.inl (.int x3)))) m) ∧ (¬ 15 ≤ x4 → ch_J g m_w_fewestOn (ch_rm m_w_fewestOn) (ch_E g m_w_fewestOn Q) 34 [some (.inr (8, 0, 0)), some (.inr (1, j1, 0)), some (.inl (.int x2)), some (.inl (.int x3)), some (.inl (.int x4)), some (.inl (.int 12)), some (.inl (.int (if (x4 - 3) < 0 then 0 else (x4 - 3))))] [] m 0))) : ch_J g m_w_fewestOn (ch_rm m_w_fewestOn) (ch_E g m_w_fewestOn Q) 13 [some (.inr (8, 0, 0)), some (.inr (1, j1, 0)), some (.inl (.int x2)), some (.inl (.int x3)), some (.inl (.int x4)), o5, o6] [] m 0 := by
  refine ch_iload d_w_fewestOn_13 rfl ?_
  refine ch_bipush (v := 15) d_w_fewestOn_15 (by decide) ?_
  refine ch_icmp_ge (tgt := 115) d_w_fewestOn_17 (by decide) (fun c => ?_) (fun c => ?_)
  · replace h := h.1 c
    refine ch_iload_n (i := 3) d_w_fewestOn_115 rfl rfl ?_
    exact ch_iret (ty := .int) d_w_fewestOn_116 rfl rfl (Nat.le_of_ble_eq_true rfl) h
  · replace h := h.2 c
    refine ch_bipush (v := 12) d_w_fewestOn_20 (by decide) ?_
    refine ch_istore (i := 5) d_w_fewestOn_22 (Nat.le_of_ble_eq_true rfl) (ls' := [some (.inr (8, 0, 0)), some (.inr (1, j1, 0)), some (.inl (.int x2)), some (.inl (.int x3)), some (.inl (.int x4)), some (.inl (.int 12)), o6]) rfl ?_
    refine ch_iload d_w_fewestOn_24 rfl ?_
    refine ch_iconst (v := 3) d_w_fewestOn_26 (by decide) ?_
    refine ch_isub d_w_fewestOn_27 ?_
    refine ch_iconst (v := 0) d_w_fewestOn_28 (by decide) ?_
    refine ch_max d_w_fewestOn_29 lk_w_39 ⟨Nat.le_of_ble_eq_true rfl, Nat.le_of_ble_eq_true rfl⟩ ⟨Nat.le_of_ble_eq_true rfl, Nat.le_of_ble_eq_true rfl⟩ (Nat.le_of_ble_eq_true rfl) ?_
    refine ch_istore (i := 6) d_w_fewestOn_32 (Nat.le_of_ble_eq_true rfl) (ls' := [some (.inr (8, 0, 0)), some (.inr (1, j1, 0)), some (.inl (.int x2)), some (.inl (.int x3)), some (.inl (.int x4)), some (.inl (.int 12)), some (.inl (.int (if (x4 - 3) < 0 then 0 else (x4 - 3))))]) rfl ?_
    exact h
set_option maxHeartbeats 1600000 in
theorem g_w_fewestOn_34 (g : ch_G) (Q : ch_O → ch_M → Prop) (j1 : Nat) (x2 : Int32) (x3 : Int32) (x4 : Int32) (x5 : Int32) (x6 : Int32) (m : ch_M) (h : ((x4 ≤ x6 → ch_J g m_w_fewestOn (ch_rm m_w_fewestOn) (ch_E g m_w_fewestOn Q) 68 [some (.inr (8, 0, 0)), some (.inr (1, j1, 0)), some (.inl (.int x2)), some (.inl (.int x3)), some (.inl (.int x4)), some (.inl (.int x5)), some (.inl (.int x6))] [] m 0) ∧ (¬ x4 ≤ x6 → ((12 ≤ x6 → ch_J g m_w_fewestOn (ch_rm m_w_fewestOn) (ch_E g m_w_fewestOn Q) 68 [some (.inr (8, 0, 0)), some (.inr (1, j1, 0)), some (.inl (.int x2)), some (.inl (.int x3)), some (.inl (.int x4)), some (.inl (.int x5)), some (.inl (.int x6))] [] m 0) ∧ (¬ 12 ≤ x6 → (vp_in x6 15) ∧ ch_J g m_w_fewestOn (ch_rm m_w_fewestOn) (ch_E g m_w_fewestOn Q) 34 [some (.inr (8, 0, 0)), some (.inr (1, j1, 0)), some (.inl (.int x2)), some (.inl (.int x3)), some (.inl (.int x4)), some (.inl (.int (if (m (8, 0, 1) (Int32.toNatClampNeg x6)) < x5 then (m (8, 0, 1) (Int32.toNatClampNeg x6)) else x5))), some (.inl (.int (x6 + 1)))] [] m 0))))) : ch_J g m_w_fewestOn (ch_rm m_w_fewestOn) (ch_E g m_w_fewestOn Q) 34 [some (.inr (8, 0, 0)), some (.inr (1, j1, 0)), some (.inl (.int x2)), some (.inl (.int x3)), some (.inl (.int x4)), some (.inl (.int x5)), some (.inl (.int x6))] [] m 0 := by
  refine ch_iload d_w_fewestOn_34 rfl ?_
  refine ch_iload d_w_fewestOn_36 rfl ?_
  refine ch_icmp_ge (tgt := 68) d_w_fewestOn_38 (by decide) (fun c => ?_) (fun c => ?_)
  · replace h := h.1 c
    exact h
  · replace h := h.2 c
    refine ch_iload d_w_fewestOn_41 rfl ?_
    refine ch_bipush (v := 12) d_w_fewestOn_43 (by decide) ?_
    refine ch_icmp_ge (tgt := 68) d_w_fewestOn_45 (by decide) (fun c => ?_) (fun c => ?_)
    · replace h := h.1 c
      exact h
    · replace h := h.2 c
      refine ch_iload d_w_fewestOn_48 rfl ?_
      refine ch_aload_n (i := 0) d_w_fewestOn_50 rfl rfl ?_
      refine ch_get (v := .inr (8, 0, 1)) d_w_fewestOn_51 fl_w_11 rfl ?_
      refine ch_iload d_w_fewestOn_54 rfl ?_
      have b1 := h.1
      replace h := h.2
      refine ch_iald (n := 15) d_w_fewestOn_56 (by decide) rfl b1 ?_
      refine ch_min d_w_fewestOn_57 lk_w_45 ⟨Nat.le_of_ble_eq_true rfl, Nat.le_of_ble_eq_true rfl⟩ ⟨Nat.le_of_ble_eq_true rfl, Nat.le_of_ble_eq_true rfl⟩ (Nat.le_of_ble_eq_true rfl) ?_
      refine ch_istore (i := 5) d_w_fewestOn_60 (Nat.le_of_ble_eq_true rfl) (ls' := [some (.inr (8, 0, 0)), some (.inr (1, j1, 0)), some (.inl (.int x2)), some (.inl (.int x3)), some (.inl (.int x4)), some (.inl (.int (if (m (8, 0, 1) (Int32.toNatClampNeg x6)) < x5 then (m (8, 0, 1) (Int32.toNatClampNeg x6)) else x5))), some (.inl (.int x6))]) rfl ?_
      refine ch_iinc (i := 6) (v := (x6 + 1)) d_w_fewestOn_62 rfl rfl (Nat.le_of_ble_eq_true rfl) (ls' := [some (.inr (8, 0, 0)), some (.inr (1, j1, 0)), some (.inl (.int x2)), some (.inl (.int x3)), some (.inl (.int x4)), some (.inl (.int (if (m (8, 0, 1) (Int32.toNatClampNeg x6)) < x5 then (m (8, 0, 1) (Int32.toNatClampNeg x6)) else x5))), some (.inl (.int (x6 + 1)))]) rfl ?_
      refine ch_goto (tgt := 34) d_w_fewestOn_65 (by decide) ?_
      exact h
set_option maxHeartbeats 1600000 in
theorem g_w_fewestOn_68 (g : ch_G) (Q : ch_O → ch_M → Prop) (j1 : Nat) (x2 : Int32) (x3 : Int32) (x4 : Int32) (x5 : Int32) (x6 : Int32) (m : ch_M) (h : (ch_C g m_w_lineAt [.inr (8, 0, 0), .inr (1, j1, 0), .inl (.int x2), .inl (.int x4)] m (ch_oi (fun (r1 : Int32) (m2 : ch_M) => (vp_in x4 15) ∧ (∀ m4 : ch_M, m4 = ch_wr m2 (8, 0, 1) (Int32.toNatClampNeg x4) (x5 + r1) → ((x4 < 12 → ch_J g m_w_fewestOn (ch_rm m_w_fewestOn) (ch_E g m_w_fewestOn Q) 13 [some (.inr (8, 0, 0)), some (.inr (1, j1, 0)), some (.inl (.int x2)), some (.inl (.int x3)), some (.inl (.int (x4 + 1))), some (.inl (.int x5)), some (.inl (.int x6))] [] m4 0) ∧ (¬ x4 < 12 → ch_J g m_w_fewestOn (ch_rm m_w_fewestOn) (ch_E g m_w_fewestOn Q) 13 [some (.inr (8, 0, 0)), some (.inr (1, j1, 0)), some (.inl (.int x2)), some (.inl (.int (if (m4 (8, 0, 1) (Int32.toNatClampNeg x4)) < x3 then (m4 (8, 0, 1) (Int32.toNatClampNeg x4)) else x3))), some (.inl (.int (x4 + 1))), some (.inl (.int x5)), some (.inl (.int x6))] [] m4 0))))))) : ch_J g m_w_fewestOn (ch_rm m_w_fewestOn) (ch_E g m_w_fewestOn Q) 68 [some (.inr (8, 0, 0)), some (.inr (1, j1, 0)), some (.inl (.int x2)), some (.inl (.int x3)), some (.inl (.int x4)), some (.inl (.int x5)), some (.inl (.int x6))] [] m 0 := by
  refine ch_aload_n (i := 0) d_w_fewestOn_68 rfl rfl ?_
  refine ch_get (v := .inr (8, 0, 1)) d_w_fewestOn_69 fl_w_11 rfl ?_
  refine ch_iload d_w_fewestOn_72 rfl ?_
  refine ch_iload d_w_fewestOn_74 rfl ?_
  refine ch_aload_n (i := 0) d_w_fewestOn_76 rfl rfl ?_
  refine ch_aload_n (i := 1) d_w_fewestOn_77 rfl rfl ?_
  refine ch_iload_n (i := 2) d_w_fewestOn_78 rfl rfl ?_
  refine ch_iload d_w_fewestOn_79 rfl ?_
  refine ch_callV (as := [.inr (1, j1, 0), .inl (.int x2), .inl (.int x4)]) d_w_fewestOn_81 lk_w_25 mi_w_lineAt me_w_lineAt rfl rfl rfl ⟨Nat.le_of_ble_eq_true rfl, Nat.le_of_ble_eq_true rfl⟩ (Nat.le_of_ble_eq_true rfl) ⟨Nat.le_of_ble_eq_true rfl, Nat.le_of_ble_eq_true rfl⟩ (ch_mono (ch_Ki (fun r1 m2 h => ?_)) h)
  refine ch_iadd d_w_fewestOn_84 ?_
  have b3 := h.1
  replace h := h.2
  refine ch_iast (n := 15) d_w_fewestOn_85 (by decide) rfl b3 ?_
  show ch_J g _ _ _ _ _ _ (ch_wr m2 (8, 0, 1) (Int32.toNatClampNeg x4) (x5 + r1)) _
  generalize hmm4 : ch_wr m2 (8, 0, 1) (Int32.toNatClampNeg x4) (x5 + r1) = m4
  replace h := h m4 hmm4.symm
  refine ch_iload d_w_fewestOn_86 rfl ?_
  refine ch_bipush (v := 12) d_w_fewestOn_88 (by decide) ?_
  refine ch_icmp_lt (tgt := 107) d_w_fewestOn_90 (by decide) (fun c => ?_) (fun c => ?_)
  · replace h := h.1 c
    refine ch_iload_n (i := 3) d_w_fewestOn_107 rfl rfl ?_
    refine ch_istore_n (i := 3) d_w_fewestOn_108 rfl (Nat.le_of_ble_eq_true rfl) (ls' := [some (.inr (8, 0, 0)), some (.inr (1, j1, 0)), some (.inl (.int x2)), some (.inl (.int x3)), some (.inl (.int x4)), some (.inl (.int x5)), some (.inl (.int x6))]) rfl ?_
    refine ch_iinc (i := 4) (v := (x4 + 1)) d_w_fewestOn_109 rfl rfl (Nat.le_of_ble_eq_true rfl) (ls' := [some (.inr (8, 0, 0)), some (.inr (1, j1, 0)), some (.inl (.int x2)), some (.inl (.int x3)), some (.inl (.int (x4 + 1))), some (.inl (.int x5)), some (.inl (.int x6))]) rfl ?_
    refine ch_goto (tgt := 13) d_w_fewestOn_112 (by decide) ?_
    exact h
  · replace h := h.2 c
    refine ch_iload_n (i := 3) d_w_fewestOn_93 rfl rfl ?_
    refine ch_aload_n (i := 0) d_w_fewestOn_94 rfl rfl ?_
    refine ch_get (v := .inr (8, 0, 1)) d_w_fewestOn_95 fl_w_11 rfl ?_
    refine ch_iload d_w_fewestOn_98 rfl ?_
    refine ch_iald (n := 15) d_w_fewestOn_100 (by decide) rfl b3 ?_
    refine ch_min d_w_fewestOn_101 lk_w_45 ⟨Nat.le_of_ble_eq_true rfl, Nat.le_of_ble_eq_true rfl⟩ ⟨Nat.le_of_ble_eq_true rfl, Nat.le_of_ble_eq_true rfl⟩ (Nat.le_of_ble_eq_true rfl) ?_
    refine ch_goto (tgt := 108) d_w_fewestOn_104 (by decide) ?_
    refine ch_istore_n (i := 3) d_w_fewestOn_108 rfl (Nat.le_of_ble_eq_true rfl) (ls' := [some (.inr (8, 0, 0)), some (.inr (1, j1, 0)), some (.inl (.int x2)), some (.inl (.int (if (m4 (8, 0, 1) (Int32.toNatClampNeg x4)) < x3 then (m4 (8, 0, 1) (Int32.toNatClampNeg x4)) else x3))), some (.inl (.int x4)), some (.inl (.int x5)), some (.inl (.int x6))]) rfl ?_
    refine ch_iinc (i := 4) (v := (x4 + 1)) d_w_fewestOn_109 rfl rfl (Nat.le_of_ble_eq_true rfl) (ls' := [some (.inr (8, 0, 0)), some (.inr (1, j1, 0)), some (.inl (.int x2)), some (.inl (.int (if (m4 (8, 0, 1) (Int32.toNatClampNeg x4)) < x3 then (m4 (8, 0, 1) (Int32.toNatClampNeg x4)) else x3))), some (.inl (.int (x4 + 1))), some (.inl (.int x5)), some (.inl (.int x6))]) rfl ?_
    refine ch_goto (tgt := 13) d_w_fewestOn_112 (by decide) ?_
    exact h
theorem e_w_lineAt (g : ch_G) (Q : ch_O → ch_M → Prop) (j1 : Nat) (p2 : Int32) (p3 : Int32) (m : ch_M) (h : ch_J g m_w_lineAt (ch_rm m_w_lineAt) (ch_E g m_w_lineAt Q) 0 [some (.inr (8, 0, 0)), some (.inr (1, j1, 0)), some (.inl (.int p2)), some (.inl (.int p3))] [] m 0) : ch_C g m_w_lineAt [.inr (8, 0, 0), .inr (1, j1, 0), .inl (.int p2), .inl (.int p3)] m Q :=
  ch_enter mf_w_lineAt (by intro v hv; simp only [List.mem_cons, List.not_mem_nil, or_false] at hv; rcases hv with rfl | rfl | rfl | rfl <;> rfl) (Nat.le_of_ble_eq_true rfl) h
set_option maxHeartbeats 1600000 in
theorem g_w_lineAt_0 (g : ch_G) (Q : ch_O → ch_M → Prop) (j1 : Nat) (p2 : Int32) (p3 : Int32) (m : ch_M) (h : (ch_C g m_y_isLineFor [.inr (1, j1, 0), .inl (.int p2), .inl (.int (p3 - 1))] m (ch_oi (fun (r1 : Int32) (m2 : ch_M) => ((r1 = 0 → Q (.inl (some (.inl (.int 0)))) m2) ∧ (¬ r1 = 0 → Q (.inl (some (.inl (.int 1)))) m2)))))) : ch_J g m_w_lineAt (ch_rm m_w_lineAt) (ch_E g m_w_lineAt Q) 0 [some (.inr (8, 0, 0)), some (.inr (1, j1, 0)), some (.inl (.int p2)), some (.inl (.int p3))] [] m 0 := by
  refine ch_aload_n (i := 1) d_w_lineAt_0 rfl rfl ?_
  refine ch_iload_n (i := 2) d_w_lineAt_1 rfl rfl ?_
  refine ch_iload_n (i := 3) d_w_lineAt_2 rfl rfl ?_
  refine ch_iconst (v := 1) d_w_lineAt_3 (by decide) ?_
  refine ch_isub d_w_lineAt_4 ?_
  refine ch_callV (as := [.inl (.int p2), .inl (.int (p3 - 1))]) d_w_lineAt_5 lk_w_48 mi_y_isLineFor me_y_isLineFor rfl rfl rfl ⟨Nat.le_of_ble_eq_true rfl, Nat.le_of_ble_eq_true rfl⟩ (Nat.le_of_ble_eq_true rfl) ⟨Nat.le_of_ble_eq_true rfl, Nat.le_of_ble_eq_true rfl⟩ (ch_mono (ch_Ki (fun r1 m2 h => ?_)) h)
  refine ch_if_eq (tgt := 15) d_w_lineAt_8 (by decide) (fun c => ?_) (fun c => ?_)
  · replace h := h.1 c
    refine ch_iconst (v := 0) d_w_lineAt_15 (by decide) ?_
    exact ch_iret (ty := .int) d_w_lineAt_16 rfl rfl (Nat.le_of_ble_eq_true rfl) h
  · replace h := h.2 c
    refine ch_iconst (v := 1) d_w_lineAt_11 (by decide) ?_
    refine ch_goto (tgt := 16) d_w_lineAt_12 (by decide) ?_
    exact ch_iret (ty := .int) d_w_lineAt_16 rfl rfl (Nat.le_of_ble_eq_true rfl) h
