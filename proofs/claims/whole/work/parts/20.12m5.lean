theorem e_m_looks (g : ch_G) (Q : ch_O → ch_M → Prop) (p1 : Int32) (m : ch_M) (h : ch_J g m_m_looks (ch_rm m_m_looks) (ch_E g m_m_looks Q) 0 [some (.inr (9, 0, 0)), some (.inl (.int p1)), none, none, none, none] [] m 0) : ch_C g m_m_looks [.inr (9, 0, 0), .inl (.int p1)] m Q :=
  ch_enter mf_m_looks (by intro v hv; simp only [List.mem_cons, List.not_mem_nil, or_false] at hv; rcases hv with rfl | rfl <;> rfl) (Nat.le_of_ble_eq_true rfl) h
set_option maxHeartbeats 1600000 in
theorem g_m_looks_0 (g : ch_G) (Q : ch_O → ch_M → Prop) (p1 : Int32) (m : ch_M) (h : (∀ m1 : ch_M, m1 = ch_wr m (9, 0, 10) (12) 0 → (∀ m2 : ch_M, m2 = ch_wr m1 (9, 0, 11) (12) 0 → ch_J g m_m_looks (ch_rm m_m_looks) (ch_E g m_m_looks Q) 19 [some (.inr (9, 0, 0)), some (.inl (.int p1)), some (.inl (.int 11)), none, none, none] [] m2 0))) : ch_J g m_m_looks (ch_rm m_m_looks) (ch_E g m_m_looks Q) 0 [some (.inr (9, 0, 0)), some (.inl (.int p1)), none, none, none, none] [] m 0 := by
  refine ch_aload_n (i := 0) d_m_looks_0 rfl rfl ?_
  refine ch_get (v := .inr (9, 0, 10)) d_m_looks_1 fl_m_42 rfl ?_
  refine ch_bipush (v := 12) d_m_looks_4 (by decide) ?_
  refine ch_iconst (v := 0) d_m_looks_6 (by decide) ?_
  refine ch_iast (n := 13) d_m_looks_7 (by decide) rfl (vp_in_nI (n := 12) (by decide) (by decide)) ?_
  show ch_J g _ _ _ _ _ _ (ch_wr m (9, 0, 10) (12) 0) _
  generalize hmm1 : ch_wr m (9, 0, 10) (12) 0 = m1
  replace h := h m1 hmm1.symm
  refine ch_aload_n (i := 0) d_m_looks_8 rfl rfl ?_
  refine ch_get (v := .inr (9, 0, 11)) d_m_looks_9 fl_m_45 rfl ?_
  refine ch_bipush (v := 12) d_m_looks_12 (by decide) ?_
  refine ch_iconst (v := 0) d_m_looks_14 (by decide) ?_
  refine ch_iast (n := 13) d_m_looks_15 (by decide) rfl (vp_in_nI (n := 12) (by decide) (by decide)) ?_
  show ch_J g _ _ _ _ _ _ (ch_wr m1 (9, 0, 11) (12) 0) _
  generalize hmm2 : ch_wr m1 (9, 0, 11) (12) 0 = m2
  replace h := h m2 hmm2.symm
  refine ch_bipush (v := 11) d_m_looks_16 (by decide) ?_
  refine ch_istore_n (i := 2) d_m_looks_18 rfl (Nat.le_of_ble_eq_true rfl) (ls' := [some (.inr (9, 0, 0)), some (.inl (.int p1)), some (.inl (.int 11)), none, none, none]) rfl ?_
  exact h
set_option maxHeartbeats 1600000 in
theorem g_m_looks_19 (g : ch_G) (Q : ch_O → ch_M → Prop) (x1 : Int32) (x2 : Int32) (o3 : Option ch_V) (o4 : Option ch_V) (o5 : Option ch_V) (m : ch_M) (h : ((x2 < 0 → Q (.inl none) m) ∧ (¬ x2 < 0 → (vp_in x2 13) ∧ (∀ m2 : ch_M, m2 = ch_wr m (9, 0, 10) (Int32.toNatClampNeg x2) 100 → ch_J g m_m_looks (ch_rm m_m_looks) (ch_E g m_m_looks Q) 33 [some (.inr (9, 0, 0)), some (.inl (.int x1)), some (.inl (.int x2)), some (.inl (.int 1)), o4, o5] [] m2 0)))) : ch_J g m_m_looks (ch_rm m_m_looks) (ch_E g m_m_looks Q) 19 [some (.inr (9, 0, 0)), some (.inl (.int x1)), some (.inl (.int x2)), o3, o4, o5] [] m 0 := by
  refine ch_iload_n (i := 2) d_m_looks_19 rfl rfl ?_
  refine ch_if_lt (tgt := 154) d_m_looks_20 (by decide) (fun c => ?_) (fun c => ?_)
  · replace h := h.1 c
    exact ch_vret d_m_looks_154 rfl (Nat.le_of_ble_eq_true rfl) h
  · replace h := h.2 c
    refine ch_aload_n (i := 0) d_m_looks_23 rfl rfl ?_
    refine ch_get (v := .inr (9, 0, 10)) d_m_looks_24 fl_m_42 rfl ?_
    refine ch_iload_n (i := 2) d_m_looks_27 rfl rfl ?_
    refine ch_bipush (v := 100) d_m_looks_28 (by decide) ?_
    have b1 := h.1
    replace h := h.2
    refine ch_iast (n := 13) d_m_looks_30 (by decide) rfl b1 ?_
    show ch_J g _ _ _ _ _ _ (ch_wr m (9, 0, 10) (Int32.toNatClampNeg x2) 100) _
    generalize hmm2 : ch_wr m (9, 0, 10) (Int32.toNatClampNeg x2) 100 = m2
    replace h := h m2 hmm2.symm
    refine ch_iconst (v := 1) d_m_looks_31 (by decide) ?_
    refine ch_istore_n (i := 3) d_m_looks_32 rfl (Nat.le_of_ble_eq_true rfl) (ls' := [some (.inr (9, 0, 0)), some (.inl (.int x1)), some (.inl (.int x2)), some (.inl (.int 1)), o4, o5]) rfl ?_
    exact h
set_option maxHeartbeats 1600000 in
theorem g_m_looks_33 (g : ch_G) (Q : ch_O → ch_M → Prop) (x1 : Int32) (x2 : Int32) (x3 : Int32) (o4 : Option ch_V) (o5 : Option ch_V) (m : ch_M) (h : ((4 ≤ x3 → ch_J g m_m_looks (ch_rm m_m_looks) (ch_E g m_m_looks Q) 19 [some (.inr (9, 0, 0)), some (.inl (.int x1)), some (.inl (.int (x2 + (-1)))), some (.inl (.int x3)), o4, o5] [] m 0) ∧ (¬ 4 ≤ x3 → (vp_in (if (x2 + x3) < 12 then (x2 + x3) else 12) 13) ∧ (ch_C g m_m_isLine [.inr (9, 0, 0), .inl (.int x1), .inl (.int ((x2 + x3) - 1))] m (ch_oi (fun (r2 : Int32) (m3 : ch_M) => ((r2 = 0 → (vp_in x2 13) ∧ (((m3 (9, 0, 10) (Int32.toNatClampNeg x2)) < ((m (9, 0, 10) (Int32.toNatClampNeg (if (x2 + x3) < 12 then (x2 + x3) else 12))) + 0) → ch_J g m_m_looks (ch_rm m_m_looks) (ch_E g m_m_looks Q) 33 [some (.inr (9, 0, 0)), some (.inl (.int x1)), some (.inl (.int x2)), some (.inl (.int (x3 + 1))), some (.inl (.int (if (x2 + x3) < 12 then (x2 + x3) else 12))), some (.inl (.int ((m (9, 0, 10) (Int32.toNatClampNeg (if (x2 + x3) < 12 then (x2 + x3) else 12))) + 0)))] [] m3 0) ∧ (¬ (m3 (9, 0, 10) (Int32.toNatClampNeg x2)) < ((m (9, 0, 10) (Int32.toNatClampNeg (if (x2 + x3) < 12 then (x2 + x3) else 12))) + 0) → ((¬ ((m (9, 0, 10) (Int32.toNatClampNeg (if (x2 + x3) < 12 then (x2 + x3) else 12))) + 0) = (m3 (9, 0, 10) (Int32.toNatClampNeg x2)) → (∀ m5 : ch_M, m5 = ch_wr m3 (9, 0, 10) (Int32.toNatClampNeg x2) ((m (9, 0, 10) (Int32.toNatClampNeg (if (x2 + x3) < 12 then (x2 + x3) else 12))) + 0) → (∀ m6 : ch_M, m6 = ch_wr m5 (9, 0, 11) (Int32.toNatClampNeg x2) ((m5 (9, 0, 11) (Int32.toNatClampNeg (if (x2 + x3) < 12 then (x2 + x3) else 12))) + 1) → ch_J g m_m_looks (ch_rm m_m_looks) (ch_E g m_m_looks Q) 33 [some (.inr (9, 0, 0)), some (.inl (.int x1)), some (.inl (.int x2)), some (.inl (.int (x3 + 1))), some (.inl (.int (if (x2 + x3) < 12 then (x2 + x3) else 12))), some (.inl (.int ((m (9, 0, 10) (Int32.toNatClampNeg (if (x2 + x3) < 12 then (x2 + x3) else 12))) + 0)))] [] m6 0))) ∧ (((m (9, 0, 10) (Int32.toNatClampNeg (if (x2 + x3) < 12 then (x2 + x3) else 12))) + 0) = (m3 (9, 0, 10) (Int32.toNatClampNeg x2)) → ((((m3 (9, 0, 11) (Int32.toNatClampNeg (if (x2 + x3) < 12 then (x2 + x3) else 12))) + 1) < (m3 (9, 0, 11) (Int32.toNatClampNeg x2)) → (∀ m7 : ch_M, m7 = ch_wr m3 (9, 0, 10) (Int32.toNatClampNeg x2) ((m (9, 0, 10) (Int32.toNatClampNeg (if (x2 + x3) < 12 then (x2 + x3) else 12))) + 0) → (∀ m8 : ch_M, m8 = ch_wr m7 (9, 0, 11) (Int32.toNatClampNeg x2) ((m7 (9, 0, 11) (Int32.toNatClampNeg (if (x2 + x3) < 12 then (x2 + x3) else 12))) + 1) → ch_J g m_m_looks (ch_rm m_m_looks) (ch_E g m_m_looks Q) 33 [some (.inr (9, 0, 0)), some (.inl (.int x1)), some (.inl (.int x2)), some (.inl (.int (x3 + 1))), some (.inl (.int (if (x2 + x3) < 12 then (x2 + x3) else 12))), some (.inl (.int ((m (9, 0, 10) (Int32.toNatClampNeg (if (x2 + x3) < 12 then (x2 + x3) else 12))) + 0)))] [] m8 0))) ∧ (¬ ((m3 (9, 0, 11) (Int32.toNatClampNeg (if (x2 + x3) < 12 then (x2 + x3) else 12))) + 1) < (m3 (9, 0, 11) (Int32.toNatClampNeg x2)) → ch_J g m_m_looks (ch_rm m_m_looks) (ch_E g m_m_looks Q) 33 [some (.inr (9, 0, 0)), some (.inl (.int x1)), some (.inl (.int x2)), some (.inl (.int (x3 + 1))), some (.inl (.int (if (x2 + x3) < 12 then (x2 + x3) else 12))), some (.inl (.int ((m (9, 0, 10) (Int32.toNatClampNeg (if (x2 + x3) < 12 then (x2 + x3) else 12))) + 0)))] [] m3 0))))))) ∧ (¬ r2 = 0 → (vp_in x2 13) ∧ (((m3 (9, 0, 10) (Int32.toNatClampNeg x2)) < ((m (9, 0, 10) (Int32.toNatClampNeg (if (x2 + x3) < 12 then (x2 + x3) else 12))) + 1) → ch_J g m_m_looks (ch_rm m_m_looks) (ch_E g m_m_looks Q) 33 [some (.inr (9, 0, 0)), some (.inl (.int x1)), some (.inl (.int x2)), some (.inl (.int (x3 + 1))), some (.inl (.int (if (x2 + x3) < 12 then (x2 + x3) else 12))), some (.inl (.int ((m (9, 0, 10) (Int32.toNatClampNeg (if (x2 + x3) < 12 then (x2 + x3) else 12))) + 1)))] [] m3 0) ∧ (¬ (m3 (9, 0, 10) (Int32.toNatClampNeg x2)) < ((m (9, 0, 10) (Int32.toNatClampNeg (if (x2 + x3) < 12 then (x2 + x3) else 12))) + 1) → ((¬ ((m (9, 0, 10) (Int32.toNatClampNeg (if (x2 + x3) < 12 then (x2 + x3) else 12))) + 1) = (m3 (9, 0, 10) (Int32.toNatClampNeg x2)) → (∀ m10 : ch_M, m10 = ch_wr m3 (9, 0, 10) (Int32.toNatClampNeg x2) ((m (9, 0, 10) (Int32.toNatClampNeg (if (x2 + x3) < 12 then (x2 + x3) else 12))) + 1) → (∀ m11 : ch_M, m11 = ch_wr m10 (9, 0, 11) (Int32.toNatClampNeg x2) ((m10 (9, 0, 11) (Int32.toNatClampNeg (if (x2 + x3) < 12 then (x2 + x3) else 12))) + 1) → ch_J g m_m_looks (ch_rm m_m_looks) (ch_E g m_m_looks Q) 33 [some (.inr (9, 0, 0)), some (.inl (.int x1)), some (.inl (.int x2)), some (.inl (.int (x3 + 1))), some (.inl (.int (if (x2 + x3) < 12 then (x2 + x3) else 12))), some (.inl (.int ((m (9, 0, 10) (Int32.toNatClampNeg (if (x2 + x3) < 12 then (x2 + x3) else 12))) + 1)))] [] m11 0))) ∧ (((m (9, 0, 10) (Int32.toNatClampNeg (if (x2 + x3) < 12 then (x2 + x3) else 12))) + 1) = (m3 (9, 0, 10) (Int32.toNatClampNeg x2)) → ((((m3 (9, 0, 11) (Int32.toNatClampNeg (if (x2 + x3) < 12 then (x2 + x3) else 12))) + 1) < (m3 (9, 0, 11) (Int32.toNatClampNeg x2)) → (∀ m12 : ch_M, m12 = ch_wr m3 (9, 0, 10) (Int32.toNatClampNeg x2) ((m (9, 0, 10) (Int32.toNatClampNeg (if (x2 + x3) < 12 then (x2 + x3) else 12))) + 1) → (∀ m13 : ch_M, m13 = ch_wr m12 (9, 0, 11) (Int32.toNatClampNeg x2) ((m12 (9, 0, 11) (Int32.toNatClampNeg (if (x2 + x3) < 12 then (x2 + x3) else 12))) + 1) → ch_J g m_m_looks (ch_rm m_m_looks) (ch_E g m_m_looks Q) 33 [some (.inr (9, 0, 0)), some (.inl (.int x1)), some (.inl (.int x2)), some (.inl (.int (x3 + 1))), some (.inl (.int (if (x2 + x3) < 12 then (x2 + x3) else 12))), some (.inl (.int ((m (9, 0, 10) (Int32.toNatClampNeg (if (x2 + x3) < 12 then (x2 + x3) else 12))) + 1)))] [] m13 0))) ∧ (¬ ((m3 (9, 0, 11) (Int32.toNatClampNeg (if (x2 + x3) < 12 then (x2 + x3) else 12))) + 1) < (m3 (9, 0, 11) (Int32.toNatClampNeg x2)) → ch_J g m_m_looks (ch_rm m_m_looks) (ch_E g m_m_looks Q) 33 [some (.inr (9, 0, 0)), some (.inl (.int x1)), some (.inl (.int x2)), some (.inl (.int (x3 + 1))), some (.inl (.int (if (x2 + x3) < 12 then (x2 + x3) else 12))), some (.inl (.int ((m (9, 0, 10) (Int32.toNatClampNeg (if (x2 + x3) < 12 then (x2 + x3) else 12))) + 1)))] [] m3 0)))))))))))))) : ch_J g m_m_looks (ch_rm m_m_looks) (ch_E g m_m_looks Q) 33 [some (.inr (9, 0, 0)), some (.inl (.int x1)), some (.inl (.int x2)), some (.inl (.int x3)), o4, o5] [] m 0 := by
  refine ch_iload_n (i := 3) d_m_looks_33 rfl rfl ?_
  refine ch_iconst (v := 4) d_m_looks_34 (by decide) ?_
  refine ch_icmp_ge (tgt := 148) d_m_looks_35 (by decide) (fun c => ?_) (fun c => ?_)
  · replace h := h.1 c
    refine ch_iinc (i := 2) (v := (x2 + (-1))) d_m_looks_148 rfl rfl (Nat.le_of_ble_eq_true rfl) (ls' := [some (.inr (9, 0, 0)), some (.inl (.int x1)), some (.inl (.int (x2 + (-1)))), some (.inl (.int x3)), o4, o5]) rfl ?_
    refine ch_goto (tgt := 19) d_m_looks_151 (by decide) ?_
    exact h
  · replace h := h.2 c
    refine ch_bipush (v := 12) d_m_looks_38 (by decide) ?_
    refine ch_iload_n (i := 2) d_m_looks_40 rfl rfl ?_
    refine ch_iload_n (i := 3) d_m_looks_41 rfl rfl ?_
    refine ch_iadd d_m_looks_42 ?_
    refine ch_min d_m_looks_43 lk_m_118 ⟨Nat.le_of_ble_eq_true rfl, Nat.le_of_ble_eq_true rfl⟩ ⟨Nat.le_of_ble_eq_true rfl, Nat.le_of_ble_eq_true rfl⟩ (Nat.le_of_ble_eq_true rfl) ?_
    refine ch_istore (i := 4) d_m_looks_46 (Nat.le_of_ble_eq_true rfl) (ls' := [some (.inr (9, 0, 0)), some (.inl (.int x1)), some (.inl (.int x2)), some (.inl (.int x3)), some (.inl (.int (if (x2 + x3) < 12 then (x2 + x3) else 12))), o5]) rfl ?_
    refine ch_aload_n (i := 0) d_m_looks_48 rfl rfl ?_
    refine ch_get (v := .inr (9, 0, 10)) d_m_looks_49 fl_m_42 rfl ?_
    refine ch_iload d_m_looks_52 rfl ?_
    have b1 := h.1
    replace h := h.2
    refine ch_iald (n := 13) d_m_looks_54 (by decide) rfl b1 ?_
    refine ch_aload_n (i := 0) d_m_looks_55 rfl rfl ?_
    refine ch_iload_n (i := 1) d_m_looks_56 rfl rfl ?_
    refine ch_iload_n (i := 2) d_m_looks_57 rfl rfl ?_
    refine ch_iload_n (i := 3) d_m_looks_58 rfl rfl ?_
    refine ch_iadd d_m_looks_59 ?_
    refine ch_iconst (v := 1) d_m_looks_60 (by decide) ?_
    refine ch_isub d_m_looks_61 ?_
    refine ch_callV (as := [.inl (.int x1), .inl (.int ((x2 + x3) - 1))]) d_m_looks_62 lk_m_129 mi_m_isLine me_m_isLine rfl rfl rfl ⟨Nat.le_of_ble_eq_true rfl, Nat.le_of_ble_eq_true rfl⟩ (Nat.le_of_ble_eq_true rfl) ⟨Nat.le_of_ble_eq_true rfl, Nat.le_of_ble_eq_true rfl⟩ (ch_mono (ch_Ki (fun r2 m3 h => ?_)) h)
    refine ch_if_eq (tgt := 72) d_m_looks_65 (by decide) (fun c => ?_) (fun c => ?_)
    · replace h := h.1 c
      refine ch_iconst (v := 0) d_m_looks_72 (by decide) ?_
      refine ch_iadd d_m_looks_73 ?_
      refine ch_istore (i := 5) d_m_looks_74 (Nat.le_of_ble_eq_true rfl) (ls' := [some (.inr (9, 0, 0)), some (.inl (.int x1)), some (.inl (.int x2)), some (.inl (.int x3)), some (.inl (.int (if (x2 + x3) < 12 then (x2 + x3) else 12))), some (.inl (.int ((m (9, 0, 10) (Int32.toNatClampNeg (if (x2 + x3) < 12 then (x2 + x3) else 12))) + 0)))]) rfl ?_
      refine ch_iload d_m_looks_76 rfl ?_
      refine ch_aload_n (i := 0) d_m_looks_78 rfl rfl ?_
      refine ch_get (v := .inr (9, 0, 10)) d_m_looks_79 fl_m_42 rfl ?_
      refine ch_iload_n (i := 2) d_m_looks_82 rfl rfl ?_
      have b4 := h.1
      replace h := h.2
      refine ch_iald (n := 13) d_m_looks_83 (by decide) rfl b4 ?_
      refine ch_icmp_gt (tgt := 142) d_m_looks_84 (by decide) (fun c => ?_) (fun c => ?_)
      · replace h := h.1 c
        refine ch_iinc (i := 3) (v := (x3 + 1)) d_m_looks_142 rfl rfl (Nat.le_of_ble_eq_true rfl) (ls' := [some (.inr (9, 0, 0)), some (.inl (.int x1)), some (.inl (.int x2)), some (.inl (.int (x3 + 1))), some (.inl (.int (if (x2 + x3) < 12 then (x2 + x3) else 12))), some (.inl (.int ((m (9, 0, 10) (Int32.toNatClampNeg (if (x2 + x3) < 12 then (x2 + x3) else 12))) + 0)))]) rfl ?_
        refine ch_goto (tgt := 33) d_m_looks_145 (by decide) ?_
        exact h
      · replace h := h.2 c
        refine ch_iload d_m_looks_87 rfl ?_
        refine ch_aload_n (i := 0) d_m_looks_89 rfl rfl ?_
        refine ch_get (v := .inr (9, 0, 10)) d_m_looks_90 fl_m_42 rfl ?_
        refine ch_iload_n (i := 2) d_m_looks_93 rfl rfl ?_
        refine ch_iald (n := 13) d_m_looks_94 (by decide) rfl b4 ?_
        refine ch_icmp_ne (tgt := 119) d_m_looks_95 (by decide) (fun c => ?_) (fun c => ?_)
        · replace h := h.1 c
          refine ch_aload_n (i := 0) d_m_looks_119 rfl rfl ?_
          refine ch_get (v := .inr (9, 0, 10)) d_m_looks_120 fl_m_42 rfl ?_
          refine ch_iload_n (i := 2) d_m_looks_123 rfl rfl ?_
          refine ch_iload d_m_looks_124 rfl ?_
          refine ch_iast (n := 13) d_m_looks_126 (by decide) rfl b4 ?_
          show ch_J g _ _ _ _ _ _ (ch_wr m3 (9, 0, 10) (Int32.toNatClampNeg x2) ((m (9, 0, 10) (Int32.toNatClampNeg (if (x2 + x3) < 12 then (x2 + x3) else 12))) + 0)) _
          generalize hmm5 : ch_wr m3 (9, 0, 10) (Int32.toNatClampNeg x2) ((m (9, 0, 10) (Int32.toNatClampNeg (if (x2 + x3) < 12 then (x2 + x3) else 12))) + 0) = m5
          replace h := h m5 hmm5.symm
          refine ch_aload_n (i := 0) d_m_looks_127 rfl rfl ?_
          refine ch_get (v := .inr (9, 0, 11)) d_m_looks_128 fl_m_45 rfl ?_
          refine ch_iload_n (i := 2) d_m_looks_131 rfl rfl ?_
          refine ch_aload_n (i := 0) d_m_looks_132 rfl rfl ?_
          refine ch_get (v := .inr (9, 0, 11)) d_m_looks_133 fl_m_45 rfl ?_
          refine ch_iload d_m_looks_136 rfl ?_
          refine ch_iald (n := 13) d_m_looks_138 (by decide) rfl b1 ?_
          refine ch_iconst (v := 1) d_m_looks_139 (by decide) ?_
          refine ch_iadd d_m_looks_140 ?_
          refine ch_iast (n := 13) d_m_looks_141 (by decide) rfl b4 ?_
          show ch_J g _ _ _ _ _ _ (ch_wr m5 (9, 0, 11) (Int32.toNatClampNeg x2) ((m5 (9, 0, 11) (Int32.toNatClampNeg (if (x2 + x3) < 12 then (x2 + x3) else 12))) + 1)) _
          generalize hmm6 : ch_wr m5 (9, 0, 11) (Int32.toNatClampNeg x2) ((m5 (9, 0, 11) (Int32.toNatClampNeg (if (x2 + x3) < 12 then (x2 + x3) else 12))) + 1) = m6
          replace h := h m6 hmm6.symm
          refine ch_iinc (i := 3) (v := (x3 + 1)) d_m_looks_142 rfl rfl (Nat.le_of_ble_eq_true rfl) (ls' := [some (.inr (9, 0, 0)), some (.inl (.int x1)), some (.inl (.int x2)), some (.inl (.int (x3 + 1))), some (.inl (.int (if (x2 + x3) < 12 then (x2 + x3) else 12))), some (.inl (.int ((m (9, 0, 10) (Int32.toNatClampNeg (if (x2 + x3) < 12 then (x2 + x3) else 12))) + 0)))]) rfl ?_
          refine ch_goto (tgt := 33) d_m_looks_145 (by decide) ?_
          exact h
        · replace h := h.2 c
          refine ch_aload_n (i := 0) d_m_looks_98 rfl rfl ?_
          refine ch_get (v := .inr (9, 0, 11)) d_m_looks_99 fl_m_45 rfl ?_
          refine ch_iload d_m_looks_102 rfl ?_
          refine ch_iald (n := 13) d_m_looks_104 (by decide) rfl b1 ?_
          refine ch_iconst (v := 1) d_m_looks_105 (by decide) ?_
          refine ch_iadd d_m_looks_106 ?_
          refine ch_aload_n (i := 0) d_m_looks_107 rfl rfl ?_
          refine ch_get (v := .inr (9, 0, 11)) d_m_looks_108 fl_m_45 rfl ?_
          refine ch_iload_n (i := 2) d_m_looks_111 rfl rfl ?_
          refine ch_iald (n := 13) d_m_looks_112 (by decide) rfl b4 ?_
          refine ch_icmp_lt (tgt := 119) d_m_looks_113 (by decide) (fun c => ?_) (fun c => ?_)
          · replace h := h.1 c
            refine ch_aload_n (i := 0) d_m_looks_119 rfl rfl ?_
            refine ch_get (v := .inr (9, 0, 10)) d_m_looks_120 fl_m_42 rfl ?_
            refine ch_iload_n (i := 2) d_m_looks_123 rfl rfl ?_
            refine ch_iload d_m_looks_124 rfl ?_
            refine ch_iast (n := 13) d_m_looks_126 (by decide) rfl b4 ?_
            show ch_J g _ _ _ _ _ _ (ch_wr m3 (9, 0, 10) (Int32.toNatClampNeg x2) ((m (9, 0, 10) (Int32.toNatClampNeg (if (x2 + x3) < 12 then (x2 + x3) else 12))) + 0)) _
            generalize hmm7 : ch_wr m3 (9, 0, 10) (Int32.toNatClampNeg x2) ((m (9, 0, 10) (Int32.toNatClampNeg (if (x2 + x3) < 12 then (x2 + x3) else 12))) + 0) = m7
            replace h := h m7 hmm7.symm
            refine ch_aload_n (i := 0) d_m_looks_127 rfl rfl ?_
            refine ch_get (v := .inr (9, 0, 11)) d_m_looks_128 fl_m_45 rfl ?_
            refine ch_iload_n (i := 2) d_m_looks_131 rfl rfl ?_
            refine ch_aload_n (i := 0) d_m_looks_132 rfl rfl ?_
            refine ch_get (v := .inr (9, 0, 11)) d_m_looks_133 fl_m_45 rfl ?_
            refine ch_iload d_m_looks_136 rfl ?_
            refine ch_iald (n := 13) d_m_looks_138 (by decide) rfl b1 ?_
            refine ch_iconst (v := 1) d_m_looks_139 (by decide) ?_
            refine ch_iadd d_m_looks_140 ?_
            refine ch_iast (n := 13) d_m_looks_141 (by decide) rfl b4 ?_
            show ch_J g _ _ _ _ _ _ (ch_wr m7 (9, 0, 11) (Int32.toNatClampNeg x2) ((m7 (9, 0, 11) (Int32.toNatClampNeg (if (x2 + x3) < 12 then (x2 + x3) else 12))) + 1)) _
            generalize hmm8 : ch_wr m7 (9, 0, 11) (Int32.toNatClampNeg x2) ((m7 (9, 0, 11) (Int32.toNatClampNeg (if (x2 + x3) < 12 then (x2 + x3) else 12))) + 1) = m8
            replace h := h m8 hmm8.symm
            refine ch_iinc (i := 3) (v := (x3 + 1)) d_m_looks_142 rfl rfl (Nat.le_of_ble_eq_true rfl) (ls' := [some (.inr (9, 0, 0)), some (.inl (.int x1)), some (.inl (.int x2)), some (.inl (.int (x3 + 1))), some (.inl (.int (if (x2 + x3) < 12 then (x2 + x3) else 12))), some (.inl (.int ((m (9, 0, 10) (Int32.toNatClampNeg (if (x2 + x3) < 12 then (x2 + x3) else 12))) + 0)))]) rfl ?_
            refine ch_goto (tgt := 33) d_m_looks_145 (by decide) ?_
            exact h
          · replace h := h.2 c
            refine ch_goto (tgt := 142) d_m_looks_116 (by decide) ?_
            refine ch_iinc (i := 3) (v := (x3 + 1)) d_m_looks_142 rfl rfl (Nat.le_of_ble_eq_true rfl) (ls' := [some (.inr (9, 0, 0)), some (.inl (.int x1)), some (.inl (.int x2)), some (.inl (.int (x3 + 1))), some (.inl (.int (if (x2 + x3) < 12 then (x2 + x3) else 12))), some (.inl (.int ((m (9, 0, 10) (Int32.toNatClampNeg (if (x2 + x3) < 12 then (x2 + x3) else 12))) + 0)))]) rfl ?_
            refine ch_goto (tgt := 33) d_m_looks_145 (by decide) ?_
            exact h
    · replace h := h.2 c
      refine ch_iconst (v := 1) d_m_looks_68 (by decide) ?_
      refine ch_goto (tgt := 73) d_m_looks_69 (by decide) ?_
      refine ch_iadd d_m_looks_73 ?_
      refine ch_istore (i := 5) d_m_looks_74 (Nat.le_of_ble_eq_true rfl) (ls' := [some (.inr (9, 0, 0)), some (.inl (.int x1)), some (.inl (.int x2)), some (.inl (.int x3)), some (.inl (.int (if (x2 + x3) < 12 then (x2 + x3) else 12))), some (.inl (.int ((m (9, 0, 10) (Int32.toNatClampNeg (if (x2 + x3) < 12 then (x2 + x3) else 12))) + 1)))]) rfl ?_
      refine ch_iload d_m_looks_76 rfl ?_
      refine ch_aload_n (i := 0) d_m_looks_78 rfl rfl ?_
      refine ch_get (v := .inr (9, 0, 10)) d_m_looks_79 fl_m_42 rfl ?_
      refine ch_iload_n (i := 2) d_m_looks_82 rfl rfl ?_
      have b9 := h.1
      replace h := h.2
      refine ch_iald (n := 13) d_m_looks_83 (by decide) rfl b9 ?_
      refine ch_icmp_gt (tgt := 142) d_m_looks_84 (by decide) (fun c => ?_) (fun c => ?_)
      · replace h := h.1 c
        refine ch_iinc (i := 3) (v := (x3 + 1)) d_m_looks_142 rfl rfl (Nat.le_of_ble_eq_true rfl) (ls' := [some (.inr (9, 0, 0)), some (.inl (.int x1)), some (.inl (.int x2)), some (.inl (.int (x3 + 1))), some (.inl (.int (if (x2 + x3) < 12 then (x2 + x3) else 12))), some (.inl (.int ((m (9, 0, 10) (Int32.toNatClampNeg (if (x2 + x3) < 12 then (x2 + x3) else 12))) + 1)))]) rfl ?_
        refine ch_goto (tgt := 33) d_m_looks_145 (by decide) ?_
        exact h
      · replace h := h.2 c
        refine ch_iload d_m_looks_87 rfl ?_
        refine ch_aload_n (i := 0) d_m_looks_89 rfl rfl ?_
        refine ch_get (v := .inr (9, 0, 10)) d_m_looks_90 fl_m_42 rfl ?_
        refine ch_iload_n (i := 2) d_m_looks_93 rfl rfl ?_
        refine ch_iald (n := 13) d_m_looks_94 (by decide) rfl b9 ?_
        refine ch_icmp_ne (tgt := 119) d_m_looks_95 (by decide) (fun c => ?_) (fun c => ?_)
        · replace h := h.1 c
          refine ch_aload_n (i := 0) d_m_looks_119 rfl rfl ?_
          refine ch_get (v := .inr (9, 0, 10)) d_m_looks_120 fl_m_42 rfl ?_
          refine ch_iload_n (i := 2) d_m_looks_123 rfl rfl ?_
          refine ch_iload d_m_looks_124 rfl ?_
          refine ch_iast (n := 13) d_m_looks_126 (by decide) rfl b9 ?_
          show ch_J g _ _ _ _ _ _ (ch_wr m3 (9, 0, 10) (Int32.toNatClampNeg x2) ((m (9, 0, 10) (Int32.toNatClampNeg (if (x2 + x3) < 12 then (x2 + x3) else 12))) + 1)) _
          generalize hmm10 : ch_wr m3 (9, 0, 10) (Int32.toNatClampNeg x2) ((m (9, 0, 10) (Int32.toNatClampNeg (if (x2 + x3) < 12 then (x2 + x3) else 12))) + 1) = m10
          replace h := h m10 hmm10.symm
          refine ch_aload_n (i := 0) d_m_looks_127 rfl rfl ?_
          refine ch_get (v := .inr (9, 0, 11)) d_m_looks_128 fl_m_45 rfl ?_
          refine ch_iload_n (i := 2) d_m_looks_131 rfl rfl ?_
          refine ch_aload_n (i := 0) d_m_looks_132 rfl rfl ?_
          refine ch_get (v := .inr (9, 0, 11)) d_m_looks_133 fl_m_45 rfl ?_
          refine ch_iload d_m_looks_136 rfl ?_
          refine ch_iald (n := 13) d_m_looks_138 (by decide) rfl b1 ?_
          refine ch_iconst (v := 1) d_m_looks_139 (by decide) ?_
          refine ch_iadd d_m_looks_140 ?_
          refine ch_iast (n := 13) d_m_looks_141 (by decide) rfl b9 ?_
          show ch_J g _ _ _ _ _ _ (ch_wr m10 (9, 0, 11) (Int32.toNatClampNeg x2) ((m10 (9, 0, 11) (Int32.toNatClampNeg (if (x2 + x3) < 12 then (x2 + x3) else 12))) + 1)) _
          generalize hmm11 : ch_wr m10 (9, 0, 11) (Int32.toNatClampNeg x2) ((m10 (9, 0, 11) (Int32.toNatClampNeg (if (x2 + x3) < 12 then (x2 + x3) else 12))) + 1) = m11
          replace h := h m11 hmm11.symm
          refine ch_iinc (i := 3) (v := (x3 + 1)) d_m_looks_142 rfl rfl (Nat.le_of_ble_eq_true rfl) (ls' := [some (.inr (9, 0, 0)), some (.inl (.int x1)), some (.inl (.int x2)), some (.inl (.int (x3 + 1))), some (.inl (.int (if (x2 + x3) < 12 then (x2 + x3) else 12))), some (.inl (.int ((m (9, 0, 10) (Int32.toNatClampNeg (if (x2 + x3) < 12 then (x2 + x3) else 12))) + 1)))]) rfl ?_
          refine ch_goto (tgt := 33) d_m_looks_145 (by decide) ?_
          exact h
        · replace h := h.2 c
          refine ch_aload_n (i := 0) d_m_looks_98 rfl rfl ?_
          refine ch_get (v := .inr (9, 0, 11)) d_m_looks_99 fl_m_45 rfl ?_
          refine ch_iload d_m_looks_102 rfl ?_
          refine ch_iald (n := 13) d_m_looks_104 (by decide) rfl b1 ?_
          refine ch_iconst (v := 1) d_m_looks_105 (by decide) ?_
          refine ch_iadd d_m_looks_106 ?_
          refine ch_aload_n (i := 0) d_m_looks_107 rfl rfl ?_
          refine ch_get (v := .inr (9, 0, 11)) d_m_looks_108 fl_m_45 rfl ?_
          refine ch_iload_n (i := 2) d_m_looks_111 rfl rfl ?_
          refine ch_iald (n := 13) d_m_looks_112 (by decide) rfl b9 ?_
          refine ch_icmp_lt (tgt := 119) d_m_looks_113 (by decide) (fun c => ?_) (fun c => ?_)
          · replace h := h.1 c
            refine ch_aload_n (i := 0) d_m_looks_119 rfl rfl ?_
            refine ch_get (v := .inr (9, 0, 10)) d_m_looks_120 fl_m_42 rfl ?_
            refine ch_iload_n (i := 2) d_m_looks_123 rfl rfl ?_
            refine ch_iload d_m_looks_124 rfl ?_
            refine ch_iast (n := 13) d_m_looks_126 (by decide) rfl b9 ?_
            show ch_J g _ _ _ _ _ _ (ch_wr m3 (9, 0, 10) (Int32.toNatClampNeg x2) ((m (9, 0, 10) (Int32.toNatClampNeg (if (x2 + x3) < 12 then (x2 + x3) else 12))) + 1)) _
            generalize hmm12 : ch_wr m3 (9, 0, 10) (Int32.toNatClampNeg x2) ((m (9, 0, 10) (Int32.toNatClampNeg (if (x2 + x3) < 12 then (x2 + x3) else 12))) + 1) = m12
            replace h := h m12 hmm12.symm
            refine ch_aload_n (i := 0) d_m_looks_127 rfl rfl ?_
            refine ch_get (v := .inr (9, 0, 11)) d_m_looks_128 fl_m_45 rfl ?_
            refine ch_iload_n (i := 2) d_m_looks_131 rfl rfl ?_
            refine ch_aload_n (i := 0) d_m_looks_132 rfl rfl ?_
            refine ch_get (v := .inr (9, 0, 11)) d_m_looks_133 fl_m_45 rfl ?_
            refine ch_iload d_m_looks_136 rfl ?_
            refine ch_iald (n := 13) d_m_looks_138 (by decide) rfl b1 ?_
            refine ch_iconst (v := 1) d_m_looks_139 (by decide) ?_
            refine ch_iadd d_m_looks_140 ?_
            refine ch_iast (n := 13) d_m_looks_141 (by decide) rfl b9 ?_
            show ch_J g _ _ _ _ _ _ (ch_wr m12 (9, 0, 11) (Int32.toNatClampNeg x2) ((m12 (9, 0, 11) (Int32.toNatClampNeg (if (x2 + x3) < 12 then (x2 + x3) else 12))) + 1)) _
            generalize hmm13 : ch_wr m12 (9, 0, 11) (Int32.toNatClampNeg x2) ((m12 (9, 0, 11) (Int32.toNatClampNeg (if (x2 + x3) < 12 then (x2 + x3) else 12))) + 1) = m13
            replace h := h m13 hmm13.symm
            refine ch_iinc (i := 3) (v := (x3 + 1)) d_m_looks_142 rfl rfl (Nat.le_of_ble_eq_true rfl) (ls' := [some (.inr (9, 0, 0)), some (.inl (.int x1)), some (.inl (.int x2)), some (.inl (.int (x3 + 1))), some (.inl (.int (if (x2 + x3) < 12 then (x2 + x3) else 12))), some (.inl (.int ((m (9, 0, 10) (Int32.toNatClampNeg (if (x2 + x3) < 12 then (x2 + x3) else 12))) + 1)))]) rfl ?_
            refine ch_goto (tgt := 33) d_m_looks_145 (by decide) ?_
            exact h
          · replace h := h.2 c
            refine ch_goto (tgt := 142) d_m_looks_116 (by decide) ?_
            refine ch_iinc (i := 3) (v := (x3 + 1)) d_m_looks_142 rfl rfl (Nat.le_of_ble_eq_true rfl) (ls' := [some (.inr (9, 0, 0)), some (.inl (.int x1)), some (.inl (.int x2)), some (.inl (.int (x3 + 1))), some (.inl (.int (if (x2 + x3) < 12 then (x2 + x3) else 12))), some (.inl (.int ((m (9, 0, 10) (Int32.toNatClampNeg (if (x2 + x3) < 12 then (x2 + x3) else 12))) + 1)))]) rfl ?_
            refine ch_goto (tgt := 33) d_m_looks_145 (by decide) ?_
            exact h
theorem e_m_fewest (g : ch_G) (Q : ch_O → ch_M → Prop) (p1 : Int32) (m : ch_M) (h : ch_J g m_m_fewest (ch_rm m_m_fewest) (ch_E g m_m_fewest Q) 0 [some (.inr (9, 0, 0)), some (.inl (.int p1))] [] m 0) : ch_C g m_m_fewest [.inr (9, 0, 0), .inl (.int p1)] m Q :=
  ch_enter mf_m_fewest (by intro v hv; simp only [List.mem_cons, List.not_mem_nil, or_false] at hv; rcases hv with rfl | rfl <;> rfl) (Nat.le_of_ble_eq_true rfl) h
set_option maxHeartbeats 1600000 in
theorem g_m_fewest_0 (g : ch_G) (Q : ch_O → ch_M → Prop) (p1 : Int32) (m : ch_M) (h : (ch_C g m_m_isChild [.inr (9, 0, 0), .inl (.int p1)] m (ch_oi (fun (r1 : Int32) (m2 : ch_M) => ((r1 = 0 → (∀ m3 : ch_M, m3 = ch_wr m2 (9, 0, 0) 19 1 → (((m3 (9, 0, 0) 19) ≤ 0 → (ch_C g m_m_looks [.inr (9, 0, 0), .inl (.int p1)] m3 (ch_ov (fun (m5 : ch_M) => Q (.inl (some (.inl (.int (m5 (9, 0, 10) (0)))))) m5)))) ∧ (¬ (m3 (9, 0, 0) 19) ≤ 0 → Q (.inl (some (.inl (.int 0)))) m3)))) ∧ (¬ r1 = 0 → (∀ m6 : ch_M, m6 = ch_wr m2 (9, 0, 0) 19 0 → (((m6 (9, 0, 0) 19) ≤ 0 → (ch_C g m_m_looks [.inr (9, 0, 0), .inl (.int p1)] m6 (ch_ov (fun (m8 : ch_M) => Q (.inl (some (.inl (.int (m8 (9, 0, 10) (0)))))) m8)))) ∧ (¬ (m6 (9, 0, 0) 19) ≤ 0 → Q (.inl (some (.inl (.int 0)))) m6))))))))) : ch_J g m_m_fewest (ch_rm m_m_fewest) (ch_E g m_m_fewest Q) 0 [some (.inr (9, 0, 0)), some (.inl (.int p1))] [] m 0 := by
  refine ch_aload_n (i := 0) d_m_fewest_0 rfl rfl ?_
  refine ch_aload_n (i := 0) d_m_fewest_1 rfl rfl ?_
  refine ch_iload_n (i := 1) d_m_fewest_2 rfl rfl ?_
  refine ch_callV (as := [.inl (.int p1)]) d_m_fewest_3 lk_m_77 mi_m_isChild me_m_isChild rfl rfl rfl ⟨Nat.le_of_ble_eq_true rfl, Nat.le_of_ble_eq_true rfl⟩ (Nat.le_of_ble_eq_true rfl) ⟨Nat.le_of_ble_eq_true rfl, Nat.le_of_ble_eq_true rfl⟩ (ch_mono (ch_Ki (fun r1 m2 h => ?_)) h)
  refine ch_if_eq (tgt := 13) d_m_fewest_6 (by decide) (fun c => ?_) (fun c => ?_)
  · replace h := h.1 c
    refine ch_iconst (v := 1) d_m_fewest_13 (by decide) ?_
    refine ch_put d_m_fewest_14 fp_m_48 rfl rfl rfl ?_
    generalize hmm3 : ch_wr m2 (9, 0, 0) 19 1 = m3
    replace h := h m3 hmm3.symm
    refine ch_aload_n (i := 0) d_m_fewest_17 rfl rfl ?_
    refine ch_get (v := .inl (.int (m3 (9, 0, 0) 19))) d_m_fewest_18 fl_m_48 rfl ?_
    refine ch_if_le (tgt := 26) d_m_fewest_21 (by decide) (fun c => ?_) (fun c => ?_)
    · replace h := h.1 c
      refine ch_aload_n (i := 0) d_m_fewest_26 rfl rfl ?_
      refine ch_iload_n (i := 1) d_m_fewest_27 rfl rfl ?_
      refine ch_callV (as := [.inl (.int p1)]) d_m_fewest_28 lk_m_185 mi_m_looks me_m_looks rfl rfl rfl ⟨Nat.le_of_ble_eq_true rfl, Nat.le_of_ble_eq_true rfl⟩ (Nat.le_of_ble_eq_true rfl) ⟨Nat.le_of_ble_eq_true rfl, Nat.le_of_ble_eq_true rfl⟩ (ch_mono (ch_Kv (fun m5 h => ?_)) h)
      refine ch_aload_n (i := 0) d_m_fewest_31 rfl rfl ?_
      refine ch_get (v := .inr (9, 0, 10)) d_m_fewest_32 fl_m_42 rfl ?_
      refine ch_iconst (v := 0) d_m_fewest_35 (by decide) ?_
      refine ch_iald (n := 13) d_m_fewest_36 (by decide) rfl (vp_in_nI (n := 0) (by decide) (by decide)) ?_
      exact ch_iret (ty := .int) d_m_fewest_37 rfl rfl (Nat.le_of_ble_eq_true rfl) h
    · replace h := h.2 c
      refine ch_iconst (v := 0) d_m_fewest_24 (by decide) ?_
      exact ch_iret (ty := .int) d_m_fewest_25 rfl rfl (Nat.le_of_ble_eq_true rfl) h
  · replace h := h.2 c
    refine ch_iconst (v := 0) d_m_fewest_9 (by decide) ?_
    refine ch_goto (tgt := 14) d_m_fewest_10 (by decide) ?_
    refine ch_put d_m_fewest_14 fp_m_48 rfl rfl rfl ?_
    generalize hmm6 : ch_wr m2 (9, 0, 0) 19 0 = m6
    replace h := h m6 hmm6.symm
    refine ch_aload_n (i := 0) d_m_fewest_17 rfl rfl ?_
    refine ch_get (v := .inl (.int (m6 (9, 0, 0) 19))) d_m_fewest_18 fl_m_48 rfl ?_
    refine ch_if_le (tgt := 26) d_m_fewest_21 (by decide) (fun c => ?_) (fun c => ?_)
    · replace h := h.1 c
      refine ch_aload_n (i := 0) d_m_fewest_26 rfl rfl ?_
      refine ch_iload_n (i := 1) d_m_fewest_27 rfl rfl ?_
      refine ch_callV (as := [.inl (.int p1)]) d_m_fewest_28 lk_m_185 mi_m_looks me_m_looks rfl rfl rfl ⟨Nat.le_of_ble_eq_true rfl, Nat.le_of_ble_eq_true rfl⟩ (Nat.le_of_ble_eq_true rfl) ⟨Nat.le_of_ble_eq_true rfl, Nat.le_of_ble_eq_true rfl⟩ (ch_mono (ch_Kv (fun m8 h => ?_)) h)
      refine ch_aload_n (i := 0) d_m_fewest_31 rfl rfl ?_
      refine ch_get (v := .inr (9, 0, 10)) d_m_fewest_32 fl_m_42 rfl ?_
      refine ch_iconst (v := 0) d_m_fewest_35 (by decide) ?_
      refine ch_iald (n := 13) d_m_fewest_36 (by decide) rfl (vp_in_nI (n := 0) (by decide) (by decide)) ?_
      exact ch_iret (ty := .int) d_m_fewest_37 rfl rfl (Nat.le_of_ble_eq_true rfl) h
    · replace h := h.2 c
      refine ch_iconst (v := 0) d_m_fewest_24 (by decide) ?_
      exact ch_iret (ty := .int) d_m_fewest_25 rfl rfl (Nat.le_of_ble_eq_true rfl) h
theorem e_m_fewestAgain (g : ch_G) (Q : ch_O → ch_M → Prop) (p1 : Int32) (m : ch_M) (h : ch_J g m_m_fewestAgain (ch_rm m_m_fewestAgain) (ch_E g m_m_fewestAgain Q) 0 [some (.inr (9, 0, 0)), some (.inl (.int p1))] [] m 0) : ch_C g m_m_fewestAgain [.inr (9, 0, 0), .inl (.int p1)] m Q :=
  ch_enter mf_m_fewestAgain (by intro v hv; simp only [List.mem_cons, List.not_mem_nil, or_false] at hv; rcases hv with rfl | rfl <;> rfl) (Nat.le_of_ble_eq_true rfl) h
set_option maxHeartbeats 1600000 in
theorem g_m_fewestAgain_0 (g : ch_G) (Q : ch_O → ch_M → Prop) (p1 : Int32) (m : ch_M) (h : (ch_C g m_m_fewest [.inr (9, 0, 0), .inl (.int p1)] m (ch_oi (fun (r1 : Int32) (m2 : ch_M) => Q (.inl (some (.inl (.int r1)))) m2)))) : ch_J g m_m_fewestAgain (ch_rm m_m_fewestAgain) (ch_E g m_m_fewestAgain Q) 0 [some (.inr (9, 0, 0)), some (.inl (.int p1))] [] m 0 := by
  refine ch_aload_n (i := 0) d_m_fewestAgain_0 rfl rfl ?_
  refine ch_iload_n (i := 1) d_m_fewestAgain_1 rfl rfl ?_
  refine ch_callV (as := [.inl (.int p1)]) d_m_fewestAgain_2 lk_m_188 mi_m_fewest me_m_fewest rfl rfl rfl ⟨Nat.le_of_ble_eq_true rfl, Nat.le_of_ble_eq_true rfl⟩ (Nat.le_of_ble_eq_true rfl) ⟨Nat.le_of_ble_eq_true rfl, Nat.le_of_ble_eq_true rfl⟩ (ch_mono (ch_Ki (fun r1 m2 h => ?_)) h)
  exact ch_iret (ty := .int) d_m_fewestAgain_5 rfl rfl (Nat.le_of_ble_eq_true rfl) h
theorem e_m_step (g : ch_G) (Q : ch_O → ch_M → Prop) (p1 : Int32) (p2 : Int32) (m : ch_M) (h : ch_J g m_m_step (ch_rm m_m_step) (ch_E g m_m_step Q) 0 [some (.inr (9, 0, 0)), some (.inl (.int p1)), some (.inl (.int p2)), none, none, none] [] m 0) : ch_C g m_m_step [.inr (9, 0, 0), .inl (.int p1), .inl (.int p2)] m Q :=
  ch_enter mf_m_step (by intro v hv; simp only [List.mem_cons, List.not_mem_nil, or_false] at hv; rcases hv with rfl | rfl | rfl <;> rfl) (Nat.le_of_ble_eq_true rfl) h
set_option maxHeartbeats 1600000 in
theorem g_m_step_0 (g : ch_G) (Q : ch_O → ch_M → Prop) (p1 : Int32) (p2 : Int32) (m : ch_M) (h : (∀ m1 : ch_M, m1 = ch_wr m (9, 0, 0) 19 0 → (ch_C g m_m_isChild [.inr (9, 0, 0), .inl (.int p1)] m1 (ch_oi (fun (r2 : Int32) (m3 : ch_M) => ((¬ r2 = 0 → (ch_C g m_m_looks [.inr (9, 0, 0), .inl (.int p1)] m3 (ch_ov (fun (m5 : ch_M) => (ch_C g m_m_in [.inl (.int p2), .inl (.int 0), .inl (.int ((m5 (9, 0, 11) (0)) - 1))] m5 (ch_oi (fun (r6 : Int32) (m7 : ch_M) => ((¬ r6 = 0 → ch_J g m_m_step (ch_rm m_m_step) (ch_E g m_m_step Q) 51 [some (.inr (9, 0, 0)), some (.inl (.int p1)), some (.inl (.int p2)), some (.inl (.int 0)), some (.inl (.int 0)), none] [] m7 0) ∧ (r6 = 0 → (ch_C g m_m_raises [.inr (9, 0, 0), .inl (.int 2)] m7 (ch_oi (fun (r8 : Int32) (m9 : ch_M) => Q (.inl (some (.inl (.int r8)))) m9)))))))))))) ∧ (r2 = 0 → (ch_C g m_m_raises [.inr (9, 0, 0), .inl (.int 1)] m3 (ch_oi (fun (r10 : Int32) (m11 : ch_M) => Q (.inl (some (.inl (.int r10)))) m11)))))))))) : ch_J g m_m_step (ch_rm m_m_step) (ch_E g m_m_step Q) 0 [some (.inr (9, 0, 0)), some (.inl (.int p1)), some (.inl (.int p2)), none, none, none] [] m 0 := by
  refine ch_aload_n (i := 0) d_m_step_0 rfl rfl ?_
  refine ch_iconst (v := 0) d_m_step_1 (by decide) ?_
  refine ch_put d_m_step_2 fp_m_48 rfl rfl rfl ?_
  generalize hmm1 : ch_wr m (9, 0, 0) 19 0 = m1
  replace h := h m1 hmm1.symm
  refine ch_aload_n (i := 0) d_m_step_5 rfl rfl ?_
  refine ch_iload_n (i := 1) d_m_step_6 rfl rfl ?_
  refine ch_callV (as := [.inl (.int p1)]) d_m_step_7 lk_m_77 mi_m_isChild me_m_isChild rfl rfl rfl ⟨Nat.le_of_ble_eq_true rfl, Nat.le_of_ble_eq_true rfl⟩ (Nat.le_of_ble_eq_true rfl) ⟨Nat.le_of_ble_eq_true rfl, Nat.le_of_ble_eq_true rfl⟩ (ch_mono (ch_Ki (fun r2 m3 h => ?_)) h)
  refine ch_if_ne (tgt := 19) d_m_step_10 (by decide) (fun c => ?_) (fun c => ?_)
  · replace h := h.1 c
    refine ch_aload_n (i := 0) d_m_step_19 rfl rfl ?_
    refine ch_iload_n (i := 1) d_m_step_20 rfl rfl ?_
    refine ch_callV (as := [.inl (.int p1)]) d_m_step_21 lk_m_185 mi_m_looks me_m_looks rfl rfl rfl ⟨Nat.le_of_ble_eq_true rfl, Nat.le_of_ble_eq_true rfl⟩ (Nat.le_of_ble_eq_true rfl) ⟨Nat.le_of_ble_eq_true rfl, Nat.le_of_ble_eq_true rfl⟩ (ch_mono (ch_Kv (fun m5 h => ?_)) h)
    refine ch_iload_n (i := 2) d_m_step_24 rfl rfl ?_
    refine ch_iconst (v := 0) d_m_step_25 (by decide) ?_
    refine ch_aload_n (i := 0) d_m_step_26 rfl rfl ?_
    refine ch_get (v := .inr (9, 0, 11)) d_m_step_27 fl_m_45 rfl ?_
    refine ch_iconst (v := 0) d_m_step_30 (by decide) ?_
    refine ch_iald (n := 13) d_m_step_31 (by decide) rfl (vp_in_nI (n := 0) (by decide) (by decide)) ?_
    refine ch_iconst (v := 1) d_m_step_32 (by decide) ?_
    refine ch_isub d_m_step_33 ?_
    refine ch_callS (as := [.inl (.int p2), .inl (.int 0), .inl (.int ((m5 (9, 0, 11) (0)) - 1))]) d_m_step_34 lk_m_73 ms_m_in rfl rfl ⟨Nat.le_of_ble_eq_true rfl, Nat.le_of_ble_eq_true rfl⟩ (Nat.le_of_ble_eq_true rfl) ⟨Nat.le_of_ble_eq_true rfl, Nat.le_of_ble_eq_true rfl⟩ (ch_mono (ch_Ki (fun r6 m7 h => ?_)) h)
    refine ch_if_ne (tgt := 46) d_m_step_37 (by decide) (fun c => ?_) (fun c => ?_)
    · replace h := h.1 c
      refine ch_iconst (v := 0) d_m_step_46 (by decide) ?_
      refine ch_istore_n (i := 3) d_m_step_47 rfl (Nat.le_of_ble_eq_true rfl) (ls' := [some (.inr (9, 0, 0)), some (.inl (.int p1)), some (.inl (.int p2)), some (.inl (.int 0)), none, none]) rfl ?_
      refine ch_iconst (v := 0) d_m_step_48 (by decide) ?_
      refine ch_istore (i := 4) d_m_step_49 (Nat.le_of_ble_eq_true rfl) (ls' := [some (.inr (9, 0, 0)), some (.inl (.int p1)), some (.inl (.int p2)), some (.inl (.int 0)), some (.inl (.int 0)), none]) rfl ?_
      exact h
    · replace h := h.2 c
      refine ch_aload_n (i := 0) d_m_step_40 rfl rfl ?_
      refine ch_iconst (v := 2) d_m_step_41 (by decide) ?_
      refine ch_callV (as := [.inl (.int 2)]) d_m_step_42 lk_m_70 mi_m_raises me_m_raises rfl rfl rfl ⟨Nat.le_of_ble_eq_true rfl, Nat.le_of_ble_eq_true rfl⟩ (Nat.le_of_ble_eq_true rfl) ⟨Nat.le_of_ble_eq_true rfl, Nat.le_of_ble_eq_true rfl⟩ (ch_mono (ch_Ki (fun r8 m9 h => ?_)) h)
      exact ch_iret (ty := .int) d_m_step_45 rfl rfl (Nat.le_of_ble_eq_true rfl) h
  · replace h := h.2 c
    refine ch_aload_n (i := 0) d_m_step_13 rfl rfl ?_
    refine ch_iconst (v := 1) d_m_step_14 (by decide) ?_
    refine ch_callV (as := [.inl (.int 1)]) d_m_step_15 lk_m_70 mi_m_raises me_m_raises rfl rfl rfl ⟨Nat.le_of_ble_eq_true rfl, Nat.le_of_ble_eq_true rfl⟩ (Nat.le_of_ble_eq_true rfl) ⟨Nat.le_of_ble_eq_true rfl, Nat.le_of_ble_eq_true rfl⟩ (ch_mono (ch_Ki (fun r10 m11 h => ?_)) h)
    exact ch_iret (ty := .int) d_m_step_18 rfl rfl (Nat.le_of_ble_eq_true rfl) h
set_option maxHeartbeats 1600000 in
theorem g_m_step_51 (g : ch_G) (Q : ch_O → ch_M → Prop) (x1 : Int32) (x2 : Int32) (x3 : Int32) (x4 : Int32) (o5 : Option ch_V) (m : ch_M) (h : ((x2 < x4 → Q (.inl (some (.inl (.int 0)))) m) ∧ (¬ x2 < x4 → ch_J g m_m_step (ch_rm m_m_step) (ch_E g m_m_step Q) 60 [some (.inr (9, 0, 0)), some (.inl (.int x1)), some (.inl (.int x2)), some (.inl (.int x3)), some (.inl (.int x4)), some (.inl (.int 3))] [] m 0))) : ch_J g m_m_step (ch_rm m_m_step) (ch_E g m_m_step Q) 51 [some (.inr (9, 0, 0)), some (.inl (.int x1)), some (.inl (.int x2)), some (.inl (.int x3)), some (.inl (.int x4)), o5] [] m 0 := by
  refine ch_iload d_m_step_51 rfl ?_
  refine ch_iload_n (i := 2) d_m_step_53 rfl rfl ?_
  refine ch_icmp_gt (tgt := 97) d_m_step_54 (by decide) (fun c => ?_) (fun c => ?_)
  · replace h := h.1 c
    refine ch_iconst (v := 0) d_m_step_97 (by decide) ?_
    exact ch_iret (ty := .int) d_m_step_98 rfl rfl (Nat.le_of_ble_eq_true rfl) h
  · replace h := h.2 c
    refine ch_iconst (v := 3) d_m_step_57 (by decide) ?_
    refine ch_istore (i := 5) d_m_step_58 (Nat.le_of_ble_eq_true rfl) (ls' := [some (.inr (9, 0, 0)), some (.inl (.int x1)), some (.inl (.int x2)), some (.inl (.int x3)), some (.inl (.int x4)), some (.inl (.int 3))]) rfl ?_
    exact h
set_option maxHeartbeats 1600000 in
theorem g_m_step_60 (g : ch_G) (Q : ch_O → ch_M → Prop) (x1 : Int32) (x2 : Int32) (x3 : Int32) (x4 : Int32) (x5 : Int32) (m : ch_M) (h : (ch_C g m_m_isBest [.inr (9, 0, 0), .inl (.int x1), .inl (.int x3), .inl (.int x5)] m (ch_oi (fun (r1 : Int32) (m2 : ch_M) => ((¬ r1 = 0 → ((¬ x4 = x2 → ch_J g m_m_step (ch_rm m_m_step) (ch_E g m_m_step Q) 51 [some (.inr (9, 0, 0)), some (.inl (.int x1)), some (.inl (.int x2)), some (.inl (.int (x3 + x5))), some (.inl (.int (x4 + 1))), some (.inl (.int x5))] [] m2 0) ∧ (x4 = x2 → Q (.inl (some (.inl (.int x5)))) m2))) ∧ (r1 = 0 → ch_J g m_m_step (ch_rm m_m_step) (ch_E g m_m_step Q) 60 [some (.inr (9, 0, 0)), some (.inl (.int x1)), some (.inl (.int x2)), some (.inl (.int x3)), some (.inl (.int x4)), some (.inl (.int (x5 + (-1))))] [] m2 0)))))) : ch_J g m_m_step (ch_rm m_m_step) (ch_E g m_m_step Q) 60 [some (.inr (9, 0, 0)), some (.inl (.int x1)), some (.inl (.int x2)), some (.inl (.int x3)), some (.inl (.int x4)), some (.inl (.int x5))] [] m 0 := by
  refine ch_aload_n (i := 0) d_m_step_60 rfl rfl ?_
  refine ch_iload_n (i := 1) d_m_step_61 rfl rfl ?_
  refine ch_iload_n (i := 3) d_m_step_62 rfl rfl ?_
  refine ch_iload d_m_step_63 rfl ?_
  refine ch_callV (as := [.inl (.int x1), .inl (.int x3), .inl (.int x5)]) d_m_step_65 lk_m_191 mi_m_isBest me_m_isBest rfl rfl rfl ⟨Nat.le_of_ble_eq_true rfl, Nat.le_of_ble_eq_true rfl⟩ (Nat.le_of_ble_eq_true rfl) ⟨Nat.le_of_ble_eq_true rfl, Nat.le_of_ble_eq_true rfl⟩ (ch_mono (ch_Ki (fun r1 m2 h => ?_)) h)
  refine ch_if_ne (tgt := 77) d_m_step_68 (by decide) (fun c => ?_) (fun c => ?_)
  · replace h := h.1 c
    refine ch_iload d_m_step_77 rfl ?_
    refine ch_iload_n (i := 2) d_m_step_79 rfl rfl ?_
    refine ch_icmp_ne (tgt := 86) d_m_step_80 (by decide) (fun c => ?_) (fun c => ?_)
    · replace h := h.1 c
      refine ch_iload_n (i := 3) d_m_step_86 rfl rfl ?_
      refine ch_iload d_m_step_87 rfl ?_
      refine ch_iadd d_m_step_89 ?_
      refine ch_istore_n (i := 3) d_m_step_90 rfl (Nat.le_of_ble_eq_true rfl) (ls' := [some (.inr (9, 0, 0)), some (.inl (.int x1)), some (.inl (.int x2)), some (.inl (.int (x3 + x5))), some (.inl (.int x4)), some (.inl (.int x5))]) rfl ?_
      refine ch_iinc (i := 4) (v := (x4 + 1)) d_m_step_91 rfl rfl (Nat.le_of_ble_eq_true rfl) (ls' := [some (.inr (9, 0, 0)), some (.inl (.int x1)), some (.inl (.int x2)), some (.inl (.int (x3 + x5))), some (.inl (.int (x4 + 1))), some (.inl (.int x5))]) rfl ?_
      refine ch_goto (tgt := 51) d_m_step_94 (by decide) ?_
      exact h
    · replace h := h.2 c
      refine ch_iload d_m_step_83 rfl ?_
      exact ch_iret (ty := .int) d_m_step_85 rfl rfl (Nat.le_of_ble_eq_true rfl) h
  · replace h := h.2 c
    refine ch_iinc (i := 5) (v := (x5 + (-1))) d_m_step_71 rfl rfl (Nat.le_of_ble_eq_true rfl) (ls' := [some (.inr (9, 0, 0)), some (.inl (.int x1)), some (.inl (.int x2)), some (.inl (.int x3)), some (.inl (.int x4)), some (.inl (.int (x5 + (-1))))]) rfl ?_
    refine ch_goto (tgt := 60) d_m_step_74 (by decide) ?_
    exact h
theorem e_m_isBest (g : ch_G) (Q : ch_O → ch_M → Prop) (p1 : Int32) (p2 : Int32) (p3 : Int32) (m : ch_M) (h : ch_J g m_m_isBest (ch_rm m_m_isBest) (ch_E g m_m_isBest Q) 0 [some (.inr (9, 0, 0)), some (.inl (.int p1)), some (.inl (.int p2)), some (.inl (.int p3)), none] [] m 0) : ch_C g m_m_isBest [.inr (9, 0, 0), .inl (.int p1), .inl (.int p2), .inl (.int p3)] m Q :=
  ch_enter mf_m_isBest (by intro v hv; simp only [List.mem_cons, List.not_mem_nil, or_false] at hv; rcases hv with rfl | rfl | rfl | rfl <;> rfl) (Nat.le_of_ble_eq_true rfl) h
set_option maxHeartbeats 1600000 in
theorem g_m_isBest_0 (g : ch_G) (Q : ch_O → ch_M → Prop) (p1 : Int32) (p2 : Int32) (p3 : Int32) (m : ch_M) (h : (vp_in (if (p2 + p3) < 12 then (p2 + p3) else 12) 13) ∧ (ch_C g m_m_isLine [.inr (9, 0, 0), .inl (.int p1), .inl (.int ((p2 + p3) - 1))] m (ch_oi (fun (r2 : Int32) (m3 : ch_M) => ((r2 = 0 → (vp_in p2 13) ∧ ((¬ ((m (9, 0, 10) (Int32.toNatClampNeg (if (p2 + p3) < 12 then (p2 + p3) else 12))) + 0) = (m3 (9, 0, 10) (Int32.toNatClampNeg p2)) → Q (.inl (some (.inl (.int 0)))) m3) ∧ (((m (9, 0, 10) (Int32.toNatClampNeg (if (p2 + p3) < 12 then (p2 + p3) else 12))) + 0) = (m3 (9, 0, 10) (Int32.toNatClampNeg p2)) → ((¬ ((m3 (9, 0, 11) (Int32.toNatClampNeg (if (p2 + p3) < 12 then (p2 + p3) else 12))) + 1) = (m3 (9, 0, 11) (Int32.toNatClampNeg p2)) → Q (.inl (some (.inl (.int 0)))) m3) ∧ (((m3 (9, 0, 11) (Int32.toNatClampNeg (if (p2 + p3) < 12 then (p2 + p3) else 12))) + 1) = (m3 (9, 0, 11) (Int32.toNatClampNeg p2)) → Q (.inl (some (.inl (.int 1)))) m3))))) ∧ (¬ r2 = 0 → (vp_in p2 13) ∧ ((¬ ((m (9, 0, 10) (Int32.toNatClampNeg (if (p2 + p3) < 12 then (p2 + p3) else 12))) + 1) = (m3 (9, 0, 10) (Int32.toNatClampNeg p2)) → Q (.inl (some (.inl (.int 0)))) m3) ∧ (((m (9, 0, 10) (Int32.toNatClampNeg (if (p2 + p3) < 12 then (p2 + p3) else 12))) + 1) = (m3 (9, 0, 10) (Int32.toNatClampNeg p2)) → ((¬ ((m3 (9, 0, 11) (Int32.toNatClampNeg (if (p2 + p3) < 12 then (p2 + p3) else 12))) + 1) = (m3 (9, 0, 11) (Int32.toNatClampNeg p2)) → Q (.inl (some (.inl (.int 0)))) m3) ∧ (((m3 (9, 0, 11) (Int32.toNatClampNeg (if (p2 + p3) < 12 then (p2 + p3) else 12))) + 1) = (m3 (9, 0, 11) (Int32.toNatClampNeg p2)) → Q (.inl (some (.inl (.int 1)))) m3)))))))))) : ch_J g m_m_isBest (ch_rm m_m_isBest) (ch_E g m_m_isBest Q) 0 [some (.inr (9, 0, 0)), some (.inl (.int p1)), some (.inl (.int p2)), some (.inl (.int p3)), none] [] m 0 := by
  refine ch_bipush (v := 12) d_m_isBest_0 (by decide) ?_
  refine ch_iload_n (i := 2) d_m_isBest_2 rfl rfl ?_
  refine ch_iload_n (i := 3) d_m_isBest_3 rfl rfl ?_
  refine ch_iadd d_m_isBest_4 ?_
  refine ch_min d_m_isBest_5 lk_m_118 ⟨Nat.le_of_ble_eq_true rfl, Nat.le_of_ble_eq_true rfl⟩ ⟨Nat.le_of_ble_eq_true rfl, Nat.le_of_ble_eq_true rfl⟩ (Nat.le_of_ble_eq_true rfl) ?_
  refine ch_istore (i := 4) d_m_isBest_8 (Nat.le_of_ble_eq_true rfl) (ls' := [some (.inr (9, 0, 0)), some (.inl (.int p1)), some (.inl (.int p2)), some (.inl (.int p3)), some (.inl (.int (if (p2 + p3) < 12 then (p2 + p3) else 12)))]) rfl ?_
  refine ch_aload_n (i := 0) d_m_isBest_10 rfl rfl ?_
  refine ch_get (v := .inr (9, 0, 10)) d_m_isBest_11 fl_m_42 rfl ?_
  refine ch_iload d_m_isBest_14 rfl ?_
  have b1 := h.1
  replace h := h.2
  refine ch_iald (n := 13) d_m_isBest_16 (by decide) rfl b1 ?_
  refine ch_aload_n (i := 0) d_m_isBest_17 rfl rfl ?_
  refine ch_iload_n (i := 1) d_m_isBest_18 rfl rfl ?_
  refine ch_iload_n (i := 2) d_m_isBest_19 rfl rfl ?_
  refine ch_iload_n (i := 3) d_m_isBest_20 rfl rfl ?_
  refine ch_iadd d_m_isBest_21 ?_
  refine ch_iconst (v := 1) d_m_isBest_22 (by decide) ?_
  refine ch_isub d_m_isBest_23 ?_
  refine ch_callV (as := [.inl (.int p1), .inl (.int ((p2 + p3) - 1))]) d_m_isBest_24 lk_m_129 mi_m_isLine me_m_isLine rfl rfl rfl ⟨Nat.le_of_ble_eq_true rfl, Nat.le_of_ble_eq_true rfl⟩ (Nat.le_of_ble_eq_true rfl) ⟨Nat.le_of_ble_eq_true rfl, Nat.le_of_ble_eq_true rfl⟩ (ch_mono (ch_Ki (fun r2 m3 h => ?_)) h)
  refine ch_if_eq (tgt := 34) d_m_isBest_27 (by decide) (fun c => ?_) (fun c => ?_)
  · replace h := h.1 c
    refine ch_iconst (v := 0) d_m_isBest_34 (by decide) ?_
    refine ch_iadd d_m_isBest_35 ?_
    refine ch_aload_n (i := 0) d_m_isBest_36 rfl rfl ?_
    refine ch_get (v := .inr (9, 0, 10)) d_m_isBest_37 fl_m_42 rfl ?_
    refine ch_iload_n (i := 2) d_m_isBest_40 rfl rfl ?_
    have b4 := h.1
    replace h := h.2
    refine ch_iald (n := 13) d_m_isBest_41 (by decide) rfl b4 ?_
    refine ch_icmp_ne (tgt := 67) d_m_isBest_42 (by decide) (fun c => ?_) (fun c => ?_)
    · replace h := h.1 c
      refine ch_iconst (v := 0) d_m_isBest_67 (by decide) ?_
      exact ch_iret (ty := .boolean) d_m_isBest_68 rfl rfl (Nat.le_of_ble_eq_true rfl) h
    · replace h := h.2 c
      refine ch_aload_n (i := 0) d_m_isBest_45 rfl rfl ?_
      refine ch_get (v := .inr (9, 0, 11)) d_m_isBest_46 fl_m_45 rfl ?_
      refine ch_iload d_m_isBest_49 rfl ?_
      refine ch_iald (n := 13) d_m_isBest_51 (by decide) rfl b1 ?_
      refine ch_iconst (v := 1) d_m_isBest_52 (by decide) ?_
      refine ch_iadd d_m_isBest_53 ?_
      refine ch_aload_n (i := 0) d_m_isBest_54 rfl rfl ?_
      refine ch_get (v := .inr (9, 0, 11)) d_m_isBest_55 fl_m_45 rfl ?_
      refine ch_iload_n (i := 2) d_m_isBest_58 rfl rfl ?_
      refine ch_iald (n := 13) d_m_isBest_59 (by decide) rfl b4 ?_
      refine ch_icmp_ne (tgt := 67) d_m_isBest_60 (by decide) (fun c => ?_) (fun c => ?_)
      · replace h := h.1 c
        refine ch_iconst (v := 0) d_m_isBest_67 (by decide) ?_
        exact ch_iret (ty := .boolean) d_m_isBest_68 rfl rfl (Nat.le_of_ble_eq_true rfl) h
      · replace h := h.2 c
        refine ch_iconst (v := 1) d_m_isBest_63 (by decide) ?_
        refine ch_goto (tgt := 68) d_m_isBest_64 (by decide) ?_
        exact ch_iret (ty := .boolean) d_m_isBest_68 rfl rfl (Nat.le_of_ble_eq_true rfl) h
  · replace h := h.2 c
    refine ch_iconst (v := 1) d_m_isBest_30 (by decide) ?_
    refine ch_goto (tgt := 35) d_m_isBest_31 (by decide) ?_
    refine ch_iadd d_m_isBest_35 ?_
    refine ch_aload_n (i := 0) d_m_isBest_36 rfl rfl ?_
    refine ch_get (v := .inr (9, 0, 10)) d_m_isBest_37 fl_m_42 rfl ?_
    refine ch_iload_n (i := 2) d_m_isBest_40 rfl rfl ?_
    have b5 := h.1
    replace h := h.2
    refine ch_iald (n := 13) d_m_isBest_41 (by decide) rfl b5 ?_
    refine ch_icmp_ne (tgt := 67) d_m_isBest_42 (by decide) (fun c => ?_) (fun c => ?_)
    · replace h := h.1 c
      refine ch_iconst (v := 0) d_m_isBest_67 (by decide) ?_
      exact ch_iret (ty := .boolean) d_m_isBest_68 rfl rfl (Nat.le_of_ble_eq_true rfl) h
    · replace h := h.2 c
      refine ch_aload_n (i := 0) d_m_isBest_45 rfl rfl ?_
      refine ch_get (v := .inr (9, 0, 11)) d_m_isBest_46 fl_m_45 rfl ?_
      refine ch_iload d_m_isBest_49 rfl ?_
      refine ch_iald (n := 13) d_m_isBest_51 (by decide) rfl b1 ?_
      refine ch_iconst (v := 1) d_m_isBest_52 (by decide) ?_
      refine ch_iadd d_m_isBest_53 ?_
      refine ch_aload_n (i := 0) d_m_isBest_54 rfl rfl ?_
      refine ch_get (v := .inr (9, 0, 11)) d_m_isBest_55 fl_m_45 rfl ?_
      refine ch_iload_n (i := 2) d_m_isBest_58 rfl rfl ?_
      refine ch_iald (n := 13) d_m_isBest_59 (by decide) rfl b5 ?_
      refine ch_icmp_ne (tgt := 67) d_m_isBest_60 (by decide) (fun c => ?_) (fun c => ?_)
      · replace h := h.1 c
        refine ch_iconst (v := 0) d_m_isBest_67 (by decide) ?_
        exact ch_iret (ty := .boolean) d_m_isBest_68 rfl rfl (Nat.le_of_ble_eq_true rfl) h
      · replace h := h.2 c
        refine ch_iconst (v := 1) d_m_isBest_63 (by decide) ?_
        refine ch_goto (tgt := 68) d_m_isBest_64 (by decide) ?_
        exact ch_iret (ty := .boolean) d_m_isBest_68 rfl rfl (Nat.le_of_ble_eq_true rfl) h
theorem e_m_wouldTread (g : ch_G) (Q : ch_O → ch_M → Prop) (p1 : Int32) (p2 : Int32) (m : ch_M) (h : ch_J g m_m_wouldTread (ch_rm m_m_wouldTread) (ch_E g m_m_wouldTread Q) 0 [some (.inr (9, 0, 0)), some (.inl (.int p1)), some (.inl (.int p2))] [] m 0) : ch_C g m_m_wouldTread [.inr (9, 0, 0), .inl (.int p1), .inl (.int p2)] m Q :=
  ch_enter mf_m_wouldTread (by intro v hv; simp only [List.mem_cons, List.not_mem_nil, or_false] at hv; rcases hv with rfl | rfl | rfl <;> rfl) (Nat.le_of_ble_eq_true rfl) h
set_option maxHeartbeats 1600000 in
theorem g_m_wouldTread_0 (g : ch_G) (Q : ch_O → ch_M → Prop) (p1 : Int32) (p2 : Int32) (m : ch_M) (h : (∀ m1 : ch_M, m1 = ch_wr m (9, 0, 0) 19 0 → (ch_C g m_m_isChild [.inr (9, 0, 0), .inl (.int p1)] m1 (ch_oi (fun (r2 : Int32) (m3 : ch_M) => ((¬ r2 = 0 → (ch_C g m_m_areSteps [.inr (9, 0, 0), .inl (.int p2)] m3 (ch_oi (fun (r4 : Int32) (m5 : ch_M) => ((r4 = 0 → (ch_C g m_m_raises [.inr (9, 0, 0), .inl (.int 2)] m5 (ch_oi (fun (r6 : Int32) (m7 : ch_M) => Q (.inl (some (.inl (.int r6)))) m7)))) ∧ (¬ r4 = 0 → (ch_C g m_m_isOver [.inr (9, 0, 0)] m5 (ch_oi (fun (r8 : Int32) (m9 : ch_M) => ((r8 = 0 → (ch_C g m_m_raises [.inr (9, 0, 0), .inl (.int 2)] m9 (ch_oi (fun (r10 : Int32) (m11 : ch_M) => Q (.inl (some (.inl (.int r10)))) m11)))) ∧ (¬ r8 = 0 → (ch_C g m_m_treadsBy [.inr (9, 0, 0), .inl (.int p1)] m9 (ch_oi (fun (r12 : Int32) (m13 : ch_M) => Q (.inl (some (.inl (.int r12)))) m13)))))))))))))) ∧ (r2 = 0 → (ch_C g m_m_raises [.inr (9, 0, 0), .inl (.int 1)] m3 (ch_oi (fun (r14 : Int32) (m15 : ch_M) => Q (.inl (some (.inl (.int r14)))) m15)))))))))) : ch_J g m_m_wouldTread (ch_rm m_m_wouldTread) (ch_E g m_m_wouldTread Q) 0 [some (.inr (9, 0, 0)), some (.inl (.int p1)), some (.inl (.int p2))] [] m 0 := by
  refine ch_aload_n (i := 0) d_m_wouldTread_0 rfl rfl ?_
  refine ch_iconst (v := 0) d_m_wouldTread_1 (by decide) ?_
  refine ch_put d_m_wouldTread_2 fp_m_48 rfl rfl rfl ?_
  generalize hmm1 : ch_wr m (9, 0, 0) 19 0 = m1
  replace h := h m1 hmm1.symm
  refine ch_aload_n (i := 0) d_m_wouldTread_5 rfl rfl ?_
  refine ch_iload_n (i := 1) d_m_wouldTread_6 rfl rfl ?_
  refine ch_callV (as := [.inl (.int p1)]) d_m_wouldTread_7 lk_m_77 mi_m_isChild me_m_isChild rfl rfl rfl ⟨Nat.le_of_ble_eq_true rfl, Nat.le_of_ble_eq_true rfl⟩ (Nat.le_of_ble_eq_true rfl) ⟨Nat.le_of_ble_eq_true rfl, Nat.le_of_ble_eq_true rfl⟩ (ch_mono (ch_Ki (fun r2 m3 h => ?_)) h)
  refine ch_if_ne (tgt := 19) d_m_wouldTread_10 (by decide) (fun c => ?_) (fun c => ?_)
  · replace h := h.1 c
    refine ch_aload_n (i := 0) d_m_wouldTread_19 rfl rfl ?_
    refine ch_iload_n (i := 2) d_m_wouldTread_20 rfl rfl ?_
    refine ch_callV (as := [.inl (.int p2)]) d_m_wouldTread_21 lk_m_147 mi_m_areSteps me_m_areSteps rfl rfl rfl ⟨Nat.le_of_ble_eq_true rfl, Nat.le_of_ble_eq_true rfl⟩ (Nat.le_of_ble_eq_true rfl) ⟨Nat.le_of_ble_eq_true rfl, Nat.le_of_ble_eq_true rfl⟩ (ch_mono (ch_Ki (fun r4 m5 h => ?_)) h)
    refine ch_if_eq (tgt := 42) d_m_wouldTread_24 (by decide) (fun c => ?_) (fun c => ?_)
    · replace h := h.1 c
      refine ch_aload_n (i := 0) d_m_wouldTread_42 rfl rfl ?_
      refine ch_iconst (v := 2) d_m_wouldTread_43 (by decide) ?_
      refine ch_callV (as := [.inl (.int 2)]) d_m_wouldTread_44 lk_m_70 mi_m_raises me_m_raises rfl rfl rfl ⟨Nat.le_of_ble_eq_true rfl, Nat.le_of_ble_eq_true rfl⟩ (Nat.le_of_ble_eq_true rfl) ⟨Nat.le_of_ble_eq_true rfl, Nat.le_of_ble_eq_true rfl⟩ (ch_mono (ch_Ki (fun r6 m7 h => ?_)) h)
      exact ch_iret (ty := .int) d_m_wouldTread_47 rfl rfl (Nat.le_of_ble_eq_true rfl) h
    · replace h := h.2 c
      refine ch_aload_n (i := 0) d_m_wouldTread_27 rfl rfl ?_
      refine ch_callV (as := []) d_m_wouldTread_28 lk_m_132 mi_m_isOver me_m_isOver rfl rfl rfl ⟨Nat.le_of_ble_eq_true rfl, Nat.le_of_ble_eq_true rfl⟩ (Nat.le_of_ble_eq_true rfl) ⟨Nat.le_of_ble_eq_true rfl, Nat.le_of_ble_eq_true rfl⟩ (ch_mono (ch_Ki (fun r8 m9 h => ?_)) h)
      refine ch_if_eq (tgt := 42) d_m_wouldTread_31 (by decide) (fun c => ?_) (fun c => ?_)
      · replace h := h.1 c
        refine ch_aload_n (i := 0) d_m_wouldTread_42 rfl rfl ?_
        refine ch_iconst (v := 2) d_m_wouldTread_43 (by decide) ?_
        refine ch_callV (as := [.inl (.int 2)]) d_m_wouldTread_44 lk_m_70 mi_m_raises me_m_raises rfl rfl rfl ⟨Nat.le_of_ble_eq_true rfl, Nat.le_of_ble_eq_true rfl⟩ (Nat.le_of_ble_eq_true rfl) ⟨Nat.le_of_ble_eq_true rfl, Nat.le_of_ble_eq_true rfl⟩ (ch_mono (ch_Ki (fun r10 m11 h => ?_)) h)
        exact ch_iret (ty := .int) d_m_wouldTread_47 rfl rfl (Nat.le_of_ble_eq_true rfl) h
      · replace h := h.2 c
        refine ch_aload_n (i := 0) d_m_wouldTread_34 rfl rfl ?_
        refine ch_iload_n (i := 1) d_m_wouldTread_35 rfl rfl ?_
        refine ch_callV (as := [.inl (.int p1)]) d_m_wouldTread_36 lk_m_194 mi_m_treadsBy me_m_treadsBy rfl rfl rfl ⟨Nat.le_of_ble_eq_true rfl, Nat.le_of_ble_eq_true rfl⟩ (Nat.le_of_ble_eq_true rfl) ⟨Nat.le_of_ble_eq_true rfl, Nat.le_of_ble_eq_true rfl⟩ (ch_mono (ch_Ki (fun r12 m13 h => ?_)) h)
        refine ch_goto (tgt := 47) d_m_wouldTread_39 (by decide) ?_
        exact ch_iret (ty := .int) d_m_wouldTread_47 rfl rfl (Nat.le_of_ble_eq_true rfl) h
  · replace h := h.2 c
    refine ch_aload_n (i := 0) d_m_wouldTread_13 rfl rfl ?_
    refine ch_iconst (v := 1) d_m_wouldTread_14 (by decide) ?_
    refine ch_callV (as := [.inl (.int 1)]) d_m_wouldTread_15 lk_m_70 mi_m_raises me_m_raises rfl rfl rfl ⟨Nat.le_of_ble_eq_true rfl, Nat.le_of_ble_eq_true rfl⟩ (Nat.le_of_ble_eq_true rfl) ⟨Nat.le_of_ble_eq_true rfl, Nat.le_of_ble_eq_true rfl⟩ (ch_mono (ch_Ki (fun r14 m15 h => ?_)) h)
    exact ch_iret (ty := .int) d_m_wouldTread_18 rfl rfl (Nat.le_of_ble_eq_true rfl) h
