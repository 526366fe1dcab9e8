theorem e_m_looks (g : ch_G) (Q : ch_O → ch_M → Prop) (p1 : Int32) (m : ch_M) (h : ch_J g m_m_looks (ch_rm m_m_looks) (ch_E g m_m_looks Q) 0 [some (.inr (9, 0, 0)), some (.inl (.int p1)), none, none, none, none] [] m 0) : ch_C g m_m_looks [.inr (9, 0, 0), .inl (.int p1)] m Q :=
  ch_enter mf_m_looks (by intro v hv; simp only [List.mem_cons, List.not_mem_nil, or_false] at hv; rcases hv with rfl | rfl <;> rfl) (Nat.le_of_ble_eq_true rfl) h
set_option maxHeartbeats 1600000 in
theorem g_m_looks_0 (g : ch_G) (Q : ch_O → ch_M → Prop) (p1 : Int32) (m : ch_M) (h : (∀ m1 : ch_M, m1 = ch_wr m (9, 0, 10) (12) 0 → (∀ m2 : ch_M, m2 = ch_wr m1 (9, 0, 11) (12) 0 → ch_J g m_m_looks (ch_rm m_m_looks) (ch_E g m_m_looks Q) 19 [some (.inr (9, 0, 0)), some (.inl (.int p1)), some (.inl (.int 11)), none, none, none] [] m2 0))) : ch_J g m_m_looks (ch_rm m_m_looks) (ch_E g m_m_looks Q) 0 [some (.inr (9, 0, 0)), some (.inl (.int p1)), none, none, none, none] [] m 0 := by
  refine ch_aload_n (i := 0) d_m_looks_0 rfl rfl ?_
  refine ch_get (v := .inr (9, 0, 10)) d_m_looks_1 fl_m_42 rfl ?_
  refine ch_bipush (v := 12) d_m_looks_4 (by decide) ?_
  refine ch_iconst (v := 0) d_m_looks_6 (by decide) ?_
  refine ch_iast (n := 13) d_m_looks_7 (by decide) rfl (vp_in_nI (n := 12) (by decide) (by decide)) ?_
  show ch_J g _ _ _ _ _ _ (ch_wr m (9, 0, 10) (12) 0) _
  generalize hmm1 : ch_wr m (9, 0, 10) (12) 0 = m1
  replace h := h m1 hmm1.symm
  refine ch_aload_n (i := 0) d_m_looks_8 rfl rfl ?_
  refine ch_get (v := .inr (9, 0, 11)) d_m_looks_9 fl_m_45 rfl ?_
  refine ch_bipush (v := 12) d_m_looks_12 (by decide) ?_
  refine ch_iconst (v := 0) d_m_looks_14 (by decide) ?_
  refine ch_iast (n := 13) d_m_looks_15 (by decide) rfl (vp_in_nI (n := 12) (by decide) (by decide)) ?_
  show ch_J g _ _ _ _ _ _ (ch_wr m1 (9, 0, 11) (12) 0) _
  generalize hmm2 : ch_wr m1 (9, 0, 11) (12) 0 = m2
  replace h := h m2 hmm2.symm
  refine ch_bipush (v := 11) d_m_looks_16 (by decide) ?_
  refine ch_istore_n (i := 2) d_m_looks_18 rfl (Nat.le_of_ble_eq_true rfl) (ls' := [some (.inr (9, 0, 0)), some (.inl (.int p1)), some (.inl (.int 11)), none, none, none]) rfl ?_
  exact h
set_option maxHeartbeats 1600000 in
theorem g_m_looks_19 (g : ch_G) (Q : ch_O → ch_M → Prop) (x1 : Int32) (x2 : Int32) (o3 : Option ch_V) (o4 : Option ch_V) (o5 : Option ch_V) (m : ch_M) (h : ((x2 < 0 → Q (.inl none) m) ∧ (¬ x2 < 0 → (vp_in x2 13) ∧ (∀ m2 : ch_M, m2 = ch_wr m (9, 0, 10) (Int32.toNatClampNeg x2) 100 → ch_J g m_m_looks (ch_rm m_m_looks) (ch_E g m_m_looks Q) 33 [some (.inr (9, 0, 0)), some (.inl (.int x1)), some (.inl (.int x2)), some (.inl (.int 1)), o4, o5] [] m2 0)))) : ch_J g m_m_looks (ch_rm m_m_looks) (ch_E g m_m_looks Q) 19 [some (.inr (9, 0, 0)), some (.inl (.int x1)), some (.inl (.int x2)), o3, o4, o5] [] m 0 := by
  refine ch_iload_n (i := 2) d_m_looks_19 rfl rfl ?_
  refine ch_if_lt (tgt := 154) d_m_looks_20 (by decide) (fun c => ?_) (fun c => ?_)
  · replace h := h.1 c
    exact ch_vret d_m_looks_154 rfl (Nat.le_of_ble_eq_true rfl) h
  · replace h := h.2 c
    refine ch_aload_n (i := 0) d_m_looks_23 rfl rfl ?_
    refine ch_get (v := .inr (9, 0, 10)) d_m_looks_24 fl_m_42 rfl ?_
    refine ch_iload_n (i := 2) d_m_looks_27 rfl rfl ?_
    refine ch_bipush (v := 100) d_m_looks_28 (by decide) ?_
    have b1 := h.1
    replace h := h.2
    refine ch_iast (n := 13) d_m_looks_30 (by decide) rfl b1 ?_
    show ch_J g _ _ _ _ _ _ (ch_wr m (9, 0, 10) (Int32.toNatClampNeg x2) 100) _
    generalize hmm2 : ch_wr m (9, 0, 10) (Int32.toNatClampNeg x2) 100 = m2
    replace h := h m2 hmm2.symm
    refine ch_iconst (v := 1) d_m_looks_31 (by decide) ?_
    refine ch_istore_n (i := 3) d_m_looks_32 rfl (Nat.le_of_ble_eq_true rfl) (ls' := [some (.inr (9, 0, 0)), some (.inl (.int x1)), some (.inl (.int x2)), some (.inl (.int 1)), o4, o5]) rfl ?_
    exact h
set_option maxHeartbeats 1600000 in
theorem g_m_looks_33 (g : ch_G) (Q : ch_O → ch_M → Prop) (x1 : Int32) (x2 : Int32) (x3 : Int32) (o4 : Option ch_V) (o5 : Option ch_V) (m : ch_M) (h : ((4 ≤ x3 → ch_J g m_m_looks (ch_rm m_m_looks) (ch_E g m_m_looks Q) 19 [some (.inr (9, 0, 0)), some (.inl (.int x1)), some (.inl (.int (x2 + (-1)))), some (.inl (.int x3)), o4, o5] [] m 0) ∧ (¬ 4 ≤ x3 → (vp_in (if (x2 + x3) < 12 then (x2 + x3) else 12) 13) ∧ (∃ Y_2 : ch_B, (m_rel Y_2 (m (9, 0, 1))) ∧ (∀ i_, i_ < 12 → Y_2 1 i_ = -1 ∨ vp_in (Y_2 1 i_) 5) ∧ (¬ ((x2 + x3) - 1) < 0) ∧ (((ch_line Y_2 x1 ((x2 + x3) - 1)) → (vp_in x2 13) ∧ (((m (9, 0, 10) (Int32.toNatClampNeg x2)) < ((m (9, 0, 10) (Int32.toNatClampNeg (if (x2 + x3) < 12 then (x2 + x3) else 12))) + 1) → ch_J g m_m_looks (ch_rm m_m_looks) (ch_E g m_m_looks Q) 33 [some (.inr (9, 0, 0)), some (.inl (.int x1)), some (.inl (.int x2)), some (.inl (.int (x3 + 1))), some (.inl (.int (if (x2 + x3) < 12 then (x2 + x3) else 12))), some (.inl (.int ((m (9, 0, 10) (Int32.toNatClampNeg (if (x2 + x3) < 12 then (x2 + x3) else 12))) + 1)))] [] m 0) ∧ (¬ (m (9, 0, 10) (Int32.toNatClampNeg x2)) < ((m (9, 0, 10) (Int32.toNatClampNeg (if (x2 + x3) < 12 then (x2 + x3) else 12))) + 1) → ((¬ ((m (9, 0, 10) (Int32.toNatClampNeg (if (x2 + x3) < 12 then (x2 + x3) else 12))) + 1) = (m (9, 0, 10) (Int32.toNatClampNeg x2)) → (∀ m10 : ch_M, m10 = ch_wr m (9, 0, 10) (Int32.toNatClampNeg x2) ((m (9, 0, 10) (Int32.toNatClampNeg (if (x2 + x3) < 12 then (x2 + x3) else 12))) + 1) → (∀ m11 : ch_M, m11 = ch_wr m10 (9, 0, 11) (Int32.toNatClampNeg x2) ((m10 (9, 0, 11) (Int32.toNatClampNeg (if (x2 + x3) < 12 then (x2 + x3) else 12))) + 1) → ch_J g m_m_looks (ch_rm m_m_looks) (ch_E g m_m_looks Q) 33 [some (.inr (9, 0, 0)), some (.inl (.int x1)), some (.inl (.int x2)), some (.inl (.int (x3 + 1))), some (.inl (.int (if (x2 + x3) < 12 then (x2 + x3) else 12))), some (.inl (.int ((m (9, 0, 10) (Int32.toNatClampNeg (if (x2 + x3) < 12 then (x2 + x3) else 12))) + 1)))] [] m11 0))) ∧ (((m (9, 0, 10) (Int32.toNatClampNeg (if (x2 + x3) < 12 then (x2 + x3) else 12))) + 1) = (m (9, 0, 10) (Int32.toNatClampNeg x2)) → ((((m (9, 0, 11) (Int32.toNatClampNeg (if (x2 + x3) < 12 then (x2 + x3) else 12))) + 1) < (m (9, 0, 11) (Int32.toNatClampNeg x2)) → (∀ m12 : ch_M, m12 = ch_wr m (9, 0, 10) (Int32.toNatClampNeg x2) ((m (9, 0, 10) (Int32.toNatClampNeg (if (x2 + x3) < 12 then (x2 + x3) else 12))) + 1) → (∀ m13 : ch_M, m13 = ch_wr m12 (9, 0, 11) (Int32.toNatClampNeg x2) ((m12 (9, 0, 11) (Int32.toNatClampNeg (if (x2 + x3) < 12 then (x2 + x3) else 12))) + 1) → ch_J g m_m_looks (ch_rm m_m_looks) (ch_E g m_m_looks Q) 33 [some (.inr (9, 0, 0)), some (.inl (.int x1)), some (.inl (.int x2)), some (.inl (.int (x3 + 1))), some (.inl (.int (if (x2 + x3) < 12 then (x2 + x3) else 12))), some (.inl (.int ((m (9, 0, 10) (Int32.toNatClampNeg (if (x2 + x3) < 12 then (x2 + x3) else 12))) + 1)))] [] m13 0))) ∧ (¬ ((m (9, 0, 11) (Int32.toNatClampNeg (if (x2 + x3) < 12 then (x2 + x3) else 12))) + 1) < (m (9, 0, 11) (Int32.toNatClampNeg x2)) → ch_J g m_m_looks (ch_rm m_m_looks) (ch_E g m_m_looks Q) 33 [some (.inr (9, 0, 0)), some (.inl (.int x1)), some (.inl (.int x2)), some (.inl (.int (x3 + 1))), some (.inl (.int (if (x2 + x3) < 12 then (x2 + x3) else 12))), some (.inl (.int ((m (9, 0, 10) (Int32.toNatClampNeg (if (x2 + x3) < 12 then (x2 + x3) else 12))) + 1)))] [] m 0))))))) ∧ ((¬ ch_line Y_2 x1 ((x2 + x3) - 1)) → (vp_in x2 13) ∧ (((m (9, 0, 10) (Int32.toNatClampNeg x2)) < ((m (9, 0, 10) (Int32.toNatClampNeg (if (x2 + x3) < 12 then (x2 + x3) else 12))) + 0) → ch_J g m_m_looks (ch_rm m_m_looks) (ch_E g m_m_looks Q) 33 [some (.inr (9, 0, 0)), some (.inl (.int x1)), some (.inl (.int x2)), some (.inl (.int (x3 + 1))), some (.inl (.int (if (x2 + x3) < 12 then (x2 + x3) else 12))), some (.inl (.int ((m (9, 0, 10) (Int32.toNatClampNeg (if (x2 + x3) < 12 then (x2 + x3) else 12))) + 0)))] [] m 0) ∧ (¬ (m (9, 0, 10) (Int32.toNatClampNeg x2)) < ((m (9, 0, 10) (Int32.toNatClampNeg (if (x2 + x3) < 12 then (x2 + x3) else 12))) + 0) → ((¬ ((m (9, 0, 10) (Int32.toNatClampNeg (if (x2 + x3) < 12 then (x2 + x3) else 12))) + 0) = (m (9, 0, 10) (Int32.toNatClampNeg x2)) → (∀ m15 : ch_M, m15 = ch_wr m (9, 0, 10) (Int32.toNatClampNeg x2) ((m (9, 0, 10) (Int32.toNatClampNeg (if (x2 + x3) < 12 then (x2 + x3) else 12))) + 0) → (∀ m16 : ch_M, m16 = ch_wr m15 (9, 0, 11) (Int32.toNatClampNeg x2) ((m15 (9, 0, 11) (Int32.toNatClampNeg (if (x2 + x3) < 12 then (x2 + x3) else 12))) + 1) → ch_J g m_m_looks (ch_rm m_m_looks) (ch_E g m_m_looks Q) 33 [some (.inr (9, 0, 0)), some (.inl (.int x1)), some (.inl (.int x2)), some (.inl (.int (x3 + 1))), some (.inl (.int (if (x2 + x3) < 12 then (x2 + x3) else 12))), some (.inl (.int ((m (9, 0, 10) (Int32.toNatClampNeg (if (x2 + x3) < 12 then (x2 + x3) else 12))) + 0)))] [] m16 0))) ∧ (((m (9, 0, 10) (Int32.toNatClampNeg (if (x2 + x3) < 12 then (x2 + x3) else 12))) + 0) = (m (9, 0, 10) (Int32.toNatClampNeg x2)) → ((((m (9, 0, 11) (Int32.toNatClampNeg (if (x2 + x3) < 12 then (x2 + x3) else 12))) + 1) < (m (9, 0, 11) (Int32.toNatClampNeg x2)) → (∀ m17 : ch_M, m17 = ch_wr m (9, 0, 10) (Int32.toNatClampNeg x2) ((m (9, 0, 10) (Int32.toNatClampNeg (if (x2 + x3) < 12 then (x2 + x3) else 12))) + 0) → (∀ m18 : ch_M, m18 = ch_wr m17 (9, 0, 11) (Int32.toNatClampNeg x2) ((m17 (9, 0, 11) (Int32.toNatClampNeg (if (x2 + x3) < 12 then (x2 + x3) else 12))) + 1) → ch_J g m_m_looks (ch_rm m_m_looks) (ch_E g m_m_looks Q) 33 [some (.inr (9, 0, 0)), some (.inl (.int x1)), some (.inl (.int x2)), some (.inl (.int (x3 + 1))), some (.inl (.int (if (x2 + x3) < 12 then (x2 + x3) else 12))), some (.inl (.int ((m (9, 0, 10) (Int32.toNatClampNeg (if (x2 + x3) < 12 then (x2 + x3) else 12))) + 0)))] [] m18 0))) ∧ (¬ ((m (9, 0, 11) (Int32.toNatClampNeg (if (x2 + x3) < 12 then (x2 + x3) else 12))) + 1) < (m (9, 0, 11) (Int32.toNatClampNeg x2)) → ch_J g m_m_looks (ch_rm m_m_looks) (ch_E g m_m_looks Q) 33 [some (.inr (9, 0, 0)), some (.inl (.int x1)), some (.inl (.int x2)), some (.inl (.int (x3 + 1))), some (.inl (.int (if (x2 + x3) < 12 then (x2 + x3) else 12))), some (.inl (.int ((m (9, 0, 10) (Int32.toNatClampNeg (if (x2 + x3) < 12 then (x2 + x3) else 12))) + 0)))] [] m 0)))))))))))) : ch_J g m_m_looks (ch_rm m_m_looks) (ch_E g m_m_looks Q) 33 [some (.inr (9, 0, 0)), some (.inl (.int x1)), some (.inl (.int x2)), some (.inl (.int x3)), o4, o5] [] m 0 := by
  refine ch_iload_n (i := 3) d_m_looks_33 rfl rfl ?_
  refine ch_iconst (v := 4) d_m_looks_34 (by decide) ?_
  refine ch_icmp_ge (tgt := 148) d_m_looks_35 (by decide) (fun c => ?_) (fun c => ?_)
  · replace h := h.1 c
    refine ch_iinc (i := 2) (v := (x2 + (-1))) d_m_looks_148 rfl rfl (Nat.le_of_ble_eq_true rfl) (ls' := [some (.inr (9, 0, 0)), some (.inl (.int x1)), some (.inl (.int (x2 + (-1)))), some (.inl (.int x3)), o4, o5]) rfl ?_
    refine ch_goto (tgt := 19) d_m_looks_151 (by decide) ?_
    exact h
  · replace h := h.2 c
    refine ch_bipush (v := 12) d_m_looks_38 (by decide) ?_
    refine ch_iload_n (i := 2) d_m_looks_40 rfl rfl ?_
    refine ch_iload_n (i := 3) d_m_looks_41 rfl rfl ?_
    refine ch_iadd d_m_looks_42 ?_
    refine ch_min d_m_looks_43 lk_m_118 ⟨Nat.le_of_ble_eq_true rfl, Nat.le_of_ble_eq_true rfl⟩ ⟨Nat.le_of_ble_eq_true rfl, Nat.le_of_ble_eq_true rfl⟩ (Nat.le_of_ble_eq_true rfl) ?_
    refine ch_istore (i := 4) d_m_looks_46 (Nat.le_of_ble_eq_true rfl) (ls' := [some (.inr (9, 0, 0)), some (.inl (.int x1)), some (.inl (.int x2)), some (.inl (.int x3)), some (.inl (.int (if (x2 + x3) < 12 then (x2 + x3) else 12))), o5]) rfl ?_
    refine ch_aload_n (i := 0) d_m_looks_48 rfl rfl ?_
    refine ch_get (v := .inr (9, 0, 10)) d_m_looks_49 fl_m_42 rfl ?_
    refine ch_iload d_m_looks_52 rfl ?_
    have b1 := h.1
    replace h := h.2
    refine ch_iald (n := 13) d_m_looks_54 (by decide) rfl b1 ?_
    refine ch_aload_n (i := 0) d_m_looks_55 rfl rfl ?_
    refine ch_iload_n (i := 1) d_m_looks_56 rfl rfl ?_
    refine ch_iload_n (i := 2) d_m_looks_57 rfl rfl ?_
    refine ch_iload_n (i := 3) d_m_looks_58 rfl rfl ?_
    refine ch_iadd d_m_looks_59 ?_
    refine ch_iconst (v := 1) d_m_looks_60 (by decide) ?_
    refine ch_isub d_m_looks_61 ?_
    obtain ⟨Y_2, h⟩ := h
    have b6 := h.1
    replace h := h.2
    have b7 := h.1
    replace h := h.2
    have b8 := h.1
    replace h := h.2
    refine ch_callV (as := [.inl (.int x1), .inl (.int ((x2 + x3) - 1))]) d_m_looks_62 lk_m_129 mi_m_isLine me_m_isLine rfl rfl rfl ⟨Nat.le_of_ble_eq_true rfl, Nat.le_of_ble_eq_true rfl⟩ (Nat.le_of_ble_eq_true rfl) ⟨Nat.le_of_ble_eq_true rfl, Nat.le_of_ble_eq_true rfl⟩ (ch_mono (ch_Ki (fun r3 m4 q5 => ?_)) (s_m_isLine g (fun (r_ : Int32) (m_ : ch_M) => ((ch_line Y_2 x1 ((x2 + x3) - 1)) ∧ 1 = r_ ∧ m = m_) ∨ ((¬ ch_line Y_2 x1 ((x2 + x3) - 1)) ∧ 0 = r_ ∧ m = m_)) (Y_2) (x1) (((x2 + x3) - 1)) m ⟨b6, b7, b8, (fun c_ => (Or.inl ⟨c_, rfl, rfl⟩)), (fun c_ => (Or.inr ⟨c_, rfl, rfl⟩))⟩))
    rcases q5 with ⟨c_, rfl, rfl⟩ | ⟨c_, rfl, rfl⟩
    · replace h := h.1 c_
      refine ch_if_eq (tgt := 72) d_m_looks_65 (by decide) (fun c => absurd c (by decide)) (fun _ => ?_)
      refine ch_iconst (v := 1) d_m_looks_68 (by decide) ?_
      refine ch_goto (tgt := 73) d_m_looks_69 (by decide) ?_
      refine ch_iadd d_m_looks_73 ?_
      refine ch_istore (i := 5) d_m_looks_74 (Nat.le_of_ble_eq_true rfl) (ls' := [some (.inr (9, 0, 0)), some (.inl (.int x1)), some (.inl (.int x2)), some (.inl (.int x3)), some (.inl (.int (if (x2 + x3) < 12 then (x2 + x3) else 12))), some (.inl (.int ((m (9, 0, 10) (Int32.toNatClampNeg (if (x2 + x3) < 12 then (x2 + x3) else 12))) + 1)))]) rfl ?_
      refine ch_iload d_m_looks_76 rfl ?_
      refine ch_aload_n (i := 0) d_m_looks_78 rfl rfl ?_
      refine ch_get (v := .inr (9, 0, 10)) d_m_looks_79 fl_m_42 rfl ?_
      refine ch_iload_n (i := 2) d_m_looks_82 rfl rfl ?_
      have b9 := h.1
      replace h := h.2
      refine ch_iald (n := 13) d_m_looks_83 (by decide) rfl b9 ?_
      refine ch_icmp_gt (tgt := 142) d_m_looks_84 (by decide) (fun c => ?_) (fun c => ?_)
      · replace h := h.1 c
        refine ch_iinc (i := 3) (v := (x3 + 1)) d_m_looks_142 rfl rfl (Nat.le_of_ble_eq_true rfl) (ls' := [some (.inr (9, 0, 0)), some (.inl (.int x1)), some (.inl (.int x2)), some (.inl (.int (x3 + 1))), some (.inl (.int (if (x2 + x3) < 12 then (x2 + x3) else 12))), some (.inl (.int ((m (9, 0, 10) (Int32.toNatClampNeg (if (x2 + x3) < 12 then (x2 + x3) else 12))) + 1)))]) rfl ?_
        refine ch_goto (tgt := 33) d_m_looks_145 (by decide) ?_
        exact h
      · replace h := h.2 c
        refine ch_iload d_m_looks_87 rfl ?_
        refine ch_aload_n (i := 0) d_m_looks_89 rfl rfl ?_
        refine ch_get (v := .inr (9, 0, 10)) d_m_looks_90 fl_m_42 rfl ?_
        refine ch_iload_n (i := 2) d_m_looks_93 rfl rfl ?_
        refine ch_iald (n := 13) d_m_looks_94 (by decide) rfl b9 ?_
        refine ch_icmp_ne (tgt := 119) d_m_looks_95 (by decide) (fun c => ?_) (fun c => ?_)
        · replace h := h.1 c
          refine ch_aload_n (i := 0) d_m_looks_119 rfl rfl ?_
          refine ch_get (v := .inr (9, 0, 10)) d_m_looks_120 fl_m_42 rfl ?_
          refine ch_iload_n (i := 2) d_m_looks_123 rfl rfl ?_
          refine ch_iload d_m_looks_124 rfl ?_
          refine ch_iast (n := 13) d_m_looks_126 (by decide) rfl b9 ?_
          show ch_J g _ _ _ _ _ _ (ch_wr m (9, 0, 10) (Int32.toNatClampNeg x2) ((m (9, 0, 10) (Int32.toNatClampNeg (if (x2 + x3) < 12 then (x2 + x3) else 12))) + 1)) _
          generalize hmm10 : ch_wr m (9, 0, 10) (Int32.toNatClampNeg x2) ((m (9, 0, 10) (Int32.toNatClampNeg (if (x2 + x3) < 12 then (x2 + x3) else 12))) + 1) = m10
          replace h := h m10 hmm10.symm
          refine ch_aload_n (i := 0) d_m_looks_127 rfl rfl ?_
          refine ch_get (v := .inr (9, 0, 11)) d_m_looks_128 fl_m_45 rfl ?_
          refine ch_iload_n (i := 2) d_m_looks_131 rfl rfl ?_
          refine ch_aload_n (i := 0) d_m_looks_132 rfl rfl ?_
          refine ch_get (v := .inr (9, 0, 11)) d_m_looks_133 fl_m_45 rfl ?_
          refine ch_iload d_m_looks_136 rfl ?_
          refine ch_iald (n := 13) d_m_looks_138 (by decide) rfl b1 ?_
          refine ch_iconst (v := 1) d_m_looks_139 (by decide) ?_
          refine ch_iadd d_m_looks_140 ?_
          refine ch_iast (n := 13) d_m_looks_141 (by decide) rfl b9 ?_
          show ch_J g _ _ _ _ _ _ (ch_wr m10 (9, 0, 11) (Int32.toNatClampNeg x2) ((m10 (9, 0, 11) (Int32.toNatClampNeg (if (x2 + x3) < 12 then (x2 + x3) else 12))) + 1)) _
          generalize hmm11 : ch_wr m10 (9, 0, 11) (Int32.toNatClampNeg x2) ((m10 (9, 0, 11) (Int32.toNatClampNeg (if (x2 + x3) < 12 then (x2 + x3) else 12))) + 1) = m11
          replace h := h m11 hmm11.symm
          refine ch_iinc (i := 3) (v := (x3 + 1)) d_m_looks_142 rfl rfl (Nat.le_of_ble_eq_true rfl) (ls' := [some (.inr (9, 0, 0)), some (.inl (.int x1)), some (.inl (.int x2)), some (.inl (.int (x3 + 1))), some (.inl (.int (if (x2 + x3) < 12 then (x2 + x3) else 12))), some (.inl (.int ((m (9, 0, 10) (Int32.toNatClampNeg (if (x2 + x3) < 12 then (x2 + x3) else 12))) + 1)))]) rfl ?_
          refine ch_goto (tgt := 33) d_m_looks_145 (by decide) ?_
          exact h
        · replace h := h.2 c
          refine ch_aload_n (i := 0) d_m_looks_98 rfl rfl ?_
          refine ch_get (v := .inr (9, 0, 11)) d_m_looks_99 fl_m_45 rfl ?_
          refine ch_iload d_m_looks_102 rfl ?_
          refine ch_iald (n := 13) d_m_looks_104 (by decide) rfl b1 ?_
          refine ch_iconst (v := 1) d_m_looks_105 (by decide) ?_
          refine ch_iadd d_m_looks_106 ?_
          refine ch_aload_n (i := 0) d_m_looks_107 rfl rfl ?_
          refine ch_get (v := .inr (9, 0, 11)) d_m_looks_108 fl_m_45 rfl ?_
          refine ch_iload_n (i := 2) d_m_looks_111 rfl rfl ?_
          refine ch_iald (n := 13) d_m_looks_112 (by decide) rfl b9 ?_
          refine ch_icmp_lt (tgt := 119) d_m_looks_113 (by decide) (fun c => ?_) (fun c => ?_)
          · replace h := h.1 c
            refine ch_aload_n (i := 0) d_m_looks_119 rfl rfl ?_
            refine ch_get (v := .inr (9, 0, 10)) d_m_looks_120 fl_m_42 rfl ?_
            refine ch_iload_n (i := 2) d_m_looks_123 rfl rfl ?_
            refine ch_iload d_m_looks_124 rfl ?_
            refine ch_iast (n := 13) d_m_looks_126 (by decide) rfl b9 ?_
            show ch_J g _ _ _ _ _ _ (ch_wr m (9, 0, 10) (Int32.toNatClampNeg x2) ((m (9, 0, 10) (Int32.toNatClampNeg (if (x2 + x3) < 12 then (x2 + x3) else 12))) + 1)) _
            generalize hmm12 : ch_wr m (9, 0, 10) (Int32.toNatClampNeg x2) ((m (9, 0, 10) (Int32.toNatClampNeg (if (x2 + x3) < 12 then (x2 + x3) else 12))) + 1) = m12
            replace h := h m12 hmm12.symm
            refine ch_aload_n (i := 0) d_m_looks_127 rfl rfl ?_
            refine ch_get (v := .inr (9, 0, 11)) d_m_looks_128 fl_m_45 rfl ?_
            refine ch_iload_n (i := 2) d_m_looks_131 rfl rfl ?_
            refine ch_aload_n (i := 0) d_m_looks_132 rfl rfl ?_
            refine ch_get (v := .inr (9, 0, 11)) d_m_looks_133 fl_m_45 rfl ?_
            refine ch_iload d_m_looks_136 rfl ?_
            refine ch_iald (n := 13) d_m_looks_138 (by decide) rfl b1 ?_
            refine ch_iconst (v := 1) d_m_looks_139 (by decide) ?_
            refine ch_iadd d_m_looks_140 ?_
            refine ch_iast (n := 13) d_m_looks_141 (by decide) rfl b9 ?_
            show ch_J g _ _ _ _ _ _ (ch_wr m12 (9, 0, 11) (Int32.toNatClampNeg x2) ((m12 (9, 0, 11) (Int32.toNatClampNeg (if (x2 + x3) < 12 then (x2 + x3) else 12))) + 1)) _
            generalize hmm13 : ch_wr m12 (9, 0, 11) (Int32.toNatClampNeg x2) ((m12 (9, 0, 11) (Int32.toNatClampNeg (if (x2 + x3) < 12 then (x2 + x3) else 12))) + 1) = m13
            replace h := h m13 hmm13.symm
            refine ch_iinc (i := 3) (v := (x3 + 1)) d_m_looks_142 rfl rfl (Nat.le_of_ble_eq_true rfl) (ls' := [some (.inr (9, 0, 0)), some (.inl (.int x1)), some (.inl (.int x2)), some (.inl (.int (x3 + 1))), some (.inl (.int (if (x2 + x3) < 12 then (x2 + x3) else 12))), some (.inl (.int ((m (9, 0, 10) (Int32.toNatClampNeg (if (x2 + x3) < 12 then (x2 + x3) else 12))) + 1)))]) rfl ?_
            refine ch_goto (tgt := 33) d_m_looks_145 (by decide) ?_
            exact h
          · replace h := h.2 c
            refine ch_goto (tgt := 142) d_m_looks_116 (by decide) ?_
            refine ch_iinc (i := 3) (v := (x3 + 1)) d_m_looks_142 rfl rfl (Nat.le_of_ble_eq_true rfl) (ls' := [some (.inr (9, 0, 0)), some (.inl (.int x1)), some (.inl (.int x2)), some (.inl (.int (x3 + 1))), some (.inl (.int (if (x2 + x3) < 12 then (x2 + x3) else 12))), some (.inl (.int ((m (9, 0, 10) (Int32.toNatClampNeg (if (x2 + x3) < 12 then (x2 + x3) else 12))) + 1)))]) rfl ?_
            refine ch_goto (tgt := 33) d_m_looks_145 (by decide) ?_
            exact h
    · replace h := h.2 c_
      refine ch_if_eq (tgt := 72) d_m_looks_65 (by decide) (fun _ => ?_) (fun c => absurd c (by decide))
      refine ch_iconst (v := 0) d_m_looks_72 (by decide) ?_
      refine ch_iadd d_m_looks_73 ?_
      refine ch_istore (i := 5) d_m_looks_74 (Nat.le_of_ble_eq_true rfl) (ls' := [some (.inr (9, 0, 0)), some (.inl (.int x1)), some (.inl (.int x2)), some (.inl (.int x3)), some (.inl (.int (if (x2 + x3) < 12 then (x2 + x3) else 12))), some (.inl (.int ((m (9, 0, 10) (Int32.toNatClampNeg (if (x2 + x3) < 12 then (x2 + x3) else 12))) + 0)))]) rfl ?_
      refine ch_iload d_m_looks_76 rfl ?_
      refine ch_aload_n (i := 0) d_m_looks_78 rfl rfl ?_
      refine ch_get (v := .inr (9, 0, 10)) d_m_looks_79 fl_m_42 rfl ?_
      refine ch_iload_n (i := 2) d_m_looks_82 rfl rfl ?_
      have b14 := h.1
      replace h := h.2
      refine ch_iald (n := 13) d_m_looks_83 (by decide) rfl b14 ?_
      refine ch_icmp_gt (tgt := 142) d_m_looks_84 (by decide) (fun c => ?_) (fun c => ?_)
      · replace h := h.1 c
        refine ch_iinc (i := 3) (v := (x3 + 1)) d_m_looks_142 rfl rfl (Nat.le_of_ble_eq_true rfl) (ls' := [some (.inr (9, 0, 0)), some (.inl (.int x1)), some (.inl (.int x2)), some (.inl (.int (x3 + 1))), some (.inl (.int (if (x2 + x3) < 12 then (x2 + x3) else 12))), some (.inl (.int ((m (9, 0, 10) (Int32.toNatClampNeg (if (x2 + x3) < 12 then (x2 + x3) else 12))) + 0)))]) rfl ?_
        refine ch_goto (tgt := 33) d_m_looks_145 (by decide) ?_
        exact h
      · replace h := h.2 c
        refine ch_iload d_m_looks_87 rfl ?_
        refine ch_aload_n (i := 0) d_m_looks_89 rfl rfl ?_
        refine ch_get (v := .inr (9, 0, 10)) d_m_looks_90 fl_m_42 rfl ?_
        refine ch_iload_n (i := 2) d_m_looks_93 rfl rfl ?_
        refine ch_iald (n := 13) d_m_looks_94 (by decide) rfl b14 ?_
        refine ch_icmp_ne (tgt := 119) d_m_looks_95 (by decide) (fun c => ?_) (fun c => ?_)
        · replace h := h.1 c
          refine ch_aload_n (i := 0) d_m_looks_119 rfl rfl ?_
          refine ch_get (v := .inr (9, 0, 10)) d_m_looks_120 fl_m_42 rfl ?_
          refine ch_iload_n (i := 2) d_m_looks_123 rfl rfl ?_
          refine ch_iload d_m_looks_124 rfl ?_
          refine ch_iast (n := 13) d_m_looks_126 (by decide) rfl b14 ?_
          show ch_J g _ _ _ _ _ _ (ch_wr m (9, 0, 10) (Int32.toNatClampNeg x2) ((m (9, 0, 10) (Int32.toNatClampNeg (if (x2 + x3) < 12 then (x2 + x3) else 12))) + 0)) _
          generalize hmm15 : ch_wr m (9, 0, 10) (Int32.toNatClampNeg x2) ((m (9, 0, 10) (Int32.toNatClampNeg (if (x2 + x3) < 12 then (x2 + x3) else 12))) + 0) = m15
          replace h := h m15 hmm15.symm
          refine ch_aload_n (i := 0) d_m_looks_127 rfl rfl ?_
          refine ch_get (v := .inr (9, 0, 11)) d_m_looks_128 fl_m_45 rfl ?_
          refine ch_iload_n (i := 2) d_m_looks_131 rfl rfl ?_
          refine ch_aload_n (i := 0) d_m_looks_132 rfl rfl ?_
          refine ch_get (v := .inr (9, 0, 11)) d_m_looks_133 fl_m_45 rfl ?_
          refine ch_iload d_m_looks_136 rfl ?_
          refine ch_iald (n := 13) d_m_looks_138 (by decide) rfl b1 ?_
          refine ch_iconst (v := 1) d_m_looks_139 (by decide) ?_
          refine ch_iadd d_m_looks_140 ?_
          refine ch_iast (n := 13) d_m_looks_141 (by decide) rfl b14 ?_
          show ch_J g _ _ _ _ _ _ (ch_wr m15 (9, 0, 11) (Int32.toNatClampNeg x2) ((m15 (9, 0, 11) (Int32.toNatClampNeg (if (x2 + x3) < 12 then (x2 + x3) else 12))) + 1)) _
          generalize hmm16 : ch_wr m15 (9, 0, 11) (Int32.toNatClampNeg x2) ((m15 (9, 0, 11) (Int32.toNatClampNeg (if (x2 + x3) < 12 then (x2 + x3) else 12))) + 1) = m16
          replace h := h m16 hmm16.symm
          refine ch_iinc (i := 3) (v := (x3 + 1)) d_m_looks_142 rfl rfl (Nat.le_of_ble_eq_true rfl) (ls' := [some (.inr (9, 0, 0)), some (.inl (.int x1)), some (.inl (.int x2)), some (.inl (.int (x3 + 1))), some (.inl (.int (if (x2 + x3) < 12 then (x2 + x3) else 12))), some (.inl (.int ((m (9, 0, 10) (Int32.toNatClampNeg (if (x2 + x3) < 12 then (x2 + x3) else 12))) + 0)))]) rfl ?_
          refine ch_goto (tgt := 33) d_m_looks_145 (by decide) ?_
          exact h
        · replace h := h.2 c
          refine ch_aload_n (i := 0) d_m_looks_98 rfl rfl ?_
          refine ch_get (v := .inr (9, 0, 11)) d_m_looks_99 fl_m_45 rfl ?_
          refine ch_iload d_m_looks_102 rfl ?_
          refine ch_iald (n := 13) d_m_looks_104 (by decide) rfl b1 ?_
          refine ch_iconst (v := 1) d_m_looks_105 (by decide) ?_
          refine ch_iadd d_m_looks_106 ?_
          refine ch_aload_n (i := 0) d_m_looks_107 rfl rfl ?_
          refine ch_get (v := .inr (9, 0, 11)) d_m_looks_108 fl_m_45 rfl ?_
          refine ch_iload_n (i := 2) d_m_looks_111 rfl rfl ?_
          refine ch_iald (n := 13) d_m_looks_112 (by decide) rfl b14 ?_
          refine ch_icmp_lt (tgt := 119) d_m_looks_113 (by decide) (fun c => ?_) (fun c => ?_)
          · replace h := h.1 c
            refine ch_aload_n (i := 0) d_m_looks_119 rfl rfl ?_
            refine ch_get (v := .inr (9, 0, 10)) d_m_looks_120 fl_m_42 rfl ?_
            refine ch_iload_n (i := 2) d_m_looks_123 rfl rfl ?_
            refine ch_iload d_m_looks_124 rfl ?_
            refine ch_iast (n := 13) d_m_looks_126 (by decide) rfl b14 ?_
            show ch_J g _ _ _ _ _ _ (ch_wr m (9, 0, 10) (Int32.toNatClampNeg x2) ((m (9, 0, 10) (Int32.toNatClampNeg (if (x2 + x3) < 12 then (x2 + x3) else 12))) + 0)) _
            generalize hmm17 : ch_wr m (9, 0, 10) (Int32.toNatClampNeg x2) ((m (9, 0, 10) (Int32.toNatClampNeg (if (x2 + x3) < 12 then (x2 + x3) else 12))) + 0) = m17
            replace h := h m17 hmm17.symm
            refine ch_aload_n (i := 0) d_m_looks_127 rfl rfl ?_
            refine ch_get (v := .inr (9, 0, 11)) d_m_looks_128 fl_m_45 rfl ?_
            refine ch_iload_n (i := 2) d_m_looks_131 rfl rfl ?_
            refine ch_aload_n (i := 0) d_m_looks_132 rfl rfl ?_
            refine ch_get (v := .inr (9, 0, 11)) d_m_looks_133 fl_m_45 rfl ?_
            refine ch_iload d_m_looks_136 rfl ?_
            refine ch_iald (n := 13) d_m_looks_138 (by decide) rfl b1 ?_
            refine ch_iconst (v := 1) d_m_looks_139 (by decide) ?_
            refine ch_iadd d_m_looks_140 ?_
            refine ch_iast (n := 13) d_m_looks_141 (by decide) rfl b14 ?_
            show ch_J g _ _ _ _ _ _ (ch_wr m17 (9, 0, 11) (Int32.toNatClampNeg x2) ((m17 (9, 0, 11) (Int32.toNatClampNeg (if (x2 + x3) < 12 then (x2 + x3) else 12))) + 1)) _
            generalize hmm18 : ch_wr m17 (9, 0, 11) (Int32.toNatClampNeg x2) ((m17 (9, 0, 11) (Int32.toNatClampNeg (if (x2 + x3) < 12 then (x2 + x3) else 12))) + 1) = m18
            replace h := h m18 hmm18.symm
            refine ch_iinc (i := 3) (v := (x3 + 1)) d_m_looks_142 rfl rfl (Nat.le_of_ble_eq_true rfl) (ls' := [some (.inr (9, 0, 0)), some (.inl (.int x1)), some (.inl (.int x2)), some (.inl (.int (x3 + 1))), some (.inl (.int (if (x2 + x3) < 12 then (x2 + x3) else 12))), some (.inl (.int ((m (9, 0, 10) (Int32.toNatClampNeg (if (x2 + x3) < 12 then (x2 + x3) else 12))) + 0)))]) rfl ?_
            refine ch_goto (tgt := 33) d_m_looks_145 (by decide) ?_
            exact h
          · replace h := h.2 c
            refine ch_goto (tgt := 142) d_m_looks_116 (by decide) ?_
            refine ch_iinc (i := 3) (v := (x3 + 1)) d_m_looks_142 rfl rfl (Nat.le_of_ble_eq_true rfl) (ls' := [some (.inr (9, 0, 0)), some (.inl (.int x1)), some (.inl (.int x2)), some (.inl (.int (x3 + 1))), some (.inl (.int (if (x2 + x3) < 12 then (x2 + x3) else 12))), some (.inl (.int ((m (9, 0, 10) (Int32.toNatClampNeg (if (x2 + x3) < 12 then (x2 + x3) else 12))) + 0)))]) rfl ?_
            refine ch_goto (tgt := 33) d_m_looks_145 (by decide) ?_
            exact h
theorem e_m_isBest (g : ch_G) (Q : ch_O → ch_M → Prop) (p1 : Int32) (p2 : Int32) (p3 : Int32) (m : ch_M) (h : ch_J g m_m_isBest (ch_rm m_m_isBest) (ch_E g m_m_isBest Q) 0 [some (.inr (9, 0, 0)), some (.inl (.int p1)), some (.inl (.int p2)), some (.inl (.int p3)), none] [] m 0) : ch_C g m_m_isBest [.inr (9, 0, 0), .inl (.int p1), .inl (.int p2), .inl (.int p3)] m Q :=
  ch_enter mf_m_isBest (by intro v hv; simp only [List.mem_cons, List.not_mem_nil, or_false] at hv; rcases hv with rfl | rfl | rfl | rfl <;> rfl) (Nat.le_of_ble_eq_true rfl) h
set_option maxHeartbeats 1600000 in
theorem g_m_isBest_0 (g : ch_G) (Q : ch_O → ch_M → Prop) (p1 : Int32) (p2 : Int32) (p3 : Int32) (m : ch_M) (h : (vp_in (if (p2 + p3) < 12 then (p2 + p3) else 12) 13) ∧ (∃ Y_2 : ch_B, (m_rel Y_2 (m (9, 0, 1))) ∧ (∀ i_, i_ < 12 → Y_2 1 i_ = -1 ∨ vp_in (Y_2 1 i_) 5) ∧ (¬ ((p2 + p3) - 1) < 0) ∧ (((ch_line Y_2 p1 ((p2 + p3) - 1)) → (vp_in p2 13) ∧ ((¬ ((m (9, 0, 10) (Int32.toNatClampNeg (if (p2 + p3) < 12 then (p2 + p3) else 12))) + 1) = (m (9, 0, 10) (Int32.toNatClampNeg p2)) → Q (.inl (some (.inl (.int 0)))) m) ∧ (((m (9, 0, 10) (Int32.toNatClampNeg (if (p2 + p3) < 12 then (p2 + p3) else 12))) + 1) = (m (9, 0, 10) (Int32.toNatClampNeg p2)) → ((¬ ((m (9, 0, 11) (Int32.toNatClampNeg (if (p2 + p3) < 12 then (p2 + p3) else 12))) + 1) = (m (9, 0, 11) (Int32.toNatClampNeg p2)) → Q (.inl (some (.inl (.int 0)))) m) ∧ (((m (9, 0, 11) (Int32.toNatClampNeg (if (p2 + p3) < 12 then (p2 + p3) else 12))) + 1) = (m (9, 0, 11) (Int32.toNatClampNeg p2)) → Q (.inl (some (.inl (.int 1)))) m))))) ∧ ((¬ ch_line Y_2 p1 ((p2 + p3) - 1)) → (vp_in p2 13) ∧ ((¬ ((m (9, 0, 10) (Int32.toNatClampNeg (if (p2 + p3) < 12 then (p2 + p3) else 12))) + 0) = (m (9, 0, 10) (Int32.toNatClampNeg p2)) → Q (.inl (some (.inl (.int 0)))) m) ∧ (((m (9, 0, 10) (Int32.toNatClampNeg (if (p2 + p3) < 12 then (p2 + p3) else 12))) + 0) = (m (9, 0, 10) (Int32.toNatClampNeg p2)) → ((¬ ((m (9, 0, 11) (Int32.toNatClampNeg (if (p2 + p3) < 12 then (p2 + p3) else 12))) + 1) = (m (9, 0, 11) (Int32.toNatClampNeg p2)) → Q (.inl (some (.inl (.int 0)))) m) ∧ (((m (9, 0, 11) (Int32.toNatClampNeg (if (p2 + p3) < 12 then (p2 + p3) else 12))) + 1) = (m (9, 0, 11) (Int32.toNatClampNeg p2)) → Q (.inl (some (.inl (.int 1)))) m)))))))) : ch_J g m_m_isBest (ch_rm m_m_isBest) (ch_E g m_m_isBest Q) 0 [some (.inr (9, 0, 0)), some (.inl (.int p1)), some (.inl (.int p2)), some (.inl (.int p3)), none] [] m 0 := by
  refine ch_bipush (v := 12) d_m_isBest_0 (by decide) ?_
  refine ch_iload_n (i := 2) d_m_isBest_2 rfl rfl ?_
  refine ch_iload_n (i := 3) d_m_isBest_3 rfl rfl ?_
  refine ch_iadd d_m_isBest_4 ?_
  refine ch_min d_m_isBest_5 lk_m_118 ⟨Nat.le_of_ble_eq_true rfl, Nat.le_of_ble_eq_true rfl⟩ ⟨Nat.le_of_ble_eq_true rfl, Nat.le_of_ble_eq_true rfl⟩ (Nat.le_of_ble_eq_true rfl) ?_
  refine ch_istore (i := 4) d_m_isBest_8 (Nat.le_of_ble_eq_true rfl) (ls' := [some (.inr (9, 0, 0)), some (.inl (.int p1)), some (.inl (.int p2)), some (.inl (.int p3)), some (.inl (.int (if (p2 + p3) < 12 then (p2 + p3) else 12)))]) rfl ?_
  refine ch_aload_n (i := 0) d_m_isBest_10 rfl rfl ?_
  refine ch_get (v := .inr (9, 0, 10)) d_m_isBest_11 fl_m_42 rfl ?_
  refine ch_iload d_m_isBest_14 rfl ?_
  have b1 := h.1
  replace h := h.2
  refine ch_iald (n := 13) d_m_isBest_16 (by decide) rfl b1 ?_
  refine ch_aload_n (i := 0) d_m_isBest_17 rfl rfl ?_
  refine ch_iload_n (i := 1) d_m_isBest_18 rfl rfl ?_
  refine ch_iload_n (i := 2) d_m_isBest_19 rfl rfl ?_
  refine ch_iload_n (i := 3) d_m_isBest_20 rfl rfl ?_
  refine ch_iadd d_m_isBest_21 ?_
  refine ch_iconst (v := 1) d_m_isBest_22 (by decide) ?_
  refine ch_isub d_m_isBest_23 ?_
  obtain ⟨Y_2, h⟩ := h
  have b6 := h.1
  replace h := h.2
  have b7 := h.1
  replace h := h.2
  have b8 := h.1
  replace h := h.2
  refine ch_callV (as := [.inl (.int p1), .inl (.int ((p2 + p3) - 1))]) d_m_isBest_24 lk_m_129 mi_m_isLine me_m_isLine rfl rfl rfl ⟨Nat.le_of_ble_eq_true rfl, Nat.le_of_ble_eq_true rfl⟩ (Nat.le_of_ble_eq_true rfl) ⟨Nat.le_of_ble_eq_true rfl, Nat.le_of_ble_eq_true rfl⟩ (ch_mono (ch_Ki (fun r3 m4 q5 => ?_)) (s_m_isLine g (fun (r_ : Int32) (m_ : ch_M) => ((ch_line Y_2 p1 ((p2 + p3) - 1)) ∧ 1 = r_ ∧ m = m_) ∨ ((¬ ch_line Y_2 p1 ((p2 + p3) - 1)) ∧ 0 = r_ ∧ m = m_)) (Y_2) (p1) (((p2 + p3) - 1)) m ⟨b6, b7, b8, (fun c_ => (Or.inl ⟨c_, rfl, rfl⟩)), (fun c_ => (Or.inr ⟨c_, rfl, rfl⟩))⟩))
  rcases q5 with ⟨c_, rfl, rfl⟩ | ⟨c_, rfl, rfl⟩
  · replace h := h.1 c_
    refine ch_if_eq (tgt := 34) d_m_isBest_27 (by decide) (fun c => absurd c (by decide)) (fun _ => ?_)
    refine ch_iconst (v := 1) d_m_isBest_30 (by decide) ?_
    refine ch_goto (tgt := 35) d_m_isBest_31 (by decide) ?_
    refine ch_iadd d_m_isBest_35 ?_
    refine ch_aload_n (i := 0) d_m_isBest_36 rfl rfl ?_
    refine ch_get (v := .inr (9, 0, 10)) d_m_isBest_37 fl_m_42 rfl ?_
    refine ch_iload_n (i := 2) d_m_isBest_40 rfl rfl ?_
    have b9 := h.1
    replace h := h.2
    refine ch_iald (n := 13) d_m_isBest_41 (by decide) rfl b9 ?_
    refine ch_icmp_ne (tgt := 67) d_m_isBest_42 (by decide) (fun c => ?_) (fun c => ?_)
    · replace h := h.1 c
      refine ch_iconst (v := 0) d_m_isBest_67 (by decide) ?_
      exact ch_iret (ty := .boolean) d_m_isBest_68 rfl rfl (Nat.le_of_ble_eq_true rfl) h
    · replace h := h.2 c
      refine ch_aload_n (i := 0) d_m_isBest_45 rfl rfl ?_
      refine ch_get (v := .inr (9, 0, 11)) d_m_isBest_46 fl_m_45 rfl ?_
      refine ch_iload d_m_isBest_49 rfl ?_
      refine ch_iald (n := 13) d_m_isBest_51 (by decide) rfl b1 ?_
      refine ch_iconst (v := 1) d_m_isBest_52 (by decide) ?_
      refine ch_iadd d_m_isBest_53 ?_
      refine ch_aload_n (i := 0) d_m_isBest_54 rfl rfl ?_
      refine ch_get (v := .inr (9, 0, 11)) d_m_isBest_55 fl_m_45 rfl ?_
      refine ch_iload_n (i := 2) d_m_isBest_58 rfl rfl ?_
      refine ch_iald (n := 13) d_m_isBest_59 (by decide) rfl b9 ?_
      refine ch_icmp_ne (tgt := 67) d_m_isBest_60 (by decide) (fun c => ?_) (fun c => ?_)
      · replace h := h.1 c
        refine ch_iconst (v := 0) d_m_isBest_67 (by decide) ?_
        exact ch_iret (ty := .boolean) d_m_isBest_68 rfl rfl (Nat.le_of_ble_eq_true rfl) h
      · replace h := h.2 c
        refine ch_iconst (v := 1) d_m_isBest_63 (by decide) ?_
        refine ch_goto (tgt := 68) d_m_isBest_64 (by decide) ?_
        exact ch_iret (ty := .boolean) d_m_isBest_68 rfl rfl (Nat.le_of_ble_eq_true rfl) h
  · replace h := h.2 c_
    refine ch_if_eq (tgt := 34) d_m_isBest_27 (by decide) (fun _ => ?_) (fun c => absurd c (by decide))
    refine ch_iconst (v := 0) d_m_isBest_34 (by decide) ?_
    refine ch_iadd d_m_isBest_35 ?_
    refine ch_aload_n (i := 0) d_m_isBest_36 rfl rfl ?_
    refine ch_get (v := .inr (9, 0, 10)) d_m_isBest_37 fl_m_42 rfl ?_
    refine ch_iload_n (i := 2) d_m_isBest_40 rfl rfl ?_
    have b10 := h.1
    replace h := h.2
    refine ch_iald (n := 13) d_m_isBest_41 (by decide) rfl b10 ?_
    refine ch_icmp_ne (tgt := 67) d_m_isBest_42 (by decide) (fun c => ?_) (fun c => ?_)
    · replace h := h.1 c
      refine ch_iconst (v := 0) d_m_isBest_67 (by decide) ?_
      exact ch_iret (ty := .boolean) d_m_isBest_68 rfl rfl (Nat.le_of_ble_eq_true rfl) h
    · replace h := h.2 c
      refine ch_aload_n (i := 0) d_m_isBest_45 rfl rfl ?_
      refine ch_get (v := .inr (9, 0, 11)) d_m_isBest_46 fl_m_45 rfl ?_
      refine ch_iload d_m_isBest_49 rfl ?_
      refine ch_iald (n := 13) d_m_isBest_51 (by decide) rfl b1 ?_
      refine ch_iconst (v := 1) d_m_isBest_52 (by decide) ?_
      refine ch_iadd d_m_isBest_53 ?_
      refine ch_aload_n (i := 0) d_m_isBest_54 rfl rfl ?_
      refine ch_get (v := .inr (9, 0, 11)) d_m_isBest_55 fl_m_45 rfl ?_
      refine ch_iload_n (i := 2) d_m_isBest_58 rfl rfl ?_
      refine ch_iald (n := 13) d_m_isBest_59 (by decide) rfl b10 ?_
      refine ch_icmp_ne (tgt := 67) d_m_isBest_60 (by decide) (fun c => ?_) (fun c => ?_)
      · replace h := h.1 c
        refine ch_iconst (v := 0) d_m_isBest_67 (by decide) ?_
        exact ch_iret (ty := .boolean) d_m_isBest_68 rfl rfl (Nat.le_of_ble_eq_true rfl) h
      · replace h := h.2 c
        refine ch_iconst (v := 1) d_m_isBest_63 (by decide) ?_
        refine ch_goto (tgt := 68) d_m_isBest_64 (by decide) ?_
        exact ch_iret (ty := .boolean) d_m_isBest_68 rfl rfl (Nat.le_of_ble_eq_true rfl) h
