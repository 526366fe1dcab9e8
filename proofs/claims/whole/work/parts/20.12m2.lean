theorem e_m_hops (g : ch_G) (Q : ch_O → ch_M → Prop) (p1 : Int32) (m : ch_M) (h : ch_J g m_m_hops (ch_rm m_m_hops) (ch_E g m_m_hops Q) 0 [some (.inr (9, 0, 0)), some (.inl (.int p1)), none, none, none] [] m 0) : ch_C g m_m_hops [.inr (9, 0, 0), .inl (.int p1)] m Q :=
  ch_enter mf_m_hops (by intro v hv; simp only [List.mem_cons, List.not_mem_nil, or_false] at hv; rcases hv with rfl | rfl <;> rfl) (Nat.le_of_ble_eq_true rfl) h
set_option maxHeartbeats 1600000 in
theorem g_m_hops_0 (g : ch_G) (Q : ch_O → ch_M → Prop) (p1 : Int32) (m : ch_M) (h : (ch_C g m_m_isOver [.inr (9, 0, 0)] m (ch_oi (fun (r1 : Int32) (m2 : ch_M) => ((¬ r1 = 0 → ch_J g m_m_hops (ch_rm m_m_hops) (ch_E g m_m_hops Q) 25 [some (.inr (9, 0, 0)), some (.inl (.int p1)), some (.inl (.int 0)), some (.inl (.int (-1))), some (.inl (.int 0))] [] m2 0) ∧ (r1 = 0 → (ch_C g m_m_where [.inr (9, 0, 0)] m2 (ch_oi (fun (r3 : Int32) (m4 : ch_M) => (ch_C g m_m_refuses [.inr (9, 0, 0), .inl (.int 8), .inl (.int r3)] m4 (ch_oi (fun (r5 : Int32) (m6 : ch_M) => (narrow .boolean (.int r5) = .int r5) ∧ Q (.inl (some (.inl (.int r5)))) m6)))))))))))) : ch_J g m_m_hops (ch_rm m_m_hops) (ch_E g m_m_hops Q) 0 [some (.inr (9, 0, 0)), some (.inl (.int p1)), none, none, none] [] m 0 := by
  refine ch_aload_n (i := 0) d_m_hops_0 rfl rfl ?_
  refine ch_callV (as := []) d_m_hops_1 lk_m_132 mi_m_isOver me_m_isOver rfl rfl rfl ⟨Nat.le_of_ble_eq_true rfl, Nat.le_of_ble_eq_true rfl⟩ (Nat.le_of_ble_eq_true rfl) ⟨Nat.le_of_ble_eq_true rfl, Nat.le_of_ble_eq_true rfl⟩ (ch_mono (ch_Ki (fun r1 m2 h => ?_)) h)
  refine ch_if_ne (tgt := 18) d_m_hops_4 (by decide) (fun c => ?_) (fun c => ?_)
  · replace h := h.1 c
    refine ch_iconst (v := 0) d_m_hops_18 (by decide) ?_
    refine ch_istore_n (i := 2) d_m_hops_19 rfl (Nat.le_of_ble_eq_true rfl) (ls' := [some (.inr (9, 0, 0)), some (.inl (.int p1)), some (.inl (.int 0)), none, none]) rfl ?_
    refine ch_iconst (v := (-1)) d_m_hops_20 (by decide) ?_
    refine ch_istore_n (i := 3) d_m_hops_21 rfl (Nat.le_of_ble_eq_true rfl) (ls' := [some (.inr (9, 0, 0)), some (.inl (.int p1)), some (.inl (.int 0)), some (.inl (.int (-1))), none]) rfl ?_
    refine ch_iconst (v := 0) d_m_hops_22 (by decide) ?_
    refine ch_istore (i := 4) d_m_hops_23 (Nat.le_of_ble_eq_true rfl) (ls' := [some (.inr (9, 0, 0)), some (.inl (.int p1)), some (.inl (.int 0)), some (.inl (.int (-1))), some (.inl (.int 0))]) rfl ?_
    exact h
  · replace h := h.2 c
    refine ch_aload_n (i := 0) d_m_hops_7 rfl rfl ?_
    refine ch_bipush (v := 8) d_m_hops_8 (by decide) ?_
    refine ch_aload_n (i := 0) d_m_hops_10 rfl rfl ?_
    refine ch_callV (as := []) d_m_hops_11 lk_m_136 mi_m_where me_m_where rfl rfl rfl ⟨Nat.le_of_ble_eq_true rfl, Nat.le_of_ble_eq_true rfl⟩ (Nat.le_of_ble_eq_true rfl) ⟨Nat.le_of_ble_eq_true rfl, Nat.le_of_ble_eq_true rfl⟩ (ch_mono (ch_Ki (fun r3 m4 h => ?_)) h)
    refine ch_callV (as := [.inl (.int 8), .inl (.int r3)]) d_m_hops_14 lk_m_81 mi_m_refuses me_m_refuses rfl rfl rfl ⟨Nat.le_of_ble_eq_true rfl, Nat.le_of_ble_eq_true rfl⟩ (Nat.le_of_ble_eq_true rfl) ⟨Nat.le_of_ble_eq_true rfl, Nat.le_of_ble_eq_true rfl⟩ (ch_mono (ch_Ki (fun r5 m6 h => ?_)) h)
    exact ch_iret (ty := .boolean) d_m_hops_17 rfl h.1 (Nat.le_of_ble_eq_true rfl) h.2
set_option maxHeartbeats 1600000 in
theorem g_m_hops_25 (g : ch_G) (Q : ch_O → ch_M → Prop) (x1 : Int32) (x2 : Int32) (x3 : Int32) (x4 : Int32) (m : ch_M) (h : (((m (9, 0, 0) 21) ≤ x4 → (ch_C g m_m_of [.inr (9, 0, 0), .inl (.int x1), .inl (.int 1)] m (ch_oi (fun (r1 : Int32) (m2 : ch_M) => (ch_C g m_m_sets [.inr (9, 0, 0), .inl (.int x1), .inl (.int 1), .inl (.int (r1 + x2))] m2 (ch_ov (fun (m4 : ch_M) => (ch_C g m_m_of [.inr (9, 0, 0), .inl (.int x1), .inl (.int 3)] m4 (ch_oi (fun (r5 : Int32) (m6 : ch_M) => (ch_C g m_m_sets [.inr (9, 0, 0), .inl (.int x1), .inl (.int 3), .inl (.int (r5 + 1))] m6 (ch_ov (fun (m8 : ch_M) => (∀ m9 : ch_M, m9 = ch_wr m8 (9, 0, 1) (3) ((m8 (9, 0, 1) (3)) + x2) → (ch_C g m_m_does [.inr (9, 0, 0), .inl (.int x2)] m9 (ch_oi (fun (r10 : Int32) (m11 : ch_M) => (narrow .boolean (.int r10) = .int r10) ∧ Q (.inl (some (.inl (.int r10)))) m11))))))))))))))))) ∧ (¬ (m (9, 0, 0) 21) ≤ x4 → (vp_in x4 12) ∧ (ch_C g m_m_isLine [.inr (9, 0, 0), .inl (.int x1), .inl (.int (x3 + (m (9, 0, 9) (Int32.toNatClampNeg x4))))] m (ch_oi (fun (r13 : Int32) (m14 : ch_M) => ((¬ r13 = 0 → (ch_C g m_m_owner [.inr (9, 0, 0), .inl (.int (x3 + (m (9, 0, 9) (Int32.toNatClampNeg x4))))] m14 (ch_oi (fun (r15 : Int32) (m16 : ch_M) => (ch_C g m_m_owner [.inr (9, 0, 0), .inl (.int (x3 + (m (9, 0, 9) (Int32.toNatClampNeg x4))))] m16 (ch_oi (fun (r17 : Int32) (m18 : ch_M) => (ch_C g m_m_of [.inr (9, 0, 0), .inl (.int r17), .inl (.int 4)] m18 (ch_oi (fun (r19 : Int32) (m20 : ch_M) => (ch_C g m_m_sets [.inr (9, 0, 0), .inl (.int r15), .inl (.int 4), .inl (.int (r19 + 1))] m20 (ch_ov (fun (m22 : ch_M) => (vp_in ((14 + (2 * (x3 + (m (9, 0, 9) (Int32.toNatClampNeg x4))))) + 1) 63) ∧ (∀ m24 : ch_M, m24 = ch_wr m22 (9, 0, 1) (Int32.toNatClampNeg ((14 + (2 * (x3 + (m (9, 0, 9) (Int32.toNatClampNeg x4))))) + 1)) ((m22 (9, 0, 1) (Int32.toNatClampNeg ((14 + (2 * (x3 + (m (9, 0, 9) (Int32.toNatClampNeg x4))))) + 1))) - 1) → (ch_C g m_m_chalkOf [.inr (9, 0, 0), .inl (.int (x3 + (m (9, 0, 9) (Int32.toNatClampNeg x4))))] m24 (ch_oi (fun (r25 : Int32) (m26 : ch_M) => ((¬ r25 = 0 → ch_J g m_m_hops (ch_rm m_m_hops) (ch_E g m_m_hops Q) 25 [some (.inr (9, 0, 0)), some (.inl (.int x1)), some (.inl (.int (x2 + 1))), some (.inl (.int (x3 + (m (9, 0, 9) (Int32.toNatClampNeg x4))))), some (.inl (.int (x4 + 1)))] [] m26 0) ∧ (r25 = 0 → (ch_C g m_m_frees [.inr (9, 0, 0), .inl (.int (x3 + (m (9, 0, 9) (Int32.toNatClampNeg x4))))] m26 (ch_ov (fun (m28 : ch_M) => ch_J g m_m_hops (ch_rm m_m_hops) (ch_E g m_m_hops Q) 25 [some (.inr (9, 0, 0)), some (.inl (.int x1)), some (.inl (.int (x2 + 1))), some (.inl (.int (x3 + (m (9, 0, 9) (Int32.toNatClampNeg x4))))), some (.inl (.int (x4 + 1)))] [] m28 0)))))))))))))))))))))) ∧ (r13 = 0 → ch_J g m_m_hops (ch_rm m_m_hops) (ch_E g m_m_hops Q) 25 [some (.inr (9, 0, 0)), some (.inl (.int x1)), some (.inl (.int x2)), some (.inl (.int (x3 + (m (9, 0, 9) (Int32.toNatClampNeg x4))))), some (.inl (.int (x4 + 1)))] [] m14 0)))))))) : ch_J g m_m_hops (ch_rm m_m_hops) (ch_E g m_m_hops Q) 25 [some (.inr (9, 0, 0)), some (.inl (.int x1)), some (.inl (.int x2)), some (.inl (.int x3)), some (.inl (.int x4))] [] m 0 := by
  refine ch_iload d_m_hops_25 rfl ?_
  refine ch_aload_n (i := 0) d_m_hops_27 rfl rfl ?_
  refine ch_get (v := .inl (.int (m (9, 0, 0) 21))) d_m_hops_28 fl_m_126 rfl ?_
  refine ch_icmp_ge (tgt := 117) d_m_hops_31 (by decide) (fun c => ?_) (fun c => ?_)
  · replace h := h.1 c
    refine ch_aload_n (i := 0) d_m_hops_117 rfl rfl ?_
    refine ch_iload_n (i := 1) d_m_hops_118 rfl rfl ?_
    refine ch_iconst (v := 1) d_m_hops_119 (by decide) ?_
    refine ch_aload_n (i := 0) d_m_hops_120 rfl rfl ?_
    refine ch_iload_n (i := 1) d_m_hops_121 rfl rfl ?_
    refine ch_iconst (v := 1) d_m_hops_122 (by decide) ?_
    refine ch_callV (as := [.inl (.int x1), .inl (.int 1)]) d_m_hops_123 lk_m_85 mi_m_of me_m_of rfl rfl rfl ⟨Nat.le_of_ble_eq_true rfl, Nat.le_of_ble_eq_true rfl⟩ (Nat.le_of_ble_eq_true rfl) ⟨Nat.le_of_ble_eq_true rfl, Nat.le_of_ble_eq_true rfl⟩ (ch_mono (ch_Ki (fun r1 m2 h => ?_)) h)
    refine ch_iload_n (i := 2) d_m_hops_126 rfl rfl ?_
    refine ch_iadd d_m_hops_127 ?_
    refine ch_callV (as := [.inl (.int x1), .inl (.int 1), .inl (.int (r1 + x2))]) d_m_hops_128 lk_m_89 mi_m_sets me_m_sets rfl rfl rfl ⟨Nat.le_of_ble_eq_true rfl, Nat.le_of_ble_eq_true rfl⟩ (Nat.le_of_ble_eq_true rfl) ⟨Nat.le_of_ble_eq_true rfl, Nat.le_of_ble_eq_true rfl⟩ (ch_mono (ch_Kv (fun m4 h => ?_)) h)
    refine ch_aload_n (i := 0) d_m_hops_131 rfl rfl ?_
    refine ch_iload_n (i := 1) d_m_hops_132 rfl rfl ?_
    refine ch_iconst (v := 3) d_m_hops_133 (by decide) ?_
    refine ch_aload_n (i := 0) d_m_hops_134 rfl rfl ?_
    refine ch_iload_n (i := 1) d_m_hops_135 rfl rfl ?_
    refine ch_iconst (v := 3) d_m_hops_136 (by decide) ?_
    refine ch_callV (as := [.inl (.int x1), .inl (.int 3)]) d_m_hops_137 lk_m_85 mi_m_of me_m_of rfl rfl rfl ⟨Nat.le_of_ble_eq_true rfl, Nat.le_of_ble_eq_true rfl⟩ (Nat.le_of_ble_eq_true rfl) ⟨Nat.le_of_ble_eq_true rfl, Nat.le_of_ble_eq_true rfl⟩ (ch_mono (ch_Ki (fun r5 m6 h => ?_)) h)
    refine ch_iconst (v := 1) d_m_hops_140 (by decide) ?_
    refine ch_iadd d_m_hops_141 ?_
    refine ch_callV (as := [.inl (.int x1), .inl (.int 3), .inl (.int (r5 + 1))]) d_m_hops_142 lk_m_89 mi_m_sets me_m_sets rfl rfl rfl ⟨Nat.le_of_ble_eq_true rfl, Nat.le_of_ble_eq_true rfl⟩ (Nat.le_of_ble_eq_true rfl) ⟨Nat.le_of_ble_eq_true rfl, Nat.le_of_ble_eq_true rfl⟩ (ch_mono (ch_Kv (fun m8 h => ?_)) h)
    refine ch_aload_n (i := 0) d_m_hops_145 rfl rfl ?_
    refine ch_get (v := .inr (9, 0, 1)) d_m_hops_146 fl_m_9 rfl ?_
    refine ch_iconst (v := 3) d_m_hops_149 (by decide) ?_
    refine ch_dup2 d_m_hops_150 rfl rfl ?_
    refine ch_iald (n := 63) d_m_hops_151 (by decide) rfl (vp_in_nI (n := 3) (by decide) (by decide)) ?_
    refine ch_iload_n (i := 2) d_m_hops_152 rfl rfl ?_
    refine ch_iadd d_m_hops_153 ?_
    refine ch_iast (n := 63) d_m_hops_154 (by decide) rfl (vp_in_nI (n := 3) (by decide) (by decide)) ?_
    show ch_J g _ _ _ _ _ _ (ch_wr m8 (9, 0, 1) (3) ((m8 (9, 0, 1) (3)) + x2)) _
    generalize hmm9 : ch_wr m8 (9, 0, 1) (3) ((m8 (9, 0, 1) (3)) + x2) = m9
    replace h := h m9 hmm9.symm
    refine ch_aload_n (i := 0) d_m_hops_155 rfl rfl ?_
    refine ch_iload_n (i := 2) d_m_hops_156 rfl rfl ?_
    refine ch_callV (as := [.inl (.int x2)]) d_m_hops_157 lk_m_93 mi_m_does me_m_does rfl rfl rfl ⟨Nat.le_of_ble_eq_true rfl, Nat.le_of_ble_eq_true rfl⟩ (Nat.le_of_ble_eq_true rfl) ⟨Nat.le_of_ble_eq_true rfl, Nat.le_of_ble_eq_true rfl⟩ (ch_mono (ch_Ki (fun r10 m11 h => ?_)) h)
    exact ch_iret (ty := .boolean) d_m_hops_160 rfl h.1 (Nat.le_of_ble_eq_true rfl) h.2
  · replace h := h.2 c
    refine ch_iload_n (i := 3) d_m_hops_34 rfl rfl ?_
    refine ch_aload_n (i := 0) d_m_hops_35 rfl rfl ?_
    refine ch_get (v := .inr (9, 0, 9)) d_m_hops_36 fl_m_39 rfl ?_
    refine ch_iload d_m_hops_39 rfl ?_
    have b12 := h.1
    replace h := h.2
    refine ch_iald (n := 12) d_m_hops_41 (by decide) rfl b12 ?_
    refine ch_iadd d_m_hops_42 ?_
    refine ch_istore_n (i := 3) d_m_hops_43 rfl (Nat.le_of_ble_eq_true rfl) (ls' := [some (.inr (9, 0, 0)), some (.inl (.int x1)), some (.inl (.int x2)), some (.inl (.int (x3 + (m (9, 0, 9) (Int32.toNatClampNeg x4))))), some (.inl (.int x4))]) rfl ?_
    refine ch_aload_n (i := 0) d_m_hops_44 rfl rfl ?_
    refine ch_iload_n (i := 1) d_m_hops_45 rfl rfl ?_
    refine ch_iload_n (i := 3) d_m_hops_46 rfl rfl ?_
    refine ch_callV (as := [.inl (.int x1), .inl (.int (x3 + (m (9, 0, 9) (Int32.toNatClampNeg x4))))]) d_m_hops_47 lk_m_129 mi_m_isLine me_m_isLine rfl rfl rfl ⟨Nat.le_of_ble_eq_true rfl, Nat.le_of_ble_eq_true rfl⟩ (Nat.le_of_ble_eq_true rfl) ⟨Nat.le_of_ble_eq_true rfl, Nat.le_of_ble_eq_true rfl⟩ (ch_mono (ch_Ki (fun r13 m14 h => ?_)) h)
    refine ch_if_ne (tgt := 56) d_m_hops_50 (by decide) (fun c => ?_) (fun c => ?_)
    · replace h := h.1 c
      refine ch_iinc (i := 2) (v := (x2 + 1)) d_m_hops_56 rfl rfl (Nat.le_of_ble_eq_true rfl) (ls' := [some (.inr (9, 0, 0)), some (.inl (.int x1)), some (.inl (.int (x2 + 1))), some (.inl (.int (x3 + (m (9, 0, 9) (Int32.toNatClampNeg x4))))), some (.inl (.int x4))]) rfl ?_
      refine ch_aload_n (i := 0) d_m_hops_59 rfl rfl ?_
      refine ch_aload_n (i := 0) d_m_hops_60 rfl rfl ?_
      refine ch_iload_n (i := 3) d_m_hops_61 rfl rfl ?_
      refine ch_callV (as := [.inl (.int (x3 + (m (9, 0, 9) (Int32.toNatClampNeg x4))))]) d_m_hops_62 lk_m_109 mi_m_owner me_m_owner rfl rfl rfl ⟨Nat.le_of_ble_eq_true rfl, Nat.le_of_ble_eq_true rfl⟩ (Nat.le_of_ble_eq_true rfl) ⟨Nat.le_of_ble_eq_true rfl, Nat.le_of_ble_eq_true rfl⟩ (ch_mono (ch_Ki (fun r15 m16 h => ?_)) h)
      refine ch_iconst (v := 4) d_m_hops_65 (by decide) ?_
      refine ch_aload_n (i := 0) d_m_hops_66 rfl rfl ?_
      refine ch_aload_n (i := 0) d_m_hops_67 rfl rfl ?_
      refine ch_iload_n (i := 3) d_m_hops_68 rfl rfl ?_
      refine ch_callV (as := [.inl (.int (x3 + (m (9, 0, 9) (Int32.toNatClampNeg x4))))]) d_m_hops_69 lk_m_109 mi_m_owner me_m_owner rfl rfl rfl ⟨Nat.le_of_ble_eq_true rfl, Nat.le_of_ble_eq_true rfl⟩ (Nat.le_of_ble_eq_true rfl) ⟨Nat.le_of_ble_eq_true rfl, Nat.le_of_ble_eq_true rfl⟩ (ch_mono (ch_Ki (fun r17 m18 h => ?_)) h)
      refine ch_iconst (v := 4) d_m_hops_72 (by decide) ?_
      refine ch_callV (as := [.inl (.int r17), .inl (.int 4)]) d_m_hops_73 lk_m_85 mi_m_of me_m_of rfl rfl rfl ⟨Nat.le_of_ble_eq_true rfl, Nat.le_of_ble_eq_true rfl⟩ (Nat.le_of_ble_eq_true rfl) ⟨Nat.le_of_ble_eq_true rfl, Nat.le_of_ble_eq_true rfl⟩ (ch_mono (ch_Ki (fun r19 m20 h => ?_)) h)
      refine ch_iconst (v := 1) d_m_hops_76 (by decide) ?_
      refine ch_iadd d_m_hops_77 ?_
      refine ch_callV (as := [.inl (.int r15), .inl (.int 4), .inl (.int (r19 + 1))]) d_m_hops_78 lk_m_89 mi_m_sets me_m_sets rfl rfl rfl ⟨Nat.le_of_ble_eq_true rfl, Nat.le_of_ble_eq_true rfl⟩ (Nat.le_of_ble_eq_true rfl) ⟨Nat.le_of_ble_eq_true rfl, Nat.le_of_ble_eq_true rfl⟩ (ch_mono (ch_Kv (fun m22 h => ?_)) h)
      refine ch_aload_n (i := 0) d_m_hops_81 rfl rfl ?_
      refine ch_get (v := .inr (9, 0, 1)) d_m_hops_82 fl_m_9 rfl ?_
      refine ch_bipush (v := 14) d_m_hops_85 (by decide) ?_
      refine ch_iconst (v := 2) d_m_hops_87 (by decide) ?_
      refine ch_iload_n (i := 3) d_m_hops_88 rfl rfl ?_
      refine ch_imul d_m_hops_89 ?_
      refine ch_iadd d_m_hops_90 ?_
      refine ch_iconst (v := 1) d_m_hops_91 (by decide) ?_
      refine ch_iadd d_m_hops_92 ?_
      refine ch_dup2 d_m_hops_93 rfl rfl ?_
      have b23 := h.1
      replace h := h.2
      refine ch_iald (n := 63) d_m_hops_94 (by decide) rfl b23 ?_
      refine ch_iconst (v := 1) d_m_hops_95 (by decide) ?_
      refine ch_isub d_m_hops_96 ?_
      refine ch_iast (n := 63) d_m_hops_97 (by decide) rfl b23 ?_
      show ch_J g _ _ _ _ _ _ (ch_wr m22 (9, 0, 1) (Int32.toNatClampNeg ((14 + (2 * (x3 + (m (9, 0, 9) (Int32.toNatClampNeg x4))))) + 1)) ((m22 (9, 0, 1) (Int32.toNatClampNeg ((14 + (2 * (x3 + (m (9, 0, 9) (Int32.toNatClampNeg x4))))) + 1))) - 1)) _
      generalize hmm24 : ch_wr m22 (9, 0, 1) (Int32.toNatClampNeg ((14 + (2 * (x3 + (m (9, 0, 9) (Int32.toNatClampNeg x4))))) + 1)) ((m22 (9, 0, 1) (Int32.toNatClampNeg ((14 + (2 * (x3 + (m (9, 0, 9) (Int32.toNatClampNeg x4))))) + 1))) - 1) = m24
      replace h := h m24 hmm24.symm
      refine ch_aload_n (i := 0) d_m_hops_98 rfl rfl ?_
      refine ch_iload_n (i := 3) d_m_hops_99 rfl rfl ?_
      refine ch_callV (as := [.inl (.int (x3 + (m (9, 0, 9) (Int32.toNatClampNeg x4))))]) d_m_hops_100 lk_m_112 mi_m_chalkOf me_m_chalkOf rfl rfl rfl ⟨Nat.le_of_ble_eq_true rfl, Nat.le_of_ble_eq_true rfl⟩ (Nat.le_of_ble_eq_true rfl) ⟨Nat.le_of_ble_eq_true rfl, Nat.le_of_ble_eq_true rfl⟩ (ch_mono (ch_Ki (fun r25 m26 h => ?_)) h)
      refine ch_if_ne (tgt := 111) d_m_hops_103 (by decide) (fun c => ?_) (fun c => ?_)
      · replace h := h.1 c
        refine ch_iinc (i := 4) (v := (x4 + 1)) d_m_hops_111 rfl rfl (Nat.le_of_ble_eq_true rfl) (ls' := [some (.inr (9, 0, 0)), some (.inl (.int x1)), some (.inl (.int (x2 + 1))), some (.inl (.int (x3 + (m (9, 0, 9) (Int32.toNatClampNeg x4))))), some (.inl (.int (x4 + 1)))]) rfl ?_
        refine ch_goto (tgt := 25) d_m_hops_114 (by decide) ?_
        exact h
      · replace h := h.2 c
        refine ch_aload_n (i := 0) d_m_hops_106 rfl rfl ?_
        refine ch_iload_n (i := 3) d_m_hops_107 rfl rfl ?_
        refine ch_callV (as := [.inl (.int (x3 + (m (9, 0, 9) (Int32.toNatClampNeg x4))))]) d_m_hops_108 lk_m_140 mi_m_frees me_m_frees rfl rfl rfl ⟨Nat.le_of_ble_eq_true rfl, Nat.le_of_ble_eq_true rfl⟩ (Nat.le_of_ble_eq_true rfl) ⟨Nat.le_of_ble_eq_true rfl, Nat.le_of_ble_eq_true rfl⟩ (ch_mono (ch_Kv (fun m28 h => ?_)) h)
        refine ch_iinc (i := 4) (v := (x4 + 1)) d_m_hops_111 rfl rfl (Nat.le_of_ble_eq_true rfl) (ls' := [some (.inr (9, 0, 0)), some (.inl (.int x1)), some (.inl (.int (x2 + 1))), some (.inl (.int (x3 + (m (9, 0, 9) (Int32.toNatClampNeg x4))))), some (.inl (.int (x4 + 1)))]) rfl ?_
        refine ch_goto (tgt := 25) d_m_hops_114 (by decide) ?_
        exact h
    · replace h := h.2 c
      refine ch_goto (tgt := 111) d_m_hops_53 (by decide) ?_
      refine ch_iinc (i := 4) (v := (x4 + 1)) d_m_hops_111 rfl rfl (Nat.le_of_ble_eq_true rfl) (ls' := [some (.inr (9, 0, 0)), some (.inl (.int x1)), some (.inl (.int x2)), some (.inl (.int (x3 + (m (9, 0, 9) (Int32.toNatClampNeg x4))))), some (.inl (.int (x4 + 1)))]) rfl ?_
      refine ch_goto (tgt := 25) d_m_hops_114 (by decide) ?_
      exact h
theorem e_m_canHop (g : ch_G) (Q : ch_O → ch_M → Prop) (p1 : Int32) (m : ch_M) (h : ch_J g m_m_canHop (ch_rm m_m_canHop) (ch_E g m_m_canHop Q) 0 [some (.inr (9, 0, 0)), some (.inl (.int p1))] [] m 0) : ch_C g m_m_canHop [.inr (9, 0, 0), .inl (.int p1)] m Q :=
  ch_enter mf_m_canHop (by intro v hv; simp only [List.mem_cons, List.not_mem_nil, or_false] at hv; rcases hv with rfl | rfl <;> rfl) (Nat.le_of_ble_eq_true rfl) h
set_option maxHeartbeats 1600000 in
theorem g_m_canHop_0 (g : ch_G) (Q : ch_O → ch_M → Prop) (p1 : Int32) (m : ch_M) (h : (ch_C g m_m_isThere [.inr (9, 0, 0), .inl (.int p1)] m (ch_oi (fun (r1 : Int32) (m2 : ch_M) => ((¬ r1 = 0 → (ch_C g m_m_of [.inr (9, 0, 0), .inl (.int p1), .inl (.int 2)] m2 (ch_oi (fun (r3 : Int32) (m4 : ch_M) => ((r3 = 0 → Q (.inl (some (.inl (.int 1)))) m4) ∧ (¬ r3 = 0 → (ch_C g m_m_of [.inr (9, 0, 0), .inl (.int p1), .inl (.int 2)] m4 (ch_oi (fun (r5 : Int32) (m6 : ch_M) => (ch_C g m_m_refuses [.inr (9, 0, 0), .inl (.int 7), .inl (.int r5)] m6 (ch_oi (fun (r7 : Int32) (m8 : ch_M) => ((r7 = 0 → Q (.inl (some (.inl (.int 0)))) m8) ∧ (¬ r7 = 0 → Q (.inl (some (.inl (.int 1)))) m8)))))))))))))) ∧ (r1 = 0 → Q (.inl (some (.inl (.int 0)))) m2)))))) : ch_J g m_m_canHop (ch_rm m_m_canHop) (ch_E g m_m_canHop Q) 0 [some (.inr (9, 0, 0)), some (.inl (.int p1))] [] m 0 := by
  refine ch_aload_n (i := 0) d_m_canHop_0 rfl rfl ?_
  refine ch_iload_n (i := 1) d_m_canHop_1 rfl rfl ?_
  refine ch_callV (as := [.inl (.int p1)]) d_m_canHop_2 lk_m_106 mi_m_isThere me_m_isThere rfl rfl rfl ⟨Nat.le_of_ble_eq_true rfl, Nat.le_of_ble_eq_true rfl⟩ (Nat.le_of_ble_eq_true rfl) ⟨Nat.le_of_ble_eq_true rfl, Nat.le_of_ble_eq_true rfl⟩ (ch_mono (ch_Ki (fun r1 m2 h => ?_)) h)
  refine ch_if_ne (tgt := 10) d_m_canHop_5 (by decide) (fun c => ?_) (fun c => ?_)
  · replace h := h.1 c
    refine ch_aload_n (i := 0) d_m_canHop_10 rfl rfl ?_
    refine ch_iload_n (i := 1) d_m_canHop_11 rfl rfl ?_
    refine ch_iconst (v := 2) d_m_canHop_12 (by decide) ?_
    refine ch_callV (as := [.inl (.int p1), .inl (.int 2)]) d_m_canHop_13 lk_m_85 mi_m_of me_m_of rfl rfl rfl ⟨Nat.le_of_ble_eq_true rfl, Nat.le_of_ble_eq_true rfl⟩ (Nat.le_of_ble_eq_true rfl) ⟨Nat.le_of_ble_eq_true rfl, Nat.le_of_ble_eq_true rfl⟩ (ch_mono (ch_Ki (fun r3 m4 h => ?_)) h)
    refine ch_if_eq (tgt := 34) d_m_canHop_16 (by decide) (fun c => ?_) (fun c => ?_)
    · replace h := h.1 c
      refine ch_iconst (v := 1) d_m_canHop_34 (by decide) ?_
      refine ch_goto (tgt := 39) d_m_canHop_35 (by decide) ?_
      exact ch_iret (ty := .boolean) d_m_canHop_39 rfl rfl (Nat.le_of_ble_eq_true rfl) h
    · replace h := h.2 c
      refine ch_aload_n (i := 0) d_m_canHop_19 rfl rfl ?_
      refine ch_bipush (v := 7) d_m_canHop_20 (by decide) ?_
      refine ch_aload_n (i := 0) d_m_canHop_22 rfl rfl ?_
      refine ch_iload_n (i := 1) d_m_canHop_23 rfl rfl ?_
      refine ch_iconst (v := 2) d_m_canHop_24 (by decide) ?_
      refine ch_callV (as := [.inl (.int p1), .inl (.int 2)]) d_m_canHop_25 lk_m_85 mi_m_of me_m_of rfl rfl rfl ⟨Nat.le_of_ble_eq_true rfl, Nat.le_of_ble_eq_true rfl⟩ (Nat.le_of_ble_eq_true rfl) ⟨Nat.le_of_ble_eq_true rfl, Nat.le_of_ble_eq_true rfl⟩ (ch_mono (ch_Ki (fun r5 m6 h => ?_)) h)
      refine ch_callV (as := [.inl (.int 7), .inl (.int r5)]) d_m_canHop_28 lk_m_81 mi_m_refuses me_m_refuses rfl rfl rfl ⟨Nat.le_of_ble_eq_true rfl, Nat.le_of_ble_eq_true rfl⟩ (Nat.le_of_ble_eq_true rfl) ⟨Nat.le_of_ble_eq_true rfl, Nat.le_of_ble_eq_true rfl⟩ (ch_mono (ch_Ki (fun r7 m8 h => ?_)) h)
      refine ch_if_eq (tgt := 38) d_m_canHop_31 (by decide) (fun c => ?_) (fun c => ?_)
      · replace h := h.1 c
        refine ch_iconst (v := 0) d_m_canHop_38 (by decide) ?_
        exact ch_iret (ty := .boolean) d_m_canHop_39 rfl rfl (Nat.le_of_ble_eq_true rfl) h
      · replace h := h.2 c
        refine ch_iconst (v := 1) d_m_canHop_34 (by decide) ?_
        refine ch_goto (tgt := 39) d_m_canHop_35 (by decide) ?_
        exact ch_iret (ty := .boolean) d_m_canHop_39 rfl rfl (Nat.le_of_ble_eq_true rfl) h
  · replace h := h.2 c
    refine ch_iconst (v := 0) d_m_canHop_8 (by decide) ?_
    exact ch_iret (ty := .boolean) d_m_canHop_9 rfl rfl (Nat.le_of_ble_eq_true rfl) h
theorem e_m_hop (g : ch_G) (Q : ch_O → ch_M → Prop) (p1 : Int32) (p2 : Int32) (m : ch_M) (h : ch_J g m_m_hop (ch_rm m_m_hop) (ch_E g m_m_hop Q) 0 [some (.inr (9, 0, 0)), some (.inl (.int p1)), some (.inl (.int p2))] [] m 0) : ch_C g m_m_hop [.inr (9, 0, 0), .inl (.int p1), .inl (.int p2)] m Q :=
  ch_enter mf_m_hop (by intro v hv; simp only [List.mem_cons, List.not_mem_nil, or_false] at hv; rcases hv with rfl | rfl | rfl <;> rfl) (Nat.le_of_ble_eq_true rfl) h
set_option maxHeartbeats 1600000 in
theorem g_m_hop_0 (g : ch_G) (Q : ch_O → ch_M → Prop) (p1 : Int32) (p2 : Int32) (m : ch_M) (h : (ch_C g m_m_tries [.inr (9, 0, 0)] m (ch_ov (fun (m2 : ch_M) => (ch_C g m_m_canHop [.inr (9, 0, 0), .inl (.int p1)] m2 (ch_oi (fun (r3 : Int32) (m4 : ch_M) => ((¬ r3 = 0 → (ch_C g m_m_areSteps [.inr (9, 0, 0), .inl (.int p2)] m4 (ch_oi (fun (r5 : Int32) (m6 : ch_M) => ((¬ r5 = 0 → (ch_C g m_m_hops [.inr (9, 0, 0), .inl (.int p1)] m6 (ch_oi (fun (r7 : Int32) (m8 : ch_M) => (ch_C g m_m_ends [.inr (9, 0, 0), .inl (.int r7)] m8 (ch_oi (fun (r9 : Int32) (m10 : ch_M) => Q (.inl (some (.inl (.int r9)))) m10))))))) ∧ (r5 = 0 → (ch_C g m_m_refuses [.inr (9, 0, 0), .inl (.int 1), .inl (.int 0)] m6 (ch_oi (fun (r11 : Int32) (m12 : ch_M) => (ch_C g m_m_ends [.inr (9, 0, 0), .inl (.int r11)] m12 (ch_oi (fun (r13 : Int32) (m14 : ch_M) => Q (.inl (some (.inl (.int r13)))) m14)))))))))))) ∧ (r3 = 0 → (ch_C g m_m_raises [.inr (9, 0, 0), .inl (.int 1)] m4 (ch_oi (fun (r15 : Int32) (m16 : ch_M) => Q (.inl (some (.inl (.int r15)))) m16)))))))))))) : ch_J g m_m_hop (ch_rm m_m_hop) (ch_E g m_m_hop Q) 0 [some (.inr (9, 0, 0)), some (.inl (.int p1)), some (.inl (.int p2))] [] m 0 := by
  refine ch_aload_n (i := 0) d_m_hop_0 rfl rfl ?_
  refine ch_callV (as := []) d_m_hop_1 lk_m_96 mi_m_tries me_m_tries rfl rfl rfl ⟨Nat.le_of_ble_eq_true rfl, Nat.le_of_ble_eq_true rfl⟩ (Nat.le_of_ble_eq_true rfl) ⟨Nat.le_of_ble_eq_true rfl, Nat.le_of_ble_eq_true rfl⟩ (ch_mono (ch_Kv (fun m2 h => ?_)) h)
  refine ch_aload_n (i := 0) d_m_hop_4 rfl rfl ?_
  refine ch_iload_n (i := 1) d_m_hop_5 rfl rfl ?_
  refine ch_callV (as := [.inl (.int p1)]) d_m_hop_6 lk_m_144 mi_m_canHop me_m_canHop rfl rfl rfl ⟨Nat.le_of_ble_eq_true rfl, Nat.le_of_ble_eq_true rfl⟩ (Nat.le_of_ble_eq_true rfl) ⟨Nat.le_of_ble_eq_true rfl, Nat.le_of_ble_eq_true rfl⟩ (ch_mono (ch_Ki (fun r3 m4 h => ?_)) h)
  refine ch_if_ne (tgt := 18) d_m_hop_9 (by decide) (fun c => ?_) (fun c => ?_)
  · replace h := h.1 c
    refine ch_aload_n (i := 0) d_m_hop_18 rfl rfl ?_
    refine ch_iload_n (i := 2) d_m_hop_19 rfl rfl ?_
    refine ch_callV (as := [.inl (.int p2)]) d_m_hop_20 lk_m_147 mi_m_areSteps me_m_areSteps rfl rfl rfl ⟨Nat.le_of_ble_eq_true rfl, Nat.le_of_ble_eq_true rfl⟩ (Nat.le_of_ble_eq_true rfl) ⟨Nat.le_of_ble_eq_true rfl, Nat.le_of_ble_eq_true rfl⟩ (ch_mono (ch_Ki (fun r5 m6 h => ?_)) h)
    refine ch_if_ne (tgt := 37) d_m_hop_23 (by decide) (fun c => ?_) (fun c => ?_)
    · replace h := h.1 c
      refine ch_aload_n (i := 0) d_m_hop_37 rfl rfl ?_
      refine ch_aload_n (i := 0) d_m_hop_38 rfl rfl ?_
      refine ch_iload_n (i := 1) d_m_hop_39 rfl rfl ?_
      refine ch_callV (as := [.inl (.int p1)]) d_m_hop_40 lk_m_150 mi_m_hops me_m_hops rfl rfl rfl ⟨Nat.le_of_ble_eq_true rfl, Nat.le_of_ble_eq_true rfl⟩ (Nat.le_of_ble_eq_true rfl) ⟨Nat.le_of_ble_eq_true rfl, Nat.le_of_ble_eq_true rfl⟩ (ch_mono (ch_Ki (fun r7 m8 h => ?_)) h)
      refine ch_callV (as := [.inl (.int r7)]) d_m_hop_43 lk_m_102 mi_m_ends me_m_ends rfl rfl rfl ⟨Nat.le_of_ble_eq_true rfl, Nat.le_of_ble_eq_true rfl⟩ (Nat.le_of_ble_eq_true rfl) ⟨Nat.le_of_ble_eq_true rfl, Nat.le_of_ble_eq_true rfl⟩ (ch_mono (ch_Ki (fun r9 m10 h => ?_)) h)
      exact ch_iret (ty := .int) d_m_hop_46 rfl rfl (Nat.le_of_ble_eq_true rfl) h
    · replace h := h.2 c
      refine ch_aload_n (i := 0) d_m_hop_26 rfl rfl ?_
      refine ch_aload_n (i := 0) d_m_hop_27 rfl rfl ?_
      refine ch_iconst (v := 1) d_m_hop_28 (by decide) ?_
      refine ch_iconst (v := 0) d_m_hop_29 (by decide) ?_
      refine ch_callV (as := [.inl (.int 1), .inl (.int 0)]) d_m_hop_30 lk_m_81 mi_m_refuses me_m_refuses rfl rfl rfl ⟨Nat.le_of_ble_eq_true rfl, Nat.le_of_ble_eq_true rfl⟩ (Nat.le_of_ble_eq_true rfl) ⟨Nat.le_of_ble_eq_true rfl, Nat.le_of_ble_eq_true rfl⟩ (ch_mono (ch_Ki (fun r11 m12 h => ?_)) h)
      refine ch_callV (as := [.inl (.int r11)]) d_m_hop_33 lk_m_102 mi_m_ends me_m_ends rfl rfl rfl ⟨Nat.le_of_ble_eq_true rfl, Nat.le_of_ble_eq_true rfl⟩ (Nat.le_of_ble_eq_true rfl) ⟨Nat.le_of_ble_eq_true rfl, Nat.le_of_ble_eq_true rfl⟩ (ch_mono (ch_Ki (fun r13 m14 h => ?_)) h)
      exact ch_iret (ty := .int) d_m_hop_36 rfl rfl (Nat.le_of_ble_eq_true rfl) h
  · replace h := h.2 c
    refine ch_aload_n (i := 0) d_m_hop_12 rfl rfl ?_
    refine ch_iconst (v := 1) d_m_hop_13 (by decide) ?_
    refine ch_callV (as := [.inl (.int 1)]) d_m_hop_14 lk_m_70 mi_m_raises me_m_raises rfl rfl rfl ⟨Nat.le_of_ble_eq_true rfl, Nat.le_of_ble_eq_true rfl⟩ (Nat.le_of_ble_eq_true rfl) ⟨Nat.le_of_ble_eq_true rfl, Nat.le_of_ble_eq_true rfl⟩ (ch_mono (ch_Ki (fun r15 m16 h => ?_)) h)
    exact ch_iret (ty := .int) d_m_hop_17 rfl rfl (Nat.le_of_ble_eq_true rfl) h
theorem e_m_writes (g : ch_G) (Q : ch_O → ch_M → Prop) (p1 : Int32) (m : ch_M) (h : ch_J g m_m_writes (ch_rm m_m_writes) (ch_E g m_m_writes Q) 0 [some (.inr (9, 0, 0)), some (.inl (.int p1)), none] [] m 0) : ch_C g m_m_writes [.inr (9, 0, 0), .inl (.int p1)] m Q :=
  ch_enter mf_m_writes (by intro v hv; simp only [List.mem_cons, List.not_mem_nil, or_false] at hv; rcases hv with rfl | rfl <;> rfl) (Nat.le_of_ble_eq_true rfl) h
set_option maxHeartbeats 1600000 in
theorem g_m_writes_0 (g : ch_G) (Q : ch_O → ch_M → Prop) (p1 : Int32) (m : ch_M) (h : (ch_C g m_m_canHop [.inr (9, 0, 0), .inl (.int p1)] m (ch_oi (fun (r1 : Int32) (m2 : ch_M) => ((¬ r1 = 0 → (ch_C g m_m_of [.inr (9, 0, 0), .inl (.int p1), .inl (.int 1)] m2 (ch_oi (fun (r3 : Int32) (m4 : ch_M) => ((3 ≤ r3 → (ch_C g m_m_sets [.inr (9, 0, 0), .inl (.int p1), .inl (.int 2), .inl (.int (if r3 < 9 then r3 else 9))] m4 (ch_ov (fun (m6 : ch_M) => (ch_C g m_m_sets [.inr (9, 0, 0), .inl (.int p1), .inl (.int 1), .inl (.int 0)] m6 (ch_ov (fun (m8 : ch_M) => (∀ m9 : ch_M, m9 = ch_wr m8 (9, 0, 1) (8) ((m8 (9, 0, 1) (8)) + 1) → (vp_in (9 + (m8 (9, 0, 1) (8))) 63) ∧ (∀ m11 : ch_M, m11 = ch_wr m9 (9, 0, 1) (Int32.toNatClampNeg (9 + (m8 (9, 0, 1) (8)))) p1 → (∀ m12 : ch_M, m12 = ch_wr m11 (9, 0, 1) (4) ((m11 (9, 0, 1) (4)) + 1) → (ch_C g m_m_of [.inr (9, 0, 0), .inl (.int p1), .inl (.int 2)] m12 (ch_oi (fun (r13 : Int32) (m14 : ch_M) => (ch_C g m_m_does [.inr (9, 0, 0), .inl (.int r13)] m14 (ch_oi (fun (r15 : Int32) (m16 : ch_M) => (narrow .boolean (.int r15) = .int r15) ∧ Q (.inl (some (.inl (.int r15)))) m16)))))))))))))))) ∧ (¬ 3 ≤ r3 → (ch_C g m_m_refuses [.inr (9, 0, 0), .inl (.int 9), .inl (.int r3)] m4 (ch_oi (fun (r17 : Int32) (m18 : ch_M) => (narrow .boolean (.int r17) = .int r17) ∧ Q (.inl (some (.inl (.int r17)))) m18))))))))) ∧ (r1 = 0 → Q (.inl (some (.inl (.int 0)))) m2)))))) : ch_J g m_m_writes (ch_rm m_m_writes) (ch_E g m_m_writes Q) 0 [some (.inr (9, 0, 0)), some (.inl (.int p1)), none] [] m 0 := by
  refine ch_aload_n (i := 0) d_m_writes_0 rfl rfl ?_
  refine ch_iload_n (i := 1) d_m_writes_1 rfl rfl ?_
  refine ch_callV (as := [.inl (.int p1)]) d_m_writes_2 lk_m_144 mi_m_canHop me_m_canHop rfl rfl rfl ⟨Nat.le_of_ble_eq_true rfl, Nat.le_of_ble_eq_true rfl⟩ (Nat.le_of_ble_eq_true rfl) ⟨Nat.le_of_ble_eq_true rfl, Nat.le_of_ble_eq_true rfl⟩ (ch_mono (ch_Ki (fun r1 m2 h => ?_)) h)
  refine ch_if_ne (tgt := 10) d_m_writes_5 (by decide) (fun c => ?_) (fun c => ?_)
  · replace h := h.1 c
    refine ch_aload_n (i := 0) d_m_writes_10 rfl rfl ?_
    refine ch_iload_n (i := 1) d_m_writes_11 rfl rfl ?_
    refine ch_iconst (v := 1) d_m_writes_12 (by decide) ?_
    refine ch_callV (as := [.inl (.int p1), .inl (.int 1)]) d_m_writes_13 lk_m_85 mi_m_of me_m_of rfl rfl rfl ⟨Nat.le_of_ble_eq_true rfl, Nat.le_of_ble_eq_true rfl⟩ (Nat.le_of_ble_eq_true rfl) ⟨Nat.le_of_ble_eq_true rfl, Nat.le_of_ble_eq_true rfl⟩ (ch_mono (ch_Ki (fun r3 m4 h => ?_)) h)
    refine ch_istore_n (i := 2) d_m_writes_16 rfl (Nat.le_of_ble_eq_true rfl) (ls' := [some (.inr (9, 0, 0)), some (.inl (.int p1)), some (.inl (.int r3))]) rfl ?_
    refine ch_iload_n (i := 2) d_m_writes_17 rfl rfl ?_
    refine ch_iconst (v := 3) d_m_writes_18 (by decide) ?_
    refine ch_icmp_ge (tgt := 30) d_m_writes_19 (by decide) (fun c => ?_) (fun c => ?_)
    · replace h := h.1 c
      refine ch_aload_n (i := 0) d_m_writes_30 rfl rfl ?_
      refine ch_iload_n (i := 1) d_m_writes_31 rfl rfl ?_
      refine ch_iconst (v := 2) d_m_writes_32 (by decide) ?_
      refine ch_bipush (v := 9) d_m_writes_33 (by decide) ?_
      refine ch_iload_n (i := 2) d_m_writes_35 rfl rfl ?_
      refine ch_min d_m_writes_36 lk_m_118 ⟨Nat.le_of_ble_eq_true rfl, Nat.le_of_ble_eq_true rfl⟩ ⟨Nat.le_of_ble_eq_true rfl, Nat.le_of_ble_eq_true rfl⟩ (Nat.le_of_ble_eq_true rfl) ?_
      refine ch_callV (as := [.inl (.int p1), .inl (.int 2), .inl (.int (if r3 < 9 then r3 else 9))]) d_m_writes_39 lk_m_89 mi_m_sets me_m_sets rfl rfl rfl ⟨Nat.le_of_ble_eq_true rfl, Nat.le_of_ble_eq_true rfl⟩ (Nat.le_of_ble_eq_true rfl) ⟨Nat.le_of_ble_eq_true rfl, Nat.le_of_ble_eq_true rfl⟩ (ch_mono (ch_Kv (fun m6 h => ?_)) h)
      refine ch_aload_n (i := 0) d_m_writes_42 rfl rfl ?_
      refine ch_iload_n (i := 1) d_m_writes_43 rfl rfl ?_
      refine ch_iconst (v := 1) d_m_writes_44 (by decide) ?_
      refine ch_iconst (v := 0) d_m_writes_45 (by decide) ?_
      refine ch_callV (as := [.inl (.int p1), .inl (.int 1), .inl (.int 0)]) d_m_writes_46 lk_m_89 mi_m_sets me_m_sets rfl rfl rfl ⟨Nat.le_of_ble_eq_true rfl, Nat.le_of_ble_eq_true rfl⟩ (Nat.le_of_ble_eq_true rfl) ⟨Nat.le_of_ble_eq_true rfl, Nat.le_of_ble_eq_true rfl⟩ (ch_mono (ch_Kv (fun m8 h => ?_)) h)
      refine ch_aload_n (i := 0) d_m_writes_49 rfl rfl ?_
      refine ch_get (v := .inr (9, 0, 1)) d_m_writes_50 fl_m_9 rfl ?_
      refine ch_bipush (v := 9) d_m_writes_53 (by decide) ?_
      refine ch_aload_n (i := 0) d_m_writes_55 rfl rfl ?_
      refine ch_get (v := .inr (9, 0, 1)) d_m_writes_56 fl_m_9 rfl ?_
      refine ch_bipush (v := 8) d_m_writes_59 (by decide) ?_
      refine ch_dup2 d_m_writes_61 rfl rfl ?_
      refine ch_iald (n := 63) d_m_writes_62 (by decide) rfl (vp_in_nI (n := 8) (by decide) (by decide)) ?_
      refine ch_dup_x2 d_m_writes_63 rfl rfl rfl ?_
      refine ch_iconst (v := 1) d_m_writes_64 (by decide) ?_
      refine ch_iadd d_m_writes_65 ?_
      refine ch_iast (n := 63) d_m_writes_66 (by decide) rfl (vp_in_nI (n := 8) (by decide) (by decide)) ?_
      show ch_J g _ _ _ _ _ _ (ch_wr m8 (9, 0, 1) (8) ((m8 (9, 0, 1) (8)) + 1)) _
      generalize hmm9 : ch_wr m8 (9, 0, 1) (8) ((m8 (9, 0, 1) (8)) + 1) = m9
      replace h := h m9 hmm9.symm
      refine ch_iadd d_m_writes_67 ?_
      refine ch_iload_n (i := 1) d_m_writes_68 rfl rfl ?_
      have b10 := h.1
      replace h := h.2
      refine ch_iast (n := 63) d_m_writes_69 (by decide) rfl b10 ?_
      show ch_J g _ _ _ _ _ _ (ch_wr m9 (9, 0, 1) (Int32.toNatClampNeg (9 + (m8 (9, 0, 1) (8)))) p1) _
      generalize hmm11 : ch_wr m9 (9, 0, 1) (Int32.toNatClampNeg (9 + (m8 (9, 0, 1) (8)))) p1 = m11
      replace h := h m11 hmm11.symm
      refine ch_aload_n (i := 0) d_m_writes_70 rfl rfl ?_
      refine ch_get (v := .inr (9, 0, 1)) d_m_writes_71 fl_m_9 rfl ?_
      refine ch_iconst (v := 4) d_m_writes_74 (by decide) ?_
      refine ch_dup2 d_m_writes_75 rfl rfl ?_
      refine ch_iald (n := 63) d_m_writes_76 (by decide) rfl (vp_in_nI (n := 4) (by decide) (by decide)) ?_
      refine ch_iconst (v := 1) d_m_writes_77 (by decide) ?_
      refine ch_iadd d_m_writes_78 ?_
      refine ch_iast (n := 63) d_m_writes_79 (by decide) rfl (vp_in_nI (n := 4) (by decide) (by decide)) ?_
      show ch_J g _ _ _ _ _ _ (ch_wr m11 (9, 0, 1) (4) ((m11 (9, 0, 1) (4)) + 1)) _
      generalize hmm12 : ch_wr m11 (9, 0, 1) (4) ((m11 (9, 0, 1) (4)) + 1) = m12
      replace h := h m12 hmm12.symm
      refine ch_aload_n (i := 0) d_m_writes_80 rfl rfl ?_
      refine ch_aload_n (i := 0) d_m_writes_81 rfl rfl ?_
      refine ch_iload_n (i := 1) d_m_writes_82 rfl rfl ?_
      refine ch_iconst (v := 2) d_m_writes_83 (by decide) ?_
      refine ch_callV (as := [.inl (.int p1), .inl (.int 2)]) d_m_writes_84 lk_m_85 mi_m_of me_m_of rfl rfl rfl ⟨Nat.le_of_ble_eq_true rfl, Nat.le_of_ble_eq_true rfl⟩ (Nat.le_of_ble_eq_true rfl) ⟨Nat.le_of_ble_eq_true rfl, Nat.le_of_ble_eq_true rfl⟩ (ch_mono (ch_Ki (fun r13 m14 h => ?_)) h)
      refine ch_callV (as := [.inl (.int r13)]) d_m_writes_87 lk_m_93 mi_m_does me_m_does rfl rfl rfl ⟨Nat.le_of_ble_eq_true rfl, Nat.le_of_ble_eq_true rfl⟩ (Nat.le_of_ble_eq_true rfl) ⟨Nat.le_of_ble_eq_true rfl, Nat.le_of_ble_eq_true rfl⟩ (ch_mono (ch_Ki (fun r15 m16 h => ?_)) h)
      exact ch_iret (ty := .boolean) d_m_writes_90 rfl h.1 (Nat.le_of_ble_eq_true rfl) h.2
    · replace h := h.2 c
      refine ch_aload_n (i := 0) d_m_writes_22 rfl rfl ?_
      refine ch_bipush (v := 9) d_m_writes_23 (by decide) ?_
      refine ch_iload_n (i := 2) d_m_writes_25 rfl rfl ?_
      refine ch_callV (as := [.inl (.int 9), .inl (.int r3)]) d_m_writes_26 lk_m_81 mi_m_refuses me_m_refuses rfl rfl rfl ⟨Nat.le_of_ble_eq_true rfl, Nat.le_of_ble_eq_true rfl⟩ (Nat.le_of_ble_eq_true rfl) ⟨Nat.le_of_ble_eq_true rfl, Nat.le_of_ble_eq_true rfl⟩ (ch_mono (ch_Ki (fun r17 m18 h => ?_)) h)
      exact ch_iret (ty := .boolean) d_m_writes_29 rfl h.1 (Nat.le_of_ble_eq_true rfl) h.2
  · replace h := h.2 c
    refine ch_iconst (v := 0) d_m_writes_8 (by decide) ?_
    exact ch_iret (ty := .boolean) d_m_writes_9 rfl rfl (Nat.le_of_ble_eq_true rfl) h
theorem e_m_warrant (g : ch_G) (Q : ch_O → ch_M → Prop) (p1 : Int32) (m : ch_M) (h : ch_J g m_m_warrant (ch_rm m_m_warrant) (ch_E g m_m_warrant Q) 0 [some (.inr (9, 0, 0)), some (.inl (.int p1))] [] m 0) : ch_C g m_m_warrant [.inr (9, 0, 0), .inl (.int p1)] m Q :=
  ch_enter mf_m_warrant (by intro v hv; simp only [List.mem_cons, List.not_mem_nil, or_false] at hv; rcases hv with rfl | rfl <;> rfl) (Nat.le_of_ble_eq_true rfl) h
set_option maxHeartbeats 1600000 in
theorem g_m_warrant_0 (g : ch_G) (Q : ch_O → ch_M → Prop) (p1 : Int32) (m : ch_M) (h : (ch_C g m_m_tries [.inr (9, 0, 0)] m (ch_ov (fun (m2 : ch_M) => (ch_C g m_m_writes [.inr (9, 0, 0), .inl (.int p1)] m2 (ch_oi (fun (r3 : Int32) (m4 : ch_M) => (ch_C g m_m_ends [.inr (9, 0, 0), .inl (.int r3)] m4 (ch_oi (fun (r5 : Int32) (m6 : ch_M) => Q (.inl (some (.inl (.int r5)))) m6)))))))))) : ch_J g m_m_warrant (ch_rm m_m_warrant) (ch_E g m_m_warrant Q) 0 [some (.inr (9, 0, 0)), some (.inl (.int p1))] [] m 0 := by
  refine ch_aload_n (i := 0) d_m_warrant_0 rfl rfl ?_
  refine ch_callV (as := []) d_m_warrant_1 lk_m_96 mi_m_tries me_m_tries rfl rfl rfl ⟨Nat.le_of_ble_eq_true rfl, Nat.le_of_ble_eq_true rfl⟩ (Nat.le_of_ble_eq_true rfl) ⟨Nat.le_of_ble_eq_true rfl, Nat.le_of_ble_eq_true rfl⟩ (ch_mono (ch_Kv (fun m2 h => ?_)) h)
  refine ch_aload_n (i := 0) d_m_warrant_4 rfl rfl ?_
  refine ch_aload_n (i := 0) d_m_warrant_5 rfl rfl ?_
  refine ch_iload_n (i := 1) d_m_warrant_6 rfl rfl ?_
  refine ch_callV (as := [.inl (.int p1)]) d_m_warrant_7 lk_m_153 mi_m_writes me_m_writes rfl rfl rfl ⟨Nat.le_of_ble_eq_true rfl, Nat.le_of_ble_eq_true rfl⟩ (Nat.le_of_ble_eq_true rfl) ⟨Nat.le_of_ble_eq_true rfl, Nat.le_of_ble_eq_true rfl⟩ (ch_mono (ch_Ki (fun r3 m4 h => ?_)) h)
  refine ch_callV (as := [.inl (.int r3)]) d_m_warrant_10 lk_m_102 mi_m_ends me_m_ends rfl rfl rfl ⟨Nat.le_of_ble_eq_true rfl, Nat.le_of_ble_eq_true rfl⟩ (Nat.le_of_ble_eq_true rfl) ⟨Nat.le_of_ble_eq_true rfl, Nat.le_of_ble_eq_true rfl⟩ (ch_mono (ch_Ki (fun r5 m6 h => ?_)) h)
  exact ch_iret (ty := .int) d_m_warrant_13 rfl rfl (Nat.le_of_ble_eq_true rfl) h
theorem e_m_closes (g : ch_G) (Q : ch_O → ch_M → Prop) (p1 : Int32) (m : ch_M) (h : ch_J g m_m_closes (ch_rm m_m_closes) (ch_E g m_m_closes Q) 0 [some (.inr (9, 0, 0)), some (.inl (.int p1)), none, none] [] m 0) : ch_C g m_m_closes [.inr (9, 0, 0), .inl (.int p1)] m Q :=
  ch_enter mf_m_closes (by intro v hv; simp only [List.mem_cons, List.not_mem_nil, or_false] at hv; rcases hv with rfl | rfl <;> rfl) (Nat.le_of_ble_eq_true rfl) h
set_option maxHeartbeats 1600000 in
theorem g_m_closes_0 (g : ch_G) (Q : ch_O → ch_M → Prop) (p1 : Int32) (m : ch_M) (h : (ch_C g m_m_sets [.inr (9, 0, 0), .inl (.int p1), .inl (.int 2), .inl (.int 0)] m (ch_ov (fun (m2 : ch_M) => ch_J g m_m_closes (ch_rm m_m_closes) (ch_E g m_m_closes Q) 11 [some (.inr (9, 0, 0)), some (.inl (.int p1)), some (.inl (.int 0)), some (.inl (.int 0))] [] m2 0)))) : ch_J g m_m_closes (ch_rm m_m_closes) (ch_E g m_m_closes Q) 0 [some (.inr (9, 0, 0)), some (.inl (.int p1)), none, none] [] m 0 := by
  refine ch_aload_n (i := 0) d_m_closes_0 rfl rfl ?_
  refine ch_iload_n (i := 1) d_m_closes_1 rfl rfl ?_
  refine ch_iconst (v := 2) d_m_closes_2 (by decide) ?_
  refine ch_iconst (v := 0) d_m_closes_3 (by decide) ?_
  refine ch_callV (as := [.inl (.int p1), .inl (.int 2), .inl (.int 0)]) d_m_closes_4 lk_m_89 mi_m_sets me_m_sets rfl rfl rfl ⟨Nat.le_of_ble_eq_true rfl, Nat.le_of_ble_eq_true rfl⟩ (Nat.le_of_ble_eq_true rfl) ⟨Nat.le_of_ble_eq_true rfl, Nat.le_of_ble_eq_true rfl⟩ (ch_mono (ch_Kv (fun m2 h => ?_)) h)
  refine ch_iconst (v := 0) d_m_closes_7 (by decide) ?_
  refine ch_istore_n (i := 2) d_m_closes_8 rfl (Nat.le_of_ble_eq_true rfl) (ls' := [some (.inr (9, 0, 0)), some (.inl (.int p1)), some (.inl (.int 0)), none]) rfl ?_
  refine ch_iconst (v := 0) d_m_closes_9 (by decide) ?_
  refine ch_istore_n (i := 3) d_m_closes_10 rfl (Nat.le_of_ble_eq_true rfl) (ls' := [some (.inr (9, 0, 0)), some (.inl (.int p1)), some (.inl (.int 0)), some (.inl (.int 0))]) rfl ?_
  exact h
set_option maxHeartbeats 1600000 in
theorem g_m_closes_11 (g : ch_G) (Q : ch_O → ch_M → Prop) (x1 : Int32) (x2 : Int32) (x3 : Int32) (m : ch_M) (h : (((m (9, 0, 1) (8)) ≤ x3 → (∀ m1 : ch_M, m1 = ch_wr m (9, 0, 1) (8) x2 → Q (.inl none) m1)) ∧ (¬ (m (9, 0, 1) (8)) ≤ x3 → (vp_in (9 + x3) 63) ∧ (((m (9, 0, 1) (Int32.toNatClampNeg (9 + x3))) = x1 → ch_J g m_m_closes (ch_rm m_m_closes) (ch_E g m_m_closes Q) 11 [some (.inr (9, 0, 0)), some (.inl (.int x1)), some (.inl (.int x2)), some (.inl (.int (x3 + 1)))] [] m 0) ∧ (¬ (m (9, 0, 1) (Int32.toNatClampNeg (9 + x3))) = x1 → (vp_in (9 + x2) 63) ∧ (∀ m4 : ch_M, m4 = ch_wr m (9, 0, 1) (Int32.toNatClampNeg (9 + x2)) (m (9, 0, 1) (Int32.toNatClampNeg (9 + x3))) → ch_J g m_m_closes (ch_rm m_m_closes) (ch_E g m_m_closes Q) 11 [some (.inr (9, 0, 0)), some (.inl (.int x1)), some (.inl (.int (x2 + 1))), some (.inl (.int (x3 + 1)))] [] m4 0)))))) : ch_J g m_m_closes (ch_rm m_m_closes) (ch_E g m_m_closes Q) 11 [some (.inr (9, 0, 0)), some (.inl (.int x1)), some (.inl (.int x2)), some (.inl (.int x3))] [] m 0 := by
  refine ch_iload_n (i := 3) d_m_closes_11 rfl rfl ?_
  refine ch_aload_n (i := 0) d_m_closes_12 rfl rfl ?_
  refine ch_get (v := .inr (9, 0, 1)) d_m_closes_13 fl_m_9 rfl ?_
  refine ch_bipush (v := 8) d_m_closes_16 (by decide) ?_
  refine ch_iald (n := 63) d_m_closes_18 (by decide) rfl (vp_in_nI (n := 8) (by decide) (by decide)) ?_
  refine ch_icmp_ge (tgt := 62) d_m_closes_19 (by decide) (fun c => ?_) (fun c => ?_)
  · replace h := h.1 c
    refine ch_aload_n (i := 0) d_m_closes_62 rfl rfl ?_
    refine ch_get (v := .inr (9, 0, 1)) d_m_closes_63 fl_m_9 rfl ?_
    refine ch_bipush (v := 8) d_m_closes_66 (by decide) ?_
    refine ch_iload_n (i := 2) d_m_closes_68 rfl rfl ?_
    refine ch_iast (n := 63) d_m_closes_69 (by decide) rfl (vp_in_nI (n := 8) (by decide) (by decide)) ?_
    show ch_J g _ _ _ _ _ _ (ch_wr m (9, 0, 1) (8) x2) _
    generalize hmm1 : ch_wr m (9, 0, 1) (8) x2 = m1
    replace h := h m1 hmm1.symm
    exact ch_vret d_m_closes_70 rfl (Nat.le_of_ble_eq_true rfl) h
  · replace h := h.2 c
    refine ch_aload_n (i := 0) d_m_closes_22 rfl rfl ?_
    refine ch_get (v := .inr (9, 0, 1)) d_m_closes_23 fl_m_9 rfl ?_
    refine ch_bipush (v := 9) d_m_closes_26 (by decide) ?_
    refine ch_iload_n (i := 3) d_m_closes_28 rfl rfl ?_
    refine ch_iadd d_m_closes_29 ?_
    have b2 := h.1
    replace h := h.2
    refine ch_iald (n := 63) d_m_closes_30 (by decide) rfl b2 ?_
    refine ch_iload_n (i := 1) d_m_closes_31 rfl rfl ?_
    refine ch_icmp_eq (tgt := 56) d_m_closes_32 (by decide) (fun c => ?_) (fun c => ?_)
    · replace h := h.1 c
      refine ch_iinc (i := 3) (v := (x3 + 1)) d_m_closes_56 rfl rfl (Nat.le_of_ble_eq_true rfl) (ls' := [some (.inr (9, 0, 0)), some (.inl (.int x1)), some (.inl (.int x2)), some (.inl (.int (x3 + 1)))]) rfl ?_
      refine ch_goto (tgt := 11) d_m_closes_59 (by decide) ?_
      exact h
    · replace h := h.2 c
      refine ch_aload_n (i := 0) d_m_closes_35 rfl rfl ?_
      refine ch_get (v := .inr (9, 0, 1)) d_m_closes_36 fl_m_9 rfl ?_
      refine ch_bipush (v := 9) d_m_closes_39 (by decide) ?_
      refine ch_iload_n (i := 2) d_m_closes_41 rfl rfl ?_
      refine ch_iinc (i := 2) (v := (x2 + 1)) d_m_closes_42 rfl rfl (Nat.le_of_ble_eq_true rfl) (ls' := [some (.inr (9, 0, 0)), some (.inl (.int x1)), some (.inl (.int (x2 + 1))), some (.inl (.int x3))]) rfl ?_
      refine ch_iadd d_m_closes_45 ?_
      refine ch_aload_n (i := 0) d_m_closes_46 rfl rfl ?_
      refine ch_get (v := .inr (9, 0, 1)) d_m_closes_47 fl_m_9 rfl ?_
      refine ch_bipush (v := 9) d_m_closes_50 (by decide) ?_
      refine ch_iload_n (i := 3) d_m_closes_52 rfl rfl ?_
      refine ch_iadd d_m_closes_53 ?_
      refine ch_iald (n := 63) d_m_closes_54 (by decide) rfl b2 ?_
      have b3 := h.1
      replace h := h.2
      refine ch_iast (n := 63) d_m_closes_55 (by decide) rfl b3 ?_
      show ch_J g _ _ _ _ _ _ (ch_wr m (9, 0, 1) (Int32.toNatClampNeg (9 + x2)) (m (9, 0, 1) (Int32.toNatClampNeg (9 + x3)))) _
      generalize hmm4 : ch_wr m (9, 0, 1) (Int32.toNatClampNeg (9 + x2)) (m (9, 0, 1) (Int32.toNatClampNeg (9 + x3))) = m4
      replace h := h m4 hmm4.symm
      refine ch_iinc (i := 3) (v := (x3 + 1)) d_m_closes_56 rfl rfl (Nat.le_of_ble_eq_true rfl) (ls' := [some (.inr (9, 0, 0)), some (.inl (.int x1)), some (.inl (.int (x2 + 1))), some (.inl (.int (x3 + 1)))]) rfl ?_
      refine ch_goto (tgt := 11) d_m_closes_59 (by decide) ?_
      exact h
theorem e_m_strikes (g : ch_G) (Q : ch_O → ch_M → Prop) (p1 : Int32) (m : ch_M) (h : ch_J g m_m_strikes (ch_rm m_m_strikes) (ch_E g m_m_strikes Q) 0 [some (.inr (9, 0, 0)), some (.inl (.int p1))] [] m 0) : ch_C g m_m_strikes [.inr (9, 0, 0), .inl (.int p1)] m Q :=
  ch_enter mf_m_strikes (by intro v hv; simp only [List.mem_cons, List.not_mem_nil, or_false] at hv; rcases hv with rfl | rfl <;> rfl) (Nat.le_of_ble_eq_true rfl) h
set_option maxHeartbeats 1600000 in
theorem g_m_strikes_0 (g : ch_G) (Q : ch_O → ch_M → Prop) (p1 : Int32) (m : ch_M) (h : (ch_C g m_m_isThere [.inr (9, 0, 0), .inl (.int p1)] m (ch_oi (fun (r1 : Int32) (m2 : ch_M) => ((¬ r1 = 0 → (ch_C g m_m_of [.inr (9, 0, 0), .inl (.int p1), .inl (.int 2)] m2 (ch_oi (fun (r3 : Int32) (m4 : ch_M) => ((¬ r3 = 0 → (ch_C g m_m_of [.inr (9, 0, 0), .inl (.int p1), .inl (.int 2)] m4 (ch_oi (fun (r5 : Int32) (m6 : ch_M) => (ch_C g m_m_pays [.inr (9, 0, 0), .inl (.int p1), .inl (.int r5)] m6 (ch_oi (fun (r7 : Int32) (m8 : ch_M) => ((¬ r7 = 0 → (ch_C g m_m_closes [.inr (9, 0, 0), .inl (.int p1)] m8 (ch_ov (fun (m10 : ch_M) => (ch_C g m_m_of [.inr (9, 0, 0), .inl (.int p1), .inl (.int 0)] m10 (ch_oi (fun (r11 : Int32) (m12 : ch_M) => (ch_C g m_m_does [.inr (9, 0, 0), .inl (.int r11)] m12 (ch_oi (fun (r13 : Int32) (m14 : ch_M) => (narrow .boolean (.int r13) = .int r13) ∧ Q (.inl (some (.inl (.int r13)))) m14)))))))))) ∧ (r7 = 0 → Q (.inl (some (.inl (.int 0)))) m8))))))))) ∧ (r3 = 0 → (ch_C g m_m_refuses [.inr (9, 0, 0), .inl (.int 10), .inl (.int 0)] m4 (ch_oi (fun (r15 : Int32) (m16 : ch_M) => (narrow .boolean (.int r15) = .int r15) ∧ Q (.inl (some (.inl (.int r15)))) m16))))))))) ∧ (r1 = 0 → Q (.inl (some (.inl (.int 0)))) m2)))))) : ch_J g m_m_strikes (ch_rm m_m_strikes) (ch_E g m_m_strikes Q) 0 [some (.inr (9, 0, 0)), some (.inl (.int p1))] [] m 0 := by
  refine ch_aload_n (i := 0) d_m_strikes_0 rfl rfl ?_
  refine ch_iload_n (i := 1) d_m_strikes_1 rfl rfl ?_
  refine ch_callV (as := [.inl (.int p1)]) d_m_strikes_2 lk_m_106 mi_m_isThere me_m_isThere rfl rfl rfl ⟨Nat.le_of_ble_eq_true rfl, Nat.le_of_ble_eq_true rfl⟩ (Nat.le_of_ble_eq_true rfl) ⟨Nat.le_of_ble_eq_true rfl, Nat.le_of_ble_eq_true rfl⟩ (ch_mono (ch_Ki (fun r1 m2 h => ?_)) h)
  refine ch_if_ne (tgt := 10) d_m_strikes_5 (by decide) (fun c => ?_) (fun c => ?_)
  · replace h := h.1 c
    refine ch_aload_n (i := 0) d_m_strikes_10 rfl rfl ?_
    refine ch_iload_n (i := 1) d_m_strikes_11 rfl rfl ?_
    refine ch_iconst (v := 2) d_m_strikes_12 (by decide) ?_
    refine ch_callV (as := [.inl (.int p1), .inl (.int 2)]) d_m_strikes_13 lk_m_85 mi_m_of me_m_of rfl rfl rfl ⟨Nat.le_of_ble_eq_true rfl, Nat.le_of_ble_eq_true rfl⟩ (Nat.le_of_ble_eq_true rfl) ⟨Nat.le_of_ble_eq_true rfl, Nat.le_of_ble_eq_true rfl⟩ (ch_mono (ch_Ki (fun r3 m4 h => ?_)) h)
    refine ch_if_ne (tgt := 27) d_m_strikes_16 (by decide) (fun c => ?_) (fun c => ?_)
    · replace h := h.1 c
      refine ch_aload_n (i := 0) d_m_strikes_27 rfl rfl ?_
      refine ch_iload_n (i := 1) d_m_strikes_28 rfl rfl ?_
      refine ch_aload_n (i := 0) d_m_strikes_29 rfl rfl ?_
      refine ch_iload_n (i := 1) d_m_strikes_30 rfl rfl ?_
      refine ch_iconst (v := 2) d_m_strikes_31 (by decide) ?_
      refine ch_callV (as := [.inl (.int p1), .inl (.int 2)]) d_m_strikes_32 lk_m_85 mi_m_of me_m_of rfl rfl rfl ⟨Nat.le_of_ble_eq_true rfl, Nat.le_of_ble_eq_true rfl⟩ (Nat.le_of_ble_eq_true rfl) ⟨Nat.le_of_ble_eq_true rfl, Nat.le_of_ble_eq_true rfl⟩ (ch_mono (ch_Ki (fun r5 m6 h => ?_)) h)
      refine ch_callV (as := [.inl (.int p1), .inl (.int r5)]) d_m_strikes_35 lk_m_115 mi_m_pays me_m_pays rfl rfl rfl ⟨Nat.le_of_ble_eq_true rfl, Nat.le_of_ble_eq_true rfl⟩ (Nat.le_of_ble_eq_true rfl) ⟨Nat.le_of_ble_eq_true rfl, Nat.le_of_ble_eq_true rfl⟩ (ch_mono (ch_Ki (fun r7 m8 h => ?_)) h)
      refine ch_if_ne (tgt := 43) d_m_strikes_38 (by decide) (fun c => ?_) (fun c => ?_)
      · replace h := h.1 c
        refine ch_aload_n (i := 0) d_m_strikes_43 rfl rfl ?_
        refine ch_iload_n (i := 1) d_m_strikes_44 rfl rfl ?_
        refine ch_callV (as := [.inl (.int p1)]) d_m_strikes_45 lk_m_156 mi_m_closes me_m_closes rfl rfl rfl ⟨Nat.le_of_ble_eq_true rfl, Nat.le_of_ble_eq_true rfl⟩ (Nat.le_of_ble_eq_true rfl) ⟨Nat.le_of_ble_eq_true rfl, Nat.le_of_ble_eq_true rfl⟩ (ch_mono (ch_Kv (fun m10 h => ?_)) h)
        refine ch_aload_n (i := 0) d_m_strikes_48 rfl rfl ?_
        refine ch_aload_n (i := 0) d_m_strikes_49 rfl rfl ?_
        refine ch_iload_n (i := 1) d_m_strikes_50 rfl rfl ?_
        refine ch_iconst (v := 0) d_m_strikes_51 (by decide) ?_
        refine ch_callV (as := [.inl (.int p1), .inl (.int 0)]) d_m_strikes_52 lk_m_85 mi_m_of me_m_of rfl rfl rfl ⟨Nat.le_of_ble_eq_true rfl, Nat.le_of_ble_eq_true rfl⟩ (Nat.le_of_ble_eq_true rfl) ⟨Nat.le_of_ble_eq_true rfl, Nat.le_of_ble_eq_true rfl⟩ (ch_mono (ch_Ki (fun r11 m12 h => ?_)) h)
        refine ch_callV (as := [.inl (.int r11)]) d_m_strikes_55 lk_m_93 mi_m_does me_m_does rfl rfl rfl ⟨Nat.le_of_ble_eq_true rfl, Nat.le_of_ble_eq_true rfl⟩ (Nat.le_of_ble_eq_true rfl) ⟨Nat.le_of_ble_eq_true rfl, Nat.le_of_ble_eq_true rfl⟩ (ch_mono (ch_Ki (fun r13 m14 h => ?_)) h)
        exact ch_iret (ty := .boolean) d_m_strikes_58 rfl h.1 (Nat.le_of_ble_eq_true rfl) h.2
      · replace h := h.2 c
        refine ch_iconst (v := 0) d_m_strikes_41 (by decide) ?_
        exact ch_iret (ty := .boolean) d_m_strikes_42 rfl rfl (Nat.le_of_ble_eq_true rfl) h
    · replace h := h.2 c
      refine ch_aload_n (i := 0) d_m_strikes_19 rfl rfl ?_
      refine ch_bipush (v := 10) d_m_strikes_20 (by decide) ?_
      refine ch_iconst (v := 0) d_m_strikes_22 (by decide) ?_
      refine ch_callV (as := [.inl (.int 10), .inl (.int 0)]) d_m_strikes_23 lk_m_81 mi_m_refuses me_m_refuses rfl rfl rfl ⟨Nat.le_of_ble_eq_true rfl, Nat.le_of_ble_eq_true rfl⟩ (Nat.le_of_ble_eq_true rfl) ⟨Nat.le_of_ble_eq_true rfl, Nat.le_of_ble_eq_true rfl⟩ (ch_mono (ch_Ki (fun r15 m16 h => ?_)) h)
      exact ch_iret (ty := .boolean) d_m_strikes_26 rfl h.1 (Nat.le_of_ble_eq_true rfl) h.2
  · replace h := h.2 c
    refine ch_iconst (v := 0) d_m_strikes_8 (by decide) ?_
    exact ch_iret (ty := .boolean) d_m_strikes_9 rfl rfl (Nat.le_of_ble_eq_true rfl) h
theorem e_m_strike (g : ch_G) (Q : ch_O → ch_M → Prop) (p1 : Int32) (m : ch_M) (h : ch_J g m_m_strike (ch_rm m_m_strike) (ch_E g m_m_strike Q) 0 [some (.inr (9, 0, 0)), some (.inl (.int p1))] [] m 0) : ch_C g m_m_strike [.inr (9, 0, 0), .inl (.int p1)] m Q :=
  ch_enter mf_m_strike (by intro v hv; simp only [List.mem_cons, List.not_mem_nil, or_false] at hv; rcases hv with rfl | rfl <;> rfl) (Nat.le_of_ble_eq_true rfl) h
set_option maxHeartbeats 1600000 in
theorem g_m_strike_0 (g : ch_G) (Q : ch_O → ch_M → Prop) (p1 : Int32) (m : ch_M) (h : (ch_C g m_m_tries [.inr (9, 0, 0)] m (ch_ov (fun (m2 : ch_M) => (ch_C g m_m_strikes [.inr (9, 0, 0), .inl (.int p1)] m2 (ch_oi (fun (r3 : Int32) (m4 : ch_M) => (ch_C g m_m_ends [.inr (9, 0, 0), .inl (.int r3)] m4 (ch_oi (fun (r5 : Int32) (m6 : ch_M) => Q (.inl (some (.inl (.int r5)))) m6)))))))))) : ch_J g m_m_strike (ch_rm m_m_strike) (ch_E g m_m_strike Q) 0 [some (.inr (9, 0, 0)), some (.inl (.int p1))] [] m 0 := by
  refine ch_aload_n (i := 0) d_m_strike_0 rfl rfl ?_
  refine ch_callV (as := []) d_m_strike_1 lk_m_96 mi_m_tries me_m_tries rfl rfl rfl ⟨Nat.le_of_ble_eq_true rfl, Nat.le_of_ble_eq_true rfl⟩ (Nat.le_of_ble_eq_true rfl) ⟨Nat.le_of_ble_eq_true rfl, Nat.le_of_ble_eq_true rfl⟩ (ch_mono (ch_Kv (fun m2 h => ?_)) h)
  refine ch_aload_n (i := 0) d_m_strike_4 rfl rfl ?_
  refine ch_aload_n (i := 0) d_m_strike_5 rfl rfl ?_
  refine ch_iload_n (i := 1) d_m_strike_6 rfl rfl ?_
  refine ch_callV (as := [.inl (.int p1)]) d_m_strike_7 lk_m_159 mi_m_strikes me_m_strikes rfl rfl rfl ⟨Nat.le_of_ble_eq_true rfl, Nat.le_of_ble_eq_true rfl⟩ (Nat.le_of_ble_eq_true rfl) ⟨Nat.le_of_ble_eq_true rfl, Nat.le_of_ble_eq_true rfl⟩ (ch_mono (ch_Ki (fun r3 m4 h => ?_)) h)
  refine ch_callV (as := [.inl (.int r3)]) d_m_strike_10 lk_m_102 mi_m_ends me_m_ends rfl rfl rfl ⟨Nat.le_of_ble_eq_true rfl, Nat.le_of_ble_eq_true rfl⟩ (Nat.le_of_ble_eq_true rfl) ⟨Nat.le_of_ble_eq_true rfl, Nat.le_of_ble_eq_true rfl⟩ (ch_mono (ch_Ki (fun r5 m6 h => ?_)) h)
  exact ch_iret (ty := .int) d_m_strike_13 rfl rfl (Nat.le_of_ble_eq_true rfl) h
theorem e_m_owned (g : ch_G) (Q : ch_O → ch_M → Prop)  (m : ch_M) (h : ch_J g m_m_owned (ch_rm m_m_owned) (ch_E g m_m_owned Q) 0 [some (.inr (9, 0, 0)), none, none] [] m 0) : ch_C g m_m_owned [.inr (9, 0, 0)] m Q :=
  ch_enter mf_m_owned (by intro v hv; simp only [List.mem_cons, List.not_mem_nil, or_false] at hv; rcases hv with rfl <;> rfl) (Nat.le_of_ble_eq_true rfl) h
set_option maxHeartbeats 1600000 in
theorem g_m_owned_0 (g : ch_G) (Q : ch_O → ch_M → Prop)  (m : ch_M) (h : ch_J g m_m_owned (ch_rm m_m_owned) (ch_E g m_m_owned Q) 4 [some (.inr (9, 0, 0)), some (.inl (.int 0)), some (.inl (.int 0))] [] m 0) : ch_J g m_m_owned (ch_rm m_m_owned) (ch_E g m_m_owned Q) 0 [some (.inr (9, 0, 0)), none, none] [] m 0 := by
  refine ch_iconst (v := 0) d_m_owned_0 (by decide) ?_
  refine ch_istore_n (i := 1) d_m_owned_1 rfl (Nat.le_of_ble_eq_true rfl) (ls' := [some (.inr (9, 0, 0)), some (.inl (.int 0)), none]) rfl ?_
  refine ch_iconst (v := 0) d_m_owned_2 (by decide) ?_
  refine ch_istore_n (i := 2) d_m_owned_3 rfl (Nat.le_of_ble_eq_true rfl) (ls' := [some (.inr (9, 0, 0)), some (.inl (.int 0)), some (.inl (.int 0))]) rfl ?_
  exact h
set_option maxHeartbeats 1600000 in
theorem g_m_owned_4 (g : ch_G) (Q : ch_O → ch_M → Prop) (x1 : Int32) (x2 : Int32) (m : ch_M) (h : ((12 ≤ x2 → Q (.inl (some (.inl (.int x1)))) m) ∧ (¬ 12 ≤ x2 → (ch_C g m_m_owner [.inr (9, 0, 0), .inl (.int x2)] m (ch_oi (fun (r1 : Int32) (m2 : ch_M) => ((r1 < 0 → ch_J g m_m_owned (ch_rm m_m_owned) (ch_E g m_m_owned Q) 4 [some (.inr (9, 0, 0)), some (.inl (.int x1)), some (.inl (.int (x2 + 1)))] [] m2 0) ∧ (¬ r1 < 0 → ch_J g m_m_owned (ch_rm m_m_owned) (ch_E g m_m_owned Q) 4 [some (.inr (9, 0, 0)), some (.inl (.int (x1 + 1))), some (.inl (.int (x2 + 1)))] [] m2 0)))))))) : ch_J g m_m_owned (ch_rm m_m_owned) (ch_E g m_m_owned Q) 4 [some (.inr (9, 0, 0)), some (.inl (.int x1)), some (.inl (.int x2))] [] m 0 := by
  refine ch_iload_n (i := 2) d_m_owned_4 rfl rfl ?_
  refine ch_bipush (v := 12) d_m_owned_5 (by decide) ?_
  refine ch_icmp_ge (tgt := 27) d_m_owned_7 (by decide) (fun c => ?_) (fun c => ?_)
  · replace h := h.1 c
    refine ch_iload_n (i := 1) d_m_owned_27 rfl rfl ?_
    exact ch_iret (ty := .int) d_m_owned_28 rfl rfl (Nat.le_of_ble_eq_true rfl) h
  · replace h := h.2 c
    refine ch_aload_n (i := 0) d_m_owned_10 rfl rfl ?_
    refine ch_iload_n (i := 2) d_m_owned_11 rfl rfl ?_
    refine ch_callV (as := [.inl (.int x2)]) d_m_owned_12 lk_m_109 mi_m_owner me_m_owner rfl rfl rfl ⟨Nat.le_of_ble_eq_true rfl, Nat.le_of_ble_eq_true rfl⟩ (Nat.le_of_ble_eq_true rfl) ⟨Nat.le_of_ble_eq_true rfl, Nat.le_of_ble_eq_true rfl⟩ (ch_mono (ch_Ki (fun r1 m2 h => ?_)) h)
    refine ch_if_lt (tgt := 21) d_m_owned_15 (by decide) (fun c => ?_) (fun c => ?_)
    · replace h := h.1 c
      refine ch_iinc (i := 2) (v := (x2 + 1)) d_m_owned_21 rfl rfl (Nat.le_of_ble_eq_true rfl) (ls' := [some (.inr (9, 0, 0)), some (.inl (.int x1)), some (.inl (.int (x2 + 1)))]) rfl ?_
      refine ch_goto (tgt := 4) d_m_owned_24 (by decide) ?_
      exact h
    · replace h := h.2 c
      refine ch_iinc (i := 1) (v := (x1 + 1)) d_m_owned_18 rfl rfl (Nat.le_of_ble_eq_true rfl) (ls' := [some (.inr (9, 0, 0)), some (.inl (.int (x1 + 1))), some (.inl (.int x2))]) rfl ?_
      refine ch_iinc (i := 2) (v := (x2 + 1)) d_m_owned_21 rfl rfl (Nat.le_of_ble_eq_true rfl) (ls' := [some (.inr (9, 0, 0)), some (.inl (.int (x1 + 1))), some (.inl (.int (x2 + 1)))]) rfl ?_
      refine ch_goto (tgt := 4) d_m_owned_24 (by decide) ?_
      exact h
