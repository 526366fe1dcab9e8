theorem e_m_hops (g : ch_G) (Q : ch_O → ch_M → Prop) (p1 : Int32) (m : ch_M) (h : ch_J g m_m_hops (ch_rm m_m_hops) (ch_E g m_m_hops Q) 0 [some (.inr (9, 0, 0)), some (.inl (.int p1)), none, none, none] [] m 0) : ch_C g m_m_hops [.inr (9, 0, 0), .inl (.int p1)] m Q :=
  ch_enter mf_m_hops (by intro v hv; simp only [List.mem_cons, List.not_mem_nil, or_false] at hv; rcases hv with rfl | rfl <;> rfl) (Nat.le_of_ble_eq_true rfl) h
set_option maxHeartbeats 1600000 in
theorem g_m_hops_0 (g : ch_G) (Q : ch_O → ch_M → Prop) (p1 : Int32) (m : ch_M) (h : (vp_in (m (9, 0, 0) 21) 13) ∧ (((¬ y_mfO (m (9, 0, 9)) (Int32.toNatClampNeg (m (9, 0, 0) 21)) = true ∧ ¬ ch_ps (m (9, 0, 9)) (Int32.toNatClampNeg (m (9, 0, 0) 21)) < 11) → ch_J g m_m_hops (ch_rm m_m_hops) (ch_E g m_m_hops Q) 25 [some (.inr (9, 0, 0)), some (.inl (.int p1)), some (.inl (.int 0)), some (.inl (.int (-1))), some (.inl (.int 0))] [] m 0) ∧ ((¬ (¬ y_mfO (m (9, 0, 9)) (Int32.toNatClampNeg (m (9, 0, 0) 21)) = true ∧ ¬ ch_ps (m (9, 0, 9)) (Int32.toNatClampNeg (m (9, 0, 0) 21)) < 11)) → (((∀ m9 : ch_M, m9 = ch_wr (ch_wr (ch_wr m (9, 0, 0) 15 8) (9, 0, 0) 16 (if y_mfO (m (9, 0, 9)) (Int32.toNatClampNeg (m (9, 0, 0) 21)) = true then 12 else ch_ps (m (9, 0, 9)) (Int32.toNatClampNeg (m (9, 0, 0) 21)))) (9, 0, 0) 17 0 → Q (.inl (some (.inl (.int 0)))) m9)))))) : ch_J g m_m_hops (ch_rm m_m_hops) (ch_E g m_m_hops Q) 0 [some (.inr (9, 0, 0)), some (.inl (.int p1)), none, none, none] [] m 0 := by
  refine ch_aload_n (i := 0) d_m_hops_0 rfl rfl ?_
  have b4 := h.1
  replace h := h.2
  refine ch_callV (as := []) d_m_hops_1 lk_m_132 mi_m_isOver me_m_isOver rfl rfl rfl ⟨Nat.le_of_ble_eq_true rfl, Nat.le_of_ble_eq_true rfl⟩ (Nat.le_of_ble_eq_true rfl) ⟨Nat.le_of_ble_eq_true rfl, Nat.le_of_ble_eq_true rfl⟩ (ch_mono (ch_Ki (fun r1 m2 q3 => ?_)) (s_m_isOver g (fun (r_ : Int32) (m_ : ch_M) => ((¬ y_mfO (m (9, 0, 9)) (Int32.toNatClampNeg (m (9, 0, 0) 21)) = true ∧ ¬ ch_ps (m (9, 0, 9)) (Int32.toNatClampNeg (m (9, 0, 0) 21)) < 11) ∧ 1 = r_ ∧ m = m_) ∨ ((¬ (¬ y_mfO (m (9, 0, 9)) (Int32.toNatClampNeg (m (9, 0, 0) 21)) = true ∧ ¬ ch_ps (m (9, 0, 9)) (Int32.toNatClampNeg (m (9, 0, 0) 21)) < 11)) ∧ 0 = r_ ∧ m = m_))  m ⟨b4, (fun c_ => (Or.inl ⟨c_, rfl, rfl⟩)), (fun c_ => (Or.inr ⟨c_, rfl, rfl⟩))⟩))
  rcases q3 with ⟨c_, rfl, rfl⟩ | ⟨c_, rfl, rfl⟩
  · replace h := h.1 c_
    refine ch_if_ne (tgt := 18) d_m_hops_4 (by decide) (fun _ => ?_) (fun c => absurd c (by decide))
    refine ch_iconst (v := 0) d_m_hops_18 (by decide) ?_
    refine ch_istore_n (i := 2) d_m_hops_19 rfl (Nat.le_of_ble_eq_true rfl) (ls' := [some (.inr (9, 0, 0)), some (.inl (.int p1)), some (.inl (.int 0)), none, none]) rfl ?_
    refine ch_iconst (v := (-1)) d_m_hops_20 (by decide) ?_
    refine ch_istore_n (i := 3) d_m_hops_21 rfl (Nat.le_of_ble_eq_true rfl) (ls' := [some (.inr (9, 0, 0)), some (.inl (.int p1)), some (.inl (.int 0)), some (.inl (.int (-1))), none]) rfl ?_
    refine ch_iconst (v := 0) d_m_hops_22 (by decide) ?_
    refine ch_istore (i := 4) d_m_hops_23 (Nat.le_of_ble_eq_true rfl) (ls' := [some (.inr (9, 0, 0)), some (.inl (.int p1)), some (.inl (.int 0)), some (.inl (.int (-1))), some (.inl (.int 0))]) rfl ?_
    exact h
  · replace h := h.2 c_
    refine ch_if_ne (tgt := 18) d_m_hops_4 (by decide) (fun c => absurd c (by decide)) (fun _ => ?_)
    refine ch_aload_n (i := 0) d_m_hops_7 rfl rfl ?_
    refine ch_bipush (v := 8) d_m_hops_8 (by decide) ?_
    refine ch_aload_n (i := 0) d_m_hops_10 rfl rfl ?_
    refine ch_callV (as := []) d_m_hops_11 lk_m_136 mi_m_where me_m_where rfl rfl rfl ⟨Nat.le_of_ble_eq_true rfl, Nat.le_of_ble_eq_true rfl⟩ (Nat.le_of_ble_eq_true rfl) ⟨Nat.le_of_ble_eq_true rfl, Nat.le_of_ble_eq_true rfl⟩ (ch_mono (ch_Ki (fun r5 m6 q7 => ?_)) (s_m_where g (fun (r_ : Int32) (m_ : ch_M) => ((if y_mfO (m (9, 0, 9)) (Int32.toNatClampNeg (m (9, 0, 0) 21)) = true then 12 else ch_ps (m (9, 0, 9)) (Int32.toNatClampNeg (m (9, 0, 0) 21))) = r_ ∧ m = m_))  m ⟨b4, ⟨rfl, rfl⟩⟩))
    obtain ⟨rfl, rfl⟩ := q7
    replace h := h
    refine ch_callV (as := [.inl (.int 8), .inl (.int (if y_mfO (m (9, 0, 9)) (Int32.toNatClampNeg (m (9, 0, 0) 21)) = true then 12 else ch_ps (m (9, 0, 9)) (Int32.toNatClampNeg (m (9, 0, 0) 21))))]) d_m_hops_14 lk_m_81 mi_m_refuses me_m_refuses rfl rfl rfl ⟨Nat.le_of_ble_eq_true rfl, Nat.le_of_ble_eq_true rfl⟩ (Nat.le_of_ble_eq_true rfl) ⟨Nat.le_of_ble_eq_true rfl, Nat.le_of_ble_eq_true rfl⟩ (ch_mono (ch_Ki (fun r8 m9 q10 => ?_)) (s_m_refuses g (fun (r_ : Int32) (m_ : ch_M) => (0 = r_ ∧ m_ = ch_wr (ch_wr (ch_wr m (9, 0, 0) 15 8) (9, 0, 0) 16 (if y_mfO (m (9, 0, 9)) (Int32.toNatClampNeg (m (9, 0, 0) 21)) = true then 12 else ch_ps (m (9, 0, 9)) (Int32.toNatClampNeg (m (9, 0, 0) 21)))) (9, 0, 0) 17 0)) (8) ((if y_mfO (m (9, 0, 9)) (Int32.toNatClampNeg (m (9, 0, 0) 21)) = true then 12 else ch_ps (m (9, 0, 9)) (Int32.toNatClampNeg (m (9, 0, 0) 21)))) m ⟨rfl, rfl⟩))
    obtain ⟨rfl, hm_⟩ := q10
    replace h := h m9 hm_
    exact ch_iret (ty := .boolean) d_m_hops_17 rfl rfl (Nat.le_of_ble_eq_true rfl) h
set_option maxHeartbeats 1600000 in
theorem g_m_hops_25 (g : ch_G) (Q : ch_O → ch_M → Prop) (x1 : Int32) (x2 : Int32) (x3 : Int32) (x4 : Int32) (m : ch_M) (h : (((m (9, 0, 0) 21) ≤ x4 → (vp_in x1 5) ∧ (((∀ m6 : ch_M, m6 = ch_wr m (9, 0, 1) (38 + 5 * Int32.toNatClampNeg x1 + 1) ((m (9, 0, 1) (38 + 5 * Int32.toNatClampNeg x1 + 1)) + x2) → (((∀ m12 : ch_M, m12 = ch_wr m6 (9, 0, 1) (38 + 5 * Int32.toNatClampNeg x1 + 3) ((m6 (9, 0, 1) (38 + 5 * Int32.toNatClampNeg x1 + 3)) + 1) → (∀ m14 : ch_M, m14 = ch_wr m12 (9, 0, 1) (3) ((m12 (9, 0, 1) (3)) + x2) → ((∀ m16 : ch_M, m16 = ch_wr m14 (9, 0, 0) 18 x2 → Q (.inl (some (.inl (.int 1)))) m16)))))))))) ∧ (¬ (m (9, 0, 0) 21) ≤ x4 → (vp_in x4 12) ∧ (∃ Y_19 : ch_B, (m_rel Y_19 (m (9, 0, 1))) ∧ (∀ i_, i_ < 12 → Y_19 1 i_ = -1 ∨ vp_in (Y_19 1 i_) 5) ∧ (¬ (x3 + (m (9, 0, 9) (Int32.toNatClampNeg x4))) < 0) ∧ (((ch_line Y_19 x1 (x3 + (m (9, 0, 9) (Int32.toNatClampNeg x4)))) → (vp_in (x3 + (m (9, 0, 9) (Int32.toNatClampNeg x4))) 12) ∧ (((vp_in (m (9, 0, 1) (14 + 2 * Int32.toNatClampNeg (x3 + (m (9, 0, 9) (Int32.toNatClampNeg x4)))) - 1) 5) ∧ (((∀ m38 : ch_M, m38 = ch_wr m (9, 0, 1) (38 + 5 * Int32.toNatClampNeg (m (9, 0, 1) (14 + 2 * Int32.toNatClampNeg (x3 + (m (9, 0, 9) (Int32.toNatClampNeg x4)))) - 1) + 4) ((m (9, 0, 1) (38 + 5 * Int32.toNatClampNeg (m (9, 0, 1) (14 + 2 * Int32.toNatClampNeg (x3 + (m (9, 0, 9) (Int32.toNatClampNeg x4)))) - 1) + 4)) + 1) → (vp_in ((14 + (2 * (x3 + (m (9, 0, 9) (Int32.toNatClampNeg x4))))) + 1) 63) ∧ (∀ m41 : ch_M, m41 = ch_wr m38 (9, 0, 1) (Int32.toNatClampNeg ((14 + (2 * (x3 + (m (9, 0, 9) (Int32.toNatClampNeg x4))))) + 1)) ((m38 (9, 0, 1) (Int32.toNatClampNeg ((14 + (2 * (x3 + (m (9, 0, 9) (Int32.toNatClampNeg x4))))) + 1))) - 1) → (((¬ (m41 (9, 0, 1) (15 + 2 * Int32.toNatClampNeg (x3 + (m (9, 0, 9) (Int32.toNatClampNeg x4))))) = 0 → ch_J g m_m_hops (ch_rm m_m_hops) (ch_E g m_m_hops Q) 25 [some (.inr (9, 0, 0)), some (.inl (.int x1)), some (.inl (.int (x2 + 1))), some (.inl (.int (x3 + (m (9, 0, 9) (Int32.toNatClampNeg x4))))), some (.inl (.int (x4 + 1)))] [] m41 0) ∧ ((m41 (9, 0, 1) (15 + 2 * Int32.toNatClampNeg (x3 + (m (9, 0, 9) (Int32.toNatClampNeg x4))))) = 0 → ((∀ m46 : ch_M, m46 = ch_wr (ch_wr m41 (9, 0, 1) (14 + 2 * Int32.toNatClampNeg (x3 + (m (9, 0, 9) (Int32.toNatClampNeg x4)))) 0) (9, 0, 1) (15 + 2 * Int32.toNatClampNeg (x3 + (m (9, 0, 9) (Int32.toNatClampNeg x4)))) 0 → ch_J g m_m_hops (ch_rm m_m_hops) (ch_E g m_m_hops Q) 25 [some (.inr (9, 0, 0)), some (.inl (.int x1)), some (.inl (.int (x2 + 1))), some (.inl (.int (x3 + (m (9, 0, 9) (Int32.toNatClampNeg x4))))), some (.inl (.int (x4 + 1)))] [] m46 0)))))))))))) ∧ ((¬ ch_line Y_19 x1 (x3 + (m (9, 0, 9) (Int32.toNatClampNeg x4)))) → ch_J g m_m_hops (ch_rm m_m_hops) (ch_E g m_m_hops Q) 25 [some (.inr (9, 0, 0)), some (.inl (.int x1)), some (.inl (.int x2)), some (.inl (.int (x3 + (m (9, 0, 9) (Int32.toNatClampNeg x4))))), some (.inl (.int (x4 + 1)))] [] m 0)))))) : ch_J g m_m_hops (ch_rm m_m_hops) (ch_E g m_m_hops Q) 25 [some (.inr (9, 0, 0)), some (.inl (.int x1)), some (.inl (.int x2)), some (.inl (.int x3)), some (.inl (.int x4))] [] m 0 := by
  refine ch_iload d_m_hops_25 rfl ?_
  refine ch_aload_n (i := 0) d_m_hops_27 rfl rfl ?_
  refine ch_get (v := .inl (.int (m (9, 0, 0) 21))) d_m_hops_28 fl_m_126 rfl ?_
  refine ch_icmp_ge (tgt := 117) d_m_hops_31 (by decide) (fun c => ?_) (fun c => ?_)
  · replace h := h.1 c
    refine ch_aload_n (i := 0) d_m_hops_117 rfl rfl ?_
    refine ch_iload_n (i := 1) d_m_hops_118 rfl rfl ?_
    refine ch_iconst (v := 1) d_m_hops_119 (by decide) ?_
    refine ch_aload_n (i := 0) d_m_hops_120 rfl rfl ?_
    refine ch_iload_n (i := 1) d_m_hops_121 rfl rfl ?_
    refine ch_iconst (v := 1) d_m_hops_122 (by decide) ?_
    have b4 := h.1
    replace h := h.2
    refine ch_callV (as := [.inl (.int x1), .inl (.int 1)]) d_m_hops_123 lk_m_85 mi_m_of me_m_of rfl rfl rfl ⟨Nat.le_of_ble_eq_true rfl, Nat.le_of_ble_eq_true rfl⟩ (Nat.le_of_ble_eq_true rfl) ⟨Nat.le_of_ble_eq_true rfl, Nat.le_of_ble_eq_true rfl⟩ (ch_mono (ch_Ki (fun r1 m2 q3 => ?_)) (s_m_of g (fun (r_ : Int32) (m_ : ch_M) => ((m (9, 0, 1) (38 + 5 * Int32.toNatClampNeg x1 + 1)) = r_ ∧ m = m_)) (x1) (1) m ⟨b4, (vp_in_nI (n := 1) (by decide) (by decide)), ⟨rfl, rfl⟩⟩))
    obtain ⟨rfl, rfl⟩ := q3
    replace h := h
    refine ch_iload_n (i := 2) d_m_hops_126 rfl rfl ?_
    refine ch_iadd d_m_hops_127 ?_
    refine ch_callV (as := [.inl (.int x1), .inl (.int 1), .inl (.int ((m (9, 0, 1) (38 + 5 * Int32.toNatClampNeg x1 + 1)) + x2))]) d_m_hops_128 lk_m_89 mi_m_sets me_m_sets rfl rfl rfl ⟨Nat.le_of_ble_eq_true rfl, Nat.le_of_ble_eq_true rfl⟩ (Nat.le_of_ble_eq_true rfl) ⟨Nat.le_of_ble_eq_true rfl, Nat.le_of_ble_eq_true rfl⟩ (ch_mono (ch_Kv (fun m6 q7 => ?_)) (s_m_sets g (fun (m_ : ch_M) => (m_ = ch_wr m (9, 0, 1) (38 + 5 * Int32.toNatClampNeg x1 + 1) ((m (9, 0, 1) (38 + 5 * Int32.toNatClampNeg x1 + 1)) + x2))) (x1) (1) (((m (9, 0, 1) (38 + 5 * Int32.toNatClampNeg x1 + 1)) + x2)) m ⟨b4, (vp_in_nI (n := 1) (by decide) (by decide)), rfl⟩))
    have hm_ := q7
    replace h := h m6 hm_
    refine ch_aload_n (i := 0) d_m_hops_131 rfl rfl ?_
    refine ch_iload_n (i := 1) d_m_hops_132 rfl rfl ?_
    refine ch_iconst (v := 3) d_m_hops_133 (by decide) ?_
    refine ch_aload_n (i := 0) d_m_hops_134 rfl rfl ?_
    refine ch_iload_n (i := 1) d_m_hops_135 rfl rfl ?_
    refine ch_iconst (v := 3) d_m_hops_136 (by decide) ?_
    refine ch_callV (as := [.inl (.int x1), .inl (.int 3)]) d_m_hops_137 lk_m_85 mi_m_of me_m_of rfl rfl rfl ⟨Nat.le_of_ble_eq_true rfl, Nat.le_of_ble_eq_true rfl⟩ (Nat.le_of_ble_eq_true rfl) ⟨Nat.le_of_ble_eq_true rfl, Nat.le_of_ble_eq_true rfl⟩ (ch_mono (ch_Ki (fun r8 m9 q10 => ?_)) (s_m_of g (fun (r_ : Int32) (m_ : ch_M) => ((m6 (9, 0, 1) (38 + 5 * Int32.toNatClampNeg x1 + 3)) = r_ ∧ m6 = m_)) (x1) (3) m6 ⟨b4, (vp_in_nI (n := 3) (by decide) (by decide)), ⟨rfl, rfl⟩⟩))
    obtain ⟨rfl, rfl⟩ := q10
    replace h := h
    refine ch_iconst (v := 1) d_m_hops_140 (by decide) ?_
    refine ch_iadd d_m_hops_141 ?_
    refine ch_callV (as := [.inl (.int x1), .inl (.int 3), .inl (.int ((m6 (9, 0, 1) (38 + 5 * Int32.toNatClampNeg x1 + 3)) + 1))]) d_m_hops_142 lk_m_89 mi_m_sets me_m_sets rfl rfl rfl ⟨Nat.le_of_ble_eq_true rfl, Nat.le_of_ble_eq_true rfl⟩ (Nat.le_of_ble_eq_true rfl) ⟨Nat.le_of_ble_eq_true rfl, Nat.le_of_ble_eq_true rfl⟩ (ch_mono (ch_Kv (fun m12 q13 => ?_)) (s_m_sets g (fun (m_ : ch_M) => (m_ = ch_wr m6 (9, 0, 1) (38 + 5 * Int32.toNatClampNeg x1 + 3) ((m6 (9, 0, 1) (38 + 5 * Int32.toNatClampNeg x1 + 3)) + 1))) (x1) (3) (((m6 (9, 0, 1) (38 + 5 * Int32.toNatClampNeg x1 + 3)) + 1)) m6 ⟨b4, (vp_in_nI (n := 3) (by decide) (by decide)), rfl⟩))
    have hm_ := q13
    replace h := h m12 hm_
    refine ch_aload_n (i := 0) d_m_hops_145 rfl rfl ?_
    refine ch_get (v := .inr (9, 0, 1)) d_m_hops_146 fl_m_9 rfl ?_
    refine ch_iconst (v := 3) d_m_hops_149 (by decide) ?_
    refine ch_dup2 d_m_hops_150 rfl rfl ?_
    refine ch_iald (n := 63) d_m_hops_151 (by decide) rfl (vp_in_nI (n := 3) (by decide) (by decide)) ?_
    refine ch_iload_n (i := 2) d_m_hops_152 rfl rfl ?_
    refine ch_iadd d_m_hops_153 ?_
    refine ch_iast (n := 63) d_m_hops_154 (by decide) rfl (vp_in_nI (n := 3) (by decide) (by decide)) ?_
    show ch_J g _ _ _ _ _ _ (ch_wr m12 (9, 0, 1) (3) ((m12 (9, 0, 1) (3)) + x2)) _
    generalize hmm14 : ch_wr m12 (9, 0, 1) (3) ((m12 (9, 0, 1) (3)) + x2) = m14
    replace h := h m14 hmm14.symm
    refine ch_aload_n (i := 0) d_m_hops_155 rfl rfl ?_
    refine ch_iload_n (i := 2) d_m_hops_156 rfl rfl ?_
    refine ch_callV (as := [.inl (.int x2)]) d_m_hops_157 lk_m_93 mi_m_does me_m_does rfl rfl rfl ⟨Nat.le_of_ble_eq_true rfl, Nat.le_of_ble_eq_true rfl⟩ (Nat.le_of_ble_eq_true rfl) ⟨Nat.le_of_ble_eq_true rfl, Nat.le_of_ble_eq_true rfl⟩ (ch_mono (ch_Ki (fun r15 m16 q17 => ?_)) (s_m_does g (fun (r_ : Int32) (m_ : ch_M) => (1 = r_ ∧ m_ = ch_wr m14 (9, 0, 0) 18 x2)) (x2) m14 ⟨rfl, rfl⟩))
    obtain ⟨rfl, hm_⟩ := q17
    replace h := h m16 hm_
    exact ch_iret (ty := .boolean) d_m_hops_160 rfl rfl (Nat.le_of_ble_eq_true rfl) h
  · replace h := h.2 c
    refine ch_iload_n (i := 3) d_m_hops_34 rfl rfl ?_
    refine ch_aload_n (i := 0) d_m_hops_35 rfl rfl ?_
    refine ch_get (v := .inr (9, 0, 9)) d_m_hops_36 fl_m_39 rfl ?_
    refine ch_iload d_m_hops_39 rfl ?_
    have b18 := h.1
    replace h := h.2
    refine ch_iald (n := 12) d_m_hops_41 (by decide) rfl b18 ?_
    refine ch_iadd d_m_hops_42 ?_
    refine ch_istore_n (i := 3) d_m_hops_43 rfl (Nat.le_of_ble_eq_true rfl) (ls' := [some (.inr (9, 0, 0)), some (.inl (.int x1)), some (.inl (.int x2)), some (.inl (.int (x3 + (m (9, 0, 9) (Int32.toNatClampNeg x4))))), some (.inl (.int x4))]) rfl ?_
    refine ch_aload_n (i := 0) d_m_hops_44 rfl rfl ?_
    refine ch_iload_n (i := 1) d_m_hops_45 rfl rfl ?_
    refine ch_iload_n (i := 3) d_m_hops_46 rfl rfl ?_
    obtain ⟨Y_19, h⟩ := h
    have b23 := h.1
    replace h := h.2
    have b24 := h.1
    replace h := h.2
    have b25 := h.1
    replace h := h.2
    refine ch_callV (as := [.inl (.int x1), .inl (.int (x3 + (m (9, 0, 9) (Int32.toNatClampNeg x4))))]) d_m_hops_47 lk_m_129 mi_m_isLine me_m_isLine rfl rfl rfl ⟨Nat.le_of_ble_eq_true rfl, Nat.le_of_ble_eq_true rfl⟩ (Nat.le_of_ble_eq_true rfl) ⟨Nat.le_of_ble_eq_true rfl, Nat.le_of_ble_eq_true rfl⟩ (ch_mono (ch_Ki (fun r20 m21 q22 => ?_)) (s_m_isLine g (fun (r_ : Int32) (m_ : ch_M) => ((ch_line Y_19 x1 (x3 + (m (9, 0, 9) (Int32.toNatClampNeg x4)))) ∧ 1 = r_ ∧ m = m_) ∨ ((¬ ch_line Y_19 x1 (x3 + (m (9, 0, 9) (Int32.toNatClampNeg x4)))) ∧ 0 = r_ ∧ m = m_)) (Y_19) (x1) ((x3 + (m (9, 0, 9) (Int32.toNatClampNeg x4)))) m ⟨b23, b24, b25, (fun c_ => (Or.inl ⟨c_, rfl, rfl⟩)), (fun c_ => (Or.inr ⟨c_, rfl, rfl⟩))⟩))
    rcases q22 with ⟨c_, rfl, rfl⟩ | ⟨c_, rfl, rfl⟩
    · replace h := h.1 c_
      refine ch_if_ne (tgt := 56) d_m_hops_50 (by decide) (fun _ => ?_) (fun c => absurd c (by decide))
      refine ch_iinc (i := 2) (v := (x2 + 1)) d_m_hops_56 rfl rfl (Nat.le_of_ble_eq_true rfl) (ls' := [some (.inr (9, 0, 0)), some (.inl (.int x1)), some (.inl (.int (x2 + 1))), some (.inl (.int (x3 + (m (9, 0, 9) (Int32.toNatClampNeg x4))))), some (.inl (.int x4))]) rfl ?_
      refine ch_aload_n (i := 0) d_m_hops_59 rfl rfl ?_
      refine ch_aload_n (i := 0) d_m_hops_60 rfl rfl ?_
      refine ch_iload_n (i := 3) d_m_hops_61 rfl rfl ?_
      have b29 := h.1
      replace h := h.2
      refine ch_callV (as := [.inl (.int (x3 + (m (9, 0, 9) (Int32.toNatClampNeg x4))))]) d_m_hops_62 lk_m_109 mi_m_owner me_m_owner rfl rfl rfl ⟨Nat.le_of_ble_eq_true rfl, Nat.le_of_ble_eq_true rfl⟩ (Nat.le_of_ble_eq_true rfl) ⟨Nat.le_of_ble_eq_true rfl, Nat.le_of_ble_eq_true rfl⟩ (ch_mono (ch_Ki (fun r26 m27 q28 => ?_)) (s_m_owner g (fun (r_ : Int32) (m_ : ch_M) => ((m (9, 0, 1) (14 + 2 * Int32.toNatClampNeg (x3 + (m (9, 0, 9) (Int32.toNatClampNeg x4)))) - 1) = r_ ∧ m = m_)) ((x3 + (m (9, 0, 9) (Int32.toNatClampNeg x4)))) m ⟨b29, ⟨rfl, rfl⟩⟩))
      obtain ⟨rfl, rfl⟩ := q28
      replace h := h
      refine ch_iconst (v := 4) d_m_hops_65 (by decide) ?_
      refine ch_aload_n (i := 0) d_m_hops_66 rfl rfl ?_
      refine ch_aload_n (i := 0) d_m_hops_67 rfl rfl ?_
      refine ch_iload_n (i := 3) d_m_hops_68 rfl rfl ?_
      refine ch_callV (as := [.inl (.int (x3 + (m (9, 0, 9) (Int32.toNatClampNeg x4))))]) d_m_hops_69 lk_m_109 mi_m_owner me_m_owner rfl rfl rfl ⟨Nat.le_of_ble_eq_true rfl, Nat.le_of_ble_eq_true rfl⟩ (Nat.le_of_ble_eq_true rfl) ⟨Nat.le_of_ble_eq_true rfl, Nat.le_of_ble_eq_true rfl⟩ (ch_mono (ch_Ki (fun r30 m31 q32 => ?_)) (s_m_owner g (fun (r_ : Int32) (m_ : ch_M) => ((m (9, 0, 1) (14 + 2 * Int32.toNatClampNeg (x3 + (m (9, 0, 9) (Int32.toNatClampNeg x4)))) - 1) = r_ ∧ m = m_)) ((x3 + (m (9, 0, 9) (Int32.toNatClampNeg x4)))) m ⟨b29, ⟨rfl, rfl⟩⟩))
      obtain ⟨rfl, rfl⟩ := q32
      replace h := h
      refine ch_iconst (v := 4) d_m_hops_72 (by decide) ?_
      have b36 := h.1
      replace h := h.2
      refine ch_callV (as := [.inl (.int (m (9, 0, 1) (14 + 2 * Int32.toNatClampNeg (x3 + (m (9, 0, 9) (Int32.toNatClampNeg x4)))) - 1)), .inl (.int 4)]) d_m_hops_73 lk_m_85 mi_m_of me_m_of rfl rfl rfl ⟨Nat.le_of_ble_eq_true rfl, Nat.le_of_ble_eq_true rfl⟩ (Nat.le_of_ble_eq_true rfl) ⟨Nat.le_of_ble_eq_true rfl, Nat.le_of_ble_eq_true rfl⟩ (ch_mono (ch_Ki (fun r33 m34 q35 => ?_)) (s_m_of g (fun (r_ : Int32) (m_ : ch_M) => ((m (9, 0, 1) (38 + 5 * Int32.toNatClampNeg (m (9, 0, 1) (14 + 2 * Int32.toNatClampNeg (x3 + (m (9, 0, 9) (Int32.toNatClampNeg x4)))) - 1) + 4)) = r_ ∧ m = m_)) ((m (9, 0, 1) (14 + 2 * Int32.toNatClampNeg (x3 + (m (9, 0, 9) (Int32.toNatClampNeg x4)))) - 1)) (4) m ⟨b36, (vp_in_nI (n := 4) (by decide) (by decide)), ⟨rfl, rfl⟩⟩))
      obtain ⟨rfl, rfl⟩ := q35
      replace h := h
      refine ch_iconst (v := 1) d_m_hops_76 (by decide) ?_
      refine ch_iadd d_m_hops_77 ?_
      refine ch_callV (as := [.inl (.int (m (9, 0, 1) (14 + 2 * Int32.toNatClampNeg (x3 + (m (9, 0, 9) (Int32.toNatClampNeg x4)))) - 1)), .inl (.int 4), .inl (.int ((m (9, 0, 1) (38 + 5 * Int32.toNatClampNeg (m (9, 0, 1) (14 + 2 * Int32.toNatClampNeg (x3 + (m (9, 0, 9) (Int32.toNatClampNeg x4)))) - 1) + 4)) + 1))]) d_m_hops_78 lk_m_89 mi_m_sets me_m_sets rfl rfl rfl ⟨Nat.le_of_ble_eq_true rfl, Nat.le_of_ble_eq_true rfl⟩ (Nat.le_of_ble_eq_true rfl) ⟨Nat.le_of_ble_eq_true rfl, Nat.le_of_ble_eq_true rfl⟩ (ch_mono (ch_Kv (fun m38 q39 => ?_)) (s_m_sets g (fun (m_ : ch_M) => (m_ = ch_wr m (9, 0, 1) (38 + 5 * Int32.toNatClampNeg (m (9, 0, 1) (14 + 2 * Int32.toNatClampNeg (x3 + (m (9, 0, 9) (Int32.toNatClampNeg x4)))) - 1) + 4) ((m (9, 0, 1) (38 + 5 * Int32.toNatClampNeg (m (9, 0, 1) (14 + 2 * Int32.toNatClampNeg (x3 + (m (9, 0, 9) (Int32.toNatClampNeg x4)))) - 1) + 4)) + 1))) ((m (9, 0, 1) (14 + 2 * Int32.toNatClampNeg (x3 + (m (9, 0, 9) (Int32.toNatClampNeg x4)))) - 1)) (4) (((m (9, 0, 1) (38 + 5 * Int32.toNatClampNeg (m (9, 0, 1) (14 + 2 * Int32.toNatClampNeg (x3 + (m (9, 0, 9) (Int32.toNatClampNeg x4)))) - 1) + 4)) + 1)) m ⟨b36, (vp_in_nI (n := 4) (by decide) (by decide)), rfl⟩))
      have hm_ := q39
      replace h := h m38 hm_
      refine ch_aload_n (i := 0) d_m_hops_81 rfl rfl ?_
      refine ch_get (v := .inr (9, 0, 1)) d_m_hops_82 fl_m_9 rfl ?_
      refine ch_bipush (v := 14) d_m_hops_85 (by decide) ?_
      refine ch_iconst (v := 2) d_m_hops_87 (by decide) ?_
      refine ch_iload_n (i := 3) d_m_hops_88 rfl rfl ?_
      refine ch_imul d_m_hops_89 ?_
      refine ch_iadd d_m_hops_90 ?_
      refine ch_iconst (v := 1) d_m_hops_91 (by decide) ?_
      refine ch_iadd d_m_hops_92 ?_
      refine ch_dup2 d_m_hops_93 rfl rfl ?_
      have b40 := h.1
      replace h := h.2
      refine ch_iald (n := 63) d_m_hops_94 (by decide) rfl b40 ?_
      refine ch_iconst (v := 1) d_m_hops_95 (by decide) ?_
      refine ch_isub d_m_hops_96 ?_
      refine ch_iast (n := 63) d_m_hops_97 (by decide) rfl b40 ?_
      show ch_J g _ _ _ _ _ _ (ch_wr m38 (9, 0, 1) (Int32.toNatClampNeg ((14 + (2 * (x3 + (m (9, 0, 9) (Int32.toNatClampNeg x4))))) + 1)) ((m38 (9, 0, 1) (Int32.toNatClampNeg ((14 + (2 * (x3 + (m (9, 0, 9) (Int32.toNatClampNeg x4))))) + 1))) - 1)) _
      generalize hmm41 : ch_wr m38 (9, 0, 1) (Int32.toNatClampNeg ((14 + (2 * (x3 + (m (9, 0, 9) (Int32.toNatClampNeg x4))))) + 1)) ((m38 (9, 0, 1) (Int32.toNatClampNeg ((14 + (2 * (x3 + (m (9, 0, 9) (Int32.toNatClampNeg x4))))) + 1))) - 1) = m41
      replace h := h m41 hmm41.symm
      refine ch_aload_n (i := 0) d_m_hops_98 rfl rfl ?_
      refine ch_iload_n (i := 3) d_m_hops_99 rfl rfl ?_
      refine ch_callV (as := [.inl (.int (x3 + (m (9, 0, 9) (Int32.toNatClampNeg x4))))]) d_m_hops_100 lk_m_112 mi_m_chalkOf me_m_chalkOf rfl rfl rfl ⟨Nat.le_of_ble_eq_true rfl, Nat.le_of_ble_eq_true rfl⟩ (Nat.le_of_ble_eq_true rfl) ⟨Nat.le_of_ble_eq_true rfl, Nat.le_of_ble_eq_true rfl⟩ (ch_mono (ch_Ki (fun r42 m43 q44 => ?_)) (s_m_chalkOf g (fun (r_ : Int32) (m_ : ch_M) => ((m41 (9, 0, 1) (15 + 2 * Int32.toNatClampNeg (x3 + (m (9, 0, 9) (Int32.toNatClampNeg x4))))) = r_ ∧ m41 = m_)) ((x3 + (m (9, 0, 9) (Int32.toNatClampNeg x4)))) m41 ⟨b29, ⟨rfl, rfl⟩⟩))
      obtain ⟨rfl, rfl⟩ := q44
      replace h := h
      refine ch_if_ne (tgt := 111) d_m_hops_103 (by decide) (fun c => ?_) (fun c => ?_)
      · replace h := h.1 c
        refine ch_iinc (i := 4) (v := (x4 + 1)) d_m_hops_111 rfl rfl (Nat.le_of_ble_eq_true rfl) (ls' := [some (.inr (9, 0, 0)), some (.inl (.int x1)), some (.inl (.int (x2 + 1))), some (.inl (.int (x3 + (m (9, 0, 9) (Int32.toNatClampNeg x4))))), some (.inl (.int (x4 + 1)))]) rfl ?_
        refine ch_goto (tgt := 25) d_m_hops_114 (by decide) ?_
        exact h
      · replace h := h.2 c
        refine ch_aload_n (i := 0) d_m_hops_106 rfl rfl ?_
        refine ch_iload_n (i := 3) d_m_hops_107 rfl rfl ?_
        refine ch_callV (as := [.inl (.int (x3 + (m (9, 0, 9) (Int32.toNatClampNeg x4))))]) d_m_hops_108 lk_m_140 mi_m_frees me_m_frees rfl rfl rfl ⟨Nat.le_of_ble_eq_true rfl, Nat.le_of_ble_eq_true rfl⟩ (Nat.le_of_ble_eq_true rfl) ⟨Nat.le_of_ble_eq_true rfl, Nat.le_of_ble_eq_true rfl⟩ (ch_mono (ch_Kv (fun m46 q47 => ?_)) (s_m_frees g (fun (m_ : ch_M) => (m_ = ch_wr (ch_wr m41 (9, 0, 1) (14 + 2 * Int32.toNatClampNeg (x3 + (m (9, 0, 9) (Int32.toNatClampNeg x4)))) 0) (9, 0, 1) (15 + 2 * Int32.toNatClampNeg (x3 + (m (9, 0, 9) (Int32.toNatClampNeg x4)))) 0)) ((x3 + (m (9, 0, 9) (Int32.toNatClampNeg x4)))) m41 ⟨b29, rfl⟩))
        have hm_ := q47
        replace h := h m46 hm_
        refine ch_iinc (i := 4) (v := (x4 + 1)) d_m_hops_111 rfl rfl (Nat.le_of_ble_eq_true rfl) (ls' := [some (.inr (9, 0, 0)), some (.inl (.int x1)), some (.inl (.int (x2 + 1))), some (.inl (.int (x3 + (m (9, 0, 9) (Int32.toNatClampNeg x4))))), some (.inl (.int (x4 + 1)))]) rfl ?_
        refine ch_goto (tgt := 25) d_m_hops_114 (by decide) ?_
        exact h
    · replace h := h.2 c_
      refine ch_if_ne (tgt := 56) d_m_hops_50 (by decide) (fun c => absurd c (by decide)) (fun _ => ?_)
      refine ch_goto (tgt := 111) d_m_hops_53 (by decide) ?_
      refine ch_iinc (i := 4) (v := (x4 + 1)) d_m_hops_111 rfl rfl (Nat.le_of_ble_eq_true rfl) (ls' := [some (.inr (9, 0, 0)), some (.inl (.int x1)), some (.inl (.int x2)), some (.inl (.int (x3 + (m (9, 0, 9) (Int32.toNatClampNeg x4))))), some (.inl (.int (x4 + 1)))]) rfl ?_
      refine ch_goto (tgt := 25) d_m_hops_114 (by decide) ?_
      exact h
