theorem e_m_areSteps (g : ch_G) (Q : ch_O → ch_M → Prop) (p1 : Int32) (m : ch_M) (h : ch_J g m_m_areSteps (ch_rm m_m_areSteps) (ch_E g m_m_areSteps Q) 0 [some (.inr (9, 0, 0)), some (.inl (.int p1)), none, none, none] [] m 0) : ch_C g m_m_areSteps [.inr (9, 0, 0), .inl (.int p1)] m Q :=
  ch_enter mf_m_areSteps (by intro v hv; simp only [List.mem_cons, List.not_mem_nil, or_false] at hv; rcases hv with rfl | rfl <;> rfl) (Nat.le_of_ble_eq_true rfl) h
set_option maxHeartbeats 1600000 in
theorem g_m_areSteps_0 (g : ch_G) (Q : ch_O → ch_M → Prop) (p1 : Int32) (m : ch_M) (h : (∀ m1 : ch_M, m1 = ch_wr m (9, 0, 0) 21 0 → ((1 ≤ p1 → ch_J g m_m_areSteps (ch_rm m_m_areSteps) (ch_E g m_m_areSteps Q) 16 [some (.inr (9, 0, 0)), some (.inl (.int p1)), some (.inl (.int 0)), some (.inl (.int p1)), none] [] m1 0) ∧ (¬ 1 ≤ p1 → Q (.inl (some (.inl (.int 0)))) m1)))) : ch_J g m_m_areSteps (ch_rm m_m_areSteps) (ch_E g m_m_areSteps Q) 0 [some (.inr (9, 0, 0)), some (.inl (.int p1)), none, none, none] [] m 0 := by
  refine ch_aload_n (i := 0) d_m_areSteps_0 rfl rfl ?_
  refine ch_iconst (v := 0) d_m_areSteps_1 (by decide) ?_
  refine ch_put d_m_areSteps_2 fp_m_126 rfl rfl rfl ?_
  generalize hmm1 : ch_wr m (9, 0, 0) 21 0 = m1
  replace h := h m1 hmm1.symm
  refine ch_iload_n (i := 1) d_m_areSteps_5 rfl rfl ?_
  refine ch_iconst (v := 1) d_m_areSteps_6 (by decide) ?_
  refine ch_icmp_ge (tgt := 12) d_m_areSteps_7 (by decide) (fun c => ?_) (fun c => ?_)
  · replace h := h.1 c
    refine ch_iconst (v := 0) d_m_areSteps_12 (by decide) ?_
    refine ch_istore_n (i := 2) d_m_areSteps_13 rfl (Nat.le_of_ble_eq_true rfl) (ls' := [some (.inr (9, 0, 0)), some (.inl (.int p1)), some (.inl (.int 0)), none, none]) rfl ?_
    refine ch_iload_n (i := 1) d_m_areSteps_14 rfl rfl ?_
    refine ch_istore_n (i := 3) d_m_areSteps_15 rfl (Nat.le_of_ble_eq_true rfl) (ls' := [some (.inr (9, 0, 0)), some (.inl (.int p1)), some (.inl (.int 0)), some (.inl (.int p1)), none]) rfl ?_
    exact h
  · replace h := h.2 c
    refine ch_iconst (v := 0) d_m_areSteps_10 (by decide) ?_
    exact ch_iret (ty := .boolean) d_m_areSteps_11 rfl rfl (Nat.le_of_ble_eq_true rfl) h
set_option maxHeartbeats 1600000 in
theorem g_m_areSteps_16 (g : ch_G) (Q : ch_O → ch_M → Prop) (x1 : Int32) (x2 : Int32) (x3 : Int32) (o4 : Option ch_V) (m : ch_M) (h : ((x3 ≤ 0 → ((x2 ≤ 9 → ch_J g m_m_areSteps (ch_rm m_m_areSteps) (ch_E g m_m_areSteps Q) 46 [some (.inr (9, 0, 0)), some (.inl (.int x1)), some (.inl (.int x2)), some (.inl (.int x1)), some (.inl (.int (x2 - 1)))] [] m 0) ∧ (¬ x2 ≤ 9 → Q (.inl (some (.inl (.int 0)))) m))) ∧ (¬ x3 ≤ 0 → ch_J g m_m_areSteps (ch_rm m_m_areSteps) (ch_E g m_m_areSteps Q) 16 [some (.inr (9, 0, 0)), some (.inl (.int x1)), some (.inl (.int (x2 + 1))), some (.inl (.int (x3 / 10))), o4] [] m 0))) : ch_J g m_m_areSteps (ch_rm m_m_areSteps) (ch_E g m_m_areSteps Q) 16 [some (.inr (9, 0, 0)), some (.inl (.int x1)), some (.inl (.int x2)), some (.inl (.int x3)), o4] [] m 0 := by
  refine ch_iload_n (i := 3) d_m_areSteps_16 rfl rfl ?_
  refine ch_if_le (tgt := 31) d_m_areSteps_17 (by decide) (fun c => ?_) (fun c => ?_)
  · replace h := h.1 c
    refine ch_iload_n (i := 2) d_m_areSteps_31 rfl rfl ?_
    refine ch_bipush (v := 9) d_m_areSteps_32 (by decide) ?_
    refine ch_icmp_le (tgt := 39) d_m_areSteps_34 (by decide) (fun c => ?_) (fun c => ?_)
    · replace h := h.1 c
      refine ch_iload_n (i := 1) d_m_areSteps_39 rfl rfl ?_
      refine ch_istore_n (i := 3) d_m_areSteps_40 rfl (Nat.le_of_ble_eq_true rfl) (ls' := [some (.inr (9, 0, 0)), some (.inl (.int x1)), some (.inl (.int x2)), some (.inl (.int x1)), o4]) rfl ?_
      refine ch_iload_n (i := 2) d_m_areSteps_41 rfl rfl ?_
      refine ch_iconst (v := 1) d_m_areSteps_42 (by decide) ?_
      refine ch_isub d_m_areSteps_43 ?_
      refine ch_istore (i := 4) d_m_areSteps_44 (Nat.le_of_ble_eq_true rfl) (ls' := [some (.inr (9, 0, 0)), some (.inl (.int x1)), some (.inl (.int x2)), some (.inl (.int x1)), some (.inl (.int (x2 - 1)))]) rfl ?_
      exact h
    · replace h := h.2 c
      refine ch_iconst (v := 0) d_m_areSteps_37 (by decide) ?_
      exact ch_iret (ty := .boolean) d_m_areSteps_38 rfl rfl (Nat.le_of_ble_eq_true rfl) h
  · replace h := h.2 c
    refine ch_iinc (i := 2) (v := (x2 + 1)) d_m_areSteps_20 rfl rfl (Nat.le_of_ble_eq_true rfl) (ls' := [some (.inr (9, 0, 0)), some (.inl (.int x1)), some (.inl (.int (x2 + 1))), some (.inl (.int x3)), o4]) rfl ?_
    refine ch_iload_n (i := 3) d_m_areSteps_23 rfl rfl ?_
    refine ch_bipush (v := 10) d_m_areSteps_24 (by decide) ?_
    refine ch_idiv d_m_areSteps_26 (by decide) ?_
    refine ch_istore_n (i := 3) d_m_areSteps_27 rfl (Nat.le_of_ble_eq_true rfl) (ls' := [some (.inr (9, 0, 0)), some (.inl (.int x1)), some (.inl (.int (x2 + 1))), some (.inl (.int (x3 / 10))), o4]) rfl ?_
    refine ch_goto (tgt := 16) d_m_areSteps_28 (by decide) ?_
    exact h
set_option maxHeartbeats 1600000 in
theorem g_m_areSteps_46 (g : ch_G) (Q : ch_O → ch_M → Prop) (x1 : Int32) (x2 : Int32) (x3 : Int32) (x4 : Int32) (m : ch_M) (h : ((x4 < 0 → (∀ m1 : ch_M, m1 = ch_wr m (9, 0, 0) 21 x2 → Q (.inl (some (.inl (.int 1)))) m1)) ∧ (¬ x4 < 0 → (vp_in x4 12) ∧ (∀ m3 : ch_M, m3 = ch_wr m (9, 0, 9) (Int32.toNatClampNeg x4) (x3 - x3 / 10 * 10) → (((1 ≤ (m3 (9, 0, 9) (Int32.toNatClampNeg x4)) ∧ (m3 (9, 0, 9) (Int32.toNatClampNeg x4)) ≤ 3) → ch_J g m_m_areSteps (ch_rm m_m_areSteps) (ch_E g m_m_areSteps Q) 46 [some (.inr (9, 0, 0)), some (.inl (.int x1)), some (.inl (.int x2)), some (.inl (.int (x3 / 10))), some (.inl (.int (x4 + (-1))))] [] m3 0) ∧ ((¬ (1 ≤ (m3 (9, 0, 9) (Int32.toNatClampNeg x4)) ∧ (m3 (9, 0, 9) (Int32.toNatClampNeg x4)) ≤ 3)) → Q (.inl (some (.inl (.int 0)))) m3)))))) : ch_J g m_m_areSteps (ch_rm m_m_areSteps) (ch_E g m_m_areSteps Q) 46 [some (.inr (9, 0, 0)), some (.inl (.int x1)), some (.inl (.int x2)), some (.inl (.int x3)), some (.inl (.int x4))] [] m 0 := by
  refine ch_iload d_m_areSteps_46 rfl ?_
  refine ch_if_lt (tgt := 90) d_m_areSteps_48 (by decide) (fun c => ?_) (fun c => ?_)
  · replace h := h.1 c
    refine ch_aload_n (i := 0) d_m_areSteps_90 rfl rfl ?_
    refine ch_iload_n (i := 2) d_m_areSteps_91 rfl rfl ?_
    refine ch_put d_m_areSteps_92 fp_m_126 rfl rfl rfl ?_
    generalize hmm1 : ch_wr m (9, 0, 0) 21 x2 = m1
    replace h := h m1 hmm1.symm
    refine ch_iconst (v := 1) d_m_areSteps_95 (by decide) ?_
    exact ch_iret (ty := .boolean) d_m_areSteps_96 rfl rfl (Nat.le_of_ble_eq_true rfl) h
  · replace h := h.2 c
    refine ch_aload_n (i := 0) d_m_areSteps_51 rfl rfl ?_
    refine ch_get (v := .inr (9, 0, 9)) d_m_areSteps_52 fl_m_39 rfl ?_
    refine ch_iload d_m_areSteps_55 rfl ?_
    refine ch_iload_n (i := 3) d_m_areSteps_57 rfl rfl ?_
    refine ch_bipush (v := 10) d_m_areSteps_58 (by decide) ?_
    refine ch_irem d_m_areSteps_60 (by decide) ?_
    have b2 := h.1
    replace h := h.2
    refine ch_iast (n := 12) d_m_areSteps_61 (by decide) rfl b2 ?_
    show ch_J g _ _ _ _ _ _ (ch_wr m (9, 0, 9) (Int32.toNatClampNeg x4) (x3 - x3 / 10 * 10)) _
    generalize hmm3 : ch_wr m (9, 0, 9) (Int32.toNatClampNeg x4) (x3 - x3 / 10 * 10) = m3
    replace h := h m3 hmm3.symm
    refine ch_aload_n (i := 0) d_m_areSteps_62 rfl rfl ?_
    refine ch_get (v := .inr (9, 0, 9)) d_m_areSteps_63 fl_m_39 rfl ?_
    refine ch_iload d_m_areSteps_66 rfl ?_
    refine ch_iald (n := 12) d_m_areSteps_68 (by decide) rfl b2 ?_
    refine ch_iconst (v := 1) d_m_areSteps_69 (by decide) ?_
    refine ch_iconst (v := 3) d_m_areSteps_70 (by decide) ?_
    refine ch_callS (as := [.inl (.int (m3 (9, 0, 9) (Int32.toNatClampNeg x4))), .inl (.int 1), .inl (.int 3)]) d_m_areSteps_71 lk_m_73 ms_m_in rfl rfl ⟨Nat.le_of_ble_eq_true rfl, Nat.le_of_ble_eq_true rfl⟩ (Nat.le_of_ble_eq_true rfl) ⟨Nat.le_of_ble_eq_true rfl, Nat.le_of_ble_eq_true rfl⟩ (ch_mono (ch_Ki (fun r4 m5 q6 => ?_)) (s_m_in g (fun (r_ : Int32) (m_ : ch_M) => ((1 ≤ (m3 (9, 0, 9) (Int32.toNatClampNeg x4)) ∧ (m3 (9, 0, 9) (Int32.toNatClampNeg x4)) ≤ 3) ∧ 1 = r_ ∧ m3 = m_) ∨ ((¬ (1 ≤ (m3 (9, 0, 9) (Int32.toNatClampNeg x4)) ∧ (m3 (9, 0, 9) (Int32.toNatClampNeg x4)) ≤ 3)) ∧ 0 = r_ ∧ m3 = m_)) ((m3 (9, 0, 9) (Int32.toNatClampNeg x4))) (1) (3) m3 ⟨(fun c_ => (Or.inl ⟨c_, rfl, rfl⟩)), (fun c_ => (Or.inr ⟨c_, rfl, rfl⟩))⟩))
    rcases q6 with ⟨c_, rfl, rfl⟩ | ⟨c_, rfl, rfl⟩
    · replace h := h.1 c_
      refine ch_if_ne (tgt := 79) d_m_areSteps_74 (by decide) (fun _ => ?_) (fun c => absurd c (by decide))
      refine ch_iload_n (i := 3) d_m_areSteps_79 rfl rfl ?_
      refine ch_bipush (v := 10) d_m_areSteps_80 (by decide) ?_
      refine ch_idiv d_m_areSteps_82 (by decide) ?_
      refine ch_istore_n (i := 3) d_m_areSteps_83 rfl (Nat.le_of_ble_eq_true rfl) (ls' := [some (.inr (9, 0, 0)), some (.inl (.int x1)), some (.inl (.int x2)), some (.inl (.int (x3 / 10))), some (.inl (.int x4))]) rfl ?_
      refine ch_iinc (i := 4) (v := (x4 + (-1))) d_m_areSteps_84 rfl rfl (Nat.le_of_ble_eq_true rfl) (ls' := [some (.inr (9, 0, 0)), some (.inl (.int x1)), some (.inl (.int x2)), some (.inl (.int (x3 / 10))), some (.inl (.int (x4 + (-1))))]) rfl ?_
      refine ch_goto (tgt := 46) d_m_areSteps_87 (by decide) ?_
      exact h
    · replace h := h.2 c_
      refine ch_if_ne (tgt := 79) d_m_areSteps_74 (by decide) (fun c => absurd c (by decide)) (fun _ => ?_)
      refine ch_iconst (v := 0) d_m_areSteps_77 (by decide) ?_
      exact ch_iret (ty := .boolean) d_m_areSteps_78 rfl rfl (Nat.le_of_ble_eq_true rfl) h
theorem e_m_term (g : ch_G) (Q : ch_O → ch_M → Prop)  (m : ch_M) (h : ch_J g m_m_term (ch_rm m_m_term) (ch_E g m_m_term Q) 0 [some (.inr (9, 0, 0))] [] m 0) : ch_C g m_m_term [.inr (9, 0, 0)] m Q :=
  ch_enter mf_m_term (by intro v hv; simp only [List.mem_cons, List.not_mem_nil, or_false] at hv; rcases hv with rfl <;> rfl) (Nat.le_of_ble_eq_true rfl) h
set_option maxHeartbeats 1600000 in
theorem g_m_term_0 (g : ch_G) (Q : ch_O → ch_M → Prop)  (m : ch_M) (h : ((∀ m2 : ch_M, m2 = ch_os m 9 0 (m_trB (ch_ob m 9 0)) → ((¬ (m2 (9, 0, 1) (0)) = 0 → (∃ T_4 : Nat, (∃ Y_5 : ch_B, (m_rel Y_5 (m2 (9, 0, 1))) ∧ (y_inv T_4 Y_5) ∧ ((∀ (B6 : ch_B), (m_rel (y_termB Y_5) (B6 1)) → (∀ a_ i_, a_ ≠ 1 → B6 a_ i_ = ch_ob m2 9 0 a_ i_) → (∀ m8 : ch_M, m8 = ch_os m2 9 0 B6 → (((∀ m16 : ch_M, m16 = ch_wr m8 (9, 0, 0) 18 (i_bc (b_st (m_lb Y_5 (y_termB Y_5)) 12)) → (vp_in (m16 (9, 0, 0) 4) 9) ∧ ((∀ m19 : ch_M, m19 = ch_os m16 9 0 (m_kB (ch_ob m16 9 0)) → Q (.inl (some (.inl (.int (m16 (9, 0, 0) 18))))) m19))))))))))) ∧ ((m2 (9, 0, 1) (0)) = 0 → ((∀ m23 : ch_M, m23 = ch_wr (ch_wr (ch_wr m2 (9, 0, 0) 15 13) (9, 0, 0) 16 0) (9, 0, 0) 17 0 → ((∀ m26 : ch_M, m26 = ch_os m23 9 0 (ch_bw (ch_ob m23 9 0) 0 19 1) → Q (.inl (some (.inl (.int 0)))) m26))))))))) : ch_J g m_m_term (ch_rm m_m_term) (ch_E g m_m_term Q) 0 [some (.inr (9, 0, 0))] [] m 0 := by
  refine ch_aload_n (i := 0) d_m_term_0 rfl rfl ?_
  refine ch_callV (as := []) d_m_term_1 lk_m_96 mi_m_tries me_m_tries rfl rfl rfl ⟨Nat.le_of_ble_eq_true rfl, Nat.le_of_ble_eq_true rfl⟩ (Nat.le_of_ble_eq_true rfl) ⟨Nat.le_of_ble_eq_true rfl, Nat.le_of_ble_eq_true rfl⟩ (ch_mono (ch_Kv (fun m2 q3 => ?_)) (s_m_tries g (fun (m_ : ch_M) => (m_ = ch_os m 9 0 (m_trB (ch_ob m 9 0))))  m rfl))
  have hm_ := q3
  replace h := h m2 hm_
  refine ch_aload_n (i := 0) d_m_term_4 rfl rfl ?_
  refine ch_get (v := .inr (9, 0, 1)) d_m_term_5 fl_m_9 rfl ?_
  refine ch_iconst (v := 0) d_m_term_8 (by decide) ?_
  refine ch_iald (n := 63) d_m_term_9 (by decide) rfl (vp_in_nI (n := 0) (by decide) (by decide)) ?_
  refine ch_if_ne (tgt := 25) d_m_term_10 (by decide) (fun c => ?_) (fun c => ?_)
  · replace h := h.1 c
    refine ch_aload_n (i := 0) d_m_term_25 rfl rfl ?_
    refine ch_aload_n (i := 0) d_m_term_26 rfl rfl ?_
    refine ch_aload_n (i := 0) d_m_term_27 rfl rfl ?_
    obtain ⟨T_4, h⟩ := h
    obtain ⟨Y_5, h⟩ := h
    have b10 := h.1
    replace h := h.2
    have b11 := h.1
    replace h := h.2
    refine ch_callV (as := []) d_m_term_28 lk_m_176 mi_m_goesBy me_m_goesBy rfl rfl rfl ⟨Nat.le_of_ble_eq_true rfl, Nat.le_of_ble_eq_true rfl⟩ (Nat.le_of_ble_eq_true rfl) ⟨Nat.le_of_ble_eq_true rfl, Nat.le_of_ble_eq_true rfl⟩ (ch_mono (ch_Ki (fun r7 m8 q9 => ?_)) (s_m_goesBy g (fun (r_ : Int32) (m_ : ch_M) => (∃ (B6 : ch_B), (b_st (m_lb Y_5 (y_termB Y_5)) 12) = r_ ∧ (m_rel (y_termB Y_5) (B6 1)) ∧ (∀ a_ i_, a_ ≠ 1 → B6 a_ i_ = ch_ob m2 9 0 a_ i_) ∧ m_ = ch_os m2 9 0 B6)) (T_4) (Y_5) m2 ⟨b10, b11, (fun B6 f0_ f1_ => ⟨B6, rfl, f0_, f1_, rfl⟩)⟩))
    obtain ⟨B6, rfl, f0_, f1_, hm_⟩ := q9
    replace h := h B6 f0_ f1_ m8 hm_
    refine ch_callS (as := [.inl (.int (b_st (m_lb Y_5 (y_termB Y_5)) 12))]) d_m_term_31 lk_m_171 ms_i_bitCount rfl rfl ⟨Nat.le_of_ble_eq_true rfl, Nat.le_of_ble_eq_true rfl⟩ (Nat.le_of_ble_eq_true rfl) ⟨Nat.le_of_ble_eq_true rfl, Nat.le_of_ble_eq_true rfl⟩ (ch_mono (ch_Ki (fun r12 m13 q14 => ?_)) (s_i_bitCount g (fun (r_ : Int32) (m_ : ch_M) => ((i_bc (b_st (m_lb Y_5 (y_termB Y_5)) 12)) = r_ ∧ m8 = m_)) ((b_st (m_lb Y_5 (y_termB Y_5)) 12)) m8 ⟨rfl, rfl⟩))
    obtain ⟨rfl, rfl⟩ := q14
    replace h := h
    refine ch_callV (as := [.inl (.int (i_bc (b_st (m_lb Y_5 (y_termB Y_5)) 12)))]) d_m_term_34 lk_m_93 mi_m_does me_m_does rfl rfl rfl ⟨Nat.le_of_ble_eq_true rfl, Nat.le_of_ble_eq_true rfl⟩ (Nat.le_of_ble_eq_true rfl) ⟨Nat.le_of_ble_eq_true rfl, Nat.le_of_ble_eq_true rfl⟩ (ch_mono (ch_Ki (fun r15 m16 q17 => ?_)) (s_m_does g (fun (r_ : Int32) (m_ : ch_M) => (1 = r_ ∧ m_ = ch_wr m8 (9, 0, 0) 18 (i_bc (b_st (m_lb Y_5 (y_termB Y_5)) 12)))) ((i_bc (b_st (m_lb Y_5 (y_termB Y_5)) 12))) m8 ⟨rfl, rfl⟩))
    obtain ⟨rfl, hm_⟩ := q17
    replace h := h m16 hm_
    have b21 := h.1
    replace h := h.2
    refine ch_callV (as := [.inl (.int 1)]) d_m_term_37 lk_m_102 mi_m_ends me_m_ends rfl rfl rfl ⟨Nat.le_of_ble_eq_true rfl, Nat.le_of_ble_eq_true rfl⟩ (Nat.le_of_ble_eq_true rfl) ⟨Nat.le_of_ble_eq_true rfl, Nat.le_of_ble_eq_true rfl⟩ (ch_mono (ch_Ki (fun r18 m19 q20 => ?_)) (c_m_ends1 g (fun (r_ : Int32) (m_ : ch_M) => ((m16 (9, 0, 0) 18) = r_ ∧ m_ = ch_os m16 9 0 (m_kB (ch_ob m16 9 0))))  m16 ⟨b21, ⟨rfl, rfl⟩⟩))
    obtain ⟨rfl, hm_⟩ := q20
    replace h := h m19 hm_
    exact ch_iret (ty := .int) d_m_term_40 rfl rfl (Nat.le_of_ble_eq_true rfl) h
  · replace h := h.2 c
    refine ch_aload_n (i := 0) d_m_term_13 rfl rfl ?_
    refine ch_aload_n (i := 0) d_m_term_14 rfl rfl ?_
    refine ch_bipush (v := 13) d_m_term_15 (by decide) ?_
    refine ch_iconst (v := 0) d_m_term_17 (by decide) ?_
    refine ch_callV (as := [.inl (.int 13), .inl (.int 0)]) d_m_term_18 lk_m_81 mi_m_refuses me_m_refuses rfl rfl rfl ⟨Nat.le_of_ble_eq_true rfl, Nat.le_of_ble_eq_true rfl⟩ (Nat.le_of_ble_eq_true rfl) ⟨Nat.le_of_ble_eq_true rfl, Nat.le_of_ble_eq_true rfl⟩ (ch_mono (ch_Ki (fun r22 m23 q24 => ?_)) (s_m_refuses g (fun (r_ : Int32) (m_ : ch_M) => (0 = r_ ∧ m_ = ch_wr (ch_wr (ch_wr m2 (9, 0, 0) 15 13) (9, 0, 0) 16 0) (9, 0, 0) 17 0)) (13) (0) m2 ⟨rfl, rfl⟩))
    obtain ⟨rfl, hm_⟩ := q24
    replace h := h m23 hm_
    refine ch_callV (as := [.inl (.int 0)]) d_m_term_21 lk_m_102 mi_m_ends me_m_ends rfl rfl rfl ⟨Nat.le_of_ble_eq_true rfl, Nat.le_of_ble_eq_true rfl⟩ (Nat.le_of_ble_eq_true rfl) ⟨Nat.le_of_ble_eq_true rfl, Nat.le_of_ble_eq_true rfl⟩ (ch_mono (ch_Ki (fun r25 m26 q27 => ?_)) (c_m_ends0 g (fun (r_ : Int32) (m_ : ch_M) => (0 = r_ ∧ m_ = ch_os m23 9 0 (ch_bw (ch_ob m23 9 0) 0 19 1)))  m23 ⟨rfl, rfl⟩))
    obtain ⟨rfl, hm_⟩ := q27
    replace h := h m26 hm_
    exact ch_iret (ty := .int) d_m_term_24 rfl rfl (Nat.le_of_ble_eq_true rfl) h
