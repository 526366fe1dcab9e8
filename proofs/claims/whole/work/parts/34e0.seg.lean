theorem e_q_indexOf (g : ch_G) (Q : ch_O → ch_M → Prop) (p1 : Int32) (m : ch_M) (h : ch_J g m_q_indexOf (ch_rm m_q_indexOf) (ch_E g m_q_indexOf Q) 0 [some (.inr (12, 0, 0)), some (.inl (.int p1))] [] m 0) : ch_C g m_q_indexOf [.inr (12, 0, 0), .inl (.int p1)] m Q :=
  ch_enter mf_q_indexOf (by intro v hv; simp only [List.mem_cons, List.not_mem_nil, or_false] at hv; rcases hv with rfl | rfl <;> rfl) (Nat.le_of_ble_eq_true rfl) h
set_option maxHeartbeats 1600000 in
theorem g_q_indexOf_0 (g : ch_G) (Q : ch_O → ch_M → Prop) (p1 : Int32) (m : ch_M) (h : ((0 : Int32) = 0) ∧ (((d_kd p1) → (∀ (r11 : Int32), (0 ≤ r11) → Q (.inl (some (.inl (.int r11)))) m)) ∧ ((¬ d_kd p1) → Q (.inl (some (.inl (.int (-1))))) m))) : ch_J g m_q_indexOf (ch_rm m_q_indexOf) (ch_E g m_q_indexOf Q) 0 [some (.inr (12, 0, 0)), some (.inl (.int p1))] [] m 0 := by
  refine ch_aload_n (i := 0) d_q_indexOf_0 rfl rfl ?_
  refine ch_iload_n (i := 1) d_q_indexOf_1 rfl rfl ?_
  refine ch_iconst (v := 0) d_q_indexOf_2 (by decide) ?_
  have b5 := h.1
  replace h := h.2
  refine ch_callT (as := [.inl (.int p1), .inl (.int 0)]) d_q_indexOf_3 lk_q_633 mi_q_indexOf2 me_q_indexOf2 rfl rfl rfl ⟨Nat.le_of_ble_eq_true rfl, Nat.le_of_ble_eq_true rfl⟩ (Nat.le_of_ble_eq_true rfl) ⟨Nat.le_of_ble_eq_true rfl, Nat.le_of_ble_eq_true rfl⟩ (ch_mono (ch_Ki (fun r2 m3 q4 => ?_)) (s_q_indexOf2 g (fun (r_ : Int32) (m_ : ch_M) => (∃ (r11 : Int32), (d_kd p1) ∧ r11 = r_ ∧ (0 ≤ r11) ∧ m = m_) ∨ ((¬ d_kd p1) ∧ (-1) = r_ ∧ m = m_)) (p1) (0) m ⟨b5, (fun c_ r11 f0_ => (Or.inl ⟨r11, c_, rfl, f0_, rfl⟩)), (fun c_ => (Or.inr ⟨c_, rfl, rfl⟩))⟩))
  rcases q4 with ⟨r11, c_, rfl, f0_, rfl⟩ | ⟨c_, rfl, rfl⟩
  · replace h := h.1 c_ r11 f0_
    exact ch_iret (ty := .int) d_q_indexOf_6 rfl rfl (Nat.le_of_ble_eq_true rfl) h
  · replace h := h.2 c_
    exact ch_iret (ty := .int) d_q_indexOf_6 rfl rfl (Nat.le_of_ble_eq_true rfl) h
theorem e_m_takes (g : ch_G) (Q : ch_O → ch_M → Prop) (p1 : Int32) (m : ch_M) (h : ch_J g m_m_takes (ch_rm m_m_takes) (ch_E g m_m_takes Q) 0 [some (.inr (9, 0, 0)), some (.inl (.int p1))] [] m 0) : ch_C g m_m_takes [.inr (9, 0, 0), .inl (.int p1)] m Q :=
  ch_enter mf_m_takes (by intro v hv; simp only [List.mem_cons, List.not_mem_nil, or_false] at hv; rcases hv with rfl | rfl <;> rfl) (Nat.le_of_ble_eq_true rfl) h
set_option maxHeartbeats 1600000 in
theorem g_m_takes_0 (g : ch_G) (Q : ch_O → ch_M → Prop) (p1 : Int32) (m : ch_M) (h : (((m (9, 0, 0) 11) = (m (9, 0, 0) 10) → Q (.inl (some (.inl (.int 0)))) m) ∧ (¬ (m (9, 0, 0) 11) = (m (9, 0, 0) 10) → (vp_in (m (9, 0, 0) 11) 60) ∧ (((m (9, 0, 7) (Int32.toNatClampNeg (m (9, 0, 0) 11))) = p1 → (∀ m2 : ch_M, m2 = ch_wr m (9, 0, 0) 11 ((m (9, 0, 0) 11) + 1) → Q (.inl (some (.inl (.int 1)))) m2)) ∧ (¬ (m (9, 0, 7) (Int32.toNatClampNeg (m (9, 0, 0) 11))) = p1 → Q (.inl (some (.inl (.int 0)))) m))))) : ch_J g m_m_takes (ch_rm m_m_takes) (ch_E g m_m_takes Q) 0 [some (.inr (9, 0, 0)), some (.inl (.int p1))] [] m 0 := by
  refine ch_aload_n (i := 0) d_m_takes_0 rfl rfl ?_
  refine ch_get (v := .inl (.int (m (9, 0, 0) 11))) d_m_takes_1 fl_m_209 rfl ?_
  refine ch_aload_n (i := 0) d_m_takes_4 rfl rfl ?_
  refine ch_get (v := .inl (.int (m (9, 0, 0) 10))) d_m_takes_5 fl_m_206 rfl ?_
  refine ch_icmp_eq (tgt := 24) d_m_takes_8 (by decide) (fun c => ?_) (fun c => ?_)
  · replace h := h.1 c
    refine ch_iconst (v := 0) d_m_takes_24 (by decide) ?_
    exact ch_iret (ty := .boolean) d_m_takes_25 rfl rfl (Nat.le_of_ble_eq_true rfl) h
  · replace h := h.2 c
    refine ch_aload_n (i := 0) d_m_takes_11 rfl rfl ?_
    refine ch_get (v := .inr (9, 0, 7)) d_m_takes_12 fl_m_29 rfl ?_
    refine ch_aload_n (i := 0) d_m_takes_15 rfl rfl ?_
    refine ch_get (v := .inl (.int (m (9, 0, 0) 11))) d_m_takes_16 fl_m_209 rfl ?_
    have b1 := h.1
    replace h := h.2
    refine ch_cald (n := 60) d_m_takes_19 (by decide) rfl b1 ?_
    refine ch_iload_n (i := 1) d_m_takes_20 rfl rfl ?_
    refine ch_icmp_eq (tgt := 26) d_m_takes_21 (by decide) (fun c => ?_) (fun c => ?_)
    · replace h := h.1 c
      refine ch_aload_n (i := 0) d_m_takes_26 rfl rfl ?_
      refine ch_dup d_m_takes_27 rfl ?_
      refine ch_get (v := .inl (.int (m (9, 0, 0) 11))) d_m_takes_28 fl_m_209 rfl ?_
      refine ch_iconst (v := 1) d_m_takes_31 (by decide) ?_
      refine ch_iadd d_m_takes_32 ?_
      refine ch_put d_m_takes_33 fp_m_209 rfl rfl rfl ?_
      generalize hmm2 : ch_wr m (9, 0, 0) 11 ((m (9, 0, 0) 11) + 1) = m2
      replace h := h m2 hmm2.symm
      refine ch_iconst (v := 1) d_m_takes_36 (by decide) ?_
      exact ch_iret (ty := .boolean) d_m_takes_37 rfl rfl (Nat.le_of_ble_eq_true rfl) h
    · replace h := h.2 c
      refine ch_iconst (v := 0) d_m_takes_24 (by decide) ?_
      exact ch_iret (ty := .boolean) d_m_takes_25 rfl rfl (Nat.le_of_ble_eq_true rfl) h
theorem e_m_digits (g : ch_G) (Q : ch_O → ch_M → Prop) (p1 : Int32) (p2 : Int32) (m : ch_M) (h : ch_J g m_m_digits (ch_rm m_m_digits) (ch_E g m_m_digits Q) 0 [some (.inr (9, 0, 0)), some (.inl (.int p1)), some (.inl (.int p2)), none] [] m 0) : ch_C g m_m_digits [.inr (9, 0, 0), .inl (.int p1), .inl (.int p2)] m Q :=
  ch_enter mf_m_digits (by intro v hv; simp only [List.mem_cons, List.not_mem_nil, or_false] at hv; rcases hv with rfl | rfl | rfl <;> rfl) (Nat.le_of_ble_eq_true rfl) h
set_option maxHeartbeats 1600000 in
theorem g_m_digits_0 (g : ch_G) (Q : ch_O → ch_M → Prop) (p1 : Int32) (p2 : Int32) (m : ch_M) (h : (vp_in p1 3) ∧ (∀ m2 : ch_M, m2 = ch_wr m (9, 0, 8) (Int32.toNatClampNeg p1) 0 → ch_J g m_m_digits (ch_rm m_m_digits) (ch_E g m_m_digits Q) 9 [some (.inr (9, 0, 0)), some (.inl (.int p1)), some (.inl (.int p2)), some (.inl (.int 0))] [] m2 0)) : ch_J g m_m_digits (ch_rm m_m_digits) (ch_E g m_m_digits Q) 0 [some (.inr (9, 0, 0)), some (.inl (.int p1)), some (.inl (.int p2)), none] [] m 0 := by
  refine ch_iconst (v := 0) d_m_digits_0 (by decide) ?_
  refine ch_istore_n (i := 3) d_m_digits_1 rfl (Nat.le_of_ble_eq_true rfl) (ls' := [some (.inr (9, 0, 0)), some (.inl (.int p1)), some (.inl (.int p2)), some (.inl (.int 0))]) rfl ?_
  refine ch_aload_n (i := 0) d_m_digits_2 rfl rfl ?_
  refine ch_get (v := .inr (9, 0, 8)) d_m_digits_3 fl_m_32 rfl ?_
  refine ch_iload_n (i := 1) d_m_digits_6 rfl rfl ?_
  refine ch_iconst (v := 0) d_m_digits_7 (by decide) ?_
  have b1 := h.1
  replace h := h.2
  refine ch_iast (n := 3) d_m_digits_8 (by decide) rfl b1 ?_
  show ch_J g _ _ _ _ _ _ (ch_wr m (9, 0, 8) (Int32.toNatClampNeg p1) 0) _
  generalize hmm2 : ch_wr m (9, 0, 8) (Int32.toNatClampNeg p1) 0 = m2
  replace h := h m2 hmm2.symm
  exact h
set_option maxHeartbeats 1600000 in
theorem g_m_digits_9 (g : ch_G) (Q : ch_O → ch_M → Prop) (x1 : Int32) (x2 : Int32) (x3 : Int32) (m : ch_M) (h : ((x2 ≤ x3 → ((x3 ≤ 0 → Q (.inl (some (.inl (.int 0)))) m) ∧ (¬ x3 ≤ 0 → Q (.inl (some (.inl (.int 1)))) m))) ∧ (¬ x2 ≤ x3 → (((m (9, 0, 0) 10) ≤ (m (9, 0, 0) 11) → ((x3 ≤ 0 → Q (.inl (some (.inl (.int 0)))) m) ∧ (¬ x3 ≤ 0 → Q (.inl (some (.inl (.int 1)))) m))) ∧ (¬ (m (9, 0, 0) 10) ≤ (m (9, 0, 0) 11) → (vp_in (m (9, 0, 0) 11) 60) ∧ (((48 ≤ (m (9, 0, 7) (Int32.toNatClampNeg (m (9, 0, 0) 11))) ∧ (m (9, 0, 7) (Int32.toNatClampNeg (m (9, 0, 0) 11))) ≤ 57) → (vp_in x1 3) ∧ (∀ m6 : ch_M, m6 = ch_wr m (9, 0, 0) 11 ((m (9, 0, 0) 11) + 1) → (∀ m7 : ch_M, m7 = ch_wr m6 (9, 0, 8) (Int32.toNatClampNeg x1) (((10 * (m (9, 0, 8) (Int32.toNatClampNeg x1))) + (m6 (9, 0, 7) (Int32.toNatClampNeg (m (9, 0, 0) 11)))) - 48) → ch_J g m_m_digits (ch_rm m_m_digits) (ch_E g m_m_digits Q) 9 [some (.inr (9, 0, 0)), some (.inl (.int x1)), some (.inl (.int x2)), some (.inl (.int (x3 + 1)))] [] m7 0))) ∧ ((¬ (48 ≤ (m (9, 0, 7) (Int32.toNatClampNeg (m (9, 0, 0) 11))) ∧ (m (9, 0, 7) (Int32.toNatClampNeg (m (9, 0, 0) 11))) ≤ 57)) → ((x3 ≤ 0 → Q (.inl (some (.inl (.int 0)))) m) ∧ (¬ x3 ≤ 0 → Q (.inl (some (.inl (.int 1)))) m))))))))) : ch_J g m_m_digits (ch_rm m_m_digits) (ch_E g m_m_digits Q) 9 [some (.inr (9, 0, 0)), some (.inl (.int x1)), some (.inl (.int x2)), some (.inl (.int x3))] [] m 0 := by
  refine ch_iload_n (i := 3) d_m_digits_9 rfl rfl ?_
  refine ch_iload_n (i := 2) d_m_digits_10 rfl rfl ?_
  refine ch_icmp_ge (tgt := 85) d_m_digits_11 (by decide) (fun c => ?_) (fun c => ?_)
  · replace h := h.1 c
    refine ch_iload_n (i := 3) d_m_digits_85 rfl rfl ?_
    refine ch_if_le (tgt := 93) d_m_digits_86 (by decide) (fun c => ?_) (fun c => ?_)
    · replace h := h.1 c
      refine ch_iconst (v := 0) d_m_digits_93 (by decide) ?_
      exact ch_iret (ty := .boolean) d_m_digits_94 rfl rfl (Nat.le_of_ble_eq_true rfl) h
    · replace h := h.2 c
      refine ch_iconst (v := 1) d_m_digits_89 (by decide) ?_
      refine ch_goto (tgt := 94) d_m_digits_90 (by decide) ?_
      exact ch_iret (ty := .boolean) d_m_digits_94 rfl rfl (Nat.le_of_ble_eq_true rfl) h
  · replace h := h.2 c
    refine ch_aload_n (i := 0) d_m_digits_14 rfl rfl ?_
    refine ch_get (v := .inl (.int (m (9, 0, 0) 11))) d_m_digits_15 fl_m_209 rfl ?_
    refine ch_aload_n (i := 0) d_m_digits_18 rfl rfl ?_
    refine ch_get (v := .inl (.int (m (9, 0, 0) 10))) d_m_digits_19 fl_m_206 rfl ?_
    refine ch_icmp_ge (tgt := 85) d_m_digits_22 (by decide) (fun c => ?_) (fun c => ?_)
    · replace h := h.1 c
      refine ch_iload_n (i := 3) d_m_digits_85 rfl rfl ?_
      refine ch_if_le (tgt := 93) d_m_digits_86 (by decide) (fun c => ?_) (fun c => ?_)
      · replace h := h.1 c
        refine ch_iconst (v := 0) d_m_digits_93 (by decide) ?_
        exact ch_iret (ty := .boolean) d_m_digits_94 rfl rfl (Nat.le_of_ble_eq_true rfl) h
      · replace h := h.2 c
        refine ch_iconst (v := 1) d_m_digits_89 (by decide) ?_
        refine ch_goto (tgt := 94) d_m_digits_90 (by decide) ?_
        exact ch_iret (ty := .boolean) d_m_digits_94 rfl rfl (Nat.le_of_ble_eq_true rfl) h
    · replace h := h.2 c
      refine ch_aload_n (i := 0) d_m_digits_25 rfl rfl ?_
      refine ch_get (v := .inr (9, 0, 7)) d_m_digits_26 fl_m_29 rfl ?_
      refine ch_aload_n (i := 0) d_m_digits_29 rfl rfl ?_
      refine ch_get (v := .inl (.int (m (9, 0, 0) 11))) d_m_digits_30 fl_m_209 rfl ?_
      have b1 := h.1
      replace h := h.2
      refine ch_cald (n := 60) d_m_digits_33 (by decide) rfl b1 ?_
      refine ch_bipush (v := 48) d_m_digits_34 (by decide) ?_
      refine ch_bipush (v := 57) d_m_digits_36 (by decide) ?_
      refine ch_callS (as := [.inl (.int (m (9, 0, 7) (Int32.toNatClampNeg (m (9, 0, 0) 11)))), .inl (.int 48), .inl (.int 57)]) d_m_digits_38 lk_m_73 ms_m_in rfl rfl ⟨Nat.le_of_ble_eq_true rfl, Nat.le_of_ble_eq_true rfl⟩ (Nat.le_of_ble_eq_true rfl) ⟨Nat.le_of_ble_eq_true rfl, Nat.le_of_ble_eq_true rfl⟩ (ch_mono (ch_Ki (fun r2 m3 q4 => ?_)) (s_m_in g (fun (r_ : Int32) (m_ : ch_M) => ((48 ≤ (m (9, 0, 7) (Int32.toNatClampNeg (m (9, 0, 0) 11))) ∧ (m (9, 0, 7) (Int32.toNatClampNeg (m (9, 0, 0) 11))) ≤ 57) ∧ 1 = r_ ∧ m = m_) ∨ ((¬ (48 ≤ (m (9, 0, 7) (Int32.toNatClampNeg (m (9, 0, 0) 11))) ∧ (m (9, 0, 7) (Int32.toNatClampNeg (m (9, 0, 0) 11))) ≤ 57)) ∧ 0 = r_ ∧ m = m_)) ((m (9, 0, 7) (Int32.toNatClampNeg (m (9, 0, 0) 11)))) (48) (57) m ⟨(fun c_ => (Or.inl ⟨c_, rfl, rfl⟩)), (fun c_ => (Or.inr ⟨c_, rfl, rfl⟩))⟩))
      rcases q4 with ⟨c_, rfl, rfl⟩ | ⟨c_, rfl, rfl⟩
      · replace h := h.1 c_
        refine ch_if_eq (tgt := 85) d_m_digits_41 (by decide) (fun c => absurd c (by decide)) (fun _ => ?_)
        refine ch_aload_n (i := 0) d_m_digits_44 rfl rfl ?_
        refine ch_get (v := .inr (9, 0, 8)) d_m_digits_45 fl_m_32 rfl ?_
        refine ch_iload_n (i := 1) d_m_digits_48 rfl rfl ?_
        refine ch_bipush (v := 10) d_m_digits_49 (by decide) ?_
        refine ch_aload_n (i := 0) d_m_digits_51 rfl rfl ?_
        refine ch_get (v := .inr (9, 0, 8)) d_m_digits_52 fl_m_32 rfl ?_
        refine ch_iload_n (i := 1) d_m_digits_55 rfl rfl ?_
        have b5 := h.1
        replace h := h.2
        refine ch_iald (n := 3) d_m_digits_56 (by decide) rfl b5 ?_
        refine ch_imul d_m_digits_57 ?_
        refine ch_aload_n (i := 0) d_m_digits_58 rfl rfl ?_
        refine ch_get (v := .inr (9, 0, 7)) d_m_digits_59 fl_m_29 rfl ?_
        refine ch_aload_n (i := 0) d_m_digits_62 rfl rfl ?_
        refine ch_dup d_m_digits_63 rfl ?_
        refine ch_get (v := .inl (.int (m (9, 0, 0) 11))) d_m_digits_64 fl_m_209 rfl ?_
        refine ch_dup_x1 d_m_digits_67 rfl rfl ?_
        refine ch_iconst (v := 1) d_m_digits_68 (by decide) ?_
        refine ch_iadd d_m_digits_69 ?_
        refine ch_put d_m_digits_70 fp_m_209 rfl rfl rfl ?_
        generalize hmm6 : ch_wr m (9, 0, 0) 11 ((m (9, 0, 0) 11) + 1) = m6
        replace h := h m6 hmm6.symm
        refine ch_cald (n := 60) d_m_digits_73 (by decide) rfl b1 ?_
        refine ch_iadd d_m_digits_74 ?_
        refine ch_bipush (v := 48) d_m_digits_75 (by decide) ?_
        refine ch_isub d_m_digits_77 ?_
        refine ch_iast (n := 3) d_m_digits_78 (by decide) rfl b5 ?_
        show ch_J g _ _ _ _ _ _ (ch_wr m6 (9, 0, 8) (Int32.toNatClampNeg x1) (((10 * (m (9, 0, 8) (Int32.toNatClampNeg x1))) + (m6 (9, 0, 7) (Int32.toNatClampNeg (m (9, 0, 0) 11)))) - 48)) _
        generalize hmm7 : ch_wr m6 (9, 0, 8) (Int32.toNatClampNeg x1) (((10 * (m (9, 0, 8) (Int32.toNatClampNeg x1))) + (m6 (9, 0, 7) (Int32.toNatClampNeg (m (9, 0, 0) 11)))) - 48) = m7
        replace h := h m7 hmm7.symm
        refine ch_iinc (i := 3) (v := (x3 + 1)) d_m_digits_79 rfl rfl (Nat.le_of_ble_eq_true rfl) (ls' := [some (.inr (9, 0, 0)), some (.inl (.int x1)), some (.inl (.int x2)), some (.inl (.int (x3 + 1)))]) rfl ?_
        refine ch_goto (tgt := 9) d_m_digits_82 (by decide) ?_
        exact h
      · replace h := h.2 c_
        refine ch_if_eq (tgt := 85) d_m_digits_41 (by decide) (fun _ => ?_) (fun c => absurd c (by decide))
        refine ch_iload_n (i := 3) d_m_digits_85 rfl rfl ?_
        refine ch_if_le (tgt := 93) d_m_digits_86 (by decide) (fun c => ?_) (fun c => ?_)
        · replace h := h.1 c
          refine ch_iconst (v := 0) d_m_digits_93 (by decide) ?_
          exact ch_iret (ty := .boolean) d_m_digits_94 rfl rfl (Nat.le_of_ble_eq_true rfl) h
        · replace h := h.2 c
          refine ch_iconst (v := 1) d_m_digits_89 (by decide) ?_
          refine ch_goto (tgt := 94) d_m_digits_90 (by decide) ?_
          exact ch_iret (ty := .boolean) d_m_digits_94 rfl rfl (Nat.le_of_ble_eq_true rfl) h
