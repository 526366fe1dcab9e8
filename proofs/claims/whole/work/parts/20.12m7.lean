theorem e_m_append (g : ch_G) (Q : ch_O → ch_M → Prop) (p1 : Int32) (m : ch_M) (h : ch_J g m_m_append (ch_rm m_m_append) (ch_E g m_m_append Q) 0 [some (.inr (9, 0, 0)), some (.inl (.int p1))] [] m 0) : ch_C g m_m_append [.inr (9, 0, 0), .inl (.int p1)] m Q :=
  ch_enter mf_m_append (by intro v hv; simp only [List.mem_cons, List.not_mem_nil, or_false] at hv; rcases hv with rfl | rfl <;> rfl) (Nat.le_of_ble_eq_true rfl) h
set_option maxHeartbeats 1600000 in
theorem g_m_append_0 (g : ch_G) (Q : ch_O → ch_M → Prop) (p1 : Int32) (m : ch_M) (h : (∀ m1 : ch_M, m1 = ch_wr m (9, 0, 0) 19 0 → ((¬ (m1 (9, 0, 0) 10) = 60 → (∀ m2 : ch_M, m2 = ch_wr m1 (9, 0, 0) 10 ((m1 (9, 0, 0) 10) + 1) → (vp_in (m1 (9, 0, 0) 10) 60) ∧ (∀ m4 : ch_M, m4 = ch_wr m2 (9, 0, 7) (Int32.toNatClampNeg (m1 (9, 0, 0) 10)) (vp_nar .char p1) → Q (.inl (some (.inl (.int (m4 (9, 0, 0) 10))))) m4))) ∧ ((m1 (9, 0, 0) 10) = 60 → (ch_C g m_m_raises [.inr (9, 0, 0), .inl (.int 1)] m1 (ch_oi (fun (r5 : Int32) (m6 : ch_M) => Q (.inl (some (.inl (.int r5)))) m6))))))) : ch_J g m_m_append (ch_rm m_m_append) (ch_E g m_m_append Q) 0 [some (.inr (9, 0, 0)), some (.inl (.int p1))] [] m 0 := by
  refine ch_aload_n (i := 0) d_m_append_0 rfl rfl ?_
  refine ch_iconst (v := 0) d_m_append_1 (by decide) ?_
  refine ch_put d_m_append_2 fp_m_48 rfl rfl rfl ?_
  generalize hmm1 : ch_wr m (9, 0, 0) 19 0 = m1
  replace h := h m1 hmm1.symm
  refine ch_aload_n (i := 0) d_m_append_5 rfl rfl ?_
  refine ch_get (v := .inl (.int (m1 (9, 0, 0) 10))) d_m_append_6 fl_m_206 rfl ?_
  refine ch_bipush (v := 60) d_m_append_9 (by decide) ?_
  refine ch_icmp_ne (tgt := 20) d_m_append_11 (by decide) (fun c => ?_) (fun c => ?_)
  · replace h := h.1 c
    refine ch_aload_n (i := 0) d_m_append_20 rfl rfl ?_
    refine ch_get (v := .inr (9, 0, 7)) d_m_append_21 fl_m_29 rfl ?_
    refine ch_aload_n (i := 0) d_m_append_24 rfl rfl ?_
    refine ch_dup d_m_append_25 rfl ?_
    refine ch_get (v := .inl (.int (m1 (9, 0, 0) 10))) d_m_append_26 fl_m_206 rfl ?_
    refine ch_dup_x1 d_m_append_29 rfl rfl ?_
    refine ch_iconst (v := 1) d_m_append_30 (by decide) ?_
    refine ch_iadd d_m_append_31 ?_
    refine ch_put d_m_append_32 fp_m_206 rfl rfl rfl ?_
    generalize hmm2 : ch_wr m1 (9, 0, 0) 10 ((m1 (9, 0, 0) 10) + 1) = m2
    replace h := h m2 hmm2.symm
    refine ch_iload_n (i := 1) d_m_append_35 rfl rfl ?_
    have b3 := h.1
    replace h := h.2
    refine ch_cast (n := 60) d_m_append_36 (by decide) rfl b3 ?_
    show ch_J g _ _ _ _ _ _ (ch_wr m2 (9, 0, 7) (Int32.toNatClampNeg (m1 (9, 0, 0) 10)) (vp_nar .char p1)) _
    generalize hmm4 : ch_wr m2 (9, 0, 7) (Int32.toNatClampNeg (m1 (9, 0, 0) 10)) (vp_nar .char p1) = m4
    replace h := h m4 hmm4.symm
    refine ch_aload_n (i := 0) d_m_append_37 rfl rfl ?_
    refine ch_get (v := .inl (.int (m4 (9, 0, 0) 10))) d_m_append_38 fl_m_206 rfl ?_
    exact ch_iret (ty := .int) d_m_append_41 rfl rfl (Nat.le_of_ble_eq_true rfl) h
  · replace h := h.2 c
    refine ch_aload_n (i := 0) d_m_append_14 rfl rfl ?_
    refine ch_iconst (v := 1) d_m_append_15 (by decide) ?_
    refine ch_callV (as := [.inl (.int 1)]) d_m_append_16 lk_m_70 mi_m_raises me_m_raises rfl rfl rfl ⟨Nat.le_of_ble_eq_true rfl, Nat.le_of_ble_eq_true rfl⟩ (Nat.le_of_ble_eq_true rfl) ⟨Nat.le_of_ble_eq_true rfl, Nat.le_of_ble_eq_true rfl⟩ (ch_mono (ch_Ki (fun r5 m6 h => ?_)) h)
    exact ch_iret (ty := .int) d_m_append_19 rfl rfl (Nat.le_of_ble_eq_true rfl) h
theorem e_m_takes (g : ch_G) (Q : ch_O → ch_M → Prop) (p1 : Int32) (m : ch_M) (h : ch_J g m_m_takes (ch_rm m_m_takes) (ch_E g m_m_takes Q) 0 [some (.inr (9, 0, 0)), some (.inl (.int p1))] [] m 0) : ch_C g m_m_takes [.inr (9, 0, 0), .inl (.int p1)] m Q :=
  ch_enter mf_m_takes (by intro v hv; simp only [List.mem_cons, List.not_mem_nil, or_false] at hv; rcases hv with rfl | rfl <;> rfl) (Nat.le_of_ble_eq_true rfl) h
set_option maxHeartbeats 1600000 in
theorem g_m_takes_0 (g : ch_G) (Q : ch_O → ch_M → Prop) (p1 : Int32) (m : ch_M) (h : (((m (9, 0, 0) 11) = (m (9, 0, 0) 10) → Q (.inl (some (.inl (.int 0)))) m) ∧ (¬ (m (9, 0, 0) 11) = (m (9, 0, 0) 10) → (vp_in (m (9, 0, 0) 11) 60) ∧ (((m (9, 0, 7) (Int32.toNatClampNeg (m (9, 0, 0) 11))) = p1 → (∀ m2 : ch_M, m2 = ch_wr m (9, 0, 0) 11 ((m (9, 0, 0) 11) + 1) → Q (.inl (some (.inl (.int 1)))) m2)) ∧ (¬ (m (9, 0, 7) (Int32.toNatClampNeg (m (9, 0, 0) 11))) = p1 → Q (.inl (some (.inl (.int 0)))) m))))) : ch_J g m_m_takes (ch_rm m_m_takes) (ch_E g m_m_takes Q) 0 [some (.inr (9, 0, 0)), some (.inl (.int p1))] [] m 0 := by
  refine ch_aload_n (i := 0) d_m_takes_0 rfl rfl ?_
  refine ch_get (v := .inl (.int (m (9, 0, 0) 11))) d_m_takes_1 fl_m_209 rfl ?_
  refine ch_aload_n (i := 0) d_m_takes_4 rfl rfl ?_
  refine ch_get (v := .inl (.int (m (9, 0, 0) 10))) d_m_takes_5 fl_m_206 rfl ?_
  refine ch_icmp_eq (tgt := 24) d_m_takes_8 (by decide) (fun c => ?_) (fun c => ?_)
  · replace h := h.1 c
    refine ch_iconst (v := 0) d_m_takes_24 (by decide) ?_
    exact ch_iret (ty := .boolean) d_m_takes_25 rfl rfl (Nat.le_of_ble_eq_true rfl) h
  · replace h := h.2 c
    refine ch_aload_n (i := 0) d_m_takes_11 rfl rfl ?_
    refine ch_get (v := .inr (9, 0, 7)) d_m_takes_12 fl_m_29 rfl ?_
    refine ch_aload_n (i := 0) d_m_takes_15 rfl rfl ?_
    refine ch_get (v := .inl (.int (m (9, 0, 0) 11))) d_m_takes_16 fl_m_209 rfl ?_
    have b1 := h.1
    replace h := h.2
    refine ch_cald (n := 60) d_m_takes_19 (by decide) rfl b1 ?_
    refine ch_iload_n (i := 1) d_m_takes_20 rfl rfl ?_
    refine ch_icmp_eq (tgt := 26) d_m_takes_21 (by decide) (fun c => ?_) (fun c => ?_)
    · replace h := h.1 c
      refine ch_aload_n (i := 0) d_m_takes_26 rfl rfl ?_
      refine ch_dup d_m_takes_27 rfl ?_
      refine ch_get (v := .inl (.int (m (9, 0, 0) 11))) d_m_takes_28 fl_m_209 rfl ?_
      refine ch_iconst (v := 1) d_m_takes_31 (by decide) ?_
      refine ch_iadd d_m_takes_32 ?_
      refine ch_put d_m_takes_33 fp_m_209 rfl rfl rfl ?_
      generalize hmm2 : ch_wr m (9, 0, 0) 11 ((m (9, 0, 0) 11) + 1) = m2
      replace h := h m2 hmm2.symm
      refine ch_iconst (v := 1) d_m_takes_36 (by decide) ?_
      exact ch_iret (ty := .boolean) d_m_takes_37 rfl rfl (Nat.le_of_ble_eq_true rfl) h
    · replace h := h.2 c
      refine ch_iconst (v := 0) d_m_takes_24 (by decide) ?_
      exact ch_iret (ty := .boolean) d_m_takes_25 rfl rfl (Nat.le_of_ble_eq_true rfl) h
theorem e_m_digits (g : ch_G) (Q : ch_O → ch_M → Prop) (p1 : Int32) (p2 : Int32) (m : ch_M) (h : ch_J g m_m_digits (ch_rm m_m_digits) (ch_E g m_m_digits Q) 0 [some (.inr (9, 0, 0)), some (.inl (.int p1)), some (.inl (.int p2)), none] [] m 0) : ch_C g m_m_digits [.inr (9, 0, 0), .inl (.int p1), .inl (.int p2)] m Q :=
  ch_enter mf_m_digits (by intro v hv; simp only [List.mem_cons, List.not_mem_nil, or_false] at hv; rcases hv with rfl | rfl | rfl <;> rfl) (Nat.le_of_ble_eq_true rfl) h
set_option maxHeartbeats 1600000 in
theorem g_m_digits_0 (g : ch_G) (Q : ch_O → ch_M → Prop) (p1 : Int32) (p2 : Int32) (m : ch_M) (h : (vp_in p1 3) ∧ (∀ m2 : ch_M, m2 = ch_wr m (9, 0, 8) (Int32.toNatClampNeg p1) 0 → ch_J g m_m_digits (ch_rm m_m_digits) (ch_E g m_m_digits Q) 9 [some (.inr (9, 0, 0)), some (.inl (.int p1)), some (.inl (.int p2)), some (.inl (.int 0))] [] m2 0)) : ch_J g m_m_digits (ch_rm m_m_digits) (ch_E g m_m_digits Q) 0 [some (.inr (9, 0, 0)), some (.inl (.int p1)), some (.inl (.int p2)), none] [] m 0 := by
  refine ch_iconst (v := 0) d_m_digits_0 (by decide) ?_
  refine ch_istore_n (i := 3) d_m_digits_1 rfl (Nat.le_of_ble_eq_true rfl) (ls' := [some (.inr (9, 0, 0)), some (.inl (.int p1)), some (.inl (.int p2)), some (.inl (.int 0))]) rfl ?_
  refine ch_aload_n (i := 0) d_m_digits_2 rfl rfl ?_
  refine ch_get (v := .inr (9, 0, 8)) d_m_digits_3 fl_m_32 rfl ?_
  refine ch_iload_n (i := 1) d_m_digits_6 rfl rfl ?_
  refine ch_iconst (v := 0) d_m_digits_7 (by decide) ?_
  have b1 := h.1
  replace h := h.2
  refine ch_iast (n := 3) d_m_digits_8 (by decide) rfl b1 ?_
  show ch_J g _ _ _ _ _ _ (ch_wr m (9, 0, 8) (Int32.toNatClampNeg p1) 0) _
  generalize hmm2 : ch_wr m (9, 0, 8) (Int32.toNatClampNeg p1) 0 = m2
  replace h := h m2 hmm2.symm
  exact h
set_option maxHeartbeats 1600000 in
theorem g_m_digits_9 (g : ch_G) (Q : ch_O → ch_M → Prop) (x1 : Int32) (x2 : Int32) (x3 : Int32) (m : ch_M) (h : ((x2 ≤ x3 → ((x3 ≤ 0 → Q (.inl (some (.inl (.int 0)))) m) ∧ (¬ x3 ≤ 0 → Q (.inl (some (.inl (.int 1)))) m))) ∧ (¬ x2 ≤ x3 → (((m (9, 0, 0) 10) ≤ (m (9, 0, 0) 11) → ((x3 ≤ 0 → Q (.inl (some (.inl (.int 0)))) m) ∧ (¬ x3 ≤ 0 → Q (.inl (some (.inl (.int 1)))) m))) ∧ (¬ (m (9, 0, 0) 10) ≤ (m (9, 0, 0) 11) → (vp_in (m (9, 0, 0) 11) 60) ∧ (ch_C g m_m_in [.inl (.int (m (9, 0, 7) (Int32.toNatClampNeg (m (9, 0, 0) 11)))), .inl (.int 48), .inl (.int 57)] m (ch_oi (fun (r2 : Int32) (m3 : ch_M) => ((r2 = 0 → ((x3 ≤ 0 → Q (.inl (some (.inl (.int 0)))) m3) ∧ (¬ x3 ≤ 0 → Q (.inl (some (.inl (.int 1)))) m3))) ∧ (¬ r2 = 0 → (vp_in x1 3) ∧ (∀ m5 : ch_M, m5 = ch_wr m3 (9, 0, 0) 11 ((m3 (9, 0, 0) 11) + 1) → (vp_in (m3 (9, 0, 0) 11) 60) ∧ (∀ m7 : ch_M, m7 = ch_wr m5 (9, 0, 8) (Int32.toNatClampNeg x1) (((10 * (m3 (9, 0, 8) (Int32.toNatClampNeg x1))) + (m5 (9, 0, 7) (Int32.toNatClampNeg (m3 (9, 0, 0) 11)))) - 48) → ch_J g m_m_digits (ch_rm m_m_digits) (ch_E g m_m_digits Q) 9 [some (.inr (9, 0, 0)), some (.inl (.int x1)), some (.inl (.int x2)), some (.inl (.int (x3 + 1)))] [] m7 0)))))))))))) : ch_J g m_m_digits (ch_rm m_m_digits) (ch_E g m_m_digits Q) 9 [some (.inr (9, 0, 0)), some (.inl (.int x1)), some (.inl (.int x2)), some (.inl (.int x3))] [] m 0 := by
  refine ch_iload_n (i := 3) d_m_digits_9 rfl rfl ?_
  refine ch_iload_n (i := 2) d_m_digits_10 rfl rfl ?_
  refine ch_icmp_ge (tgt := 85) d_m_digits_11 (by decide) (fun c => ?_) (fun c => ?_)
  · replace h := h.1 c
    refine ch_iload_n (i := 3) d_m_digits_85 rfl rfl ?_
    refine ch_if_le (tgt := 93) d_m_digits_86 (by decide) (fun c => ?_) (fun c => ?_)
    · replace h := h.1 c
      refine ch_iconst (v := 0) d_m_digits_93 (by decide) ?_
      exact ch_iret (ty := .boolean) d_m_digits_94 rfl rfl (Nat.le_of_ble_eq_true rfl) h
    · replace h := h.2 c
      refine ch_iconst (v := 1) d_m_digits_89 (by decide) ?_
      refine ch_goto (tgt := 94) d_m_digits_90 (by decide) ?_
      exact ch_iret (ty := .boolean) d_m_digits_94 rfl rfl (Nat.le_of_ble_eq_true rfl) h
  · replace h := h.2 c
    refine ch_aload_n (i := 0) d_m_digits_14 rfl rfl ?_
    refine ch_get (v := .inl (.int (m (9, 0, 0) 11))) d_m_digits_15 fl_m_209 rfl ?_
    refine ch_aload_n (i := 0) d_m_digits_18 rfl rfl ?_
    refine ch_get (v := .inl (.int (m (9, 0, 0) 10))) d_m_digits_19 fl_m_206 rfl ?_
    refine ch_icmp_ge (tgt := 85) d_m_digits_22 (by decide) (fun c => ?_) (fun c => ?_)
    · replace h := h.1 c
      refine ch_iload_n (i := 3) d_m_digits_85 rfl rfl ?_
      refine ch_if_le (tgt := 93) d_m_digits_86 (by decide) (fun c => ?_) (fun c => ?_)
      · replace h := h.1 c
        refine ch_iconst (v := 0) d_m_digits_93 (by decide) ?_
        exact ch_iret (ty := .boolean) d_m_digits_94 rfl rfl (Nat.le_of_ble_eq_true rfl) h
      · replace h := h.2 c
        refine ch_iconst (v := 1) d_m_digits_89 (by decide) ?_
        refine ch_goto (tgt := 94) d_m_digits_90 (by decide) ?_
        exact ch_iret (ty := .boolean) d_m_digits_94 rfl rfl (Nat.le_of_ble_eq_true rfl) h
    · replace h := h.2 c
      refine ch_aload_n (i := 0) d_m_digits_25 rfl rfl ?_
      refine ch_get (v := .inr (9, 0, 7)) d_m_digits_26 fl_m_29 rfl ?_
      refine ch_aload_n (i := 0) d_m_digits_29 rfl rfl ?_
      refine ch_get (v := .inl (.int (m (9, 0, 0) 11))) d_m_digits_30 fl_m_209 rfl ?_
      have b1 := h.1
      replace h := h.2
      refine ch_cald (n := 60) d_m_digits_33 (by decide) rfl b1 ?_
      refine ch_bipush (v := 48) d_m_digits_34 (by decide) ?_
      refine ch_bipush (v := 57) d_m_digits_36 (by decide) ?_
      refine ch_callS (as := [.inl (.int (m (9, 0, 7) (Int32.toNatClampNeg (m (9, 0, 0) 11)))), .inl (.int 48), .inl (.int 57)]) d_m_digits_38 lk_m_73 ms_m_in rfl rfl ⟨Nat.le_of_ble_eq_true rfl, Nat.le_of_ble_eq_true rfl⟩ (Nat.le_of_ble_eq_true rfl) ⟨Nat.le_of_ble_eq_true rfl, Nat.le_of_ble_eq_true rfl⟩ (ch_mono (ch_Ki (fun r2 m3 h => ?_)) h)
      refine ch_if_eq (tgt := 85) d_m_digits_41 (by decide) (fun c => ?_) (fun c => ?_)
      · replace h := h.1 c
        refine ch_iload_n (i := 3) d_m_digits_85 rfl rfl ?_
        refine ch_if_le (tgt := 93) d_m_digits_86 (by decide) (fun c => ?_) (fun c => ?_)
        · replace h := h.1 c
          refine ch_iconst (v := 0) d_m_digits_93 (by decide) ?_
          exact ch_iret (ty := .boolean) d_m_digits_94 rfl rfl (Nat.le_of_ble_eq_true rfl) h
        · replace h := h.2 c
          refine ch_iconst (v := 1) d_m_digits_89 (by decide) ?_
          refine ch_goto (tgt := 94) d_m_digits_90 (by decide) ?_
          exact ch_iret (ty := .boolean) d_m_digits_94 rfl rfl (Nat.le_of_ble_eq_true rfl) h
      · replace h := h.2 c
        refine ch_aload_n (i := 0) d_m_digits_44 rfl rfl ?_
        refine ch_get (v := .inr (9, 0, 8)) d_m_digits_45 fl_m_32 rfl ?_
        refine ch_iload_n (i := 1) d_m_digits_48 rfl rfl ?_
        refine ch_bipush (v := 10) d_m_digits_49 (by decide) ?_
        refine ch_aload_n (i := 0) d_m_digits_51 rfl rfl ?_
        refine ch_get (v := .inr (9, 0, 8)) d_m_digits_52 fl_m_32 rfl ?_
        refine ch_iload_n (i := 1) d_m_digits_55 rfl rfl ?_
        have b4 := h.1
        replace h := h.2
        refine ch_iald (n := 3) d_m_digits_56 (by decide) rfl b4 ?_
        refine ch_imul d_m_digits_57 ?_
        refine ch_aload_n (i := 0) d_m_digits_58 rfl rfl ?_
        refine ch_get (v := .inr (9, 0, 7)) d_m_digits_59 fl_m_29 rfl ?_
        refine ch_aload_n (i := 0) d_m_digits_62 rfl rfl ?_
        refine ch_dup d_m_digits_63 rfl ?_
        refine ch_get (v := .inl (.int (m3 (9, 0, 0) 11))) d_m_digits_64 fl_m_209 rfl ?_
        refine ch_dup_x1 d_m_digits_67 rfl rfl ?_
        refine ch_iconst (v := 1) d_m_digits_68 (by decide) ?_
        refine ch_iadd d_m_digits_69 ?_
        refine ch_put d_m_digits_70 fp_m_209 rfl rfl rfl ?_
        generalize hmm5 : ch_wr m3 (9, 0, 0) 11 ((m3 (9, 0, 0) 11) + 1) = m5
        replace h := h m5 hmm5.symm
        have b6 := h.1
        replace h := h.2
        refine ch_cald (n := 60) d_m_digits_73 (by decide) rfl b6 ?_
        refine ch_iadd d_m_digits_74 ?_
        refine ch_bipush (v := 48) d_m_digits_75 (by decide) ?_
        refine ch_isub d_m_digits_77 ?_
        refine ch_iast (n := 3) d_m_digits_78 (by decide) rfl b4 ?_
        show ch_J g _ _ _ _ _ _ (ch_wr m5 (9, 0, 8) (Int32.toNatClampNeg x1) (((10 * (m3 (9, 0, 8) (Int32.toNatClampNeg x1))) + (m5 (9, 0, 7) (Int32.toNatClampNeg (m3 (9, 0, 0) 11)))) - 48)) _
        generalize hmm7 : ch_wr m5 (9, 0, 8) (Int32.toNatClampNeg x1) (((10 * (m3 (9, 0, 8) (Int32.toNatClampNeg x1))) + (m5 (9, 0, 7) (Int32.toNatClampNeg (m3 (9, 0, 0) 11)))) - 48) = m7
        replace h := h m7 hmm7.symm
        refine ch_iinc (i := 3) (v := (x3 + 1)) d_m_digits_79 rfl rfl (Nat.le_of_ble_eq_true rfl) (ls' := [some (.inr (9, 0, 0)), some (.inl (.int x1)), some (.inl (.int x2)), some (.inl (.int (x3 + 1)))]) rfl ?_
        refine ch_goto (tgt := 9) d_m_digits_82 (by decide) ?_
        exact h
theorem e_m_hasSteps (g : ch_G) (Q : ch_O → ch_M → Prop)  (m : ch_M) (h : ch_J g m_m_hasSteps (ch_rm m_m_hasSteps) (ch_E g m_m_hasSteps Q) 0 [some (.inr (9, 0, 0))] [] m 0) : ch_C g m_m_hasSteps [.inr (9, 0, 0)] m Q :=
  ch_enter mf_m_hasSteps (by intro v hv; simp only [List.mem_cons, List.not_mem_nil, or_false] at hv; rcases hv with rfl <;> rfl) (Nat.le_of_ble_eq_true rfl) h
set_option maxHeartbeats 1600000 in
theorem g_m_hasSteps_0 (g : ch_G) (Q : ch_O → ch_M → Prop)  (m : ch_M) (h : (∀ m1 : ch_M, m1 = ch_wr m (9, 0, 0) 21 0 → ch_J g m_m_hasSteps (ch_rm m_m_hasSteps) (ch_E g m_m_hasSteps Q) 5 [some (.inr (9, 0, 0))] [] m1 0)) : ch_J g m_m_hasSteps (ch_rm m_m_hasSteps) (ch_E g m_m_hasSteps Q) 0 [some (.inr (9, 0, 0))] [] m 0 := by
  refine ch_aload_n (i := 0) d_m_hasSteps_0 rfl rfl ?_
  refine ch_iconst (v := 0) d_m_hasSteps_1 (by decide) ?_
  refine ch_put d_m_hasSteps_2 fp_m_126 rfl rfl rfl ?_
  generalize hmm1 : ch_wr m (9, 0, 0) 21 0 = m1
  replace h := h m1 hmm1.symm
  exact h
set_option maxHeartbeats 1600000 in
theorem g_m_hasSteps_5 (g : ch_G) (Q : ch_O → ch_M → Prop)  (m : ch_M) (h : ((12 ≤ (m (9, 0, 0) 21) → (((m (9, 0, 0) 21) ≤ 0 → Q (.inl (some (.inl (.int 0)))) m) ∧ (¬ (m (9, 0, 0) 21) ≤ 0 → Q (.inl (some (.inl (.int 1)))) m))) ∧ (¬ 12 ≤ (m (9, 0, 0) 21) → (((m (9, 0, 0) 10) ≤ (m (9, 0, 0) 11) → (((m (9, 0, 0) 21) ≤ 0 → Q (.inl (some (.inl (.int 0)))) m) ∧ (¬ (m (9, 0, 0) 21) ≤ 0 → Q (.inl (some (.inl (.int 1)))) m))) ∧ (¬ (m (9, 0, 0) 10) ≤ (m (9, 0, 0) 11) → (vp_in (m (9, 0, 0) 11) 60) ∧ (ch_C g m_m_in [.inl (.int (m (9, 0, 7) (Int32.toNatClampNeg (m (9, 0, 0) 11)))), .inl (.int 49), .inl (.int 51)] m (ch_oi (fun (r2 : Int32) (m3 : ch_M) => ((r2 = 0 → (((m3 (9, 0, 0) 21) ≤ 0 → Q (.inl (some (.inl (.int 0)))) m3) ∧ (¬ (m3 (9, 0, 0) 21) ≤ 0 → Q (.inl (some (.inl (.int 1)))) m3))) ∧ (¬ r2 = 0 → (∀ m4 : ch_M, m4 = ch_wr m3 (9, 0, 0) 21 ((m3 (9, 0, 0) 21) + 1) → (∀ m5 : ch_M, m5 = ch_wr m4 (9, 0, 0) 11 ((m4 (9, 0, 0) 11) + 1) → (vp_in (m4 (9, 0, 0) 11) 60) ∧ (vp_in (m3 (9, 0, 0) 21) 12) ∧ (∀ m8 : ch_M, m8 = ch_wr m5 (9, 0, 9) (Int32.toNatClampNeg (m3 (9, 0, 0) 21)) ((m5 (9, 0, 7) (Int32.toNatClampNeg (m4 (9, 0, 0) 11))) - 48) → ch_J g m_m_hasSteps (ch_rm m_m_hasSteps) (ch_E g m_m_hasSteps Q) 5 [some (.inr (9, 0, 0))] [] m8 0))))))))))))) : ch_J g m_m_hasSteps (ch_rm m_m_hasSteps) (ch_E g m_m_hasSteps Q) 5 [some (.inr (9, 0, 0))] [] m 0 := by
  refine ch_aload_n (i := 0) d_m_hasSteps_5 rfl rfl ?_
  refine ch_get (v := .inl (.int (m (9, 0, 0) 21))) d_m_hasSteps_6 fl_m_126 rfl ?_
  refine ch_bipush (v := 12) d_m_hasSteps_9 (by decide) ?_
  refine ch_icmp_ge (tgt := 82) d_m_hasSteps_11 (by decide) (fun c => ?_) (fun c => ?_)
  · replace h := h.1 c
    refine ch_aload_n (i := 0) d_m_hasSteps_82 rfl rfl ?_
    refine ch_get (v := .inl (.int (m (9, 0, 0) 21))) d_m_hasSteps_83 fl_m_126 rfl ?_
    refine ch_if_le (tgt := 93) d_m_hasSteps_86 (by decide) (fun c => ?_) (fun c => ?_)
    · replace h := h.1 c
      refine ch_iconst (v := 0) d_m_hasSteps_93 (by decide) ?_
      exact ch_iret (ty := .boolean) d_m_hasSteps_94 rfl rfl (Nat.le_of_ble_eq_true rfl) h
    · replace h := h.2 c
      refine ch_iconst (v := 1) d_m_hasSteps_89 (by decide) ?_
      refine ch_goto (tgt := 94) d_m_hasSteps_90 (by decide) ?_
      exact ch_iret (ty := .boolean) d_m_hasSteps_94 rfl rfl (Nat.le_of_ble_eq_true rfl) h
  · replace h := h.2 c
    refine ch_aload_n (i := 0) d_m_hasSteps_14 rfl rfl ?_
    refine ch_get (v := .inl (.int (m (9, 0, 0) 11))) d_m_hasSteps_15 fl_m_209 rfl ?_
    refine ch_aload_n (i := 0) d_m_hasSteps_18 rfl rfl ?_
    refine ch_get (v := .inl (.int (m (9, 0, 0) 10))) d_m_hasSteps_19 fl_m_206 rfl ?_
    refine ch_icmp_ge (tgt := 82) d_m_hasSteps_22 (by decide) (fun c => ?_) (fun c => ?_)
    · replace h := h.1 c
      refine ch_aload_n (i := 0) d_m_hasSteps_82 rfl rfl ?_
      refine ch_get (v := .inl (.int (m (9, 0, 0) 21))) d_m_hasSteps_83 fl_m_126 rfl ?_
      refine ch_if_le (tgt := 93) d_m_hasSteps_86 (by decide) (fun c => ?_) (fun c => ?_)
      · replace h := h.1 c
        refine ch_iconst (v := 0) d_m_hasSteps_93 (by decide) ?_
        exact ch_iret (ty := .boolean) d_m_hasSteps_94 rfl rfl (Nat.le_of_ble_eq_true rfl) h
      · replace h := h.2 c
        refine ch_iconst (v := 1) d_m_hasSteps_89 (by decide) ?_
        refine ch_goto (tgt := 94) d_m_hasSteps_90 (by decide) ?_
        exact ch_iret (ty := .boolean) d_m_hasSteps_94 rfl rfl (Nat.le_of_ble_eq_true rfl) h
    · replace h := h.2 c
      refine ch_aload_n (i := 0) d_m_hasSteps_25 rfl rfl ?_
      refine ch_get (v := .inr (9, 0, 7)) d_m_hasSteps_26 fl_m_29 rfl ?_
      refine ch_aload_n (i := 0) d_m_hasSteps_29 rfl rfl ?_
      refine ch_get (v := .inl (.int (m (9, 0, 0) 11))) d_m_hasSteps_30 fl_m_209 rfl ?_
      have b1 := h.1
      replace h := h.2
      refine ch_cald (n := 60) d_m_hasSteps_33 (by decide) rfl b1 ?_
      refine ch_bipush (v := 49) d_m_hasSteps_34 (by decide) ?_
      refine ch_bipush (v := 51) d_m_hasSteps_36 (by decide) ?_
      refine ch_callS (as := [.inl (.int (m (9, 0, 7) (Int32.toNatClampNeg (m (9, 0, 0) 11)))), .inl (.int 49), .inl (.int 51)]) d_m_hasSteps_38 lk_m_73 ms_m_in rfl rfl ⟨Nat.le_of_ble_eq_true rfl, Nat.le_of_ble_eq_true rfl⟩ (Nat.le_of_ble_eq_true rfl) ⟨Nat.le_of_ble_eq_true rfl, Nat.le_of_ble_eq_true rfl⟩ (ch_mono (ch_Ki (fun r2 m3 h => ?_)) h)
      refine ch_if_eq (tgt := 82) d_m_hasSteps_41 (by decide) (fun c => ?_) (fun c => ?_)
      · replace h := h.1 c
        refine ch_aload_n (i := 0) d_m_hasSteps_82 rfl rfl ?_
        refine ch_get (v := .inl (.int (m3 (9, 0, 0) 21))) d_m_hasSteps_83 fl_m_126 rfl ?_
        refine ch_if_le (tgt := 93) d_m_hasSteps_86 (by decide) (fun c => ?_) (fun c => ?_)
        · replace h := h.1 c
          refine ch_iconst (v := 0) d_m_hasSteps_93 (by decide) ?_
          exact ch_iret (ty := .boolean) d_m_hasSteps_94 rfl rfl (Nat.le_of_ble_eq_true rfl) h
        · replace h := h.2 c
          refine ch_iconst (v := 1) d_m_hasSteps_89 (by decide) ?_
          refine ch_goto (tgt := 94) d_m_hasSteps_90 (by decide) ?_
          exact ch_iret (ty := .boolean) d_m_hasSteps_94 rfl rfl (Nat.le_of_ble_eq_true rfl) h
      · replace h := h.2 c
        refine ch_aload_n (i := 0) d_m_hasSteps_44 rfl rfl ?_
        refine ch_get (v := .inr (9, 0, 9)) d_m_hasSteps_45 fl_m_39 rfl ?_
        refine ch_aload_n (i := 0) d_m_hasSteps_48 rfl rfl ?_
        refine ch_dup d_m_hasSteps_49 rfl ?_
        refine ch_get (v := .inl (.int (m3 (9, 0, 0) 21))) d_m_hasSteps_50 fl_m_126 rfl ?_
        refine ch_dup_x1 d_m_hasSteps_53 rfl rfl ?_
        refine ch_iconst (v := 1) d_m_hasSteps_54 (by decide) ?_
        refine ch_iadd d_m_hasSteps_55 ?_
        refine ch_put d_m_hasSteps_56 fp_m_126 rfl rfl rfl ?_
        generalize hmm4 : ch_wr m3 (9, 0, 0) 21 ((m3 (9, 0, 0) 21) + 1) = m4
        replace h := h m4 hmm4.symm
        refine ch_aload_n (i := 0) d_m_hasSteps_59 rfl rfl ?_
        refine ch_get (v := .inr (9, 0, 7)) d_m_hasSteps_60 fl_m_29 rfl ?_
        refine ch_aload_n (i := 0) d_m_hasSteps_63 rfl rfl ?_
        refine ch_dup d_m_hasSteps_64 rfl ?_
        refine ch_get (v := .inl (.int (m4 (9, 0, 0) 11))) d_m_hasSteps_65 fl_m_209 rfl ?_
        refine ch_dup_x1 d_m_hasSteps_68 rfl rfl ?_
        refine ch_iconst (v := 1) d_m_hasSteps_69 (by decide) ?_
        refine ch_iadd d_m_hasSteps_70 ?_
        refine ch_put d_m_hasSteps_71 fp_m_209 rfl rfl rfl ?_
        generalize hmm5 : ch_wr m4 (9, 0, 0) 11 ((m4 (9, 0, 0) 11) + 1) = m5
        replace h := h m5 hmm5.symm
        have b6 := h.1
        replace h := h.2
        refine ch_cald (n := 60) d_m_hasSteps_74 (by decide) rfl b6 ?_
        refine ch_bipush (v := 48) d_m_hasSteps_75 (by decide) ?_
        refine ch_isub d_m_hasSteps_77 ?_
        have b7 := h.1
        replace h := h.2
        refine ch_iast (n := 12) d_m_hasSteps_78 (by decide) rfl b7 ?_
        show ch_J g _ _ _ _ _ _ (ch_wr m5 (9, 0, 9) (Int32.toNatClampNeg (m3 (9, 0, 0) 21)) ((m5 (9, 0, 7) (Int32.toNatClampNeg (m4 (9, 0, 0) 11))) - 48)) _
        generalize hmm8 : ch_wr m5 (9, 0, 9) (Int32.toNatClampNeg (m3 (9, 0, 0) 21)) ((m5 (9, 0, 7) (Int32.toNatClampNeg (m4 (9, 0, 0) 11))) - 48) = m8
        replace h := h m8 hmm8.symm
        refine ch_goto (tgt := 5) d_m_hasSteps_79 (by decide) ?_
        exact h
theorem e_m_isCommand (g : ch_G) (Q : ch_O → ch_M → Prop)  (m : ch_M) (h : ch_J g m_m_isCommand (ch_rm m_m_isCommand) (ch_E g m_m_isCommand Q) 0 [some (.inr (9, 0, 0))] [] m 0) : ch_C g m_m_isCommand [.inr (9, 0, 0)] m Q :=
  ch_enter mf_m_isCommand (by intro v hv; simp only [List.mem_cons, List.not_mem_nil, or_false] at hv; rcases hv with rfl <;> rfl) (Nat.le_of_ble_eq_true rfl) h
set_option maxHeartbeats 1600000 in
theorem g_m_isCommand_0 (g : ch_G) (Q : ch_O → ch_M → Prop)  (m : ch_M) (h : (((m (9, 0, 0) 11) = (m (9, 0, 0) 10) → Q (.inl (some (.inl (.int 0)))) m) ∧ (¬ (m (9, 0, 0) 11) = (m (9, 0, 0) 10) → (vp_in (m (9, 0, 0) 11) 60) ∧ (ch_C g m_q_indexOf [.inr (12, 0, 0), .inl (.int (m (9, 0, 7) (Int32.toNatClampNeg (m (9, 0, 0) 11))))] m (ch_oi (fun (r2 : Int32) (m3 : ch_M) => ((0 ≤ r2 → (∀ m4 : ch_M, m4 = ch_wr m3 (9, 0, 0) 11 ((m3 (9, 0, 0) 11) + 1) → (vp_in (m3 (9, 0, 0) 11) 60) ∧ (narrow .char (.int (m4 (9, 0, 7) (Int32.toNatClampNeg (m3 (9, 0, 0) 11)))) = .int (m4 (9, 0, 7) (Int32.toNatClampNeg (m3 (9, 0, 0) 11)))) ∧ (∀ m6 : ch_M, m6 = ch_wr m4 (9, 0, 0) 12 (m4 (9, 0, 7) (Int32.toNatClampNeg (m3 (9, 0, 0) 11))) → (((m6 (9, 0, 0) 12) = 99 → (ch_C g m_m_digits [.inr (9, 0, 0), .inl (.int 0), .inl (.int 1)] m6 (ch_oi (fun (r7 : Int32) (m8 : ch_M) => ((r7 = 0 → Q (.inl (some (.inl (.int 0)))) m8) ∧ (¬ r7 = 0 → (ch_C g m_m_takes [.inr (9, 0, 0), .inl (.int 64)] m8 (ch_oi (fun (r9 : Int32) (m10 : ch_M) => ((r9 = 0 → Q (.inl (some (.inl (.int 0)))) m10) ∧ (¬ r9 = 0 → (ch_C g m_m_digits [.inr (9, 0, 0), .inl (.int 1), .inl (.int 2)] m10 (ch_oi (fun (r11 : Int32) (m12 : ch_M) => ((r11 = 0 → Q (.inl (some (.inl (.int 0)))) m12) ∧ (¬ r11 = 0 → Q (.inl (some (.inl (.int 1)))) m12)))))))))))))))) ∧ ((m6 (9, 0, 0) 12) = 103 → (ch_C g m_m_digits [.inr (9, 0, 0), .inl (.int 0), .inl (.int 1)] m6 (ch_oi (fun (r13 : Int32) (m14 : ch_M) => ((r13 = 0 → Q (.inl (some (.inl (.int 0)))) m14) ∧ (¬ r13 = 0 → (ch_C g m_m_takes [.inr (9, 0, 0), .inl (.int 62)] m14 (ch_oi (fun (r15 : Int32) (m16 : ch_M) => ((r15 = 0 → Q (.inl (some (.inl (.int 0)))) m16) ∧ (¬ r15 = 0 → (ch_C g m_m_digits [.inr (9, 0, 0), .inl (.int 1), .inl (.int 1)] m16 (ch_oi (fun (r17 : Int32) (m18 : ch_M) => ((r17 = 0 → Q (.inl (some (.inl (.int 0)))) m18) ∧ (¬ r17 = 0 → (ch_C g m_m_takes [.inr (9, 0, 0), .inl (.int 42)] m18 (ch_oi (fun (r19 : Int32) (m20 : ch_M) => ((r19 = 0 → Q (.inl (some (.inl (.int 0)))) m20) ∧ (¬ r19 = 0 → (ch_C g m_m_digits [.inr (9, 0, 0), .inl (.int 2), .inl (.int 2)] m20 (ch_oi (fun (r21 : Int32) (m22 : ch_M) => ((r21 = 0 → Q (.inl (some (.inl (.int 0)))) m22) ∧ (¬ r21 = 0 → Q (.inl (some (.inl (.int 1)))) m22)))))))))))))))))))))))))) ∧ ((m6 (9, 0, 0) 12) = 104 → (ch_C g m_m_digits [.inr (9, 0, 0), .inl (.int 0), .inl (.int 1)] m6 (ch_oi (fun (r23 : Int32) (m24 : ch_M) => ((r23 = 0 → Q (.inl (some (.inl (.int 0)))) m24) ∧ (¬ r23 = 0 → (ch_C g m_m_takes [.inr (9, 0, 0), .inl (.int 58)] m24 (ch_oi (fun (r25 : Int32) (m26 : ch_M) => ((r25 = 0 → Q (.inl (some (.inl (.int 0)))) m26) ∧ (¬ r25 = 0 → (ch_C g m_m_hasSteps [.inr (9, 0, 0)] m26 (ch_oi (fun (r27 : Int32) (m28 : ch_M) => ((r27 = 0 → Q (.inl (some (.inl (.int 0)))) m28) ∧ (¬ r27 = 0 → Q (.inl (some (.inl (.int 1)))) m28)))))))))))))))) ∧ ((m6 (9, 0, 0) 12) = 110 → (ch_C g m_m_digits [.inr (9, 0, 0), .inl (.int 0), .inl (.int 2)] m6 (ch_oi (fun (r29 : Int32) (m30 : ch_M) => (narrow .boolean (.int r29) = .int r29) ∧ Q (.inl (some (.inl (.int r29)))) m30)))) ∧ ((m6 (9, 0, 0) 12) = 116 → Q (.inl (some (.inl (.int 1)))) m6) ∧ ((¬ (m6 (9, 0, 0) 12) = 99 ∧ ¬ (m6 (9, 0, 0) 12) = 103 ∧ ¬ (m6 (9, 0, 0) 12) = 104 ∧ ¬ (m6 (9, 0, 0) 12) = 110 ∧ ¬ (m6 (9, 0, 0) 12) = 116) → (ch_C g m_m_digits [.inr (9, 0, 0), .inl (.int 0), .inl (.int 1)] m6 (ch_oi (fun (r31 : Int32) (m32 : ch_M) => (narrow .boolean (.int r31) = .int r31) ∧ Q (.inl (some (.inl (.int r31)))) m32)))))))) ∧ (¬ 0 ≤ r2 → Q (.inl (some (.inl (.int 0)))) m3)))))))) : ch_J g m_m_isCommand (ch_rm m_m_isCommand) (ch_E g m_m_isCommand Q) 0 [some (.inr (9, 0, 0))] [] m 0 := by
  refine ch_aload_n (i := 0) d_m_isCommand_0 rfl rfl ?_
  refine ch_get (v := .inl (.int (m (9, 0, 0) 11))) d_m_isCommand_1 fl_m_209 rfl ?_
  refine ch_aload_n (i := 0) d_m_isCommand_4 rfl rfl ?_
  refine ch_get (v := .inl (.int (m (9, 0, 0) 10))) d_m_isCommand_5 fl_m_206 rfl ?_
  refine ch_icmp_eq (tgt := 28) d_m_isCommand_8 (by decide) (fun c => ?_) (fun c => ?_)
  · replace h := h.1 c
    refine ch_iconst (v := 0) d_m_isCommand_28 (by decide) ?_
    exact ch_iret (ty := .boolean) d_m_isCommand_29 rfl rfl (Nat.le_of_ble_eq_true rfl) h
  · replace h := h.2 c
    refine ch_ldcS d_m_isCommand_11 rfl ?_
    refine ch_aload_n (i := 0) d_m_isCommand_13 rfl rfl ?_
    refine ch_get (v := .inr (9, 0, 7)) d_m_isCommand_14 fl_m_29 rfl ?_
    refine ch_aload_n (i := 0) d_m_isCommand_17 rfl rfl ?_
    refine ch_get (v := .inl (.int (m (9, 0, 0) 11))) d_m_isCommand_18 fl_m_209 rfl ?_
    have b1 := h.1
    replace h := h.2
    refine ch_cald (n := 60) d_m_isCommand_21 (by decide) rfl b1 ?_
    refine ch_callT (as := [.inl (.int (m (9, 0, 7) (Int32.toNatClampNeg (m (9, 0, 0) 11))))]) d_m_isCommand_22 lk_m_214 mi_q_indexOf me_q_indexOf rfl rfl rfl ⟨Nat.le_of_ble_eq_true rfl, Nat.le_of_ble_eq_true rfl⟩ (Nat.le_of_ble_eq_true rfl) ⟨Nat.le_of_ble_eq_true rfl, Nat.le_of_ble_eq_true rfl⟩ (ch_mono (ch_Ki (fun r2 m3 h => ?_)) h)
    refine ch_if_ge (tgt := 30) d_m_isCommand_25 (by decide) (fun c => ?_) (fun c => ?_)
    · replace h := h.1 c
      refine ch_aload_n (i := 0) d_m_isCommand_30 rfl rfl ?_
      refine ch_aload_n (i := 0) d_m_isCommand_31 rfl rfl ?_
      refine ch_get (v := .inr (9, 0, 7)) d_m_isCommand_32 fl_m_29 rfl ?_
      refine ch_aload_n (i := 0) d_m_isCommand_35 rfl rfl ?_
      refine ch_dup d_m_isCommand_36 rfl ?_
      refine ch_get (v := .inl (.int (m3 (9, 0, 0) 11))) d_m_isCommand_37 fl_m_209 rfl ?_
      refine ch_dup_x1 d_m_isCommand_40 rfl rfl ?_
      refine ch_iconst (v := 1) d_m_isCommand_41 (by decide) ?_
      refine ch_iadd d_m_isCommand_42 ?_
      refine ch_put d_m_isCommand_43 fp_m_209 rfl rfl rfl ?_
      generalize hmm4 : ch_wr m3 (9, 0, 0) 11 ((m3 (9, 0, 0) 11) + 1) = m4
      replace h := h m4 hmm4.symm
      have b5 := h.1
      replace h := h.2
      refine ch_cald (n := 60) d_m_isCommand_46 (by decide) rfl b5 ?_
      have hn := h.1
      replace h := h.2
      refine ch_put d_m_isCommand_47 fp_m_219 rfl hn (Eq.subst (motive := fun v => fits .char v = true) hn (fits_narrow_char _)) ?_
      generalize hmm6 : ch_wr m4 (9, 0, 0) 12 (m4 (9, 0, 7) (Int32.toNatClampNeg (m3 (9, 0, 0) 11))) = m6
      replace h := h m6 hmm6.symm
      refine ch_aload_n (i := 0) d_m_isCommand_50 rfl rfl ?_
      refine ch_get (v := .inl (.int (m6 (9, 0, 0) 12))) d_m_isCommand_51 fl_m_219 rfl ?_
      by_cases e99 : (m6 (9, 0, 0) 12) = 99
      · replace h := h.1 e99
        refine ch_lsw (tgt := 111) (off := 57) d_m_isCommand_54 (by decide) (by rw [e99]; rfl) (by decide) ?_
        refine ch_aload_n (i := 0) d_m_isCommand_111 rfl rfl ?_
        refine ch_iconst (v := 0) d_m_isCommand_112 (by decide) ?_
        refine ch_iconst (v := 1) d_m_isCommand_113 (by decide) ?_
        refine ch_callV (as := [.inl (.int 0), .inl (.int 1)]) d_m_isCommand_114 lk_m_223 mi_m_digits me_m_digits rfl rfl rfl ⟨Nat.le_of_ble_eq_true rfl, Nat.le_of_ble_eq_true rfl⟩ (Nat.le_of_ble_eq_true rfl) ⟨Nat.le_of_ble_eq_true rfl, Nat.le_of_ble_eq_true rfl⟩ (ch_mono (ch_Ki (fun r7 m8 h => ?_)) h)
        refine ch_if_eq (tgt := 142) d_m_isCommand_117 (by decide) (fun c => ?_) (fun c => ?_)
        · replace h := h.1 c
          refine ch_iconst (v := 0) d_m_isCommand_142 (by decide) ?_
          exact ch_iret (ty := .boolean) d_m_isCommand_143 rfl rfl (Nat.le_of_ble_eq_true rfl) h
        · replace h := h.2 c
          refine ch_aload_n (i := 0) d_m_isCommand_120 rfl rfl ?_
          refine ch_bipush (v := 64) d_m_isCommand_121 (by decide) ?_
          refine ch_callV (as := [.inl (.int 64)]) d_m_isCommand_123 lk_m_226 mi_m_takes me_m_takes rfl rfl rfl ⟨Nat.le_of_ble_eq_true rfl, Nat.le_of_ble_eq_true rfl⟩ (Nat.le_of_ble_eq_true rfl) ⟨Nat.le_of_ble_eq_true rfl, Nat.le_of_ble_eq_true rfl⟩ (ch_mono (ch_Ki (fun r9 m10 h => ?_)) h)
          refine ch_if_eq (tgt := 142) d_m_isCommand_126 (by decide) (fun c => ?_) (fun c => ?_)
          · replace h := h.1 c
            refine ch_iconst (v := 0) d_m_isCommand_142 (by decide) ?_
            exact ch_iret (ty := .boolean) d_m_isCommand_143 rfl rfl (Nat.le_of_ble_eq_true rfl) h
          · replace h := h.2 c
            refine ch_aload_n (i := 0) d_m_isCommand_129 rfl rfl ?_
            refine ch_iconst (v := 1) d_m_isCommand_130 (by decide) ?_
            refine ch_iconst (v := 2) d_m_isCommand_131 (by decide) ?_
            refine ch_callV (as := [.inl (.int 1), .inl (.int 2)]) d_m_isCommand_132 lk_m_223 mi_m_digits me_m_digits rfl rfl rfl ⟨Nat.le_of_ble_eq_true rfl, Nat.le_of_ble_eq_true rfl⟩ (Nat.le_of_ble_eq_true rfl) ⟨Nat.le_of_ble_eq_true rfl, Nat.le_of_ble_eq_true rfl⟩ (ch_mono (ch_Ki (fun r11 m12 h => ?_)) h)
            refine ch_if_eq (tgt := 142) d_m_isCommand_135 (by decide) (fun c => ?_) (fun c => ?_)
            · replace h := h.1 c
              refine ch_iconst (v := 0) d_m_isCommand_142 (by decide) ?_
              exact ch_iret (ty := .boolean) d_m_isCommand_143 rfl rfl (Nat.le_of_ble_eq_true rfl) h
            · replace h := h.2 c
              refine ch_iconst (v := 1) d_m_isCommand_138 (by decide) ?_
              refine ch_goto (tgt := 143) d_m_isCommand_139 (by decide) ?_
              exact ch_iret (ty := .boolean) d_m_isCommand_143 rfl rfl (Nat.le_of_ble_eq_true rfl) h
      replace h := h.2
      by_cases e103 : (m6 (9, 0, 0) 12) = 103
      · replace h := h.1 e103
        refine ch_lsw (tgt := 177) (off := 123) d_m_isCommand_54 (by decide) (by rw [e103]; rfl) (by decide) ?_
        refine ch_aload_n (i := 0) d_m_isCommand_177 rfl rfl ?_
        refine ch_iconst (v := 0) d_m_isCommand_178 (by decide) ?_
        refine ch_iconst (v := 1) d_m_isCommand_179 (by decide) ?_
        refine ch_callV (as := [.inl (.int 0), .inl (.int 1)]) d_m_isCommand_180 lk_m_223 mi_m_digits me_m_digits rfl rfl rfl ⟨Nat.le_of_ble_eq_true rfl, Nat.le_of_ble_eq_true rfl⟩ (Nat.le_of_ble_eq_true rfl) ⟨Nat.le_of_ble_eq_true rfl, Nat.le_of_ble_eq_true rfl⟩ (ch_mono (ch_Ki (fun r13 m14 h => ?_)) h)
        refine ch_if_eq (tgt := 226) d_m_isCommand_183 (by decide) (fun c => ?_) (fun c => ?_)
        · replace h := h.1 c
          refine ch_iconst (v := 0) d_m_isCommand_226 (by decide) ?_
          exact ch_iret (ty := .boolean) d_m_isCommand_227 rfl rfl (Nat.le_of_ble_eq_true rfl) h
        · replace h := h.2 c
          refine ch_aload_n (i := 0) d_m_isCommand_186 rfl rfl ?_
          refine ch_bipush (v := 62) d_m_isCommand_187 (by decide) ?_
          refine ch_callV (as := [.inl (.int 62)]) d_m_isCommand_189 lk_m_226 mi_m_takes me_m_takes rfl rfl rfl ⟨Nat.le_of_ble_eq_true rfl, Nat.le_of_ble_eq_true rfl⟩ (Nat.le_of_ble_eq_true rfl) ⟨Nat.le_of_ble_eq_true rfl, Nat.le_of_ble_eq_true rfl⟩ (ch_mono (ch_Ki (fun r15 m16 h => ?_)) h)
          refine ch_if_eq (tgt := 226) d_m_isCommand_192 (by decide) (fun c => ?_) (fun c => ?_)
          · replace h := h.1 c
            refine ch_iconst (v := 0) d_m_isCommand_226 (by decide) ?_
            exact ch_iret (ty := .boolean) d_m_isCommand_227 rfl rfl (Nat.le_of_ble_eq_true rfl) h
          · replace h := h.2 c
            refine ch_aload_n (i := 0) d_m_isCommand_195 rfl rfl ?_
            refine ch_iconst (v := 1) d_m_isCommand_196 (by decide) ?_
            refine ch_iconst (v := 1) d_m_isCommand_197 (by decide) ?_
            refine ch_callV (as := [.inl (.int 1), .inl (.int 1)]) d_m_isCommand_198 lk_m_223 mi_m_digits me_m_digits rfl rfl rfl ⟨Nat.le_of_ble_eq_true rfl, Nat.le_of_ble_eq_true rfl⟩ (Nat.le_of_ble_eq_true rfl) ⟨Nat.le_of_ble_eq_true rfl, Nat.le_of_ble_eq_true rfl⟩ (ch_mono (ch_Ki (fun r17 m18 h => ?_)) h)
            refine ch_if_eq (tgt := 226) d_m_isCommand_201 (by decide) (fun c => ?_) (fun c => ?_)
            · replace h := h.1 c
              refine ch_iconst (v := 0) d_m_isCommand_226 (by decide) ?_
              exact ch_iret (ty := .boolean) d_m_isCommand_227 rfl rfl (Nat.le_of_ble_eq_true rfl) h
            · replace h := h.2 c
              refine ch_aload_n (i := 0) d_m_isCommand_204 rfl rfl ?_
              refine ch_bipush (v := 42) d_m_isCommand_205 (by decide) ?_
              refine ch_callV (as := [.inl (.int 42)]) d_m_isCommand_207 lk_m_226 mi_m_takes me_m_takes rfl rfl rfl ⟨Nat.le_of_ble_eq_true rfl, Nat.le_of_ble_eq_true rfl⟩ (Nat.le_of_ble_eq_true rfl) ⟨Nat.le_of_ble_eq_true rfl, Nat.le_of_ble_eq_true rfl⟩ (ch_mono (ch_Ki (fun r19 m20 h => ?_)) h)
              refine ch_if_eq (tgt := 226) d_m_isCommand_210 (by decide) (fun c => ?_) (fun c => ?_)
              · replace h := h.1 c
                refine ch_iconst (v := 0) d_m_isCommand_226 (by decide) ?_
                exact ch_iret (ty := .boolean) d_m_isCommand_227 rfl rfl (Nat.le_of_ble_eq_true rfl) h
              · replace h := h.2 c
                refine ch_aload_n (i := 0) d_m_isCommand_213 rfl rfl ?_
                refine ch_iconst (v := 2) d_m_isCommand_214 (by decide) ?_
                refine ch_iconst (v := 2) d_m_isCommand_215 (by decide) ?_
                refine ch_callV (as := [.inl (.int 2), .inl (.int 2)]) d_m_isCommand_216 lk_m_223 mi_m_digits me_m_digits rfl rfl rfl ⟨Nat.le_of_ble_eq_true rfl, Nat.le_of_ble_eq_true rfl⟩ (Nat.le_of_ble_eq_true rfl) ⟨Nat.le_of_ble_eq_true rfl, Nat.le_of_ble_eq_true rfl⟩ (ch_mono (ch_Ki (fun r21 m22 h => ?_)) h)
                refine ch_if_eq (tgt := 226) d_m_isCommand_219 (by decide) (fun c => ?_) (fun c => ?_)
                · replace h := h.1 c
                  refine ch_iconst (v := 0) d_m_isCommand_226 (by decide) ?_
                  exact ch_iret (ty := .boolean) d_m_isCommand_227 rfl rfl (Nat.le_of_ble_eq_true rfl) h
                · replace h := h.2 c
                  refine ch_iconst (v := 1) d_m_isCommand_222 (by decide) ?_
                  refine ch_goto (tgt := 227) d_m_isCommand_223 (by decide) ?_
                  exact ch_iret (ty := .boolean) d_m_isCommand_227 rfl rfl (Nat.le_of_ble_eq_true rfl) h
      replace h := h.2
      by_cases e104 : (m6 (9, 0, 0) 12) = 104
      · replace h := h.1 e104
        refine ch_lsw (tgt := 144) (off := 90) d_m_isCommand_54 (by decide) (by rw [e104]; rfl) (by decide) ?_
        refine ch_aload_n (i := 0) d_m_isCommand_144 rfl rfl ?_
        refine ch_iconst (v := 0) d_m_isCommand_145 (by decide) ?_
        refine ch_iconst (v := 1) d_m_isCommand_146 (by decide) ?_
        refine ch_callV (as := [.inl (.int 0), .inl (.int 1)]) d_m_isCommand_147 lk_m_223 mi_m_digits me_m_digits rfl rfl rfl ⟨Nat.le_of_ble_eq_true rfl, Nat.le_of_ble_eq_true rfl⟩ (Nat.le_of_ble_eq_true rfl) ⟨Nat.le_of_ble_eq_true rfl, Nat.le_of_ble_eq_true rfl⟩ (ch_mono (ch_Ki (fun r23 m24 h => ?_)) h)
        refine ch_if_eq (tgt := 173) d_m_isCommand_150 (by decide) (fun c => ?_) (fun c => ?_)
        · replace h := h.1 c
          refine ch_iconst (v := 0) d_m_isCommand_173 (by decide) ?_
          exact ch_iret (ty := .boolean) d_m_isCommand_174 rfl rfl (Nat.le_of_ble_eq_true rfl) h
        · replace h := h.2 c
          refine ch_aload_n (i := 0) d_m_isCommand_153 rfl rfl ?_
          refine ch_bipush (v := 58) d_m_isCommand_154 (by decide) ?_
          refine ch_callV (as := [.inl (.int 58)]) d_m_isCommand_156 lk_m_226 mi_m_takes me_m_takes rfl rfl rfl ⟨Nat.le_of_ble_eq_true rfl, Nat.le_of_ble_eq_true rfl⟩ (Nat.le_of_ble_eq_true rfl) ⟨Nat.le_of_ble_eq_true rfl, Nat.le_of_ble_eq_true rfl⟩ (ch_mono (ch_Ki (fun r25 m26 h => ?_)) h)
          refine ch_if_eq (tgt := 173) d_m_isCommand_159 (by decide) (fun c => ?_) (fun c => ?_)
          · replace h := h.1 c
            refine ch_iconst (v := 0) d_m_isCommand_173 (by decide) ?_
            exact ch_iret (ty := .boolean) d_m_isCommand_174 rfl rfl (Nat.le_of_ble_eq_true rfl) h
          · replace h := h.2 c
            refine ch_aload_n (i := 0) d_m_isCommand_162 rfl rfl ?_
            refine ch_callV (as := []) d_m_isCommand_163 lk_m_230 mi_m_hasSteps me_m_hasSteps rfl rfl rfl ⟨Nat.le_of_ble_eq_true rfl, Nat.le_of_ble_eq_true rfl⟩ (Nat.le_of_ble_eq_true rfl) ⟨Nat.le_of_ble_eq_true rfl, Nat.le_of_ble_eq_true rfl⟩ (ch_mono (ch_Ki (fun r27 m28 h => ?_)) h)
            refine ch_if_eq (tgt := 173) d_m_isCommand_166 (by decide) (fun c => ?_) (fun c => ?_)
            · replace h := h.1 c
              refine ch_iconst (v := 0) d_m_isCommand_173 (by decide) ?_
              exact ch_iret (ty := .boolean) d_m_isCommand_174 rfl rfl (Nat.le_of_ble_eq_true rfl) h
            · replace h := h.2 c
              refine ch_iconst (v := 1) d_m_isCommand_169 (by decide) ?_
              refine ch_goto (tgt := 174) d_m_isCommand_170 (by decide) ?_
              exact ch_iret (ty := .boolean) d_m_isCommand_174 rfl rfl (Nat.le_of_ble_eq_true rfl) h
      replace h := h.2
      by_cases e110 : (m6 (9, 0, 0) 12) = 110
      · replace h := h.1 e110
        refine ch_lsw (tgt := 104) (off := 50) d_m_isCommand_54 (by decide) (by rw [e110]; rfl) (by decide) ?_
        refine ch_aload_n (i := 0) d_m_isCommand_104 rfl rfl ?_
        refine ch_iconst (v := 0) d_m_isCommand_105 (by decide) ?_
        refine ch_iconst (v := 2) d_m_isCommand_106 (by decide) ?_
        refine ch_callV (as := [.inl (.int 0), .inl (.int 2)]) d_m_isCommand_107 lk_m_223 mi_m_digits me_m_digits rfl rfl rfl ⟨Nat.le_of_ble_eq_true rfl, Nat.le_of_ble_eq_true rfl⟩ (Nat.le_of_ble_eq_true rfl) ⟨Nat.le_of_ble_eq_true rfl, Nat.le_of_ble_eq_true rfl⟩ (ch_mono (ch_Ki (fun r29 m30 h => ?_)) h)
        exact ch_iret (ty := .boolean) d_m_isCommand_110 rfl h.1 (Nat.le_of_ble_eq_true rfl) h.2
      replace h := h.2
      by_cases e116 : (m6 (9, 0, 0) 12) = 116
      · replace h := h.1 e116
        refine ch_lsw (tgt := 175) (off := 121) d_m_isCommand_54 (by decide) (by rw [e116]; rfl) (by decide) ?_
        refine ch_iconst (v := 1) d_m_isCommand_175 (by decide) ?_
        exact ch_iret (ty := .boolean) d_m_isCommand_176 rfl rfl (Nat.le_of_ble_eq_true rfl) h
      replace h := h.2
      replace h := h ⟨e99, e103, e104, e110, e116⟩
      refine ch_lsw (tgt := 228) (off := 174) d_m_isCommand_54 (by decide) ?_ (by decide) ?_
      · exact ch_lswD (fun q hq => by
          simp only [List.mem_cons, List.not_mem_nil, or_false] at hq
          rcases hq with rfl | rfl | rfl | rfl | rfl
          · exact fun z => e99 (Int32.toInt_inj.mp (z.trans (by decide)))
          · exact fun z => e103 (Int32.toInt_inj.mp (z.trans (by decide)))
          · exact fun z => e104 (Int32.toInt_inj.mp (z.trans (by decide)))
          · exact fun z => e110 (Int32.toInt_inj.mp (z.trans (by decide)))
          · exact fun z => e116 (Int32.toInt_inj.mp (z.trans (by decide))))
      refine ch_aload_n (i := 0) d_m_isCommand_228 rfl rfl ?_
      refine ch_iconst (v := 0) d_m_isCommand_229 (by decide) ?_
      refine ch_iconst (v := 1) d_m_isCommand_230 (by decide) ?_
      refine ch_callV (as := [.inl (.int 0), .inl (.int 1)]) d_m_isCommand_231 lk_m_223 mi_m_digits me_m_digits rfl rfl rfl ⟨Nat.le_of_ble_eq_true rfl, Nat.le_of_ble_eq_true rfl⟩ (Nat.le_of_ble_eq_true rfl) ⟨Nat.le_of_ble_eq_true rfl, Nat.le_of_ble_eq_true rfl⟩ (ch_mono (ch_Ki (fun r31 m32 h => ?_)) h)
      exact ch_iret (ty := .boolean) d_m_isCommand_234 rfl h.1 (Nat.le_of_ble_eq_true rfl) h.2
    · replace h := h.2 c
      refine ch_iconst (v := 0) d_m_isCommand_28 (by decide) ?_
      exact ch_iret (ty := .boolean) d_m_isCommand_29 rfl rfl (Nat.le_of_ble_eq_true rfl) h
