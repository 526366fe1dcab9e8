theorem e_m_termsFor (g : ch_G) (Q : ch_O → ch_M → Prop) (p1 : Int32) (m : ch_M) (h : ch_J g m_m_termsFor (ch_rm m_m_termsFor) (ch_E g m_m_termsFor Q) 0 [some (.inr (9, 0, 0)), some (.inl (.int p1)), none, none, none] [] m 0) : ch_C g m_m_termsFor [.inr (9, 0, 0), .inl (.int p1)] m Q :=
  ch_enter mf_m_termsFor (by intro v hv; simp only [List.mem_cons, List.not_mem_nil, or_false] at hv; rcases hv with rfl | rfl <;> rfl) (Nat.le_of_ble_eq_true rfl) h
set_option maxHeartbeats 1600000 in
theorem g_m_termsFor_0 (g : ch_G) (Q : ch_O → ch_M → Prop) (p1 : Int32) (m : ch_M) (h : (∀ m1 : ch_M, m1 = ch_wr m (9, 0, 0) 19 0 → (((0 ≤ p1 ∧ p1 ≤ m1 (9, 0, 1) 0 - 1) → ch_J g m_m_termsFor (ch_rm m_m_termsFor) (ch_E g m_m_termsFor Q) 21 [some (.inr (9, 0, 0)), some (.inl (.int p1)), some (.inl (.int 0)), none, none] [] m1 0) ∧ ((¬ (0 ≤ p1 ∧ p1 ≤ m1 (9, 0, 1) 0 - 1)) → ((∀ m6 : ch_M, m6 = ch_wr m1 (9, 0, 0) 19 1 → Q (.inl (some (.inl (.int 0)))) m6)))))) : ch_J g m_m_termsFor (ch_rm m_m_termsFor) (ch_E g m_m_termsFor Q) 0 [some (.inr (9, 0, 0)), some (.inl (.int p1)), none, none, none] [] m 0 := by
  refine ch_aload_n (i := 0) d_m_termsFor_0 rfl rfl ?_
  refine ch_iconst (v := 0) d_m_termsFor_1 (by decide) ?_
  refine ch_put d_m_termsFor_2 fp_m_48 rfl rfl rfl ?_
  generalize hmm1 : ch_wr m (9, 0, 0) 19 0 = m1
  replace h := h m1 hmm1.symm
  refine ch_aload_n (i := 0) d_m_termsFor_5 rfl rfl ?_
  refine ch_iload_n (i := 1) d_m_termsFor_6 rfl rfl ?_
  refine ch_callV (as := [.inl (.int p1)]) d_m_termsFor_7 lk_m_77 mi_m_isChild me_m_isChild rfl rfl rfl ⟨Nat.le_of_ble_eq_true rfl, Nat.le_of_ble_eq_true rfl⟩ (Nat.le_of_ble_eq_true rfl) ⟨Nat.le_of_ble_eq_true rfl, Nat.le_of_ble_eq_true rfl⟩ (ch_mono (ch_Ki (fun r2 m3 q4 => ?_)) (s_m_isChild g (fun (r_ : Int32) (m_ : ch_M) => ((0 ≤ p1 ∧ p1 ≤ m1 (9, 0, 1) 0 - 1) ∧ 1 = r_ ∧ m1 = m_) ∨ ((¬ (0 ≤ p1 ∧ p1 ≤ m1 (9, 0, 1) 0 - 1)) ∧ 0 = r_ ∧ m1 = m_)) (p1) m1 ⟨(fun c_ => (Or.inl ⟨c_, rfl, rfl⟩)), (fun c_ => (Or.inr ⟨c_, rfl, rfl⟩))⟩))
  rcases q4 with ⟨c_, rfl, rfl⟩ | ⟨c_, rfl, rfl⟩
  · replace h := h.1 c_
    refine ch_if_ne (tgt := 19) d_m_termsFor_10 (by decide) (fun _ => ?_) (fun c => absurd c (by decide))
    refine ch_iconst (v := 0) d_m_termsFor_19 (by decide) ?_
    refine ch_istore_n (i := 2) d_m_termsFor_20 rfl (Nat.le_of_ble_eq_true rfl) (ls' := [some (.inr (9, 0, 0)), some (.inl (.int p1)), some (.inl (.int 0)), none, none]) rfl ?_
    exact h
  · replace h := h.2 c_
    refine ch_if_ne (tgt := 19) d_m_termsFor_10 (by decide) (fun c => absurd c (by decide)) (fun _ => ?_)
    refine ch_aload_n (i := 0) d_m_termsFor_13 rfl rfl ?_
    refine ch_iconst (v := 1) d_m_termsFor_14 (by decide) ?_
    refine ch_callV (as := [.inl (.int 1)]) d_m_termsFor_15 lk_m_70 mi_m_raises me_m_raises rfl rfl rfl ⟨Nat.le_of_ble_eq_true rfl, Nat.le_of_ble_eq_true rfl⟩ (Nat.le_of_ble_eq_true rfl) ⟨Nat.le_of_ble_eq_true rfl, Nat.le_of_ble_eq_true rfl⟩ (ch_mono (ch_Ki (fun r5 m6 q7 => ?_)) (s_m_raises g (fun (r_ : Int32) (m_ : ch_M) => (0 = r_ ∧ m_ = ch_wr m1 (9, 0, 0) 19 1)) (1) m1 ⟨rfl, rfl⟩))
    obtain ⟨rfl, hm_⟩ := q7
    replace h := h m6 hm_
    exact ch_iret (ty := .int) d_m_termsFor_18 rfl rfl (Nat.le_of_ble_eq_true rfl) h
set_option maxHeartbeats 1600000 in
theorem g_m_termsFor_21 (g : ch_G) (Q : ch_O → ch_M → Prop) (x1 : Int32) (x2 : Int32) (o3 : Option ch_V) (o4 : Option ch_V) (m : ch_M) (h : ((63 ≤ x2 → ch_J g m_m_termsFor (ch_rm m_m_termsFor) (ch_E g m_m_termsFor Q) 49 [some (.inr (9, 0, 0)), some (.inl (.int x1)), some (.inl (.int 0)), some (.inl (.int 1)), o4] [] m 0) ∧ (¬ 63 ≤ x2 → (vp_in x2 63) ∧ (∀ m2 : ch_M, m2 = ch_wr m (9, 0, 3) (Int32.toNatClampNeg x2) (m (9, 0, 1) (Int32.toNatClampNeg x2)) → ch_J g m_m_termsFor (ch_rm m_m_termsFor) (ch_E g m_m_termsFor Q) 21 [some (.inr (9, 0, 0)), some (.inl (.int x1)), some (.inl (.int (x2 + 1))), o3, o4] [] m2 0)))) : ch_J g m_m_termsFor (ch_rm m_m_termsFor) (ch_E g m_m_termsFor Q) 21 [some (.inr (9, 0, 0)), some (.inl (.int x1)), some (.inl (.int x2)), o3, o4] [] m 0 := by
  refine ch_iload_n (i := 2) d_m_termsFor_21 rfl rfl ?_
  refine ch_bipush (v := 63) d_m_termsFor_22 (by decide) ?_
  refine ch_icmp_ge (tgt := 45) d_m_termsFor_24 (by decide) (fun c => ?_) (fun c => ?_)
  · replace h := h.1 c
    refine ch_iconst (v := 0) d_m_termsFor_45 (by decide) ?_
    refine ch_istore_n (i := 2) d_m_termsFor_46 rfl (Nat.le_of_ble_eq_true rfl) (ls' := [some (.inr (9, 0, 0)), some (.inl (.int x1)), some (.inl (.int 0)), o3, o4]) rfl ?_
    refine ch_iconst (v := 1) d_m_termsFor_47 (by decide) ?_
    refine ch_istore_n (i := 3) d_m_termsFor_48 rfl (Nat.le_of_ble_eq_true rfl) (ls' := [some (.inr (9, 0, 0)), some (.inl (.int x1)), some (.inl (.int 0)), some (.inl (.int 1)), o4]) rfl ?_
    exact h
  · replace h := h.2 c
    refine ch_aload_n (i := 0) d_m_termsFor_27 rfl rfl ?_
    refine ch_get (v := .inr (9, 0, 3)) d_m_termsFor_28 fl_m_16 rfl ?_
    refine ch_iload_n (i := 2) d_m_termsFor_31 rfl rfl ?_
    refine ch_aload_n (i := 0) d_m_termsFor_32 rfl rfl ?_
    refine ch_get (v := .inr (9, 0, 1)) d_m_termsFor_33 fl_m_9 rfl ?_
    refine ch_iload_n (i := 2) d_m_termsFor_36 rfl rfl ?_
    have b1 := h.1
    replace h := h.2
    refine ch_iald (n := 63) d_m_termsFor_37 (by decide) rfl b1 ?_
    refine ch_iast (n := 63) d_m_termsFor_38 (by decide) rfl b1 ?_
    show ch_J g _ _ _ _ _ _ (ch_wr m (9, 0, 3) (Int32.toNatClampNeg x2) (m (9, 0, 1) (Int32.toNatClampNeg x2))) _
    generalize hmm2 : ch_wr m (9, 0, 3) (Int32.toNatClampNeg x2) (m (9, 0, 1) (Int32.toNatClampNeg x2)) = m2
    replace h := h m2 hmm2.symm
    refine ch_iinc (i := 2) (v := (x2 + 1)) d_m_termsFor_39 rfl rfl (Nat.le_of_ble_eq_true rfl) (ls' := [some (.inr (9, 0, 0)), some (.inl (.int x1)), some (.inl (.int (x2 + 1))), o3, o4]) rfl ?_
    refine ch_goto (tgt := 21) d_m_termsFor_42 (by decide) ?_
    exact h
set_option maxHeartbeats 1600000 in
theorem g_m_termsFor_49 (g : ch_G) (Q : ch_O → ch_M → Prop) (x1 : Int32) (x2 : Int32) (x3 : Int32) (o4 : Option ch_V) (m : ch_M) (h : ((41 ≤ x3 → ch_J g m_m_termsFor (ch_rm m_m_termsFor) (ch_E g m_m_termsFor Q) 86 [some (.inr (9, 0, 0)), some (.inl (.int x1)), some (.inl (.int x2)), some (.inl (.int 0)), o4] [] m 0) ∧ (¬ 41 ≤ x3 → ((¬ x2 = 0 → ch_J g m_m_termsFor (ch_rm m_m_termsFor) (ch_E g m_m_termsFor Q) 86 [some (.inr (9, 0, 0)), some (.inl (.int x1)), some (.inl (.int x2)), some (.inl (.int 0)), o4] [] m 0) ∧ (x2 = 0 → (∃ Y_1 : ch_B, (m_rel Y_1 (m (9, 0, 1))) ∧ ((∃ T_6 : Nat, (∃ Y_7 : ch_B, (m_rel Y_7 (m (9, 0, 1))) ∧ (y_inv T_6 Y_7) ∧ ((∀ (B8 : ch_B), (m_rel (y_termB Y_7) (B8 1)) → (∀ a_ i_, a_ ≠ 1 → B8 a_ i_ = ch_ob m 9 0 a_ i_) → (∀ m10 : ch_M, m10 = ch_os m 9 0 B8 → ((((b_st (m_lb Y_7 (y_termB Y_7)) 12) &&& (y_ofS (Y_1 1) x1 0 12)) = 0 → ch_J g m_m_termsFor (ch_rm m_m_termsFor) (ch_E g m_m_termsFor Q) 49 [some (.inr (9, 0, 0)), some (.inl (.int x1)), some (.inl (.int x2)), some (.inl (.int (x3 + 1))), some (.inl (.int (y_ofS (Y_1 1) x1 0 12)))] [] m10 0) ∧ (¬ ((b_st (m_lb Y_7 (y_termB Y_7)) 12) &&& (y_ofS (Y_1 1) x1 0 12)) = 0 → ch_J g m_m_termsFor (ch_rm m_m_termsFor) (ch_E g m_m_termsFor Q) 49 [some (.inr (9, 0, 0)), some (.inl (.int x1)), some (.inl (.int x3)), some (.inl (.int (x3 + 1))), some (.inl (.int (y_ofS (Y_1 1) x1 0 12)))] [] m10 0)))))))))))))) : ch_J g m_m_termsFor (ch_rm m_m_termsFor) (ch_E g m_m_termsFor Q) 49 [some (.inr (9, 0, 0)), some (.inl (.int x1)), some (.inl (.int x2)), some (.inl (.int x3)), o4] [] m 0 := by
  refine ch_iload_n (i := 3) d_m_termsFor_49 rfl rfl ?_
  refine ch_bipush (v := 41) d_m_termsFor_50 (by decide) ?_
  refine ch_icmp_ge (tgt := 84) d_m_termsFor_52 (by decide) (fun c => ?_) (fun c => ?_)
  · replace h := h.1 c
    refine ch_iconst (v := 0) d_m_termsFor_84 (by decide) ?_
    refine ch_istore_n (i := 3) d_m_termsFor_85 rfl (Nat.le_of_ble_eq_true rfl) (ls' := [some (.inr (9, 0, 0)), some (.inl (.int x1)), some (.inl (.int x2)), some (.inl (.int 0)), o4]) rfl ?_
    exact h
  · replace h := h.2 c
    refine ch_iload_n (i := 2) d_m_termsFor_55 rfl rfl ?_
    refine ch_if_ne (tgt := 84) d_m_termsFor_56 (by decide) (fun c => ?_) (fun c => ?_)
    · replace h := h.1 c
      refine ch_iconst (v := 0) d_m_termsFor_84 (by decide) ?_
      refine ch_istore_n (i := 3) d_m_termsFor_85 rfl (Nat.le_of_ble_eq_true rfl) (ls' := [some (.inr (9, 0, 0)), some (.inl (.int x1)), some (.inl (.int x2)), some (.inl (.int 0)), o4]) rfl ?_
      exact h
    · replace h := h.2 c
      refine ch_aload_n (i := 0) d_m_termsFor_59 rfl rfl ?_
      refine ch_iload_n (i := 1) d_m_termsFor_60 rfl rfl ?_
      obtain ⟨Y_1, h⟩ := h
      have b5 := h.1
      replace h := h.2
      refine ch_callV (as := [.inl (.int x1)]) d_m_termsFor_61 lk_m_182 mi_m_ownSet me_m_ownSet rfl rfl rfl ⟨Nat.le_of_ble_eq_true rfl, Nat.le_of_ble_eq_true rfl⟩ (Nat.le_of_ble_eq_true rfl) ⟨Nat.le_of_ble_eq_true rfl, Nat.le_of_ble_eq_true rfl⟩ (ch_mono (ch_Ki (fun r2 m3 q4 => ?_)) (s_m_ownSet g (fun (r_ : Int32) (m_ : ch_M) => ((y_ofS (Y_1 1) x1 0 12) = r_ ∧ m = m_)) (Y_1) (x1) m ⟨b5, ⟨rfl, rfl⟩⟩))
      obtain ⟨rfl, rfl⟩ := q4
      replace h := h
      refine ch_istore (i := 4) d_m_termsFor_64 (Nat.le_of_ble_eq_true rfl) (ls' := [some (.inr (9, 0, 0)), some (.inl (.int x1)), some (.inl (.int x2)), some (.inl (.int x3)), some (.inl (.int (y_ofS (Y_1 1) x1 0 12)))]) rfl ?_
      refine ch_aload_n (i := 0) d_m_termsFor_66 rfl rfl ?_
      obtain ⟨T_6, h⟩ := h
      obtain ⟨Y_7, h⟩ := h
      have b12 := h.1
      replace h := h.2
      have b13 := h.1
      replace h := h.2
      refine ch_callV (as := []) d_m_termsFor_67 lk_m_176 mi_m_goesBy me_m_goesBy rfl rfl rfl ⟨Nat.le_of_ble_eq_true rfl, Nat.le_of_ble_eq_true rfl⟩ (Nat.le_of_ble_eq_true rfl) ⟨Nat.le_of_ble_eq_true rfl, Nat.le_of_ble_eq_true rfl⟩ (ch_mono (ch_Ki (fun r9 m10 q11 => ?_)) (s_m_goesBy g (fun (r_ : Int32) (m_ : ch_M) => (∃ (B8 : ch_B), (b_st (m_lb Y_7 (y_termB Y_7)) 12) = r_ ∧ (m_rel (y_termB Y_7) (B8 1)) ∧ (∀ a_ i_, a_ ≠ 1 → B8 a_ i_ = ch_ob m 9 0 a_ i_) ∧ m_ = ch_os m 9 0 B8)) (T_6) (Y_7) m ⟨b12, b13, (fun B8 f0_ f1_ => ⟨B8, rfl, f0_, f1_, rfl⟩)⟩))
      obtain ⟨B8, rfl, f0_, f1_, hm_⟩ := q11
      replace h := h B8 f0_ f1_ m10 hm_
      refine ch_iload d_m_termsFor_70 rfl ?_
      refine ch_iand d_m_termsFor_72 ?_
      refine ch_if_eq (tgt := 78) d_m_termsFor_73 (by decide) (fun c => ?_) (fun c => ?_)
      · replace h := h.1 c
        refine ch_iinc (i := 3) (v := (x3 + 1)) d_m_termsFor_78 rfl rfl (Nat.le_of_ble_eq_true rfl) (ls' := [some (.inr (9, 0, 0)), some (.inl (.int x1)), some (.inl (.int x2)), some (.inl (.int (x3 + 1))), some (.inl (.int (y_ofS (Y_1 1) x1 0 12)))]) rfl ?_
        refine ch_goto (tgt := 49) d_m_termsFor_81 (by decide) ?_
        exact h
      · replace h := h.2 c
        refine ch_iload_n (i := 3) d_m_termsFor_76 rfl rfl ?_
        refine ch_istore_n (i := 2) d_m_termsFor_77 rfl (Nat.le_of_ble_eq_true rfl) (ls' := [some (.inr (9, 0, 0)), some (.inl (.int x1)), some (.inl (.int x3)), some (.inl (.int x3)), some (.inl (.int (y_ofS (Y_1 1) x1 0 12)))]) rfl ?_
        refine ch_iinc (i := 3) (v := (x3 + 1)) d_m_termsFor_78 rfl rfl (Nat.le_of_ble_eq_true rfl) (ls' := [some (.inr (9, 0, 0)), some (.inl (.int x1)), some (.inl (.int x3)), some (.inl (.int (x3 + 1))), some (.inl (.int (y_ofS (Y_1 1) x1 0 12)))]) rfl ?_
        refine ch_goto (tgt := 49) d_m_termsFor_81 (by decide) ?_
        exact h
set_option maxHeartbeats 1600000 in
theorem g_m_termsFor_86 (g : ch_G) (Q : ch_O → ch_M → Prop) (x1 : Int32) (x2 : Int32) (x3 : Int32) (o4 : Option ch_V) (m : ch_M) (h : ((63 ≤ x3 → ((¬ x2 = 0 → Q (.inl (some (.inl (.int x2)))) m) ∧ (x2 = 0 → ((∀ m2 : ch_M, m2 = ch_wr m (9, 0, 0) 19 2 → Q (.inl (some (.inl (.int 0)))) m2))))) ∧ (¬ 63 ≤ x3 → (vp_in x3 63) ∧ (∀ m5 : ch_M, m5 = ch_wr m (9, 0, 1) (Int32.toNatClampNeg x3) (m (9, 0, 3) (Int32.toNatClampNeg x3)) → ch_J g m_m_termsFor (ch_rm m_m_termsFor) (ch_E g m_m_termsFor Q) 86 [some (.inr (9, 0, 0)), some (.inl (.int x1)), some (.inl (.int x2)), some (.inl (.int (x3 + 1))), o4] [] m5 0)))) : ch_J g m_m_termsFor (ch_rm m_m_termsFor) (ch_E g m_m_termsFor Q) 86 [some (.inr (9, 0, 0)), some (.inl (.int x1)), some (.inl (.int x2)), some (.inl (.int x3)), o4] [] m 0 := by
  refine ch_iload_n (i := 3) d_m_termsFor_86 rfl rfl ?_
  refine ch_bipush (v := 63) d_m_termsFor_87 (by decide) ?_
  refine ch_icmp_ge (tgt := 110) d_m_termsFor_89 (by decide) (fun c => ?_) (fun c => ?_)
  · replace h := h.1 c
    refine ch_iload_n (i := 2) d_m_termsFor_110 rfl rfl ?_
    refine ch_if_ne (tgt := 122) d_m_termsFor_111 (by decide) (fun c => ?_) (fun c => ?_)
    · replace h := h.1 c
      refine ch_iload_n (i := 2) d_m_termsFor_122 rfl rfl ?_
      exact ch_iret (ty := .int) d_m_termsFor_123 rfl rfl (Nat.le_of_ble_eq_true rfl) h
    · replace h := h.2 c
      refine ch_aload_n (i := 0) d_m_termsFor_114 rfl rfl ?_
      refine ch_iconst (v := 2) d_m_termsFor_115 (by decide) ?_
      refine ch_callV (as := [.inl (.int 2)]) d_m_termsFor_116 lk_m_70 mi_m_raises me_m_raises rfl rfl rfl ⟨Nat.le_of_ble_eq_true rfl, Nat.le_of_ble_eq_true rfl⟩ (Nat.le_of_ble_eq_true rfl) ⟨Nat.le_of_ble_eq_true rfl, Nat.le_of_ble_eq_true rfl⟩ (ch_mono (ch_Ki (fun r1 m2 q3 => ?_)) (s_m_raises g (fun (r_ : Int32) (m_ : ch_M) => (0 = r_ ∧ m_ = ch_wr m (9, 0, 0) 19 2)) (2) m ⟨rfl, rfl⟩))
      obtain ⟨rfl, hm_⟩ := q3
      replace h := h m2 hm_
      refine ch_goto (tgt := 123) d_m_termsFor_119 (by decide) ?_
      exact ch_iret (ty := .int) d_m_termsFor_123 rfl rfl (Nat.le_of_ble_eq_true rfl) h
  · replace h := h.2 c
    refine ch_aload_n (i := 0) d_m_termsFor_92 rfl rfl ?_
    refine ch_get (v := .inr (9, 0, 1)) d_m_termsFor_93 fl_m_9 rfl ?_
    refine ch_iload_n (i := 3) d_m_termsFor_96 rfl rfl ?_
    refine ch_aload_n (i := 0) d_m_termsFor_97 rfl rfl ?_
    refine ch_get (v := .inr (9, 0, 3)) d_m_termsFor_98 fl_m_16 rfl ?_
    refine ch_iload_n (i := 3) d_m_termsFor_101 rfl rfl ?_
    have b4 := h.1
    replace h := h.2
    refine ch_iald (n := 63) d_m_termsFor_102 (by decide) rfl b4 ?_
    refine ch_iast (n := 63) d_m_termsFor_103 (by decide) rfl b4 ?_
    show ch_J g _ _ _ _ _ _ (ch_wr m (9, 0, 1) (Int32.toNatClampNeg x3) (m (9, 0, 3) (Int32.toNatClampNeg x3))) _
    generalize hmm5 : ch_wr m (9, 0, 1) (Int32.toNatClampNeg x3) (m (9, 0, 3) (Int32.toNatClampNeg x3)) = m5
    replace h := h m5 hmm5.symm
    refine ch_iinc (i := 3) (v := (x3 + 1)) d_m_termsFor_104 rfl rfl (Nat.le_of_ble_eq_true rfl) (ls' := [some (.inr (9, 0, 0)), some (.inl (.int x1)), some (.inl (.int x2)), some (.inl (.int (x3 + 1))), o4]) rfl ?_
    refine ch_goto (tgt := 86) d_m_termsFor_107 (by decide) ?_
    exact h
