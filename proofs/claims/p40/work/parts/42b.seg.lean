theorem ch_rcL {k B a b : Nat} {R : Room} (hC : 120000 ≤ R.cells ∧ 720000 ≤ R.slots) (h : k + B ≤ 120000) (hb : a + b ≤ B) : k + a + b ≤ R.cells ∧ 6 * (k + a) + 6 * b ≤ R.slots := by omega
theorem ch_rcL0 {k B b : Nat} {R : Room} (hC : 120000 ≤ R.cells ∧ 720000 ≤ R.slots) (h : k + B ≤ 120000) (hb : b ≤ B) : k + b ≤ R.cells ∧ 6 * k + 6 * b ≤ R.slots := by omega
set_option maxHeartbeats 1600000 in
theorem g_l_law_8 (g : ch_G) (R : Room) (E : ch_En) (k : Nat) (hR : ch_RR R 18) (hC : 120000 ≤ R.cells ∧ 720000 ≤ R.slots) (hk : k + 3 ≤ 120000) (o2 : Option ch_V) (o3 : Option ch_V) (o4 : Option ch_V) (o5 : Option ch_V) (o6 : Option ch_V) (o7 : Option ch_V) (o8 : Option ch_V) (o9 : Option ch_V) (o10 : Option ch_V) (m : ch_M) (h : (∃ A_1 : a_G, (∃ Y_2 : ch_B, (∃ R_3 : Int32 × Int32 × Int32, (a_W A_1 Y_2 R_3 m) ∧ (A_1.2.1 = 0) ∧ ((∃ A_9 : a_G, (∃ Y_10 : ch_B, (∃ R_11 : Int32 × Int32 × Int32, (a_W A_9 Y_10 R_11 m) ∧ (A_9.2.2.2.1.1 = 0) ∧ ((∃ A_17 : a_G, (∃ Y_18 : ch_B, (∃ R_19 : Int32 × Int32 × Int32, (a_W A_17 Y_18 R_19 m) ∧ ((∀ (M20 : ch_M), (a_W (a_sv A_17 Y_18) Y_18 (M20 (3, 0, 0) 0, M20 (3, 0, 0) 1, M20 (3, 0, 0) 2) M20) → (∀ m22 : ch_M, m22 = M20 → ((¬ (Y_18 0 8) = 0 → ch_J g m_l_law R E 45 [some (.inr (11, 0, 0)), some (.inr (0, 0, 0)), o2, o3, o4, o5, o6, o7, o8, o9, o10] [.inl (.int 0)] m22 (k + 2)) ∧ ((Y_18 0 8) = 0 → (∃ A_25 : a_G, (∃ Y_26 : ch_B, (∃ R_27 : Int32 × Int32 × Int32, (∃ X_28 : ch_B, (∃ v_29 : Int32, (a_W A_25 Y_26 R_27 m22) ∧ (A_25.1 + 732 < 2 ^ 31) ∧ (∀ Z_, y_sm Y_26 Z_ → r_wn Z_ 99 = (0, 0) ∧ y_sm X_28 (y_briB Z_ 99) ∧ Z_ 0 8 + 1 - 1 = v_29) ∧ ((∀ (M30 : ch_M), (a_W (a_up A_25 (A_25.1 + 12) Y_26) X_28 (M30 (3, 0, 0) 0, M30 (3, 0, 0) 1, M30 (3, 0, 0) 2) M30) → (∀ m32 : ch_M, m32 = M30 → ((v_29 = 0 → ch_J g m_l_law R E 48 [some (.inr (11, 0, 0)), some (.inr (0, 0, 0)), some (.inl (.int 0)), o3, o4, o5, o6, o7, o8, o9, o10] [] m32 (k + 3)) ∧ (¬ v_29 = 0 → ch_J g m_l_law R E 45 [some (.inr (11, 0, 0)), some (.inr (0, 0, 0)), o2, o3, o4, o5, o6, o7, o8, o9, o10] [.inl (.int 0)] m32 (k + 3)))))))))))))))))))))))))))) : ch_J g m_l_law R E 8 [some (.inr (11, 0, 0)), some (.inr (0, 0, 0)), o2, o3, o4, o5, o6, o7, o8, o9, o10] [] m k := by
  refine ch_aload_n (i := 1) d_l_law_8 rfl rfl ?_
  obtain ⟨A_1, h⟩ := h
  obtain ⟨Y_2, h⟩ := h
  obtain ⟨R_3, h⟩ := h
  have b7 := h.1
  replace h := h.2
  have b8 := h.1
  replace h := h.2
  refine ch_callSX (as := [.inr (0, 0, 0)]) d_l_law_9 lk_l_279 ms_l_undo rfl rfl (ch_hR hR (Nat.le_of_ble_eq_true rfl)) (Nat.le_of_ble_eq_true rfl) (ch_rcL0 (b := 1) hC hk (Nat.le_of_ble_eq_true rfl)) (ch_mono (ch_Ki (fun r4 m5 q6 => ?_)) (f_l_undo g (fun (r_ : Int32) (m_ : ch_M) => ((-1001) = r_ ∧ m = m_)) (A_1) (Y_2) (R_3) m ⟨b7, b8, ⟨rfl, rfl⟩⟩))
  obtain ⟨rfl, rfl⟩ := q6
  replace h := h
  refine ch_sipush (v := (-1001)) d_l_law_12 (by decide) ?_
  refine ch_icmp_ne (tgt := 44) d_l_law_15 (by decide) (fun c => absurd c (by decide)) (fun _ => ?_)
  refine ch_aload_n (i := 1) d_l_law_18 rfl rfl ?_
  obtain ⟨A_9, h⟩ := h
  obtain ⟨Y_10, h⟩ := h
  obtain ⟨R_11, h⟩ := h
  have b15 := h.1
  replace h := h.2
  have b16 := h.1
  replace h := h.2
  refine ch_callSX (as := [.inr (0, 0, 0)]) d_l_law_19 lk_l_281 ms_l_restore rfl rfl (ch_hR hR (Nat.le_of_ble_eq_true rfl)) (Nat.le_of_ble_eq_true rfl) (ch_rcL (a := 1) (b := 1) hC hk (Nat.le_of_ble_eq_true rfl)) (ch_mono (ch_Ki (fun r12 m13 q14 => ?_)) (f_l_restore g (fun (r_ : Int32) (m_ : ch_M) => ((-1001) = r_ ∧ m = m_)) (A_9) (Y_10) (R_11) m ⟨b15, b16, ⟨rfl, rfl⟩⟩))
  obtain ⟨rfl, rfl⟩ := q14
  replace h := h
  refine ch_sipush (v := (-1001)) d_l_law_22 (by decide) ?_
  refine ch_icmp_ne (tgt := 44) d_l_law_25 (by decide) (fun c => absurd c (by decide)) (fun _ => ?_)
  refine ch_aload_n (i := 1) d_l_law_28 rfl rfl ?_
  obtain ⟨A_17, h⟩ := h
  obtain ⟨Y_18, h⟩ := h
  obtain ⟨R_19, h⟩ := h
  have b24 := h.1
  replace h := h.2
  refine ch_callV (as := []) d_l_law_29 lk_l_283 mi_x_save me_x_save rfl rfl rfl (ch_hR hR (Nat.le_of_ble_eq_true rfl)) (Nat.le_of_ble_eq_true rfl) (ch_rcL (a := 2) (b := 0) hC hk (Nat.le_of_ble_eq_true rfl)) (ch_mono (ch_Ki (fun r21 m22 q23 => ?_)) (c_x_save g (fun (r_ : Int32) (m_ : ch_M) => (∃ (M20 : ch_M), (Y_18 0 8) = r_ ∧ (a_W (a_sv A_17 Y_18) Y_18 (M20 (3, 0, 0) 0, M20 (3, 0, 0) 1, M20 (3, 0, 0) 2) M20) ∧ m_ = M20)) (A_17) (Y_18) (R_19) m ⟨b24, (fun M20 f0_ => ⟨M20, rfl, f0_, rfl⟩)⟩))
  obtain ⟨M20, rfl, f0_, hm_⟩ := q23
  replace h := h M20 f0_ m22 hm_
  refine ch_if_ne (tgt := 44) d_l_law_32 (by decide) (fun c => ?_) (fun c => ?_)
  · replace h := h.1 c
    refine ch_iconst (v := 0) d_l_law_44 (by decide) ?_
    exact h
  · replace h := h.2 c
    refine ch_aload_n (i := 1) d_l_law_35 rfl rfl ?_
    refine ch_bipush (v := 99) d_l_law_36 (by decide) ?_
    obtain ⟨A_25, h⟩ := h
    obtain ⟨Y_26, h⟩ := h
    obtain ⟨R_27, h⟩ := h
    obtain ⟨X_28, h⟩ := h
    obtain ⟨v_29, h⟩ := h
    have b34 := h.1
    replace h := h.2
    have b35 := h.1
    replace h := h.2
    have b36 := h.1
    replace h := h.2
    refine ch_callSX (as := [.inr (0, 0, 0), .inl (.int 99)]) d_l_law_38 lk_l_153 ms_l_child rfl rfl (ch_hR hR (Nat.le_of_ble_eq_true rfl)) (Nat.le_of_ble_eq_true rfl) (ch_rcL (a := 2) (b := 1) hC hk (Nat.le_of_ble_eq_true rfl)) (ch_mono (ch_Ki (fun r31 m32 q33 => ?_)) (c_l_child g (fun (r_ : Int32) (m_ : ch_M) => (∃ (M30 : ch_M), v_29 = r_ ∧ (a_W (a_up A_25 (A_25.1 + 12) Y_26) X_28 (M30 (3, 0, 0) 0, M30 (3, 0, 0) 1, M30 (3, 0, 0) 2) M30) ∧ m_ = M30)) (A_25) (Y_26) (R_27) (X_28) (v_29) (99) m22 ⟨b34, b35, b36, (fun M30 f0_ => ⟨M30, rfl, f0_, rfl⟩)⟩))
    obtain ⟨M30, rfl, f0_, hm_⟩ := q33
    replace h := h M30 f0_ m32 hm_
    refine ch_if_eq (tgt := 46) d_l_law_41 (by decide) (fun c => ?_) (fun c => ?_)
    · replace h := h.1 c
      refine ch_iconst (v := 0) d_l_law_46 (by decide) ?_
      refine ch_istore_n (i := 2) d_l_law_47 rfl (Nat.le_of_ble_eq_true rfl) (ls' := [some (.inr (11, 0, 0)), some (.inr (0, 0, 0)), some (.inl (.int 0)), o3, o4, o5, o6, o7, o8, o9, o10]) rfl ?_
      exact h
    · replace h := h.2 c
      refine ch_iconst (v := 0) d_l_law_44 (by decide) ?_
      exact h
set_option maxHeartbeats 1600000 in
theorem g_l_law_48 (g : ch_G) (R : Room) (E : ch_En) (k : Nat) (hR : ch_RR R 18) (hC : 120000 ≤ R.cells ∧ 720000 ≤ R.slots) (hk : k + 1 ≤ 120000) (x2 : Int32) (o3 : Option ch_V) (o4 : Option ch_V) (o5 : Option ch_V) (o6 : Option ch_V) (o7 : Option ch_V) (o8 : Option ch_V) (o9 : Option ch_V) (o10 : Option ch_V) (m : ch_M) (h : ((60 ≤ x2 → ch_J g m_l_law R E 77 [some (.inr (11, 0, 0)), some (.inr (0, 0, 0)), some (.inl (.int x2)), o3, o4, o5, o6, o7, o8, o9, o10] [] m k) ∧ (¬ 60 ≤ x2 → (vp_in (m (6, 0, 0) 1) 61) ∧ (((m (6, 0, 0) 1 < 60) → (∀ m2 : ch_M, m2 = ch_os m 6 0 (t_putB (ch_ob m 6 0) ((Int32.toUInt32 (65 + x2) % 65536).toInt32)) → (((m (6, 0, 0) 1 + 1) = (x2 + 1) → ch_J g m_l_law R E 48 [some (.inr (11, 0, 0)), some (.inr (0, 0, 0)), some (.inl (.int (x2 + 1))), o3, o4, o5, o6, o7, o8, o9, o10] [] m2 (k + 1)) ∧ (¬ (m (6, 0, 0) 1 + 1) = (x2 + 1) → ch_J g m_l_law R E 70 [some (.inr (11, 0, 0)), some (.inr (0, 0, 0)), some (.inl (.int x2)), o3, o4, o5, o6, o7, o8, o9, o10] [.inl (.int 0)] m2 (k + 1))))) ∧ ((¬ m (6, 0, 0) 1 < 60) → (((-1001) = (x2 + 1) → ch_J g m_l_law R E 48 [some (.inr (11, 0, 0)), some (.inr (0, 0, 0)), some (.inl (.int (x2 + 1))), o3, o4, o5, o6, o7, o8, o9, o10] [] m (k + 1)) ∧ (¬ (-1001) = (x2 + 1) → ch_J g m_l_law R E 70 [some (.inr (11, 0, 0)), some (.inr (0, 0, 0)), some (.inl (.int x2)), o3, o4, o5, o6, o7, o8, o9, o10] [.inl (.int 0)] m (k + 1)))))))) : ch_J g m_l_law R E 48 [some (.inr (11, 0, 0)), some (.inr (0, 0, 0)), some (.inl (.int x2)), o3, o4, o5, o6, o7, o8, o9, o10] [] m k := by
  refine ch_iload_n (i := 2) d_l_law_48 rfl rfl ?_
  refine ch_bipush (v := 60) d_l_law_49 (by decide) ?_
  refine ch_icmp_ge (tgt := 77) d_l_law_51 (by decide) (fun c => ?_) (fun c => ?_)
  · replace h := h.1 c
    exact h
  · replace h := h.2 c
    refine ch_aload_n (i := 1) d_l_law_54 rfl rfl ?_
    refine ch_bipush (v := 65) d_l_law_55 (by decide) ?_
    refine ch_iload_n (i := 2) d_l_law_57 rfl rfl ?_
    refine ch_iadd d_l_law_58 ?_
    refine ch_i2c d_l_law_59 ?_
    have b4 := h.1
    replace h := h.2
    refine ch_callSX (as := [.inr (0, 0, 0), .inl (.int ((Int32.toUInt32 (65 + x2) % 65536).toInt32))]) d_l_law_60 lk_l_129 ms_l_append rfl rfl (ch_hR hR (Nat.le_of_ble_eq_true rfl)) (Nat.le_of_ble_eq_true rfl) (ch_rcL0 (b := 1) hC hk (Nat.le_of_ble_eq_true rfl)) (ch_mono (ch_Ki (fun r1 m2 q3 => ?_)) (s_l_append g (fun (r_ : Int32) (m_ : ch_M) => ((m (6, 0, 0) 1 < 60) ∧ (m (6, 0, 0) 1 + 1) = r_ ∧ m_ = ch_os m 6 0 (t_putB (ch_ob m 6 0) ((Int32.toUInt32 (65 + x2) % 65536).toInt32))) ∨ ((¬ m (6, 0, 0) 1 < 60) ∧ (-1001) = r_ ∧ m = m_)) (((Int32.toUInt32 (65 + x2) % 65536).toInt32)) m ⟨b4, (fun c_ => (Or.inl ⟨c_, rfl, rfl⟩)), (fun c_ => (Or.inr ⟨c_, rfl, rfl⟩))⟩))
    rcases q3 with ⟨c_, rfl, hm_⟩ | ⟨c_, rfl, rfl⟩
    · replace h := h.1 c_ m2 hm_
      refine ch_iload_n (i := 2) d_l_law_63 rfl rfl ?_
      refine ch_iconst (v := 1) d_l_law_64 (by decide) ?_
      refine ch_iadd d_l_law_65 ?_
      refine ch_icmp_eq (tgt := 71) d_l_law_66 (by decide) (fun c => ?_) (fun c => ?_)
      · replace h := h.1 c
        refine ch_iinc (i := 2) (v := (x2 + 1)) d_l_law_71 rfl rfl (Nat.le_of_ble_eq_true rfl) (ls' := [some (.inr (11, 0, 0)), some (.inr (0, 0, 0)), some (.inl (.int (x2 + 1))), o3, o4, o5, o6, o7, o8, o9, o10]) rfl ?_
        refine ch_goto (tgt := 48) d_l_law_74 (by decide) ?_
        exact h
      · replace h := h.2 c
        refine ch_iconst (v := 0) d_l_law_69 (by decide) ?_
        exact h
    · replace h := h.2 c_
      refine ch_iload_n (i := 2) d_l_law_63 rfl rfl ?_
      refine ch_iconst (v := 1) d_l_law_64 (by decide) ?_
      refine ch_iadd d_l_law_65 ?_
      refine ch_icmp_eq (tgt := 71) d_l_law_66 (by decide) (fun c => ?_) (fun c => ?_)
      · replace h := h.1 c
        refine ch_iinc (i := 2) (v := (x2 + 1)) d_l_law_71 rfl rfl (Nat.le_of_ble_eq_true rfl) (ls' := [some (.inr (11, 0, 0)), some (.inr (0, 0, 0)), some (.inl (.int (x2 + 1))), o3, o4, o5, o6, o7, o8, o9, o10]) rfl ?_
        refine ch_goto (tgt := 48) d_l_law_74 (by decide) ?_
        exact h
      · replace h := h.2 c
        refine ch_iconst (v := 0) d_l_law_69 (by decide) ?_
        exact h
set_option maxHeartbeats 1600000 in
theorem g_l_law_77 (g : ch_G) (R : Room) (E : ch_En) (k : Nat) (hR : ch_RR R 18) (hC : 120000 ≤ R.cells ∧ 720000 ≤ R.slots) (hk : k + 4 ≤ 120000) (x2 : Int32) (o3 : Option ch_V) (o4 : Option ch_V) (o5 : Option ch_V) (o6 : Option ch_V) (o7 : Option ch_V) (o8 : Option ch_V) (o9 : Option ch_V) (o10 : Option ch_V) (m : ch_M) (h : (vp_in (m (6, 0, 0) 1) 61) ∧ (((m (6, 0, 0) 1 < 60) → (∀ m2 : ch_M, m2 = ch_os m 6 0 (t_putB (ch_ob m 6 0) 116) → ((¬ (m (6, 0, 0) 1 + 1) = (-1001) → ch_J g m_l_law R E 127 [some (.inr (11, 0, 0)), some (.inr (0, 0, 0)), some (.inl (.int x2)), o3, o4, o5, o6, o7, o8, o9, o10] [.inl (.int 0)] m2 (k + 1)) ∧ ((m (6, 0, 0) 1 + 1) = (-1001) → (vp_in (m2 (1, 0, 0) 8) 6) ∧ (11 = (11 : Int32)) ∧ (((¬ (m2 (6, 0, 0) 1) = 60 → ch_J g m_l_law R E 127 [some (.inr (11, 0, 0)), some (.inr (0, 0, 0)), some (.inl (.int x2)), o3, o4, o5, o6, o7, o8, o9, o10] [.inl (.int 0)] m2 (k + 2)) ∧ ((m2 (6, 0, 0) 1) = 60 → (∃ A_10 : a_G, (a_S A_10 m2) ∧ (A_10.1 + 720 < 2 ^ 31) ∧ (0 < A_10.1) ∧ ((((x_F m2).1 = -1 ∧ ¬ (x_cc m2).1 = 0) → (∀ (M11 : ch_M), (a_S (a_c0 (a_up A_10 (A_10.1 + 720) (ch_ob m2 1 0))) M11) → ((0 : Int32) ≤ (x_cc m2).1) → (∀ k_, M11 (14, 0, 1) k_ = m2 (14, 0, 1) k_) → (∀ m15 : ch_M, m15 = M11 → ((¬ ((x_cc m2).1) = (-1001) → ch_J g m_l_law R E 127 [some (.inr (11, 0, 0)), some (.inr (0, 0, 0)), some (.inl (.int x2)), o3, o4, o5, o6, o7, o8, o9, o10] [.inl (.int 0)] m15 (k + 3)) ∧ (((x_cc m2).1) = (-1001) → (((¬ (m15 (0, 0, 0) 13) = 0 → ch_J g m_l_law R E 127 [some (.inr (11, 0, 0)), some (.inr (0, 0, 0)), some (.inl (.int x2)), o3, o4, o5, o6, o7, o8, o9, o10] [.inl (.int 0)] m15 (k + 3)) ∧ ((m15 (0, 0, 0) 13) = 0 → (vp_in (m15 (1, 0, 0) 8) 6) ∧ (11 = (11 : Int32)) ∧ ((((m15 (6, 0, 0) 1) = 0 → ch_J g m_l_law R E 130 [some (.inr (11, 0, 0)), some (.inr (0, 0, 0)), some (.inl (.int 1)), o3, o4, o5, o6, o7, o8, o9, o10] [] m15 (k + 4)) ∧ (¬ (m15 (6, 0, 0) 1) = 0 → ch_J g m_l_law R E 127 [some (.inr (11, 0, 0)), some (.inr (0, 0, 0)), some (.inl (.int x2)), o3, o4, o5, o6, o7, o8, o9, o10] [.inl (.int 0)] m15 (k + 4)))))))))))) ∧ ((¬ (x_F m2).1 = -1) → (∀ (M12 : ch_M), (a_S (a_c0 A_10) M12) → (ch_ob M12 1 0 = ch_ob m2 1 0) → (M12 (0, 0, 0) 13 = (x_F m2).1) → (∀ k_, M12 (14, 0, 1) k_ = m2 (14, 0, 1) k_) → (∀ m15 : ch_M, m15 = M12 → (((¬ (m15 (0, 0, 0) 13) = 0 → ch_J g m_l_law R E 127 [some (.inr (11, 0, 0)), some (.inr (0, 0, 0)), some (.inl (.int x2)), o3, o4, o5, o6, o7, o8, o9, o10] [.inl (.int 0)] m15 (k + 3)) ∧ ((m15 (0, 0, 0) 13) = 0 → (vp_in (m15 (1, 0, 0) 8) 6) ∧ (11 = (11 : Int32)) ∧ ((((m15 (6, 0, 0) 1) = 0 → ch_J g m_l_law R E 130 [some (.inr (11, 0, 0)), some (.inr (0, 0, 0)), some (.inl (.int 1)), o3, o4, o5, o6, o7, o8, o9, o10] [] m15 (k + 4)) ∧ (¬ (m15 (6, 0, 0) 1) = 0 → ch_J g m_l_law R E 127 [some (.inr (11, 0, 0)), some (.inr (0, 0, 0)), some (.inl (.int x2)), o3, o4, o5, o6, o7, o8, o9, o10] [.inl (.int 0)] m15 (k + 4)))))))))) ∧ (((x_F m2).1 = -1 ∧ (x_cc m2).1 = 0) → (∀ (M13 : ch_M), (a_S (a_c0 A_10) M13) → (y_sm (ch_ob m2 1 0) (ch_ob M13 1 0)) → (M13 (0, 0, 0) 13 = -1) → (∀ i_, M13 (3, 0, 0) i_ = (x_cc m2).2 (3, 0, 0) i_) → (∀ k_, M13 (14, 0, 1) k_ = m2 (14, 0, 1) k_) → (∀ m15 : ch_M, m15 = M13 → ch_J g m_l_law R E 127 [some (.inr (11, 0, 0)), some (.inr (0, 0, 0)), some (.inl (.int x2)), o3, o4, o5, o6, o7, o8, o9, o10] [.inl (.int 0)] m15 (k + 3))))))))))))) ∧ ((¬ m (6, 0, 0) 1 < 60) → (vp_in (m (1, 0, 0) 8) 6) ∧ (11 = (11 : Int32)) ∧ (((¬ (m (6, 0, 0) 1) = 60 → ch_J g m_l_law R E 127 [some (.inr (11, 0, 0)), some (.inr (0, 0, 0)), some (.inl (.int x2)), o3, o4, o5, o6, o7, o8, o9, o10] [.inl (.int 0)] m (k + 2)) ∧ ((m (6, 0, 0) 1) = 60 → (∃ A_41 : a_G, (a_S A_41 m) ∧ (A_41.1 + 720 < 2 ^ 31) ∧ (0 < A_41.1) ∧ ((((x_F m).1 = -1 ∧ ¬ (x_cc m).1 = 0) → (∀ (M42 : ch_M), (a_S (a_c0 (a_up A_41 (A_41.1 + 720) (ch_ob m 1 0))) M42) → ((0 : Int32) ≤ (x_cc m).1) → (∀ k_, M42 (14, 0, 1) k_ = m (14, 0, 1) k_) → (∀ m46 : ch_M, m46 = M42 → ((¬ ((x_cc m).1) = (-1001) → ch_J g m_l_law R E 127 [some (.inr (11, 0, 0)), some (.inr (0, 0, 0)), some (.inl (.int x2)), o3, o4, o5, o6, o7, o8, o9, o10] [.inl (.int 0)] m46 (k + 3)) ∧ (((x_cc m).1) = (-1001) → (((¬ (m46 (0, 0, 0) 13) = 0 → ch_J g m_l_law R E 127 [some (.inr (11, 0, 0)), some (.inr (0, 0, 0)), some (.inl (.int x2)), o3, o4, o5, o6, o7, o8, o9, o10] [.inl (.int 0)] m46 (k + 3)) ∧ ((m46 (0, 0, 0) 13) = 0 → (vp_in (m46 (1, 0, 0) 8) 6) ∧ (11 = (11 : Int32)) ∧ ((((m46 (6, 0, 0) 1) = 0 → ch_J g m_l_law R E 130 [some (.inr (11, 0, 0)), some (.inr (0, 0, 0)), some (.inl (.int 1)), o3, o4, o5, o6, o7, o8, o9, o10] [] m46 (k + 4)) ∧ (¬ (m46 (6, 0, 0) 1) = 0 → ch_J g m_l_law R E 127 [some (.inr (11, 0, 0)), some (.inr (0, 0, 0)), some (.inl (.int x2)), o3, o4, o5, o6, o7, o8, o9, o10] [.inl (.int 0)] m46 (k + 4)))))))))))) ∧ ((¬ (x_F m).1 = -1) → (∀ (M43 : ch_M), (a_S (a_c0 A_41) M43) → (ch_ob M43 1 0 = ch_ob m 1 0) → (M43 (0, 0, 0) 13 = (x_F m).1) → (∀ k_, M43 (14, 0, 1) k_ = m (14, 0, 1) k_) → (∀ m46 : ch_M, m46 = M43 → (((¬ (m46 (0, 0, 0) 13) = 0 → ch_J g m_l_law R E 127 [some (.inr (11, 0, 0)), some (.inr (0, 0, 0)), some (.inl (.int x2)), o3, o4, o5, o6, o7, o8, o9, o10] [.inl (.int 0)] m46 (k + 3)) ∧ ((m46 (0, 0, 0) 13) = 0 → (vp_in (m46 (1, 0, 0) 8) 6) ∧ (11 = (11 : Int32)) ∧ ((((m46 (6, 0, 0) 1) = 0 → ch_J g m_l_law R E 130 [some (.inr (11, 0, 0)), some (.inr (0, 0, 0)), some (.inl (.int 1)), o3, o4, o5, o6, o7, o8, o9, o10] [] m46 (k + 4)) ∧ (¬ (m46 (6, 0, 0) 1) = 0 → ch_J g m_l_law R E 127 [some (.inr (11, 0, 0)), some (.inr (0, 0, 0)), some (.inl (.int x2)), o3, o4, o5, o6, o7, o8, o9, o10] [.inl (.int 0)] m46 (k + 4)))))))))) ∧ (((x_F m).1 = -1 ∧ (x_cc m).1 = 0) → (∀ (M44 : ch_M), (a_S (a_c0 A_41) M44) → (y_sm (ch_ob m 1 0) (ch_ob M44 1 0)) → (M44 (0, 0, 0) 13 = -1) → (∀ i_, M44 (3, 0, 0) i_ = (x_cc m).2 (3, 0, 0) i_) → (∀ k_, M44 (14, 0, 1) k_ = m (14, 0, 1) k_) → (∀ m46 : ch_M, m46 = M44 → ch_J g m_l_law R E 127 [some (.inr (11, 0, 0)), some (.inr (0, 0, 0)), some (.inl (.int x2)), o3, o4, o5, o6, o7, o8, o9, o10] [.inl (.int 0)] m46 (k + 3)))))))))))) : ch_J g m_l_law R E 77 [some (.inr (11, 0, 0)), some (.inr (0, 0, 0)), some (.inl (.int x2)), o3, o4, o5, o6, o7, o8, o9, o10] [] m k := by
  refine ch_aload_n (i := 1) d_l_law_77 rfl rfl ?_
  refine ch_bipush (v := 116) d_l_law_78 (by decide) ?_
  have b4 := h.1
  replace h := h.2
  refine ch_callSX (as := [.inr (0, 0, 0), .inl (.int 116)]) d_l_law_80 lk_l_129 ms_l_append rfl rfl (ch_hR hR (Nat.le_of_ble_eq_true rfl)) (Nat.le_of_ble_eq_true rfl) (ch_rcL0 (b := 1) hC hk (Nat.le_of_ble_eq_true rfl)) (ch_mono (ch_Ki (fun r1 m2 q3 => ?_)) (s_l_append g (fun (r_ : Int32) (m_ : ch_M) => ((m (6, 0, 0) 1 < 60) ∧ (m (6, 0, 0) 1 + 1) = r_ ∧ m_ = ch_os m 6 0 (t_putB (ch_ob m 6 0) 116)) ∨ ((¬ m (6, 0, 0) 1 < 60) ∧ (-1001) = r_ ∧ m = m_)) (116) m ⟨b4, (fun c_ => (Or.inl ⟨c_, rfl, rfl⟩)), (fun c_ => (Or.inr ⟨c_, rfl, rfl⟩))⟩))
  rcases q3 with ⟨c_, rfl, hm_⟩ | ⟨c_, rfl, rfl⟩
  · replace h := h.1 c_ m2 hm_
    refine ch_sipush (v := (-1001)) d_l_law_83 (by decide) ?_
    refine ch_icmp_ne (tgt := 126) d_l_law_86 (by decide) (fun c => ?_) (fun c => ?_)
    · replace h := h.1 c
      refine ch_iconst (v := 0) d_l_law_126 (by decide) ?_
      exact h
    · replace h := h.2 c
      refine ch_aload_n (i := 1) d_l_law_89 rfl rfl ?_
      refine ch_bipush (v := 11) d_l_law_90 (by decide) ?_
      have b8 := h.1
      replace h := h.2
      have b9 := h.1
      replace h := h.2
      refine ch_callSX (as := [.inr (0, 0, 0), .inl (.int 11)]) d_l_law_92 lk_l_186 ms_l_account rfl rfl (ch_hR hR (Nat.le_of_ble_eq_true rfl)) (Nat.le_of_ble_eq_true rfl) (ch_rcL (a := 1) (b := 1) hC hk (Nat.le_of_ble_eq_true rfl)) (ch_mono (ch_Ki (fun r5 m6 q7 => ?_)) (t2_l_account g (fun (r_ : Int32) (m_ : ch_M) => ((m2 (6, 0, 0) 1) = r_ ∧ m2 = m_)) (11) m2 ⟨b8, b9, ⟨rfl, rfl⟩⟩))
      obtain ⟨rfl, rfl⟩ := q7
      replace h := h
      refine ch_bipush (v := 60) d_l_law_95 (by decide) ?_
      refine ch_icmp_ne (tgt := 126) d_l_law_97 (by decide) (fun c => ?_) (fun c => ?_)
      · replace h := h.1 c
        refine ch_iconst (v := 0) d_l_law_126 (by decide) ?_
        exact h
      · replace h := h.2 c
        refine ch_aload_n (i := 1) d_l_law_100 rfl rfl ?_
        obtain ⟨A_10, h⟩ := h
        have b17 := h.1
        replace h := h.2
        have b18 := h.1
        replace h := h.2
        have b19 := h.1
        replace h := h.2
        refine ch_callSX (as := [.inr (0, 0, 0)]) d_l_law_101 lk_l_134 ms_l_commands rfl rfl (ch_hR hR (Nat.le_of_ble_eq_true rfl)) (Nat.le_of_ble_eq_true rfl) (ch_rcL (a := 2) (b := 1) hC hk (Nat.le_of_ble_eq_true rfl)) (ch_mono (ch_Ki (fun r14 m15 q16 => ?_)) (t_l_commands g (fun (r_ : Int32) (m_ : ch_M) => (∃ (M11 : ch_M), ((x_F m2).1 = -1 ∧ ¬ (x_cc m2).1 = 0) ∧ ((x_cc m2).1) = r_ ∧ (a_S (a_c0 (a_up A_10 (A_10.1 + 720) (ch_ob m2 1 0))) M11) ∧ ((0 : Int32) ≤ (x_cc m2).1) ∧ (∀ k_, M11 (14, 0, 1) k_ = m2 (14, 0, 1) k_) ∧ m_ = M11) ∨ (∃ (M12 : ch_M), (¬ (x_F m2).1 = -1) ∧ (-1001) = r_ ∧ (a_S (a_c0 A_10) M12) ∧ (ch_ob M12 1 0 = ch_ob m2 1 0) ∧ (M12 (0, 0, 0) 13 = (x_F m2).1) ∧ (∀ k_, M12 (14, 0, 1) k_ = m2 (14, 0, 1) k_) ∧ m_ = M12) ∨ (∃ (M13 : ch_M), ((x_F m2).1 = -1 ∧ (x_cc m2).1 = 0) ∧ (-1002) = r_ ∧ (a_S (a_c0 A_10) M13) ∧ (y_sm (ch_ob m2 1 0) (ch_ob M13 1 0)) ∧ (M13 (0, 0, 0) 13 = -1) ∧ (∀ i_, M13 (3, 0, 0) i_ = (x_cc m2).2 (3, 0, 0) i_) ∧ (∀ k_, M13 (14, 0, 1) k_ = m2 (14, 0, 1) k_) ∧ m_ = M13)) (A_10) m2 ⟨b17, b18, b19, (fun c_ M11 f0_ f1_ f2_ => (Or.inl ⟨M11, c_, rfl, f0_, f1_, f2_, rfl⟩)), (fun c_ M12 f0_ f1_ f2_ f3_ => (Or.inr (Or.inl ⟨M12, c_, rfl, f0_, f1_, f2_, f3_, rfl⟩))), (fun c_ M13 f0_ f1_ f2_ f3_ f4_ => (Or.inr (Or.inr ⟨M13, c_, rfl, f0_, f1_, f2_, f3_, f4_, rfl⟩)))⟩))
        rcases q16 with ⟨M11, c_, rfl, f0_, f1_, f2_, hm_⟩ | ⟨M12, c_, rfl, f0_, f1_, f2_, f3_, hm_⟩ | ⟨M13, c_, rfl, f0_, f1_, f2_, f3_, f4_, hm_⟩
        · replace h := h.1 c_ M11 f0_ f1_ f2_ m15 hm_
          refine ch_sipush (v := (-1001)) d_l_law_104 (by decide) ?_
          refine ch_icmp_ne (tgt := 126) d_l_law_107 (by decide) (fun c => ?_) (fun c => ?_)
          · replace h := h.1 c
            refine ch_iconst (v := 0) d_l_law_126 (by decide) ?_
            exact h
          · replace h := h.2 c
            refine ch_aload_n (i := 1) d_l_law_110 rfl rfl ?_
            refine ch_callV (as := []) d_l_law_111 lk_l_271 mi_x_faultPosition me_x_faultPosition rfl rfl rfl (ch_hR hR (Nat.le_of_ble_eq_true rfl)) (Nat.le_of_ble_eq_true rfl) (ch_rcL (a := 3) (b := 0) hC hk (Nat.le_of_ble_eq_true rfl)) (ch_mono (ch_Ki (fun r20 m21 q22 => ?_)) (s_x_faultPosition g (fun (r_ : Int32) (m_ : ch_M) => ((m15 (0, 0, 0) 13) = r_ ∧ m15 = m_))  m15 ⟨rfl, rfl⟩))
            obtain ⟨rfl, rfl⟩ := q22
            replace h := h
            refine ch_if_ne (tgt := 126) d_l_law_114 (by decide) (fun c => ?_) (fun c => ?_)
            · replace h := h.1 c
              refine ch_iconst (v := 0) d_l_law_126 (by decide) ?_
              exact h
            · replace h := h.2 c
              refine ch_aload_n (i := 1) d_l_law_117 rfl rfl ?_
              refine ch_bipush (v := 11) d_l_law_118 (by decide) ?_
              have b26 := h.1
              replace h := h.2
              have b27 := h.1
              replace h := h.2
              refine ch_callSX (as := [.inr (0, 0, 0), .inl (.int 11)]) d_l_law_120 lk_l_186 ms_l_account rfl rfl (ch_hR hR (Nat.le_of_ble_eq_true rfl)) (Nat.le_of_ble_eq_true rfl) (ch_rcL (a := 3) (b := 1) hC hk (Nat.le_of_ble_eq_true rfl)) (ch_mono (ch_Ki (fun r23 m24 q25 => ?_)) (t2_l_account g (fun (r_ : Int32) (m_ : ch_M) => ((m15 (6, 0, 0) 1) = r_ ∧ m15 = m_)) (11) m15 ⟨b26, b27, ⟨rfl, rfl⟩⟩))
              obtain ⟨rfl, rfl⟩ := q25
              replace h := h
              refine ch_if_eq (tgt := 128) d_l_law_123 (by decide) (fun c => ?_) (fun c => ?_)
              · replace h := h.1 c
                refine ch_iconst (v := 1) d_l_law_128 (by decide) ?_
                refine ch_istore_n (i := 2) d_l_law_129 rfl (Nat.le_of_ble_eq_true rfl) (ls' := [some (.inr (11, 0, 0)), some (.inr (0, 0, 0)), some (.inl (.int 1)), o3, o4, o5, o6, o7, o8, o9, o10]) rfl ?_
                exact h
              · replace h := h.2 c
                refine ch_iconst (v := 0) d_l_law_126 (by decide) ?_
                exact h
        · replace h := h.2.1 c_ M12 f0_ f1_ f2_ f3_ m15 hm_
          refine ch_sipush (v := (-1001)) d_l_law_104 (by decide) ?_
          refine ch_icmp_ne (tgt := 126) d_l_law_107 (by decide) (fun c => absurd c (by decide)) (fun _ => ?_)
          refine ch_aload_n (i := 1) d_l_law_110 rfl rfl ?_
          refine ch_callV (as := []) d_l_law_111 lk_l_271 mi_x_faultPosition me_x_faultPosition rfl rfl rfl (ch_hR hR (Nat.le_of_ble_eq_true rfl)) (Nat.le_of_ble_eq_true rfl) (ch_rcL (a := 3) (b := 0) hC hk (Nat.le_of_ble_eq_true rfl)) (ch_mono (ch_Ki (fun r28 m29 q30 => ?_)) (s_x_faultPosition g (fun (r_ : Int32) (m_ : ch_M) => ((m15 (0, 0, 0) 13) = r_ ∧ m15 = m_))  m15 ⟨rfl, rfl⟩))
          obtain ⟨rfl, rfl⟩ := q30
          replace h := h
          refine ch_if_ne (tgt := 126) d_l_law_114 (by decide) (fun c => ?_) (fun c => ?_)
          · replace h := h.1 c
            refine ch_iconst (v := 0) d_l_law_126 (by decide) ?_
            exact h
          · replace h := h.2 c
            refine ch_aload_n (i := 1) d_l_law_117 rfl rfl ?_
            refine ch_bipush (v := 11) d_l_law_118 (by decide) ?_
            have b34 := h.1
            replace h := h.2
            have b35 := h.1
            replace h := h.2
            refine ch_callSX (as := [.inr (0, 0, 0), .inl (.int 11)]) d_l_law_120 lk_l_186 ms_l_account rfl rfl (ch_hR hR (Nat.le_of_ble_eq_true rfl)) (Nat.le_of_ble_eq_true rfl) (ch_rcL (a := 3) (b := 1) hC hk (Nat.le_of_ble_eq_true rfl)) (ch_mono (ch_Ki (fun r31 m32 q33 => ?_)) (t2_l_account g (fun (r_ : Int32) (m_ : ch_M) => ((m15 (6, 0, 0) 1) = r_ ∧ m15 = m_)) (11) m15 ⟨b34, b35, ⟨rfl, rfl⟩⟩))
            obtain ⟨rfl, rfl⟩ := q33
            replace h := h
            refine ch_if_eq (tgt := 128) d_l_law_123 (by decide) (fun c => ?_) (fun c => ?_)
            · replace h := h.1 c
              refine ch_iconst (v := 1) d_l_law_128 (by decide) ?_
              refine ch_istore_n (i := 2) d_l_law_129 rfl (Nat.le_of_ble_eq_true rfl) (ls' := [some (.inr (11, 0, 0)), some (.inr (0, 0, 0)), some (.inl (.int 1)), o3, o4, o5, o6, o7, o8, o9, o10]) rfl ?_
              exact h
            · replace h := h.2 c
              refine ch_iconst (v := 0) d_l_law_126 (by decide) ?_
              exact h
        · replace h := h.2.2 c_ M13 f0_ f1_ f2_ f3_ f4_ m15 hm_
          refine ch_sipush (v := (-1001)) d_l_law_104 (by decide) ?_
          refine ch_icmp_ne (tgt := 126) d_l_law_107 (by decide) (fun _ => ?_) (fun c => absurd c (by decide))
          refine ch_iconst (v := 0) d_l_law_126 (by decide) ?_
          exact h
  · replace h := h.2 c_
    refine ch_sipush (v := (-1001)) d_l_law_83 (by decide) ?_
    refine ch_icmp_ne (tgt := 126) d_l_law_86 (by decide) (fun c => absurd c (by decide)) (fun _ => ?_)
    refine ch_aload_n (i := 1) d_l_law_89 rfl rfl ?_
    refine ch_bipush (v := 11) d_l_law_90 (by decide) ?_
    have b39 := h.1
    replace h := h.2
    have b40 := h.1
    replace h := h.2
    refine ch_callSX (as := [.inr (0, 0, 0), .inl (.int 11)]) d_l_law_92 lk_l_186 ms_l_account rfl rfl (ch_hR hR (Nat.le_of_ble_eq_true rfl)) (Nat.le_of_ble_eq_true rfl) (ch_rcL (a := 1) (b := 1) hC hk (Nat.le_of_ble_eq_true rfl)) (ch_mono (ch_Ki (fun r36 m37 q38 => ?_)) (t2_l_account g (fun (r_ : Int32) (m_ : ch_M) => ((m (6, 0, 0) 1) = r_ ∧ m = m_)) (11) m ⟨b39, b40, ⟨rfl, rfl⟩⟩))
    obtain ⟨rfl, rfl⟩ := q38
    replace h := h
    refine ch_bipush (v := 60) d_l_law_95 (by decide) ?_
    refine ch_icmp_ne (tgt := 126) d_l_law_97 (by decide) (fun c => ?_) (fun c => ?_)
    · replace h := h.1 c
      refine ch_iconst (v := 0) d_l_law_126 (by decide) ?_
      exact h
    · replace h := h.2 c
      refine ch_aload_n (i := 1) d_l_law_100 rfl rfl ?_
      obtain ⟨A_41, h⟩ := h
      have b48 := h.1
      replace h := h.2
      have b49 := h.1
      replace h := h.2
      have b50 := h.1
      replace h := h.2
      refine ch_callSX (as := [.inr (0, 0, 0)]) d_l_law_101 lk_l_134 ms_l_commands rfl rfl (ch_hR hR (Nat.le_of_ble_eq_true rfl)) (Nat.le_of_ble_eq_true rfl) (ch_rcL (a := 2) (b := 1) hC hk (Nat.le_of_ble_eq_true rfl)) (ch_mono (ch_Ki (fun r45 m46 q47 => ?_)) (t_l_commands g (fun (r_ : Int32) (m_ : ch_M) => (∃ (M42 : ch_M), ((x_F m).1 = -1 ∧ ¬ (x_cc m).1 = 0) ∧ ((x_cc m).1) = r_ ∧ (a_S (a_c0 (a_up A_41 (A_41.1 + 720) (ch_ob m 1 0))) M42) ∧ ((0 : Int32) ≤ (x_cc m).1) ∧ (∀ k_, M42 (14, 0, 1) k_ = m (14, 0, 1) k_) ∧ m_ = M42) ∨ (∃ (M43 : ch_M), (¬ (x_F m).1 = -1) ∧ (-1001) = r_ ∧ (a_S (a_c0 A_41) M43) ∧ (ch_ob M43 1 0 = ch_ob m 1 0) ∧ (M43 (0, 0, 0) 13 = (x_F m).1) ∧ (∀ k_, M43 (14, 0, 1) k_ = m (14, 0, 1) k_) ∧ m_ = M43) ∨ (∃ (M44 : ch_M), ((x_F m).1 = -1 ∧ (x_cc m).1 = 0) ∧ (-1002) = r_ ∧ (a_S (a_c0 A_41) M44) ∧ (y_sm (ch_ob m 1 0) (ch_ob M44 1 0)) ∧ (M44 (0, 0, 0) 13 = -1) ∧ (∀ i_, M44 (3, 0, 0) i_ = (x_cc m).2 (3, 0, 0) i_) ∧ (∀ k_, M44 (14, 0, 1) k_ = m (14, 0, 1) k_) ∧ m_ = M44)) (A_41) m ⟨b48, b49, b50, (fun c_ M42 f0_ f1_ f2_ => (Or.inl ⟨M42, c_, rfl, f0_, f1_, f2_, rfl⟩)), (fun c_ M43 f0_ f1_ f2_ f3_ => (Or.inr (Or.inl ⟨M43, c_, rfl, f0_, f1_, f2_, f3_, rfl⟩))), (fun c_ M44 f0_ f1_ f2_ f3_ f4_ => (Or.inr (Or.inr ⟨M44, c_, rfl, f0_, f1_, f2_, f3_, f4_, rfl⟩)))⟩))
      rcases q47 with ⟨M42, c_, rfl, f0_, f1_, f2_, hm_⟩ | ⟨M43, c_, rfl, f0_, f1_, f2_, f3_, hm_⟩ | ⟨M44, c_, rfl, f0_, f1_, f2_, f3_, f4_, hm_⟩
      · replace h := h.1 c_ M42 f0_ f1_ f2_ m46 hm_
        refine ch_sipush (v := (-1001)) d_l_law_104 (by decide) ?_
        refine ch_icmp_ne (tgt := 126) d_l_law_107 (by decide) (fun c => ?_) (fun c => ?_)
        · replace h := h.1 c
          refine ch_iconst (v := 0) d_l_law_126 (by decide) ?_
          exact h
        · replace h := h.2 c
          refine ch_aload_n (i := 1) d_l_law_110 rfl rfl ?_
          refine ch_callV (as := []) d_l_law_111 lk_l_271 mi_x_faultPosition me_x_faultPosition rfl rfl rfl (ch_hR hR (Nat.le_of_ble_eq_true rfl)) (Nat.le_of_ble_eq_true rfl) (ch_rcL (a := 3) (b := 0) hC hk (Nat.le_of_ble_eq_true rfl)) (ch_mono (ch_Ki (fun r51 m52 q53 => ?_)) (s_x_faultPosition g (fun (r_ : Int32) (m_ : ch_M) => ((m46 (0, 0, 0) 13) = r_ ∧ m46 = m_))  m46 ⟨rfl, rfl⟩))
          obtain ⟨rfl, rfl⟩ := q53
          replace h := h
          refine ch_if_ne (tgt := 126) d_l_law_114 (by decide) (fun c => ?_) (fun c => ?_)
          · replace h := h.1 c
            refine ch_iconst (v := 0) d_l_law_126 (by decide) ?_
            exact h
          · replace h := h.2 c
            refine ch_aload_n (i := 1) d_l_law_117 rfl rfl ?_
            refine ch_bipush (v := 11) d_l_law_118 (by decide) ?_
            have b57 := h.1
            replace h := h.2
            have b58 := h.1
            replace h := h.2
            refine ch_callSX (as := [.inr (0, 0, 0), .inl (.int 11)]) d_l_law_120 lk_l_186 ms_l_account rfl rfl (ch_hR hR (Nat.le_of_ble_eq_true rfl)) (Nat.le_of_ble_eq_true rfl) (ch_rcL (a := 3) (b := 1) hC hk (Nat.le_of_ble_eq_true rfl)) (ch_mono (ch_Ki (fun r54 m55 q56 => ?_)) (t2_l_account g (fun (r_ : Int32) (m_ : ch_M) => ((m46 (6, 0, 0) 1) = r_ ∧ m46 = m_)) (11) m46 ⟨b57, b58, ⟨rfl, rfl⟩⟩))
            obtain ⟨rfl, rfl⟩ := q56
            replace h := h
            refine ch_if_eq (tgt := 128) d_l_law_123 (by decide) (fun c => ?_) (fun c => ?_)
            · replace h := h.1 c
              refine ch_iconst (v := 1) d_l_law_128 (by decide) ?_
              refine ch_istore_n (i := 2) d_l_law_129 rfl (Nat.le_of_ble_eq_true rfl) (ls' := [some (.inr (11, 0, 0)), some (.inr (0, 0, 0)), some (.inl (.int 1)), o3, o4, o5, o6, o7, o8, o9, o10]) rfl ?_
              exact h
            · replace h := h.2 c
              refine ch_iconst (v := 0) d_l_law_126 (by decide) ?_
              exact h
      · replace h := h.2.1 c_ M43 f0_ f1_ f2_ f3_ m46 hm_
        refine ch_sipush (v := (-1001)) d_l_law_104 (by decide) ?_
        refine ch_icmp_ne (tgt := 126) d_l_law_107 (by decide) (fun c => absurd c (by decide)) (fun _ => ?_)
        refine ch_aload_n (i := 1) d_l_law_110 rfl rfl ?_
        refine ch_callV (as := []) d_l_law_111 lk_l_271 mi_x_faultPosition me_x_faultPosition rfl rfl rfl (ch_hR hR (Nat.le_of_ble_eq_true rfl)) (Nat.le_of_ble_eq_true rfl) (ch_rcL (a := 3) (b := 0) hC hk (Nat.le_of_ble_eq_true rfl)) (ch_mono (ch_Ki (fun r59 m60 q61 => ?_)) (s_x_faultPosition g (fun (r_ : Int32) (m_ : ch_M) => ((m46 (0, 0, 0) 13) = r_ ∧ m46 = m_))  m46 ⟨rfl, rfl⟩))
        obtain ⟨rfl, rfl⟩ := q61
        replace h := h
        refine ch_if_ne (tgt := 126) d_l_law_114 (by decide) (fun c => ?_) (fun c => ?_)
        · replace h := h.1 c
          refine ch_iconst (v := 0) d_l_law_126 (by decide) ?_
          exact h
        · replace h := h.2 c
          refine ch_aload_n (i := 1) d_l_law_117 rfl rfl ?_
          refine ch_bipush (v := 11) d_l_law_118 (by decide) ?_
          have b65 := h.1
          replace h := h.2
          have b66 := h.1
          replace h := h.2
          refine ch_callSX (as := [.inr (0, 0, 0), .inl (.int 11)]) d_l_law_120 lk_l_186 ms_l_account rfl rfl (ch_hR hR (Nat.le_of_ble_eq_true rfl)) (Nat.le_of_ble_eq_true rfl) (ch_rcL (a := 3) (b := 1) hC hk (Nat.le_of_ble_eq_true rfl)) (ch_mono (ch_Ki (fun r62 m63 q64 => ?_)) (t2_l_account g (fun (r_ : Int32) (m_ : ch_M) => ((m46 (6, 0, 0) 1) = r_ ∧ m46 = m_)) (11) m46 ⟨b65, b66, ⟨rfl, rfl⟩⟩))
          obtain ⟨rfl, rfl⟩ := q64
          replace h := h
          refine ch_if_eq (tgt := 128) d_l_law_123 (by decide) (fun c => ?_) (fun c => ?_)
          · replace h := h.1 c
            refine ch_iconst (v := 1) d_l_law_128 (by decide) ?_
            refine ch_istore_n (i := 2) d_l_law_129 rfl (Nat.le_of_ble_eq_true rfl) (ls' := [some (.inr (11, 0, 0)), some (.inr (0, 0, 0)), some (.inl (.int 1)), o3, o4, o5, o6, o7, o8, o9, o10]) rfl ?_
            exact h
          · replace h := h.2 c
            refine ch_iconst (v := 0) d_l_law_126 (by decide) ?_
            exact h
      · replace h := h.2.2 c_ M44 f0_ f1_ f2_ f3_ f4_ m46 hm_
        refine ch_sipush (v := (-1001)) d_l_law_104 (by decide) ?_
        refine ch_icmp_ne (tgt := 126) d_l_law_107 (by decide) (fun _ => ?_) (fun c => absurd c (by decide))
        refine ch_iconst (v := 0) d_l_law_126 (by decide) ?_
        exact h
set_option maxHeartbeats 1600000 in
theorem g_l_law_130 (g : ch_G) (R : Room) (E : ch_En) (k : Nat) (hR : ch_RR R 18) (hC : 120000 ≤ R.cells ∧ 720000 ≤ R.slots) (hk : k + 1 ≤ 120000) (x2 : Int32) (o3 : Option ch_V) (o4 : Option ch_V) (o5 : Option ch_V) (o6 : Option ch_V) (o7 : Option ch_V) (o8 : Option ch_V) (o9 : Option ch_V) (o10 : Option ch_V) (m : ch_M) (h : ((5 ≤ x2 → ch_J g m_l_law R E 152 [some (.inr (11, 0, 0)), some (.inr (0, 0, 0)), some (.inl (.int x2)), o3, o4, o5, o6, o7, o8, o9, o10] [] m k) ∧ (¬ 5 ≤ x2 → (∃ A_1 : a_G, (∃ Y_2 : ch_B, (∃ R_3 : Int32 × Int32 × Int32, (∃ X_4 : ch_B, (∃ v_5 : Int32, (a_W A_1 Y_2 R_3 m) ∧ (A_1.1 + 732 < 2 ^ 31) ∧ (∀ Z_, y_sm Y_2 Z_ → r_wn Z_ x2 = (0, 0) ∧ y_sm X_4 (y_briB Z_ x2) ∧ Z_ 0 8 + 1 - 1 = v_5) ∧ ((∀ (M6 : ch_M), (a_W (a_up A_1 (A_1.1 + 12) Y_2) X_4 (M6 (3, 0, 0) 0, M6 (3, 0, 0) 1, M6 (3, 0, 0) 2) M6) → (∀ m8 : ch_M, m8 = M6 → ((v_5 = x2 → ch_J g m_l_law R E 130 [some (.inr (11, 0, 0)), some (.inr (0, 0, 0)), some (.inl (.int (x2 + 1))), o3, o4, o5, o6, o7, o8, o9, o10] [] m8 (k + 1)) ∧ (¬ v_5 = x2 → ch_J g m_l_law R E 145 [some (.inr (11, 0, 0)), some (.inr (0, 0, 0)), some (.inl (.int x2)), o3, o4, o5, o6, o7, o8, o9, o10] [.inl (.int 0)] m8 (k + 1)))))))))))))) : ch_J g m_l_law R E 130 [some (.inr (11, 0, 0)), some (.inr (0, 0, 0)), some (.inl (.int x2)), o3, o4, o5, o6, o7, o8, o9, o10] [] m k := by
  refine ch_iload_n (i := 2) d_l_law_130 rfl rfl ?_
  refine ch_iconst (v := 5) d_l_law_131 (by decide) ?_
  refine ch_icmp_ge (tgt := 152) d_l_law_132 (by decide) (fun c => ?_) (fun c => ?_)
  · replace h := h.1 c
    exact h
  · replace h := h.2 c
    refine ch_aload_n (i := 1) d_l_law_135 rfl rfl ?_
    refine ch_iload_n (i := 2) d_l_law_136 rfl rfl ?_
    obtain ⟨A_1, h⟩ := h
    obtain ⟨Y_2, h⟩ := h
    obtain ⟨R_3, h⟩ := h
    obtain ⟨X_4, h⟩ := h
    obtain ⟨v_5, h⟩ := h
    have b10 := h.1
    replace h := h.2
    have b11 := h.1
    replace h := h.2
    have b12 := h.1
    replace h := h.2
    refine ch_callSX (as := [.inr (0, 0, 0), .inl (.int x2)]) d_l_law_137 lk_l_153 ms_l_child rfl rfl (ch_hR hR (Nat.le_of_ble_eq_true rfl)) (Nat.le_of_ble_eq_true rfl) (ch_rcL0 (b := 1) hC hk (Nat.le_of_ble_eq_true rfl)) (ch_mono (ch_Ki (fun r7 m8 q9 => ?_)) (c_l_child g (fun (r_ : Int32) (m_ : ch_M) => (∃ (M6 : ch_M), v_5 = r_ ∧ (a_W (a_up A_1 (A_1.1 + 12) Y_2) X_4 (M6 (3, 0, 0) 0, M6 (3, 0, 0) 1, M6 (3, 0, 0) 2) M6) ∧ m_ = M6)) (A_1) (Y_2) (R_3) (X_4) (v_5) (x2) m ⟨b10, b11, b12, (fun M6 f0_ => ⟨M6, rfl, f0_, rfl⟩)⟩))
    obtain ⟨M6, rfl, f0_, hm_⟩ := q9
    replace h := h M6 f0_ m8 hm_
    refine ch_iload_n (i := 2) d_l_law_140 rfl rfl ?_
    refine ch_icmp_eq (tgt := 146) d_l_law_141 (by decide) (fun c => ?_) (fun c => ?_)
    · replace h := h.1 c
      refine ch_iinc (i := 2) (v := (x2 + 1)) d_l_law_146 rfl rfl (Nat.le_of_ble_eq_true rfl) (ls' := [some (.inr (11, 0, 0)), some (.inr (0, 0, 0)), some (.inl (.int (x2 + 1))), o3, o4, o5, o6, o7, o8, o9, o10]) rfl ?_
      refine ch_goto (tgt := 130) d_l_law_149 (by decide) ?_
      exact h
    · replace h := h.2 c
      refine ch_iconst (v := 0) d_l_law_144 (by decide) ?_
      exact h
set_option maxHeartbeats 1600000 in
theorem g_l_law_152 (g : ch_G) (R : Room) (E : ch_En) (k : Nat) (hR : ch_RR R 18) (hC : 120000 ≤ R.cells ∧ 720000 ≤ R.slots) (hk : k + 5 ≤ 120000) (x2 : Int32) (o3 : Option ch_V) (o4 : Option ch_V) (o5 : Option ch_V) (o6 : Option ch_V) (o7 : Option ch_V) (o8 : Option ch_V) (o9 : Option ch_V) (o10 : Option ch_V) (m : ch_M) (h : (∃ A_1 : a_G, (∃ Y_2 : ch_B, (∃ R_3 : Int32 × Int32 × Int32, (∃ w_4 : Int32, (∃ e_5 : Int32, (a_W A_1 Y_2 R_3 m) ∧ (∀ Z_, y_sm Y_2 Z_ → r_wn Z_ 1 = (w_4, e_5)) ∧ (¬ w_4 = 0) ∧ ((∀ (M6 : ch_M), (a_W A_1 Y_2 (w_4, e_5, 0) M6) → (∀ m8 : ch_M, m8 = M6 → (∃ A_13 : a_G, (∃ Y_14 : ch_B, (a_W A_13 Y_14 (2, 5, 0) m8) ∧ (¬ 2 = (0 : Int32)) ∧ (ch_J g m_l_law R E 172 [some (.inr (11, 0, 0)), some (.inr (0, 0, 0)), some (.inl (.int x2)), o3, o4, o5, o6, o7, o8, o9, o10] [] m8 (k + 5))))))))))))) : ch_J g m_l_law R E 152 [some (.inr (11, 0, 0)), some (.inr (0, 0, 0)), some (.inl (.int x2)), o3, o4, o5, o6, o7, o8, o9, o10] [] m k := by
  refine ch_aload_n (i := 1) d_l_law_152 rfl rfl ?_
  refine ch_iconst (v := 1) d_l_law_153 (by decide) ?_
  obtain ⟨A_1, h⟩ := h
  obtain ⟨Y_2, h⟩ := h
  obtain ⟨R_3, h⟩ := h
  obtain ⟨w_4, h⟩ := h
  obtain ⟨e_5, h⟩ := h
  have b10 := h.1
  replace h := h.2
  have b11 := h.1
  replace h := h.2
  have b12 := h.1
  replace h := h.2
  refine ch_callSX (as := [.inr (0, 0, 0), .inl (.int 1)]) d_l_law_154 lk_l_153 ms_l_child rfl rfl (ch_hR hR (Nat.le_of_ble_eq_true rfl)) (Nat.le_of_ble_eq_true rfl) (ch_rcL0 (b := 1) hC hk (Nat.le_of_ble_eq_true rfl)) (ch_mono (ch_Ki (fun r7 m8 q9 => ?_)) (r_l_child g (fun (r_ : Int32) (m_ : ch_M) => (∃ (M6 : ch_M), (-1001) = r_ ∧ (a_W A_1 Y_2 (w_4, e_5, 0) M6) ∧ m_ = M6)) (A_1) (Y_2) (R_3) (w_4) (e_5) (1) m ⟨b10, b11, b12, (fun M6 f0_ => ⟨M6, rfl, f0_, rfl⟩)⟩))
  obtain ⟨M6, rfl, f0_, hm_⟩ := q9
  replace h := h M6 f0_ m8 hm_
  refine ch_sipush (v := (-1001)) d_l_law_157 (by decide) ?_
  refine ch_icmp_ne (tgt := 192) d_l_law_160 (by decide) (fun c => absurd c (by decide)) (fun _ => ?_)
  refine ch_aload_n (i := 1) d_l_law_163 rfl rfl ?_
  refine ch_iconst (v := 2) d_l_law_164 (by decide) ?_
  refine ch_iconst (v := 5) d_l_law_165 (by decide) ?_
  obtain ⟨A_13, h⟩ := h
  obtain ⟨Y_14, h⟩ := h
  have b18 := h.1
  replace h := h.2
  have b19 := h.1
  replace h := h.2
  refine ch_callS (as := [.inr (0, 0, 0), .inl (.int 2), .inl (.int 5)]) d_l_law_166 lk_l_258 ms_l_is rfl rfl (ch_hR hR (Nat.le_of_ble_eq_true rfl)) (Nat.le_of_ble_eq_true rfl) (ch_rcL (a := 1) (b := 4) hC hk (Nat.le_of_ble_eq_true rfl)) (ch_mono (ch_Ki (fun r15 m16 q17 => ?_)) (r_l_is g (fun (r_ : Int32) (m_ : ch_M) => (1 = r_ ∧ m8 = m_)) (A_13) (Y_14) (2) (5) m8 ⟨b18, b19, ⟨rfl, rfl⟩⟩))
  obtain ⟨rfl, rfl⟩ := q17
  replace h := h
  refine ch_if_eq (tgt := 192) d_l_law_169 (by decide) (fun c => absurd c (by decide)) (fun _ => ?_)
  exact h
set_option maxHeartbeats 1600000 in
theorem g_l_law_172 (g : ch_G) (R : Room) (E : ch_En) (k : Nat) (hR : ch_RR R 18) (hC : 120000 ≤ R.cells ∧ 720000 ≤ R.slots) (hk : k + 2 ≤ 120000) (x2 : Int32) (o3 : Option ch_V) (o4 : Option ch_V) (o5 : Option ch_V) (o6 : Option ch_V) (o7 : Option ch_V) (o8 : Option ch_V) (o9 : Option ch_V) (o10 : Option ch_V) (m : ch_M) (h : (∃ A_1 : a_G, (∃ Y_2 : ch_B, (∃ R_3 : Int32 × Int32 × Int32, (a_W A_1 Y_2 R_3 m) ∧ (10 = (10 : Int32)) ∧ (((¬ (nI A_1.2.1) = 5 → ch_J g m_l_law R E 193 [some (.inr (11, 0, 0)), some (.inr (0, 0, 0)), some (.inl (.int x2)), o3, o4, o5, o6, o7, o8, o9, o10] [.inl (.int 0)] m (k + 1)) ∧ ((nI A_1.2.1) = 5 → (∃ A_9 : a_G, (∃ Y_10 : ch_B, (∃ R_11 : Int32 × Int32 × Int32, (a_W A_9 Y_10 R_11 m) ∧ ((0 : Int32) ≤ 1 ∧ 1 ≤ (9 : Int32)) ∧ ((∀ (M12 : ch_M), (a_W A_9 Y_10 R_11 M12) → (∀ m14 : ch_M, m14 = M12 → (((x_acR (y_can Y_10) 0 0 1) = 109 → ch_J g m_l_law R E 196 [some (.inr (11, 0, 0)), some (.inr (0, 0, 0)), some (.inl (.int 0)), o3, o4, o5, o6, o7, o8, o9, o10] [] m14 (k + 2)) ∧ (¬ (x_acR (y_can Y_10) 0 0 1) = 109 → ch_J g m_l_law R E 193 [some (.inr (11, 0, 0)), some (.inr (0, 0, 0)), some (.inl (.int x2)), o3, o4, o5, o6, o7, o8, o9, o10] [.inl (.int 0)] m14 (k + 2)))))))))))))))) : ch_J g m_l_law R E 172 [some (.inr (11, 0, 0)), some (.inr (0, 0, 0)), some (.inl (.int x2)), o3, o4, o5, o6, o7, o8, o9, o10] [] m k := by
  refine ch_aload_n (i := 1) d_l_law_172 rfl rfl ?_
  refine ch_bipush (v := 10) d_l_law_173 (by decide) ?_
  obtain ⟨A_1, h⟩ := h
  obtain ⟨Y_2, h⟩ := h
  obtain ⟨R_3, h⟩ := h
  have b7 := h.1
  replace h := h.2
  have b8 := h.1
  replace h := h.2
  refine ch_callSX (as := [.inr (0, 0, 0), .inl (.int 10)]) d_l_law_175 lk_l_186 ms_l_account rfl rfl (ch_hR hR (Nat.le_of_ble_eq_true rfl)) (Nat.le_of_ble_eq_true rfl) (ch_rcL0 (b := 1) hC hk (Nat.le_of_ble_eq_true rfl)) (ch_mono (ch_Ki (fun r4 m5 q6 => ?_)) (k_l_account g (fun (r_ : Int32) (m_ : ch_M) => ((nI A_1.2.1) = r_ ∧ m = m_)) (A_1) (Y_2) (R_3) (10) m ⟨b7, b8, ⟨rfl, rfl⟩⟩))
  obtain ⟨rfl, rfl⟩ := q6
  replace h := h
  refine ch_iconst (v := 5) d_l_law_178 (by decide) ?_
  refine ch_icmp_ne (tgt := 192) d_l_law_179 (by decide) (fun c => ?_) (fun c => ?_)
  · replace h := h.1 c
    refine ch_iconst (v := 0) d_l_law_192 (by decide) ?_
    exact h
  · replace h := h.2 c
    refine ch_aload_n (i := 1) d_l_law_182 rfl rfl ?_
    refine ch_iconst (v := 1) d_l_law_183 (by decide) ?_
    obtain ⟨A_9, h⟩ := h
    obtain ⟨Y_10, h⟩ := h
    obtain ⟨R_11, h⟩ := h
    have b16 := h.1
    replace h := h.2
    have b17 := h.1
    replace h := h.2
    refine ch_callSX (as := [.inr (0, 0, 0), .inl (.int 1)]) d_l_law_184 lk_l_186 ms_l_account rfl rfl (ch_hR hR (Nat.le_of_ble_eq_true rfl)) (Nat.le_of_ble_eq_true rfl) (ch_rcL (a := 1) (b := 1) hC hk (Nat.le_of_ble_eq_true rfl)) (ch_mono (ch_Ki (fun r13 m14 q15 => ?_)) (r_l_account g (fun (r_ : Int32) (m_ : ch_M) => (∃ (M12 : ch_M), (x_acR (y_can Y_10) 0 0 1) = r_ ∧ (a_W A_9 Y_10 R_11 M12) ∧ m_ = M12)) (A_9) (Y_10) (R_11) (1) m ⟨b16, b17, (fun M12 f0_ => ⟨M12, rfl, f0_, rfl⟩)⟩))
    obtain ⟨M12, rfl, f0_, hm_⟩ := q15
    replace h := h M12 f0_ m14 hm_
    refine ch_bipush (v := 109) d_l_law_187 (by decide) ?_
    refine ch_icmp_eq (tgt := 194) d_l_law_189 (by decide) (fun c => ?_) (fun c => ?_)
    · replace h := h.1 c
      refine ch_iconst (v := 0) d_l_law_194 (by decide) ?_
      refine ch_istore_n (i := 2) d_l_law_195 rfl (Nat.le_of_ble_eq_true rfl) (ls' := [some (.inr (11, 0, 0)), some (.inr (0, 0, 0)), some (.inl (.int 0)), o3, o4, o5, o6, o7, o8, o9, o10]) rfl ?_
      exact h
    · replace h := h.2 c
      refine ch_iconst (v := 0) d_l_law_192 (by decide) ?_
      exact h
set_option maxHeartbeats 1600000 in
theorem g_l_law_196 (g : ch_G) (R : Room) (E : ch_En) (k : Nat) (hR : ch_RR R 18) (hC : 120000 ≤ R.cells ∧ 720000 ≤ R.slots) (hk : k + 1 ≤ 120000) (x2 : Int32) (o3 : Option ch_V) (o4 : Option ch_V) (o5 : Option ch_V) (o6 : Option ch_V) (o7 : Option ch_V) (o8 : Option ch_V) (o9 : Option ch_V) (o10 : Option ch_V) (m : ch_M) (h : ((12 ≤ x2 → ch_J g m_l_law R E 220 [some (.inr (11, 0, 0)), some (.inr (0, 0, 0)), some (.inl (.int x2)), o3, o4, o5, o6, o7, o8, o9, o10] [] m k) ∧ (¬ 12 ≤ x2 → (∃ A_1 : a_G, (∃ Y_2 : ch_B, (∃ R_3 : Int32 × Int32 × Int32, (∃ X_4 : ch_B, (∃ v_5 : Int32, (a_W A_1 Y_2 R_3 m) ∧ (A_1.1 + 732 < 2 ^ 31) ∧ (∀ Z_, y_sm Y_2 Z_ → r_wc Z_ 0 x2 = (0, 0) ∧ y_sm X_4 (y_chaB Z_ 0 x2) ∧ y_chv Z_ x2 = v_5) ∧ ((∀ (M6 : ch_M), (a_W (a_up A_1 (A_1.1 + 12) Y_2) X_4 (M6 (3, 0, 0) 0, M6 (3, 0, 0) 1, M6 (3, 0, 0) 2) M6) → (∀ m8 : ch_M, m8 = M6 → ((v_5 = 5 → ch_J g m_l_law R E 196 [some (.inr (11, 0, 0)), some (.inr (0, 0, 0)), some (.inl (.int (x2 + 1))), o3, o4, o5, o6, o7, o8, o9, o10] [] m8 (k + 1)) ∧ (¬ v_5 = 5 → ch_J g m_l_law R E 213 [some (.inr (11, 0, 0)), some (.inr (0, 0, 0)), some (.inl (.int x2)), o3, o4, o5, o6, o7, o8, o9, o10] [.inl (.int 0)] m8 (k + 1)))))))))))))) : ch_J g m_l_law R E 196 [some (.inr (11, 0, 0)), some (.inr (0, 0, 0)), some (.inl (.int x2)), o3, o4, o5, o6, o7, o8, o9, o10] [] m k := by
  refine ch_iload_n (i := 2) d_l_law_196 rfl rfl ?_
  refine ch_bipush (v := 12) d_l_law_197 (by decide) ?_
  refine ch_icmp_ge (tgt := 220) d_l_law_199 (by decide) (fun c => ?_) (fun c => ?_)
  · replace h := h.1 c
    exact h
  · replace h := h.2 c
    refine ch_aload_n (i := 1) d_l_law_202 rfl rfl ?_
    refine ch_iconst (v := 0) d_l_law_203 (by decide) ?_
    refine ch_iload_n (i := 2) d_l_law_204 rfl rfl ?_
    obtain ⟨A_1, h⟩ := h
    obtain ⟨Y_2, h⟩ := h
    obtain ⟨R_3, h⟩ := h
    obtain ⟨X_4, h⟩ := h
    obtain ⟨v_5, h⟩ := h
    have b10 := h.1
    replace h := h.2
    have b11 := h.1
    replace h := h.2
    have b12 := h.1
    replace h := h.2
    refine ch_callSX (as := [.inr (0, 0, 0), .inl (.int 0), .inl (.int x2)]) d_l_law_205 lk_l_155 ms_l_chalk rfl rfl (ch_hR hR (Nat.le_of_ble_eq_true rfl)) (Nat.le_of_ble_eq_true rfl) (ch_rcL0 (b := 1) hC hk (Nat.le_of_ble_eq_true rfl)) (ch_mono (ch_Ki (fun r7 m8 q9 => ?_)) (c_l_chalk g (fun (r_ : Int32) (m_ : ch_M) => (∃ (M6 : ch_M), v_5 = r_ ∧ (a_W (a_up A_1 (A_1.1 + 12) Y_2) X_4 (M6 (3, 0, 0) 0, M6 (3, 0, 0) 1, M6 (3, 0, 0) 2) M6) ∧ m_ = M6)) (A_1) (Y_2) (R_3) (X_4) (v_5) (0) (x2) m ⟨b10, b11, b12, (fun M6 f0_ => ⟨M6, rfl, f0_, rfl⟩)⟩))
    obtain ⟨M6, rfl, f0_, hm_⟩ := q9
    replace h := h M6 f0_ m8 hm_
    refine ch_iconst (v := 5) d_l_law_208 (by decide) ?_
    refine ch_icmp_eq (tgt := 214) d_l_law_209 (by decide) (fun c => ?_) (fun c => ?_)
    · replace h := h.1 c
      refine ch_iinc (i := 2) (v := (x2 + 1)) d_l_law_214 rfl rfl (Nat.le_of_ble_eq_true rfl) (ls' := [some (.inr (11, 0, 0)), some (.inr (0, 0, 0)), some (.inl (.int (x2 + 1))), o3, o4, o5, o6, o7, o8, o9, o10]) rfl ?_
      refine ch_goto (tgt := 196) d_l_law_217 (by decide) ?_
      exact h
    · replace h := h.2 c
      refine ch_iconst (v := 0) d_l_law_212 (by decide) ?_
      exact h
set_option maxHeartbeats 1600000 in
theorem g_l_law_220 (g : ch_G) (R : Room) (E : ch_En) (k : Nat) (hR : ch_RR R 18) (hC : 120000 ≤ R.cells ∧ 720000 ≤ R.slots) (hk : k + 4 ≤ 120000) (x2 : Int32) (o3 : Option ch_V) (o4 : Option ch_V) (o5 : Option ch_V) (o6 : Option ch_V) (o7 : Option ch_V) (o8 : Option ch_V) (o9 : Option ch_V) (o10 : Option ch_V) (m : ch_M) (h : (∃ A_1 : a_G, (∃ Y_2 : ch_B, (∃ R_3 : Int32 × Int32 × Int32, (a_W A_1 Y_2 R_3 m) ∧ (10 = (10 : Int32)) ∧ (((¬ (nI A_1.2.1) = 8 → ch_J g m_l_law R E 309 [some (.inr (11, 0, 0)), some (.inr (0, 0, 0)), some (.inl (.int x2)), o3, o4, o5, o6, o7, o8, o9, o10] [.inl (.int 0)] m (k + 1)) ∧ ((nI A_1.2.1) = 8 → (∃ A_9 : a_G, (∃ Y_10 : ch_B, (∃ R_11 : Int32 × Int32 × Int32, (a_W A_9 Y_10 R_11 m) ∧ ((0 : Int32) ≤ 0 ∧ 0 < Y_10 0 8) ∧ ((0 : Int32) ≤ 0 ∧ 0 ≤ (6 : Int32)) ∧ ((∀ (M12 : ch_M), (a_W A_9 Y_10 R_11 M12) → (∀ m14 : ch_M, m14 = M12 → ((¬ (x_coR (y_can Y_10) 0 0) = 87 → ch_J g m_l_law R E 309 [some (.inr (11, 0, 0)), some (.inr (0, 0, 0)), some (.inl (.int x2)), o3, o4, o5, o6, o7, o8, o9, o10] [.inl (.int 0)] m14 (k + 3)) ∧ ((x_coR (y_can Y_10) 0 0) = 87 → (∃ A_19 : a_G, (∃ Y_20 : ch_B, (∃ R_21 : Int32 × Int32 × Int32, (a_W A_19 Y_20 R_21 m14) ∧ ((0 : Int32) ≤ 1 ∧ 1 < Y_20 0 8) ∧ ((∀ (M22 : ch_M), (a_W A_19 Y_20 R_21 M22) → (∀ m24 : ch_M, m24 = M22 → ((¬ (w_fl z_B (w_l (y_can Y_20) 1) 12 1 0) = 4 → ch_J g m_l_law R E 309 [some (.inr (11, 0, 0)), some (.inr (0, 0, 0)), some (.inl (.int x2)), o3, o4, o5, o6, o7, o8, o9, o10] [.inl (.int 0)] m24 (k + 4)) ∧ ((w_fl z_B (w_l (y_can Y_20) 1) 12 1 0) = 4 → ch_J g m_l_law R E 251 [some (.inr (11, 0, 0)), some (.inr (0, 0, 0)), some (.inl (.int x2)), o3, o4, o5, o6, o7, o8, o9, o10] [] m24 (k + 4)))))))))))))))))))))))) : ch_J g m_l_law R E 220 [some (.inr (11, 0, 0)), some (.inr (0, 0, 0)), some (.inl (.int x2)), o3, o4, o5, o6, o7, o8, o9, o10] [] m k := by
  refine ch_aload_n (i := 1) d_l_law_220 rfl rfl ?_
  refine ch_bipush (v := 10) d_l_law_221 (by decide) ?_
  obtain ⟨A_1, h⟩ := h
  obtain ⟨Y_2, h⟩ := h
  obtain ⟨R_3, h⟩ := h
  have b7 := h.1
  replace h := h.2
  have b8 := h.1
  replace h := h.2
  refine ch_callSX (as := [.inr (0, 0, 0), .inl (.int 10)]) d_l_law_223 lk_l_186 ms_l_account rfl rfl (ch_hR hR (Nat.le_of_ble_eq_true rfl)) (Nat.le_of_ble_eq_true rfl) (ch_rcL0 (b := 1) hC hk (Nat.le_of_ble_eq_true rfl)) (ch_mono (ch_Ki (fun r4 m5 q6 => ?_)) (k_l_account g (fun (r_ : Int32) (m_ : ch_M) => ((nI A_1.2.1) = r_ ∧ m = m_)) (A_1) (Y_2) (R_3) (10) m ⟨b7, b8, ⟨rfl, rfl⟩⟩))
  obtain ⟨rfl, rfl⟩ := q6
  replace h := h
  refine ch_bipush (v := 8) d_l_law_226 (by decide) ?_
  refine ch_icmp_ne (tgt := 308) d_l_law_228 (by decide) (fun c => ?_) (fun c => ?_)
  · replace h := h.1 c
    refine ch_iconst (v := 0) d_l_law_308 (by decide) ?_
    exact h
  · replace h := h.2 c
    refine ch_aload_n (i := 1) d_l_law_231 rfl rfl ?_
    refine ch_iconst (v := 0) d_l_law_232 (by decide) ?_
    refine ch_iconst (v := 0) d_l_law_233 (by decide) ?_
    obtain ⟨A_9, h⟩ := h
    obtain ⟨Y_10, h⟩ := h
    obtain ⟨R_11, h⟩ := h
    have b16 := h.1
    replace h := h.2
    have b17 := h.1
    replace h := h.2
    have b18 := h.1
    replace h := h.2
    refine ch_callSX (as := [.inr (0, 0, 0), .inl (.int 0), .inl (.int 0)]) d_l_law_234 lk_l_188 ms_l_of rfl rfl (ch_hR hR (Nat.le_of_ble_eq_true rfl)) (Nat.le_of_ble_eq_true rfl) (ch_rcL (a := 1) (b := 2) hC hk (Nat.le_of_ble_eq_true rfl)) (ch_mono (ch_Ki (fun r13 m14 q15 => ?_)) (r_l_of g (fun (r_ : Int32) (m_ : ch_M) => (∃ (M12 : ch_M), (x_coR (y_can Y_10) 0 0) = r_ ∧ (a_W A_9 Y_10 R_11 M12) ∧ m_ = M12)) (A_9) (Y_10) (R_11) (0) (0) m ⟨b16, b17, b18, (fun M12 f0_ => ⟨M12, rfl, f0_, rfl⟩)⟩))
    obtain ⟨M12, rfl, f0_, hm_⟩ := q15
    replace h := h M12 f0_ m14 hm_
    refine ch_bipush (v := 87) d_l_law_237 (by decide) ?_
    refine ch_icmp_ne (tgt := 308) d_l_law_239 (by decide) (fun c => ?_) (fun c => ?_)
    · replace h := h.1 c
      refine ch_iconst (v := 0) d_l_law_308 (by decide) ?_
      exact h
    · replace h := h.2 c
      refine ch_aload_n (i := 1) d_l_law_242 rfl rfl ?_
      refine ch_iconst (v := 1) d_l_law_243 (by decide) ?_
      obtain ⟨A_19, h⟩ := h
      obtain ⟨Y_20, h⟩ := h
      obtain ⟨R_21, h⟩ := h
      have b26 := h.1
      replace h := h.2
      have b27 := h.1
      replace h := h.2
      refine ch_callSX (as := [.inr (0, 0, 0), .inl (.int 1)]) d_l_law_244 lk_l_193 ms_l_fewest rfl rfl (ch_hR hR (Nat.le_of_ble_eq_true rfl)) (Nat.le_of_ble_eq_true rfl) (ch_rcL (a := 3) (b := 1) hC hk (Nat.le_of_ble_eq_true rfl)) (ch_mono (ch_Ki (fun r23 m24 q25 => ?_)) (r_l_fewest g (fun (r_ : Int32) (m_ : ch_M) => (∃ (M22 : ch_M), (w_fl z_B (w_l (y_can Y_20) 1) 12 1 0) = r_ ∧ (a_W A_19 Y_20 R_21 M22) ∧ m_ = M22)) (A_19) (Y_20) (R_21) (1) m14 ⟨b26, b27, (fun M22 f0_ => ⟨M22, rfl, f0_, rfl⟩)⟩))
      obtain ⟨M22, rfl, f0_, hm_⟩ := q25
      replace h := h M22 f0_ m24 hm_
      refine ch_iconst (v := 4) d_l_law_247 (by decide) ?_
      refine ch_icmp_ne (tgt := 308) d_l_law_248 (by decide) (fun c => ?_) (fun c => ?_)
      · replace h := h.1 c
        refine ch_iconst (v := 0) d_l_law_308 (by decide) ?_
        exact h
      · replace h := h.2 c
        exact h
set_option maxHeartbeats 1600000 in
theorem g_l_law_251 (g : ch_G) (R : Room) (E : ch_En) (k : Nat) (hR : ch_RR R 18) (hC : 120000 ≤ R.cells ∧ 720000 ≤ R.slots) (hk : k + 8 ≤ 120000) (x2 : Int32) (o3 : Option ch_V) (o4 : Option ch_V) (o5 : Option ch_V) (o6 : Option ch_V) (o7 : Option ch_V) (o8 : Option ch_V) (o9 : Option ch_V) (o10 : Option ch_V) (m : ch_M) (h : (∃ A_1 : a_G, (∃ Y_2 : ch_B, (∃ R_3 : Int32 × Int32 × Int32, (a_W A_1 Y_2 R_3 m) ∧ ((0 : Int32) ≤ 1 ∧ 1 < Y_2 0 8) ∧ ((∀ (M4 : ch_M), (a_W A_1 Y_2 R_3 M4) → (∀ m6 : ch_M, m6 = M4 → ((¬ (V_st (y_can Y_2) 1 0) = 3 → ch_J g m_l_law R E 309 [some (.inr (11, 0, 0)), some (.inr (0, 0, 0)), some (.inl (.int x2)), o3, o4, o5, o6, o7, o8, o9, o10] [.inl (.int 0)] m6 (k + 2)) ∧ ((V_st (y_can Y_2) 1 0) = 3 → (∃ A_10 : a_G, (∃ Y_11 : ch_B, (∃ R_12 : Int32 × Int32 × Int32, (a_W A_10 Y_11 R_12 m6) ∧ ((0 : Int32) ≤ 1 ∧ 1 < Y_11 0 8) ∧ ((∀ (M13 : ch_M), (a_W A_10 Y_11 R_12 M13) → (∀ m15 : ch_M, m15 = M13 → ((¬ (V_st (y_can Y_11) 1 3) = 3 → ch_J g m_l_law R E 309 [some (.inr (11, 0, 0)), some (.inr (0, 0, 0)), some (.inl (.int x2)), o3, o4, o5, o6, o7, o8, o9, o10] [.inl (.int 0)] m15 (k + 4)) ∧ ((V_st (y_can Y_11) 1 3) = 3 → (∃ A_19 : a_G, (∃ Y_20 : ch_B, (∃ R_21 : Int32 × Int32 × Int32, (a_W A_19 Y_20 R_21 m15) ∧ ((0 : Int32) ≤ 1 ∧ 1 < Y_20 0 8) ∧ ((∀ (M22 : ch_M), (a_W A_19 Y_20 R_21 M22) → (∀ m24 : ch_M, m24 = M22 → ((¬ (V_st (y_can Y_20) 1 4) = (-1002) → ch_J g m_l_law R E 309 [some (.inr (11, 0, 0)), some (.inr (0, 0, 0)), some (.inl (.int x2)), o3, o4, o5, o6, o7, o8, o9, o10] [.inl (.int 0)] m24 (k + 6)) ∧ ((V_st (y_can Y_20) 1 4) = (-1002) → (∃ A_28 : a_G, (∃ Y_29 : ch_B, (∃ R_30 : Int32 × Int32 × Int32, (a_W A_28 Y_29 R_30 m24) ∧ ((0 : Int32) ≤ 0 ∧ 0 < Y_29 0 8) ∧ ((∀ (M31 : ch_M), (a_W A_28 Y_29 R_30 M31) → (∀ m33 : ch_M, m33 = M31 → ((¬ (w_fl z_B (w_l (y_can Y_29) 0) 12 1 0) = 0 → ch_J g m_l_law R E 309 [some (.inr (11, 0, 0)), some (.inr (0, 0, 0)), some (.inl (.int x2)), o3, o4, o5, o6, o7, o8, o9, o10] [.inl (.int 0)] m33 (k + 7)) ∧ ((w_fl z_B (w_l (y_can Y_29) 0) 12 1 0) = 0 → (∃ A_37 : a_G, (∃ Y_38 : ch_B, (∃ R_39 : Int32 × Int32 × Int32, (a_W A_37 Y_38 R_39 m33) ∧ ((0 : Int32) ≤ 0 ∧ 0 < Y_38 0 8) ∧ ((∀ (M40 : ch_M), (a_W A_37 Y_38 R_39 M40) → (∀ m42 : ch_M, m42 = M40 → ((¬ ((y_lr ((y_can Y_38) 1) 0 12).1) = 12 → ch_J g m_l_law R E 309 [some (.inr (11, 0, 0)), some (.inr (0, 0, 0)), some (.inl (.int x2)), o3, o4, o5, o6, o7, o8, o9, o10] [.inl (.int 0)] m42 (k + 8)) ∧ (((y_lr ((y_can Y_38) 1) 0 12).1) = 12 → (∃ A_46 : a_G, (∃ Y_47 : ch_B, (∃ R_48 : Int32 × Int32 × Int32, (a_W A_46 Y_47 R_48 m42) ∧ ((∀ (M49 : ch_M), (a_W A_46 Y_47 R_48 M49) → (∀ m51 : ch_M, m51 = M49 → ((((y_lr ((y_can Y_47) 1) (-1) 12).1) = 0 → ch_J g m_l_law R E 310 [some (.inr (11, 0, 0)), some (.inr (0, 0, 0)), some (.inl (.int x2)), o3, o4, o5, o6, o7, o8, o9, o10] [] m51 (k + 8)) ∧ (¬ ((y_lr ((y_can Y_47) 1) (-1) 12).1) = 0 → ch_J g m_l_law R E 309 [some (.inr (11, 0, 0)), some (.inr (0, 0, 0)), some (.inl (.int x2)), o3, o4, o5, o6, o7, o8, o9, o10] [.inl (.int 0)] m51 (k + 8)))))))))))))))))))))))))))))))))))))))))))))))))) : ch_J g m_l_law R E 251 [some (.inr (11, 0, 0)), some (.inr (0, 0, 0)), some (.inl (.int x2)), o3, o4, o5, o6, o7, o8, o9, o10] [] m k := by
  refine ch_aload_n (i := 1) d_l_law_251 rfl rfl ?_
  refine ch_iconst (v := 1) d_l_law_252 (by decide) ?_
  refine ch_iconst (v := 0) d_l_law_253 (by decide) ?_
  obtain ⟨A_1, h⟩ := h
  obtain ⟨Y_2, h⟩ := h
  obtain ⟨R_3, h⟩ := h
  have b8 := h.1
  replace h := h.2
  have b9 := h.1
  replace h := h.2
  refine ch_callSX (as := [.inr (0, 0, 0), .inl (.int 1), .inl (.int 0)]) d_l_law_254 lk_l_205 ms_l_step rfl rfl (ch_hR hR (Nat.le_of_ble_eq_true rfl)) (Nat.le_of_ble_eq_true rfl) (ch_rcL0 (b := 2) hC hk (Nat.le_of_ble_eq_true rfl)) (ch_mono (ch_Ki (fun r5 m6 q7 => ?_)) (r_l_step g (fun (r_ : Int32) (m_ : ch_M) => (∃ (M4 : ch_M), (V_st (y_can Y_2) 1 0) = r_ ∧ (a_W A_1 Y_2 R_3 M4) ∧ m_ = M4)) (A_1) (Y_2) (R_3) (1) (0) m ⟨b8, b9, (fun M4 f0_ => ⟨M4, rfl, f0_, rfl⟩)⟩))
  obtain ⟨M4, rfl, f0_, hm_⟩ := q7
  replace h := h M4 f0_ m6 hm_
  refine ch_iconst (v := 3) d_l_law_257 (by decide) ?_
  refine ch_icmp_ne (tgt := 308) d_l_law_258 (by decide) (fun c => ?_) (fun c => ?_)
  · replace h := h.1 c
    refine ch_iconst (v := 0) d_l_law_308 (by decide) ?_
    exact h
  · replace h := h.2 c
    refine ch_aload_n (i := 1) d_l_law_261 rfl rfl ?_
    refine ch_iconst (v := 1) d_l_law_262 (by decide) ?_
    refine ch_iconst (v := 3) d_l_law_263 (by decide) ?_
    obtain ⟨A_10, h⟩ := h
    obtain ⟨Y_11, h⟩ := h
    obtain ⟨R_12, h⟩ := h
    have b17 := h.1
    replace h := h.2
    have b18 := h.1
    replace h := h.2
    refine ch_callSX (as := [.inr (0, 0, 0), .inl (.int 1), .inl (.int 3)]) d_l_law_264 lk_l_205 ms_l_step rfl rfl (ch_hR hR (Nat.le_of_ble_eq_true rfl)) (Nat.le_of_ble_eq_true rfl) (ch_rcL (a := 2) (b := 2) hC hk (Nat.le_of_ble_eq_true rfl)) (ch_mono (ch_Ki (fun r14 m15 q16 => ?_)) (r_l_step g (fun (r_ : Int32) (m_ : ch_M) => (∃ (M13 : ch_M), (V_st (y_can Y_11) 1 3) = r_ ∧ (a_W A_10 Y_11 R_12 M13) ∧ m_ = M13)) (A_10) (Y_11) (R_12) (1) (3) m6 ⟨b17, b18, (fun M13 f0_ => ⟨M13, rfl, f0_, rfl⟩)⟩))
    obtain ⟨M13, rfl, f0_, hm_⟩ := q16
    replace h := h M13 f0_ m15 hm_
    refine ch_iconst (v := 3) d_l_law_267 (by decide) ?_
    refine ch_icmp_ne (tgt := 308) d_l_law_268 (by decide) (fun c => ?_) (fun c => ?_)
    · replace h := h.1 c
      refine ch_iconst (v := 0) d_l_law_308 (by decide) ?_
      exact h
    · replace h := h.2 c
      refine ch_aload_n (i := 1) d_l_law_271 rfl rfl ?_
      refine ch_iconst (v := 1) d_l_law_272 (by decide) ?_
      refine ch_iconst (v := 4) d_l_law_273 (by decide) ?_
      obtain ⟨A_19, h⟩ := h
      obtain ⟨Y_20, h⟩ := h
      obtain ⟨R_21, h⟩ := h
      have b26 := h.1
      replace h := h.2
      have b27 := h.1
      replace h := h.2
      refine ch_callSX (as := [.inr (0, 0, 0), .inl (.int 1), .inl (.int 4)]) d_l_law_274 lk_l_205 ms_l_step rfl rfl (ch_hR hR (Nat.le_of_ble_eq_true rfl)) (Nat.le_of_ble_eq_true rfl) (ch_rcL (a := 4) (b := 2) hC hk (Nat.le_of_ble_eq_true rfl)) (ch_mono (ch_Ki (fun r23 m24 q25 => ?_)) (r_l_step g (fun (r_ : Int32) (m_ : ch_M) => (∃ (M22 : ch_M), (V_st (y_can Y_20) 1 4) = r_ ∧ (a_W A_19 Y_20 R_21 M22) ∧ m_ = M22)) (A_19) (Y_20) (R_21) (1) (4) m15 ⟨b26, b27, (fun M22 f0_ => ⟨M22, rfl, f0_, rfl⟩)⟩))
      obtain ⟨M22, rfl, f0_, hm_⟩ := q25
      replace h := h M22 f0_ m24 hm_
      refine ch_sipush (v := (-1002)) d_l_law_277 (by decide) ?_
      refine ch_icmp_ne (tgt := 308) d_l_law_280 (by decide) (fun c => ?_) (fun c => ?_)
      · replace h := h.1 c
        refine ch_iconst (v := 0) d_l_law_308 (by decide) ?_
        exact h
      · replace h := h.2 c
        refine ch_aload_n (i := 1) d_l_law_283 rfl rfl ?_
        refine ch_iconst (v := 0) d_l_law_284 (by decide) ?_
        obtain ⟨A_28, h⟩ := h
        obtain ⟨Y_29, h⟩ := h
        obtain ⟨R_30, h⟩ := h
        have b35 := h.1
        replace h := h.2
        have b36 := h.1
        replace h := h.2
        refine ch_callSX (as := [.inr (0, 0, 0), .inl (.int 0)]) d_l_law_285 lk_l_193 ms_l_fewest rfl rfl (ch_hR hR (Nat.le_of_ble_eq_true rfl)) (Nat.le_of_ble_eq_true rfl) (ch_rcL (a := 6) (b := 1) hC hk (Nat.le_of_ble_eq_true rfl)) (ch_mono (ch_Ki (fun r32 m33 q34 => ?_)) (r_l_fewest g (fun (r_ : Int32) (m_ : ch_M) => (∃ (M31 : ch_M), (w_fl z_B (w_l (y_can Y_29) 0) 12 1 0) = r_ ∧ (a_W A_28 Y_29 R_30 M31) ∧ m_ = M31)) (A_28) (Y_29) (R_30) (0) m24 ⟨b35, b36, (fun M31 f0_ => ⟨M31, rfl, f0_, rfl⟩)⟩))
        obtain ⟨M31, rfl, f0_, hm_⟩ := q34
        replace h := h M31 f0_ m33 hm_
        refine ch_if_ne (tgt := 308) d_l_law_288 (by decide) (fun c => ?_) (fun c => ?_)
        · replace h := h.1 c
          refine ch_iconst (v := 0) d_l_law_308 (by decide) ?_
          exact h
        · replace h := h.2 c
          refine ch_aload_n (i := 1) d_l_law_291 rfl rfl ?_
          refine ch_iconst (v := 0) d_l_law_292 (by decide) ?_
          obtain ⟨A_37, h⟩ := h
          obtain ⟨Y_38, h⟩ := h
          obtain ⟨R_39, h⟩ := h
          have b44 := h.1
          replace h := h.2
          have b45 := h.1
          replace h := h.2
          refine ch_callSX (as := [.inr (0, 0, 0), .inl (.int 0)]) d_l_law_293 lk_l_197 ms_l_longest rfl rfl (ch_hR hR (Nat.le_of_ble_eq_true rfl)) (Nat.le_of_ble_eq_true rfl) (ch_rcL (a := 7) (b := 1) hC hk (Nat.le_of_ble_eq_true rfl)) (ch_mono (ch_Ki (fun r41 m42 q43 => ?_)) (r_l_longest g (fun (r_ : Int32) (m_ : ch_M) => (∃ (M40 : ch_M), ((y_lr ((y_can Y_38) 1) 0 12).1) = r_ ∧ (a_W A_37 Y_38 R_39 M40) ∧ m_ = M40)) (A_37) (Y_38) (R_39) (0) m33 ⟨b44, b45, (fun M40 f0_ => ⟨M40, rfl, f0_, rfl⟩)⟩))
          obtain ⟨M40, rfl, f0_, hm_⟩ := q43
          replace h := h M40 f0_ m42 hm_
          refine ch_bipush (v := 12) d_l_law_296 (by decide) ?_
          refine ch_icmp_ne (tgt := 308) d_l_law_298 (by decide) (fun c => ?_) (fun c => ?_)
          · replace h := h.1 c
            refine ch_iconst (v := 0) d_l_law_308 (by decide) ?_
            exact h
          · replace h := h.2 c
            refine ch_aload_n (i := 1) d_l_law_301 rfl rfl ?_
            obtain ⟨A_46, h⟩ := h
            obtain ⟨Y_47, h⟩ := h
            obtain ⟨R_48, h⟩ := h
            have b53 := h.1
            replace h := h.2
            refine ch_callV (as := []) d_l_law_302 lk_l_219 mi_x_gap me_x_gap rfl rfl rfl (ch_hR hR (Nat.le_of_ble_eq_true rfl)) (Nat.le_of_ble_eq_true rfl) (ch_rcL (a := 8) (b := 0) hC hk (Nat.le_of_ble_eq_true rfl)) (ch_mono (ch_Ki (fun r50 m51 q52 => ?_)) (r_x_gap g (fun (r_ : Int32) (m_ : ch_M) => (∃ (M49 : ch_M), ((y_lr ((y_can Y_47) 1) (-1) 12).1) = r_ ∧ (a_W A_46 Y_47 R_48 M49) ∧ m_ = M49)) (A_46) (Y_47) (R_48) m42 ⟨b53, (fun M49 f0_ => ⟨M49, rfl, f0_, rfl⟩)⟩))
            obtain ⟨M49, rfl, f0_, hm_⟩ := q52
            replace h := h M49 f0_ m51 hm_
            refine ch_if_eq (tgt := 310) d_l_law_305 (by decide) (fun c => ?_) (fun c => ?_)
            · replace h := h.1 c
              exact h
            · replace h := h.2 c
              refine ch_iconst (v := 0) d_l_law_308 (by decide) ?_
              exact h
set_option maxHeartbeats 1600000 in
theorem g_l_law_310 (g : ch_G) (R : Room) (E : ch_En) (k : Nat) (hR : ch_RR R 18) (hC : 120000 ≤ R.cells ∧ 720000 ≤ R.slots) (hk : k + 4 ≤ 120000) (x2 : Int32) (o3 : Option ch_V) (o4 : Option ch_V) (o5 : Option ch_V) (o6 : Option ch_V) (o7 : Option ch_V) (o8 : Option ch_V) (o9 : Option ch_V) (o10 : Option ch_V) (m : ch_M) (h : (∃ A_1 : a_G, (∃ Y_2 : ch_B, (∃ R_3 : Int32 × Int32 × Int32, (a_W A_1 Y_2 R_3 m) ∧ (¬ A_1.2.1 = 0) ∧ ((∀ (M4 : ch_M), (a_W (a_dn A_1) (A_1.2.2.1 0) (M4 (3, 0, 0) 0, M4 (3, 0, 0) 1, M4 (3, 0, 0) 2) M4) → (∀ k_, M4 (14, 0, 1) k_ = m (14, 0, 1) k_) → (∀ m6 : ch_M, m6 = M4 → ((¬ (nI (A_1.2.1 - 1)) = 7 → ch_J g m_l_law R E 435 [some (.inr (11, 0, 0)), some (.inr (0, 0, 0)), some (.inl (.int x2)), o3, o4, o5, o6, o7, o8, o9, o10] [.inl (.int 0)] m6 (k + 1)) ∧ ((nI (A_1.2.1 - 1)) = 7 → (∃ A_10 : a_G, (∃ Y_11 : ch_B, (∃ R_12 : Int32 × Int32 × Int32, (a_W A_10 Y_11 R_12 m6) ∧ ((0 : Int32) ≤ 3 ∧ 3 ≤ (9 : Int32)) ∧ ((∀ (M13 : ch_M), (a_W A_10 Y_11 R_12 M13) → (∀ m15 : ch_M, m15 = M13 → ((¬ (x_acR (y_can Y_11) 0 0 3) = 11 → ch_J g m_l_law R E 435 [some (.inr (11, 0, 0)), some (.inr (0, 0, 0)), some (.inl (.int x2)), o3, o4, o5, o6, o7, o8, o9, o10] [.inl (.int 0)] m15 (k + 2)) ∧ ((x_acR (y_can Y_11) 0 0 3) = 11 → (∃ A_19 : a_G, (∃ Y_20 : ch_B, (∃ R_21 : Int32 × Int32 × Int32, (a_W A_19 Y_20 R_21 m15) ∧ ((0 : Int32) ≤ 1 ∧ 1 < Y_20 0 8) ∧ ((∀ (M22 : ch_M), (a_W A_19 Y_20 R_21 M22) → (∀ m24 : ch_M, m24 = M22 → ((¬ (w_fl z_B (w_l (y_can Y_20) 1) 12 1 0) = 3 → ch_J g m_l_law R E 435 [some (.inr (11, 0, 0)), some (.inr (0, 0, 0)), some (.inl (.int x2)), o3, o4, o5, o6, o7, o8, o9, o10] [.inl (.int 0)] m24 (k + 3)) ∧ ((w_fl z_B (w_l (y_can Y_20) 1) 12 1 0) = 3 → (∃ A_28 : a_G, (∃ Y_29 : ch_B, (∃ R_30 : Int32 × Int32 × Int32, (a_W A_28 Y_29 R_30 m24) ∧ (¬ A_28.2.1 = 0) ∧ ((∀ (M31 : ch_M), (a_W (a_dn A_28) (A_28.2.2.1 0) (M31 (3, 0, 0) 0, M31 (3, 0, 0) 1, M31 (3, 0, 0) 2) M31) → (∀ k_, M31 (14, 0, 1) k_ = m24 (14, 0, 1) k_) → (∀ m33 : ch_M, m33 = M31 → ((¬ (nI (A_28.2.1 - 1)) = 6 → ch_J g m_l_law R E 435 [some (.inr (11, 0, 0)), some (.inr (0, 0, 0)), some (.inl (.int x2)), o3, o4, o5, o6, o7, o8, o9, o10] [.inl (.int 0)] m33 (k + 4)) ∧ ((nI (A_28.2.1 - 1)) = 6 → ch_J g m_l_law R E 347 [some (.inr (11, 0, 0)), some (.inr (0, 0, 0)), some (.inl (.int x2)), o3, o4, o5, o6, o7, o8, o9, o10] [] m33 (k + 4)))))))))))))))))))))))))))))))))) : ch_J g m_l_law R E 310 [some (.inr (11, 0, 0)), some (.inr (0, 0, 0)), some (.inl (.int x2)), o3, o4, o5, o6, o7, o8, o9, o10] [] m k := by
  refine ch_aload_n (i := 1) d_l_law_310 rfl rfl ?_
  obtain ⟨A_1, h⟩ := h
  obtain ⟨Y_2, h⟩ := h
  obtain ⟨R_3, h⟩ := h
  have b8 := h.1
  replace h := h.2
  have b9 := h.1
  replace h := h.2
  refine ch_callSX (as := [.inr (0, 0, 0)]) d_l_law_311 lk_l_279 ms_l_undo rfl rfl (ch_hR hR (Nat.le_of_ble_eq_true rfl)) (Nat.le_of_ble_eq_true rfl) (ch_rcL0 (b := 1) hC hk (Nat.le_of_ble_eq_true rfl)) (ch_mono (ch_Ki (fun r5 m6 q7 => ?_)) (c_l_undo g (fun (r_ : Int32) (m_ : ch_M) => (∃ (M4 : ch_M), (nI (A_1.2.1 - 1)) = r_ ∧ (a_W (a_dn A_1) (A_1.2.2.1 0) (M4 (3, 0, 0) 0, M4 (3, 0, 0) 1, M4 (3, 0, 0) 2) M4) ∧ (∀ k_, M4 (14, 0, 1) k_ = m (14, 0, 1) k_) ∧ m_ = M4)) (A_1) (Y_2) (R_3) m ⟨b8, b9, (fun M4 f0_ f1_ => ⟨M4, rfl, f0_, f1_, rfl⟩)⟩))
  obtain ⟨M4, rfl, f0_, f1_, hm_⟩ := q7
  replace h := h M4 f0_ f1_ m6 hm_
  refine ch_bipush (v := 7) d_l_law_314 (by decide) ?_
  refine ch_icmp_ne (tgt := 434) d_l_law_316 (by decide) (fun c => ?_) (fun c => ?_)
  · replace h := h.1 c
    refine ch_iconst (v := 0) d_l_law_434 (by decide) ?_
    exact h
  · replace h := h.2 c
    refine ch_aload_n (i := 1) d_l_law_319 rfl rfl ?_
    refine ch_iconst (v := 3) d_l_law_320 (by decide) ?_
    obtain ⟨A_10, h⟩ := h
    obtain ⟨Y_11, h⟩ := h
    obtain ⟨R_12, h⟩ := h
    have b17 := h.1
    replace h := h.2
    have b18 := h.1
    replace h := h.2
    refine ch_callSX (as := [.inr (0, 0, 0), .inl (.int 3)]) d_l_law_321 lk_l_186 ms_l_account rfl rfl (ch_hR hR (Nat.le_of_ble_eq_true rfl)) (Nat.le_of_ble_eq_true rfl) (ch_rcL (a := 1) (b := 1) hC hk (Nat.le_of_ble_eq_true rfl)) (ch_mono (ch_Ki (fun r14 m15 q16 => ?_)) (r_l_account g (fun (r_ : Int32) (m_ : ch_M) => (∃ (M13 : ch_M), (x_acR (y_can Y_11) 0 0 3) = r_ ∧ (a_W A_10 Y_11 R_12 M13) ∧ m_ = M13)) (A_10) (Y_11) (R_12) (3) m6 ⟨b17, b18, (fun M13 f0_ => ⟨M13, rfl, f0_, rfl⟩)⟩))
    obtain ⟨M13, rfl, f0_, hm_⟩ := q16
    replace h := h M13 f0_ m15 hm_
    refine ch_bipush (v := 11) d_l_law_324 (by decide) ?_
    refine ch_icmp_ne (tgt := 434) d_l_law_326 (by decide) (fun c => ?_) (fun c => ?_)
    · replace h := h.1 c
      refine ch_iconst (v := 0) d_l_law_434 (by decide) ?_
      exact h
    · replace h := h.2 c
      refine ch_aload_n (i := 1) d_l_law_329 rfl rfl ?_
      refine ch_iconst (v := 1) d_l_law_330 (by decide) ?_
      obtain ⟨A_19, h⟩ := h
      obtain ⟨Y_20, h⟩ := h
      obtain ⟨R_21, h⟩ := h
      have b26 := h.1
      replace h := h.2
      have b27 := h.1
      replace h := h.2
      refine ch_callSX (as := [.inr (0, 0, 0), .inl (.int 1)]) d_l_law_331 lk_l_193 ms_l_fewest rfl rfl (ch_hR hR (Nat.le_of_ble_eq_true rfl)) (Nat.le_of_ble_eq_true rfl) (ch_rcL (a := 2) (b := 1) hC hk (Nat.le_of_ble_eq_true rfl)) (ch_mono (ch_Ki (fun r23 m24 q25 => ?_)) (r_l_fewest g (fun (r_ : Int32) (m_ : ch_M) => (∃ (M22 : ch_M), (w_fl z_B (w_l (y_can Y_20) 1) 12 1 0) = r_ ∧ (a_W A_19 Y_20 R_21 M22) ∧ m_ = M22)) (A_19) (Y_20) (R_21) (1) m15 ⟨b26, b27, (fun M22 f0_ => ⟨M22, rfl, f0_, rfl⟩)⟩))
      obtain ⟨M22, rfl, f0_, hm_⟩ := q25
      replace h := h M22 f0_ m24 hm_
      refine ch_iconst (v := 3) d_l_law_334 (by decide) ?_
      refine ch_icmp_ne (tgt := 434) d_l_law_335 (by decide) (fun c => ?_) (fun c => ?_)
      · replace h := h.1 c
        refine ch_iconst (v := 0) d_l_law_434 (by decide) ?_
        exact h
      · replace h := h.2 c
        refine ch_aload_n (i := 1) d_l_law_338 rfl rfl ?_
        obtain ⟨A_28, h⟩ := h
        obtain ⟨Y_29, h⟩ := h
        obtain ⟨R_30, h⟩ := h
        have b35 := h.1
        replace h := h.2
        have b36 := h.1
        replace h := h.2
        refine ch_callSX (as := [.inr (0, 0, 0)]) d_l_law_339 lk_l_279 ms_l_undo rfl rfl (ch_hR hR (Nat.le_of_ble_eq_true rfl)) (Nat.le_of_ble_eq_true rfl) (ch_rcL (a := 3) (b := 1) hC hk (Nat.le_of_ble_eq_true rfl)) (ch_mono (ch_Ki (fun r32 m33 q34 => ?_)) (c_l_undo g (fun (r_ : Int32) (m_ : ch_M) => (∃ (M31 : ch_M), (nI (A_28.2.1 - 1)) = r_ ∧ (a_W (a_dn A_28) (A_28.2.2.1 0) (M31 (3, 0, 0) 0, M31 (3, 0, 0) 1, M31 (3, 0, 0) 2) M31) ∧ (∀ k_, M31 (14, 0, 1) k_ = m24 (14, 0, 1) k_) ∧ m_ = M31)) (A_28) (Y_29) (R_30) m24 ⟨b35, b36, (fun M31 f0_ f1_ => ⟨M31, rfl, f0_, f1_, rfl⟩)⟩))
        obtain ⟨M31, rfl, f0_, f1_, hm_⟩ := q34
        replace h := h M31 f0_ f1_ m33 hm_
        refine ch_bipush (v := 6) d_l_law_342 (by decide) ?_
        refine ch_icmp_ne (tgt := 434) d_l_law_344 (by decide) (fun c => ?_) (fun c => ?_)
        · replace h := h.1 c
          refine ch_iconst (v := 0) d_l_law_434 (by decide) ?_
          exact h
        · replace h := h.2 c
          exact h
set_option maxHeartbeats 1600000 in
theorem g_l_law_347 (g : ch_G) (R : Room) (E : ch_En) (k : Nat) (hR : ch_RR R 18) (hC : 120000 ≤ R.cells ∧ 720000 ≤ R.slots) (hk : k + 5 ≤ 120000) (x2 : Int32) (o3 : Option ch_V) (o4 : Option ch_V) (o5 : Option ch_V) (o6 : Option ch_V) (o7 : Option ch_V) (o8 : Option ch_V) (o9 : Option ch_V) (o10 : Option ch_V) (m : ch_M) (h : (∃ A_1 : a_G, (∃ Y_2 : ch_B, (∃ R_3 : Int32 × Int32 × Int32, (a_W A_1 Y_2 R_3 m) ∧ (¬ A_1.2.1 = 0) ∧ ((∀ (M4 : ch_M), (a_W (a_dn A_1) (A_1.2.2.1 0) (M4 (3, 0, 0) 0, M4 (3, 0, 0) 1, M4 (3, 0, 0) 2) M4) → (∀ k_, M4 (14, 0, 1) k_ = m (14, 0, 1) k_) → (∀ m6 : ch_M, m6 = M4 → ((¬ (nI (A_1.2.1 - 1)) = 5 → ch_J g m_l_law R E 435 [some (.inr (11, 0, 0)), some (.inr (0, 0, 0)), some (.inl (.int x2)), o3, o4, o5, o6, o7, o8, o9, o10] [.inl (.int 0)] m6 (k + 1)) ∧ ((nI (A_1.2.1 - 1)) = 5 → (∃ A_10 : a_G, (∃ Y_11 : ch_B, (∃ R_12 : Int32 × Int32 × Int32, (a_W A_10 Y_11 R_12 m6) ∧ ((0 : Int32) ≤ 3 ∧ 3 ≤ (9 : Int32)) ∧ ((∀ (M13 : ch_M), (a_W A_10 Y_11 R_12 M13) → (∀ m15 : ch_M, m15 = M13 → ((¬ (x_acR (y_can Y_11) 0 0 3) = 9 → ch_J g m_l_law R E 435 [some (.inr (11, 0, 0)), some (.inr (0, 0, 0)), some (.inl (.int x2)), o3, o4, o5, o6, o7, o8, o9, o10] [.inl (.int 0)] m15 (k + 2)) ∧ ((x_acR (y_can Y_11) 0 0 3) = 9 → (∃ A_19 : a_G, (∃ Y_20 : ch_B, (∃ R_21 : Int32 × Int32 × Int32, (a_W A_19 Y_20 R_21 m15) ∧ (¬ A_19.2.1 = 0) ∧ ((∀ (M22 : ch_M), (a_W (a_dn A_19) (A_19.2.2.1 0) (M22 (3, 0, 0) 0, M22 (3, 0, 0) 1, M22 (3, 0, 0) 2) M22) → (∀ k_, M22 (14, 0, 1) k_ = m15 (14, 0, 1) k_) → (∀ m24 : ch_M, m24 = M22 → ((¬ (nI (A_19.2.1 - 1)) = 4 → ch_J g m_l_law R E 435 [some (.inr (11, 0, 0)), some (.inr (0, 0, 0)), some (.inl (.int x2)), o3, o4, o5, o6, o7, o8, o9, o10] [.inl (.int 0)] m24 (k + 3)) ∧ ((nI (A_19.2.1 - 1)) = 4 → (∃ A_28 : a_G, (∃ Y_29 : ch_B, (∃ R_30 : Int32 × Int32 × Int32, (a_W A_28 Y_29 R_30 m24) ∧ (¬ A_28.2.1 = 0) ∧ ((∀ (M31 : ch_M), (a_W (a_dn A_28) (A_28.2.2.1 0) (M31 (3, 0, 0) 0, M31 (3, 0, 0) 1, M31 (3, 0, 0) 2) M31) → (∀ k_, M31 (14, 0, 1) k_ = m24 (14, 0, 1) k_) → (∀ m33 : ch_M, m33 = M31 → ((¬ (nI (A_28.2.1 - 1)) = 3 → ch_J g m_l_law R E 435 [some (.inr (11, 0, 0)), some (.inr (0, 0, 0)), some (.inl (.int x2)), o3, o4, o5, o6, o7, o8, o9, o10] [.inl (.int 0)] m33 (k + 4)) ∧ ((nI (A_28.2.1 - 1)) = 3 → (∃ A_37 : a_G, (∃ Y_38 : ch_B, (∃ R_39 : Int32 × Int32 × Int32, (a_W A_37 Y_38 R_39 m33) ∧ (¬ A_37.2.1 = 0) ∧ ((∀ (M40 : ch_M), (a_W (a_dn A_37) (A_37.2.2.1 0) (M40 (3, 0, 0) 0, M40 (3, 0, 0) 1, M40 (3, 0, 0) 2) M40) → (∀ k_, M40 (14, 0, 1) k_ = m33 (14, 0, 1) k_) → (∀ m42 : ch_M, m42 = M40 → ((¬ (nI (A_37.2.1 - 1)) = 2 → ch_J g m_l_law R E 435 [some (.inr (11, 0, 0)), some (.inr (0, 0, 0)), some (.inl (.int x2)), o3, o4, o5, o6, o7, o8, o9, o10] [.inl (.int 0)] m42 (k + 5)) ∧ ((nI (A_37.2.1 - 1)) = 2 → ch_J g m_l_law R E 389 [some (.inr (11, 0, 0)), some (.inr (0, 0, 0)), some (.inl (.int x2)), o3, o4, o5, o6, o7, o8, o9, o10] [] m42 (k + 5)))))))))))))))))))))))))))))))))))))))))) : ch_J g m_l_law R E 347 [some (.inr (11, 0, 0)), some (.inr (0, 0, 0)), some (.inl (.int x2)), o3, o4, o5, o6, o7, o8, o9, o10] [] m k := by
  refine ch_aload_n (i := 1) d_l_law_347 rfl rfl ?_
  obtain ⟨A_1, h⟩ := h
  obtain ⟨Y_2, h⟩ := h
  obtain ⟨R_3, h⟩ := h
  have b8 := h.1
  replace h := h.2
  have b9 := h.1
  replace h := h.2
  refine ch_callSX (as := [.inr (0, 0, 0)]) d_l_law_348 lk_l_279 ms_l_undo rfl rfl (ch_hR hR (Nat.le_of_ble_eq_true rfl)) (Nat.le_of_ble_eq_true rfl) (ch_rcL0 (b := 1) hC hk (Nat.le_of_ble_eq_true rfl)) (ch_mono (ch_Ki (fun r5 m6 q7 => ?_)) (c_l_undo g (fun (r_ : Int32) (m_ : ch_M) => (∃ (M4 : ch_M), (nI (A_1.2.1 - 1)) = r_ ∧ (a_W (a_dn A_1) (A_1.2.2.1 0) (M4 (3, 0, 0) 0, M4 (3, 0, 0) 1, M4 (3, 0, 0) 2) M4) ∧ (∀ k_, M4 (14, 0, 1) k_ = m (14, 0, 1) k_) ∧ m_ = M4)) (A_1) (Y_2) (R_3) m ⟨b8, b9, (fun M4 f0_ f1_ => ⟨M4, rfl, f0_, f1_, rfl⟩)⟩))
  obtain ⟨M4, rfl, f0_, f1_, hm_⟩ := q7
  replace h := h M4 f0_ f1_ m6 hm_
  refine ch_iconst (v := 5) d_l_law_351 (by decide) ?_
  refine ch_icmp_ne (tgt := 434) d_l_law_352 (by decide) (fun c => ?_) (fun c => ?_)
  · replace h := h.1 c
    refine ch_iconst (v := 0) d_l_law_434 (by decide) ?_
    exact h
  · replace h := h.2 c
    refine ch_aload_n (i := 1) d_l_law_355 rfl rfl ?_
    refine ch_iconst (v := 3) d_l_law_356 (by decide) ?_
    obtain ⟨A_10, h⟩ := h
    obtain ⟨Y_11, h⟩ := h
    obtain ⟨R_12, h⟩ := h
    have b17 := h.1
    replace h := h.2
    have b18 := h.1
    replace h := h.2
    refine ch_callSX (as := [.inr (0, 0, 0), .inl (.int 3)]) d_l_law_357 lk_l_186 ms_l_account rfl rfl (ch_hR hR (Nat.le_of_ble_eq_true rfl)) (Nat.le_of_ble_eq_true rfl) (ch_rcL (a := 1) (b := 1) hC hk (Nat.le_of_ble_eq_true rfl)) (ch_mono (ch_Ki (fun r14 m15 q16 => ?_)) (r_l_account g (fun (r_ : Int32) (m_ : ch_M) => (∃ (M13 : ch_M), (x_acR (y_can Y_11) 0 0 3) = r_ ∧ (a_W A_10 Y_11 R_12 M13) ∧ m_ = M13)) (A_10) (Y_11) (R_12) (3) m6 ⟨b17, b18, (fun M13 f0_ => ⟨M13, rfl, f0_, rfl⟩)⟩))
    obtain ⟨M13, rfl, f0_, hm_⟩ := q16
    replace h := h M13 f0_ m15 hm_
    refine ch_bipush (v := 9) d_l_law_360 (by decide) ?_
    refine ch_icmp_ne (tgt := 434) d_l_law_362 (by decide) (fun c => ?_) (fun c => ?_)
    · replace h := h.1 c
      refine ch_iconst (v := 0) d_l_law_434 (by decide) ?_
      exact h
    · replace h := h.2 c
      refine ch_aload_n (i := 1) d_l_law_365 rfl rfl ?_
      obtain ⟨A_19, h⟩ := h
      obtain ⟨Y_20, h⟩ := h
      obtain ⟨R_21, h⟩ := h
      have b26 := h.1
      replace h := h.2
      have b27 := h.1
      replace h := h.2
      refine ch_callSX (as := [.inr (0, 0, 0)]) d_l_law_366 lk_l_279 ms_l_undo rfl rfl (ch_hR hR (Nat.le_of_ble_eq_true rfl)) (Nat.le_of_ble_eq_true rfl) (ch_rcL (a := 2) (b := 1) hC hk (Nat.le_of_ble_eq_true rfl)) (ch_mono (ch_Ki (fun r23 m24 q25 => ?_)) (c_l_undo g (fun (r_ : Int32) (m_ : ch_M) => (∃ (M22 : ch_M), (nI (A_19.2.1 - 1)) = r_ ∧ (a_W (a_dn A_19) (A_19.2.2.1 0) (M22 (3, 0, 0) 0, M22 (3, 0, 0) 1, M22 (3, 0, 0) 2) M22) ∧ (∀ k_, M22 (14, 0, 1) k_ = m15 (14, 0, 1) k_) ∧ m_ = M22)) (A_19) (Y_20) (R_21) m15 ⟨b26, b27, (fun M22 f0_ f1_ => ⟨M22, rfl, f0_, f1_, rfl⟩)⟩))
      obtain ⟨M22, rfl, f0_, f1_, hm_⟩ := q25
      replace h := h M22 f0_ f1_ m24 hm_
      refine ch_iconst (v := 4) d_l_law_369 (by decide) ?_
      refine ch_icmp_ne (tgt := 434) d_l_law_370 (by decide) (fun c => ?_) (fun c => ?_)
      · replace h := h.1 c
        refine ch_iconst (v := 0) d_l_law_434 (by decide) ?_
        exact h
      · replace h := h.2 c
        refine ch_aload_n (i := 1) d_l_law_373 rfl rfl ?_
        obtain ⟨A_28, h⟩ := h
        obtain ⟨Y_29, h⟩ := h
        obtain ⟨R_30, h⟩ := h
        have b35 := h.1
        replace h := h.2
        have b36 := h.1
        replace h := h.2
        refine ch_callSX (as := [.inr (0, 0, 0)]) d_l_law_374 lk_l_279 ms_l_undo rfl rfl (ch_hR hR (Nat.le_of_ble_eq_true rfl)) (Nat.le_of_ble_eq_true rfl) (ch_rcL (a := 3) (b := 1) hC hk (Nat.le_of_ble_eq_true rfl)) (ch_mono (ch_Ki (fun r32 m33 q34 => ?_)) (c_l_undo g (fun (r_ : Int32) (m_ : ch_M) => (∃ (M31 : ch_M), (nI (A_28.2.1 - 1)) = r_ ∧ (a_W (a_dn A_28) (A_28.2.2.1 0) (M31 (3, 0, 0) 0, M31 (3, 0, 0) 1, M31 (3, 0, 0) 2) M31) ∧ (∀ k_, M31 (14, 0, 1) k_ = m24 (14, 0, 1) k_) ∧ m_ = M31)) (A_28) (Y_29) (R_30) m24 ⟨b35, b36, (fun M31 f0_ f1_ => ⟨M31, rfl, f0_, f1_, rfl⟩)⟩))
        obtain ⟨M31, rfl, f0_, f1_, hm_⟩ := q34
        replace h := h M31 f0_ f1_ m33 hm_
        refine ch_iconst (v := 3) d_l_law_377 (by decide) ?_
        refine ch_icmp_ne (tgt := 434) d_l_law_378 (by decide) (fun c => ?_) (fun c => ?_)
        · replace h := h.1 c
          refine ch_iconst (v := 0) d_l_law_434 (by decide) ?_
          exact h
        · replace h := h.2 c
          refine ch_aload_n (i := 1) d_l_law_381 rfl rfl ?_
          obtain ⟨A_37, h⟩ := h
          obtain ⟨Y_38, h⟩ := h
          obtain ⟨R_39, h⟩ := h
          have b44 := h.1
          replace h := h.2
          have b45 := h.1
          replace h := h.2
          refine ch_callSX (as := [.inr (0, 0, 0)]) d_l_law_382 lk_l_279 ms_l_undo rfl rfl (ch_hR hR (Nat.le_of_ble_eq_true rfl)) (Nat.le_of_ble_eq_true rfl) (ch_rcL (a := 4) (b := 1) hC hk (Nat.le_of_ble_eq_true rfl)) (ch_mono (ch_Ki (fun r41 m42 q43 => ?_)) (c_l_undo g (fun (r_ : Int32) (m_ : ch_M) => (∃ (M40 : ch_M), (nI (A_37.2.1 - 1)) = r_ ∧ (a_W (a_dn A_37) (A_37.2.2.1 0) (M40 (3, 0, 0) 0, M40 (3, 0, 0) 1, M40 (3, 0, 0) 2) M40) ∧ (∀ k_, M40 (14, 0, 1) k_ = m33 (14, 0, 1) k_) ∧ m_ = M40)) (A_37) (Y_38) (R_39) m33 ⟨b44, b45, (fun M40 f0_ f1_ => ⟨M40, rfl, f0_, f1_, rfl⟩)⟩))
          obtain ⟨M40, rfl, f0_, f1_, hm_⟩ := q43
          replace h := h M40 f0_ f1_ m42 hm_
          refine ch_iconst (v := 2) d_l_law_385 (by decide) ?_
          refine ch_icmp_ne (tgt := 434) d_l_law_386 (by decide) (fun c => ?_) (fun c => ?_)
          · replace h := h.1 c
            refine ch_iconst (v := 0) d_l_law_434 (by decide) ?_
            exact h
          · replace h := h.2 c
            exact h
set_option maxHeartbeats 1600000 in
theorem g_l_law_389 (g : ch_G) (R : Room) (E : ch_En) (k : Nat) (hR : ch_RR R 18) (hC : 120000 ≤ R.cells ∧ 720000 ≤ R.slots) (hk : k + 2 ≤ 120000) (x2 : Int32) (o3 : Option ch_V) (o4 : Option ch_V) (o5 : Option ch_V) (o6 : Option ch_V) (o7 : Option ch_V) (o8 : Option ch_V) (o9 : Option ch_V) (o10 : Option ch_V) (m : ch_M) (h : (∃ A_1 : a_G, (∃ Y_2 : ch_B, (∃ R_3 : Int32 × Int32 × Int32, (a_W A_1 Y_2 R_3 m) ∧ (¬ A_1.2.1 = 0) ∧ ((∀ (M4 : ch_M), (a_W (a_dn A_1) (A_1.2.2.1 0) (M4 (3, 0, 0) 0, M4 (3, 0, 0) 1, M4 (3, 0, 0) 2) M4) → (∀ k_, M4 (14, 0, 1) k_ = m (14, 0, 1) k_) → (∀ m6 : ch_M, m6 = M4 → ((¬ (nI (A_1.2.1 - 1)) = 1 → ch_J g m_l_law R E 435 [some (.inr (11, 0, 0)), some (.inr (0, 0, 0)), some (.inl (.int x2)), o3, o4, o5, o6, o7, o8, o9, o10] [.inl (.int 0)] m6 (k + 1)) ∧ ((nI (A_1.2.1 - 1)) = 1 → (∃ A_10 : a_G, (∃ Y_11 : ch_B, (∃ R_12 : Int32 × Int32 × Int32, (a_W A_10 Y_11 R_12 m6) ∧ (¬ A_10.2.1 = 0) ∧ ((∀ (M13 : ch_M), (a_W (a_dn A_10) (A_10.2.2.1 0) (M13 (3, 0, 0) 0, M13 (3, 0, 0) 1, M13 (3, 0, 0) 2) M13) → (∀ k_, M13 (14, 0, 1) k_ = m6 (14, 0, 1) k_) → (∀ m15 : ch_M, m15 = M13 → ((¬ (nI (A_10.2.1 - 1)) = 0 → ch_J g m_l_law R E 435 [some (.inr (11, 0, 0)), some (.inr (0, 0, 0)), some (.inl (.int x2)), o3, o4, o5, o6, o7, o8, o9, o10] [.inl (.int 0)] m15 (k + 2)) ∧ ((nI (A_10.2.1 - 1)) = 0 → ch_J g m_l_law R E 404 [some (.inr (11, 0, 0)), some (.inr (0, 0, 0)), some (.inl (.int x2)), o3, o4, o5, o6, o7, o8, o9, o10] [] m15 (k + 2)))))))))))))))))) : ch_J g m_l_law R E 389 [some (.inr (11, 0, 0)), some (.inr (0, 0, 0)), some (.inl (.int x2)), o3, o4, o5, o6, o7, o8, o9, o10] [] m k := by
  refine ch_aload_n (i := 1) d_l_law_389 rfl rfl ?_
  obtain ⟨A_1, h⟩ := h
  obtain ⟨Y_2, h⟩ := h
  obtain ⟨R_3, h⟩ := h
  have b8 := h.1
  replace h := h.2
  have b9 := h.1
  replace h := h.2
  refine ch_callSX (as := [.inr (0, 0, 0)]) d_l_law_390 lk_l_279 ms_l_undo rfl rfl (ch_hR hR (Nat.le_of_ble_eq_true rfl)) (Nat.le_of_ble_eq_true rfl) (ch_rcL0 (b := 1) hC hk (Nat.le_of_ble_eq_true rfl)) (ch_mono (ch_Ki (fun r5 m6 q7 => ?_)) (c_l_undo g (fun (r_ : Int32) (m_ : ch_M) => (∃ (M4 : ch_M), (nI (A_1.2.1 - 1)) = r_ ∧ (a_W (a_dn A_1) (A_1.2.2.1 0) (M4 (3, 0, 0) 0, M4 (3, 0, 0) 1, M4 (3, 0, 0) 2) M4) ∧ (∀ k_, M4 (14, 0, 1) k_ = m (14, 0, 1) k_) ∧ m_ = M4)) (A_1) (Y_2) (R_3) m ⟨b8, b9, (fun M4 f0_ f1_ => ⟨M4, rfl, f0_, f1_, rfl⟩)⟩))
  obtain ⟨M4, rfl, f0_, f1_, hm_⟩ := q7
  replace h := h M4 f0_ f1_ m6 hm_
  refine ch_iconst (v := 1) d_l_law_393 (by decide) ?_
  refine ch_icmp_ne (tgt := 434) d_l_law_394 (by decide) (fun c => ?_) (fun c => ?_)
  · replace h := h.1 c
    refine ch_iconst (v := 0) d_l_law_434 (by decide) ?_
    exact h
  · replace h := h.2 c
    refine ch_aload_n (i := 1) d_l_law_397 rfl rfl ?_
    obtain ⟨A_10, h⟩ := h
    obtain ⟨Y_11, h⟩ := h
    obtain ⟨R_12, h⟩ := h
    have b17 := h.1
    replace h := h.2
    have b18 := h.1
    replace h := h.2
    refine ch_callSX (as := [.inr (0, 0, 0)]) d_l_law_398 lk_l_279 ms_l_undo rfl rfl (ch_hR hR (Nat.le_of_ble_eq_true rfl)) (Nat.le_of_ble_eq_true rfl) (ch_rcL (a := 1) (b := 1) hC hk (Nat.le_of_ble_eq_true rfl)) (ch_mono (ch_Ki (fun r14 m15 q16 => ?_)) (c_l_undo g (fun (r_ : Int32) (m_ : ch_M) => (∃ (M13 : ch_M), (nI (A_10.2.1 - 1)) = r_ ∧ (a_W (a_dn A_10) (A_10.2.2.1 0) (M13 (3, 0, 0) 0, M13 (3, 0, 0) 1, M13 (3, 0, 0) 2) M13) ∧ (∀ k_, M13 (14, 0, 1) k_ = m6 (14, 0, 1) k_) ∧ m_ = M13)) (A_10) (Y_11) (R_12) m6 ⟨b17, b18, (fun M13 f0_ f1_ => ⟨M13, rfl, f0_, f1_, rfl⟩)⟩))
    obtain ⟨M13, rfl, f0_, f1_, hm_⟩ := q16
    replace h := h M13 f0_ f1_ m15 hm_
    refine ch_if_ne (tgt := 434) d_l_law_401 (by decide) (fun c => ?_) (fun c => ?_)
    · replace h := h.1 c
      refine ch_iconst (v := 0) d_l_law_434 (by decide) ?_
      exact h
    · replace h := h.2 c
      exact h
set_option maxHeartbeats 1600000 in
theorem g_l_law_404 (g : ch_G) (R : Room) (E : ch_En) (k : Nat) (hR : ch_RR R 18) (hC : 120000 ≤ R.cells ∧ 720000 ≤ R.slots) (hk : k + 4 ≤ 120000) (x2 : Int32) (o3 : Option ch_V) (o4 : Option ch_V) (o5 : Option ch_V) (o6 : Option ch_V) (o7 : Option ch_V) (o8 : Option ch_V) (o9 : Option ch_V) (o10 : Option ch_V) (m : ch_M) (h : (∃ A_1 : a_G, (∃ Y_2 : ch_B, (∃ R_3 : Int32 × Int32 × Int32, (a_W A_1 Y_2 R_3 m) ∧ ((0 : Int32) ≤ 3 ∧ 3 ≤ (9 : Int32)) ∧ ((∀ (M4 : ch_M), (a_W A_1 Y_2 R_3 M4) → (∀ m6 : ch_M, m6 = M4 → ((¬ (x_acR (y_can Y_2) 0 0 3) = 4 → ch_J g m_l_law R E 435 [some (.inr (11, 0, 0)), some (.inr (0, 0, 0)), some (.inl (.int x2)), o3, o4, o5, o6, o7, o8, o9, o10] [.inl (.int 0)] m6 (k + 1)) ∧ ((x_acR (y_can Y_2) 0 0 3) = 4 → (∃ A_10 : a_G, (∃ Y_11 : ch_B, (∃ R_12 : Int32 × Int32 × Int32, (a_W A_10 Y_11 R_12 m6) ∧ ((0 : Int32) ≤ 0 ∧ 0 < Y_11 0 8) ∧ ((0 : Int32) ≤ 0 ∧ 0 ≤ (6 : Int32)) ∧ ((∀ (M13 : ch_M), (a_W A_10 Y_11 R_12 M13) → (∀ m15 : ch_M, m15 = M13 → ((¬ (x_coR (y_can Y_11) 0 0) = 95 → ch_J g m_l_law R E 435 [some (.inr (11, 0, 0)), some (.inr (0, 0, 0)), some (.inl (.int x2)), o3, o4, o5, o6, o7, o8, o9, o10] [.inl (.int 0)] m15 (k + 3)) ∧ ((x_coR (y_can Y_11) 0 0) = 95 → (∃ A_20 : a_G, (∃ Y_21 : ch_B, (∃ R_22 : Int32 × Int32 × Int32, (a_W A_20 Y_21 R_22 m15) ∧ (A_20.2.1 = 0) ∧ (ch_J g m_l_law R E 436 [some (.inr (11, 0, 0)), some (.inr (0, 0, 0)), some (.inl (.int x2)), o3, o4, o5, o6, o7, o8, o9, o10] [] m15 (k + 4)))))))))))))))))))))) : ch_J g m_l_law R E 404 [some (.inr (11, 0, 0)), some (.inr (0, 0, 0)), some (.inl (.int x2)), o3, o4, o5, o6, o7, o8, o9, o10] [] m k := by
  refine ch_aload_n (i := 1) d_l_law_404 rfl rfl ?_
  refine ch_iconst (v := 3) d_l_law_405 (by decide) ?_
  obtain ⟨A_1, h⟩ := h
  obtain ⟨Y_2, h⟩ := h
  obtain ⟨R_3, h⟩ := h
  have b8 := h.1
  replace h := h.2
  have b9 := h.1
  replace h := h.2
  refine ch_callSX (as := [.inr (0, 0, 0), .inl (.int 3)]) d_l_law_406 lk_l_186 ms_l_account rfl rfl (ch_hR hR (Nat.le_of_ble_eq_true rfl)) (Nat.le_of_ble_eq_true rfl) (ch_rcL0 (b := 1) hC hk (Nat.le_of_ble_eq_true rfl)) (ch_mono (ch_Ki (fun r5 m6 q7 => ?_)) (r_l_account g (fun (r_ : Int32) (m_ : ch_M) => (∃ (M4 : ch_M), (x_acR (y_can Y_2) 0 0 3) = r_ ∧ (a_W A_1 Y_2 R_3 M4) ∧ m_ = M4)) (A_1) (Y_2) (R_3) (3) m ⟨b8, b9, (fun M4 f0_ => ⟨M4, rfl, f0_, rfl⟩)⟩))
  obtain ⟨M4, rfl, f0_, hm_⟩ := q7
  replace h := h M4 f0_ m6 hm_
  refine ch_iconst (v := 4) d_l_law_409 (by decide) ?_
  refine ch_icmp_ne (tgt := 434) d_l_law_410 (by decide) (fun c => ?_) (fun c => ?_)
  · replace h := h.1 c
    refine ch_iconst (v := 0) d_l_law_434 (by decide) ?_
    exact h
  · replace h := h.2 c
    refine ch_aload_n (i := 1) d_l_law_413 rfl rfl ?_
    refine ch_iconst (v := 0) d_l_law_414 (by decide) ?_
    refine ch_iconst (v := 0) d_l_law_415 (by decide) ?_
    obtain ⟨A_10, h⟩ := h
    obtain ⟨Y_11, h⟩ := h
    obtain ⟨R_12, h⟩ := h
    have b17 := h.1
    replace h := h.2
    have b18 := h.1
    replace h := h.2
    have b19 := h.1
    replace h := h.2
    refine ch_callSX (as := [.inr (0, 0, 0), .inl (.int 0), .inl (.int 0)]) d_l_law_416 lk_l_188 ms_l_of rfl rfl (ch_hR hR (Nat.le_of_ble_eq_true rfl)) (Nat.le_of_ble_eq_true rfl) (ch_rcL (a := 1) (b := 2) hC hk (Nat.le_of_ble_eq_true rfl)) (ch_mono (ch_Ki (fun r14 m15 q16 => ?_)) (r_l_of g (fun (r_ : Int32) (m_ : ch_M) => (∃ (M13 : ch_M), (x_coR (y_can Y_11) 0 0) = r_ ∧ (a_W A_10 Y_11 R_12 M13) ∧ m_ = M13)) (A_10) (Y_11) (R_12) (0) (0) m6 ⟨b17, b18, b19, (fun M13 f0_ => ⟨M13, rfl, f0_, rfl⟩)⟩))
    obtain ⟨M13, rfl, f0_, hm_⟩ := q16
    replace h := h M13 f0_ m15 hm_
    refine ch_bipush (v := 95) d_l_law_419 (by decide) ?_
    refine ch_icmp_ne (tgt := 434) d_l_law_421 (by decide) (fun c => ?_) (fun c => ?_)
    · replace h := h.1 c
      refine ch_iconst (v := 0) d_l_law_434 (by decide) ?_
      exact h
    · replace h := h.2 c
      refine ch_aload_n (i := 1) d_l_law_424 rfl rfl ?_
      obtain ⟨A_20, h⟩ := h
      obtain ⟨Y_21, h⟩ := h
      obtain ⟨R_22, h⟩ := h
      have b26 := h.1
      replace h := h.2
      have b27 := h.1
      replace h := h.2
      refine ch_callSX (as := [.inr (0, 0, 0)]) d_l_law_425 lk_l_279 ms_l_undo rfl rfl (ch_hR hR (Nat.le_of_ble_eq_true rfl)) (Nat.le_of_ble_eq_true rfl) (ch_rcL (a := 3) (b := 1) hC hk (Nat.le_of_ble_eq_true rfl)) (ch_mono (ch_Ki (fun r23 m24 q25 => ?_)) (f_l_undo g (fun (r_ : Int32) (m_ : ch_M) => ((-1001) = r_ ∧ m15 = m_)) (A_20) (Y_21) (R_22) m15 ⟨b26, b27, ⟨rfl, rfl⟩⟩))
      obtain ⟨rfl, rfl⟩ := q25
      replace h := h
      refine ch_sipush (v := (-1001)) d_l_law_428 (by decide) ?_
      refine ch_icmp_eq (tgt := 436) d_l_law_431 (by decide) (fun _ => ?_) (fun c => absurd c (by decide))
      exact h
set_option maxHeartbeats 1600000 in
theorem g_l_law_436 (g : ch_G) (R : Room) (E : ch_En) (k : Nat) (hR : ch_RR R 18) (hC : 120000 ≤ R.cells ∧ 720000 ≤ R.slots) (hk : k + 4 ≤ 120000) (x2 : Int32) (o3 : Option ch_V) (o4 : Option ch_V) (o5 : Option ch_V) (o6 : Option ch_V) (o7 : Option ch_V) (o8 : Option ch_V) (o9 : Option ch_V) (o10 : Option ch_V) (m : ch_M) (h : (∃ A_1 : a_G, (∃ Y_2 : ch_B, (∃ R_3 : Int32 × Int32 × Int32, (a_W A_1 Y_2 R_3 m) ∧ (¬ A_1.2.2.2.1.1 = 0) ∧ ((∀ (M4 : ch_M), (a_W (a_re A_1) A_1.2.2.2.1.2 (M4 (3, 0, 0) 0, M4 (3, 0, 0) 1, M4 (3, 0, 0) 2) M4) → (∀ k_, M4 (14, 0, 1) k_ = m (14, 0, 1) k_) → (∀ m6 : ch_M, m6 = M4 → ((¬ (A_1.2.2.2.1.2 0 8) = 0 → ch_J g m_l_law R E 478 [some (.inr (11, 0, 0)), some (.inr (0, 0, 0)), some (.inl (.int x2)), o3, o4, o5, o6, o7, o8, o9, o10] [.inl (.int 0)] m6 (k + 1)) ∧ ((A_1.2.2.2.1.2 0 8) = 0 → (∃ A_10 : a_G, (∃ Y_11 : ch_B, (∃ R_12 : Int32 × Int32 × Int32, (a_W A_10 Y_11 R_12 m6) ∧ ((0 : Int32) ≤ 0 ∧ 0 ≤ (9 : Int32)) ∧ ((∀ (M13 : ch_M), (a_W A_10 Y_11 R_12 M13) → (∀ m15 : ch_M, m15 = M13 → ((¬ (x_acR (y_can Y_11) 0 0 0) = 0 → ch_J g m_l_law R E 478 [some (.inr (11, 0, 0)), some (.inr (0, 0, 0)), some (.inl (.int x2)), o3, o4, o5, o6, o7, o8, o9, o10] [.inl (.int 0)] m15 (k + 2)) ∧ ((x_acR (y_can Y_11) 0 0 0) = 0 → (∃ A_19 : a_G, (∃ Y_20 : ch_B, (∃ R_21 : Int32 × Int32 × Int32, (a_W A_19 Y_20 R_21 m15) ∧ ((0 : Int32) ≤ 3 ∧ 3 ≤ (9 : Int32)) ∧ ((∀ (M22 : ch_M), (a_W A_19 Y_20 R_21 M22) → (∀ m24 : ch_M, m24 = M22 → ((¬ (x_acR (y_can Y_20) 0 0 3) = 0 → ch_J g m_l_law R E 478 [some (.inr (11, 0, 0)), some (.inr (0, 0, 0)), some (.inl (.int x2)), o3, o4, o5, o6, o7, o8, o9, o10] [.inl (.int 0)] m24 (k + 3)) ∧ ((x_acR (y_can Y_20) 0 0 3) = 0 → (∃ A_28 : a_G, (∃ Y_29 : ch_B, (∃ R_30 : Int32 × Int32 × Int32, (a_W A_28 Y_29 R_30 m24) ∧ ((0 : Int32) ≤ 2 ∧ 2 ≤ (9 : Int32)) ∧ ((∀ (M31 : ch_M), (a_W A_28 Y_29 R_30 M31) → (∀ m33 : ch_M, m33 = M31 → ((¬ (x_acR (y_can Y_29) 0 0 2) = 0 → ch_J g m_l_law R E 478 [some (.inr (11, 0, 0)), some (.inr (0, 0, 0)), some (.inl (.int x2)), o3, o4, o5, o6, o7, o8, o9, o10] [.inl (.int 0)] m33 (k + 4)) ∧ ((x_acR (y_can Y_29) 0 0 2) = 0 → ch_J g m_l_law R E 467 [some (.inr (11, 0, 0)), some (.inr (0, 0, 0)), some (.inl (.int x2)), o3, o4, o5, o6, o7, o8, o9, o10] [] m33 (k + 4)))))))))))))))))))))))))))))))))) : ch_J g m_l_law R E 436 [some (.inr (11, 0, 0)), some (.inr (0, 0, 0)), some (.inl (.int x2)), o3, o4, o5, o6, o7, o8, o9, o10] [] m k := by
  refine ch_aload_n (i := 1) d_l_law_436 rfl rfl ?_
  obtain ⟨A_1, h⟩ := h
  obtain ⟨Y_2, h⟩ := h
  obtain ⟨R_3, h⟩ := h
  have b8 := h.1
  replace h := h.2
  have b9 := h.1
  replace h := h.2
  refine ch_callSX (as := [.inr (0, 0, 0)]) d_l_law_437 lk_l_281 ms_l_restore rfl rfl (ch_hR hR (Nat.le_of_ble_eq_true rfl)) (Nat.le_of_ble_eq_true rfl) (ch_rcL0 (b := 1) hC hk (Nat.le_of_ble_eq_true rfl)) (ch_mono (ch_Ki (fun r5 m6 q7 => ?_)) (c_l_restore g (fun (r_ : Int32) (m_ : ch_M) => (∃ (M4 : ch_M), (A_1.2.2.2.1.2 0 8) = r_ ∧ (a_W (a_re A_1) A_1.2.2.2.1.2 (M4 (3, 0, 0) 0, M4 (3, 0, 0) 1, M4 (3, 0, 0) 2) M4) ∧ (∀ k_, M4 (14, 0, 1) k_ = m (14, 0, 1) k_) ∧ m_ = M4)) (A_1) (Y_2) (R_3) m ⟨b8, b9, (fun M4 f0_ f1_ => ⟨M4, rfl, f0_, f1_, rfl⟩)⟩))
  obtain ⟨M4, rfl, f0_, f1_, hm_⟩ := q7
  replace h := h M4 f0_ f1_ m6 hm_
  refine ch_if_ne (tgt := 477) d_l_law_440 (by decide) (fun c => ?_) (fun c => ?_)
  · replace h := h.1 c
    refine ch_iconst (v := 0) d_l_law_477 (by decide) ?_
    exact h
  · replace h := h.2 c
    refine ch_aload_n (i := 1) d_l_law_443 rfl rfl ?_
    refine ch_iconst (v := 0) d_l_law_444 (by decide) ?_
    obtain ⟨A_10, h⟩ := h
    obtain ⟨Y_11, h⟩ := h
    obtain ⟨R_12, h⟩ := h
    have b17 := h.1
    replace h := h.2
    have b18 := h.1
    replace h := h.2
    refine ch_callSX (as := [.inr (0, 0, 0), .inl (.int 0)]) d_l_law_445 lk_l_186 ms_l_account rfl rfl (ch_hR hR (Nat.le_of_ble_eq_true rfl)) (Nat.le_of_ble_eq_true rfl) (ch_rcL (a := 1) (b := 1) hC hk (Nat.le_of_ble_eq_true rfl)) (ch_mono (ch_Ki (fun r14 m15 q16 => ?_)) (r_l_account g (fun (r_ : Int32) (m_ : ch_M) => (∃ (M13 : ch_M), (x_acR (y_can Y_11) 0 0 0) = r_ ∧ (a_W A_10 Y_11 R_12 M13) ∧ m_ = M13)) (A_10) (Y_11) (R_12) (0) m6 ⟨b17, b18, (fun M13 f0_ => ⟨M13, rfl, f0_, rfl⟩)⟩))
    obtain ⟨M13, rfl, f0_, hm_⟩ := q16
    replace h := h M13 f0_ m15 hm_
    refine ch_if_ne (tgt := 477) d_l_law_448 (by decide) (fun c => ?_) (fun c => ?_)
    · replace h := h.1 c
      refine ch_iconst (v := 0) d_l_law_477 (by decide) ?_
      exact h
    · replace h := h.2 c
      refine ch_aload_n (i := 1) d_l_law_451 rfl rfl ?_
      refine ch_iconst (v := 3) d_l_law_452 (by decide) ?_
      obtain ⟨A_19, h⟩ := h
      obtain ⟨Y_20, h⟩ := h
      obtain ⟨R_21, h⟩ := h
      have b26 := h.1
      replace h := h.2
      have b27 := h.1
      replace h := h.2
      refine ch_callSX (as := [.inr (0, 0, 0), .inl (.int 3)]) d_l_law_453 lk_l_186 ms_l_account rfl rfl (ch_hR hR (Nat.le_of_ble_eq_true rfl)) (Nat.le_of_ble_eq_true rfl) (ch_rcL (a := 2) (b := 1) hC hk (Nat.le_of_ble_eq_true rfl)) (ch_mono (ch_Ki (fun r23 m24 q25 => ?_)) (r_l_account g (fun (r_ : Int32) (m_ : ch_M) => (∃ (M22 : ch_M), (x_acR (y_can Y_20) 0 0 3) = r_ ∧ (a_W A_19 Y_20 R_21 M22) ∧ m_ = M22)) (A_19) (Y_20) (R_21) (3) m15 ⟨b26, b27, (fun M22 f0_ => ⟨M22, rfl, f0_, rfl⟩)⟩))
      obtain ⟨M22, rfl, f0_, hm_⟩ := q25
      replace h := h M22 f0_ m24 hm_
      refine ch_if_ne (tgt := 477) d_l_law_456 (by decide) (fun c => ?_) (fun c => ?_)
      · replace h := h.1 c
        refine ch_iconst (v := 0) d_l_law_477 (by decide) ?_
        exact h
      · replace h := h.2 c
        refine ch_aload_n (i := 1) d_l_law_459 rfl rfl ?_
        refine ch_iconst (v := 2) d_l_law_460 (by decide) ?_
        obtain ⟨A_28, h⟩ := h
        obtain ⟨Y_29, h⟩ := h
        obtain ⟨R_30, h⟩ := h
        have b35 := h.1
        replace h := h.2
        have b36 := h.1
        replace h := h.2
        refine ch_callSX (as := [.inr (0, 0, 0), .inl (.int 2)]) d_l_law_461 lk_l_186 ms_l_account rfl rfl (ch_hR hR (Nat.le_of_ble_eq_true rfl)) (Nat.le_of_ble_eq_true rfl) (ch_rcL (a := 3) (b := 1) hC hk (Nat.le_of_ble_eq_true rfl)) (ch_mono (ch_Ki (fun r32 m33 q34 => ?_)) (r_l_account g (fun (r_ : Int32) (m_ : ch_M) => (∃ (M31 : ch_M), (x_acR (y_can Y_29) 0 0 2) = r_ ∧ (a_W A_28 Y_29 R_30 M31) ∧ m_ = M31)) (A_28) (Y_29) (R_30) (2) m24 ⟨b35, b36, (fun M31 f0_ => ⟨M31, rfl, f0_, rfl⟩)⟩))
        obtain ⟨M31, rfl, f0_, hm_⟩ := q34
        replace h := h M31 f0_ m33 hm_
        refine ch_if_ne (tgt := 477) d_l_law_464 (by decide) (fun c => ?_) (fun c => ?_)
        · replace h := h.1 c
          refine ch_iconst (v := 0) d_l_law_477 (by decide) ?_
          exact h
        · replace h := h.2 c
          exact h
set_option maxHeartbeats 1600000 in
theorem g_l_law_467 (g : ch_G) (R : Room) (E : ch_En) (k : Nat) (hR : ch_RR R 18) (hC : 120000 ≤ R.cells ∧ 720000 ≤ R.slots) (hk : k + 1 ≤ 120000) (x2 : Int32) (o3 : Option ch_V) (o4 : Option ch_V) (o5 : Option ch_V) (o6 : Option ch_V) (o7 : Option ch_V) (o8 : Option ch_V) (o9 : Option ch_V) (o10 : Option ch_V) (m : ch_M) (h : (∃ A_1 : a_G, (∃ Y_2 : ch_B, (∃ R_3 : Int32 × Int32 × Int32, (a_W A_1 Y_2 R_3 m) ∧ (A_1.2.1 = 0) ∧ (ch_J g m_l_law R E 479 [some (.inr (11, 0, 0)), some (.inr (0, 0, 0)), some (.inl (.int x2)), o3, o4, o5, o6, o7, o8, o9, o10] [] m (k + 1)))))) : ch_J g m_l_law R E 467 [some (.inr (11, 0, 0)), some (.inr (0, 0, 0)), some (.inl (.int x2)), o3, o4, o5, o6, o7, o8, o9, o10] [] m k := by
  refine ch_aload_n (i := 1) d_l_law_467 rfl rfl ?_
  obtain ⟨A_1, h⟩ := h
  obtain ⟨Y_2, h⟩ := h
  obtain ⟨R_3, h⟩ := h
  have b7 := h.1
  replace h := h.2
  have b8 := h.1
  replace h := h.2
  refine ch_callSX (as := [.inr (0, 0, 0)]) d_l_law_468 lk_l_279 ms_l_undo rfl rfl (ch_hR hR (Nat.le_of_ble_eq_true rfl)) (Nat.le_of_ble_eq_true rfl) (ch_rcL0 (b := 1) hC hk (Nat.le_of_ble_eq_true rfl)) (ch_mono (ch_Ki (fun r4 m5 q6 => ?_)) (f_l_undo g (fun (r_ : Int32) (m_ : ch_M) => ((-1001) = r_ ∧ m = m_)) (A_1) (Y_2) (R_3) m ⟨b7, b8, ⟨rfl, rfl⟩⟩))
  obtain ⟨rfl, rfl⟩ := q6
  replace h := h
  refine ch_sipush (v := (-1001)) d_l_law_471 (by decide) ?_
  refine ch_icmp_eq (tgt := 479) d_l_law_474 (by decide) (fun _ => ?_) (fun c => absurd c (by decide))
  exact h
