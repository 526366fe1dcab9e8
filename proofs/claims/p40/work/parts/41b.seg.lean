theorem e_l_refused (g : ch_G) (Q : ch_O → ch_M → Prop)  (m : ch_M) (h : ch_J g m_l_refused (ch_rm m_l_refused) (ch_E g m_l_refused Q) 0 [some (.inr (0, 0, 0)), none, none, none, none, none, none] [] m 0) : ch_C g m_l_refused [.inr (0, 0, 0)] m Q :=
  ch_enter mf_l_refused (by intro v hv; simp only [List.mem_cons, List.not_mem_nil, or_false] at hv; rcases hv with rfl <;> rfl) (Nat.le_of_ble_eq_true rfl) h
set_option maxHeartbeats 1600000 in
theorem g_l_refused_0 (g : ch_G) (Q : ch_O → ch_M → Prop) (k : Nat) (hk : k + 1201 ≤ 6000)  (m : ch_M) (h : (∃ A_1 : a_G, (∃ Y_2 : ch_B, (∃ R_3 : Int32 × Int32 × Int32, (a_W A_1 Y_2 R_3 m) ∧ ((∀ (M4 : ch_M), (a_W A_1 Y_2 R_3 M4) → (∀ m6 : ch_M, m6 = M4 → (∃ A_9 : a_G, (∃ Y_10 : ch_B, (∃ R_11 : Int32 × Int32 × Int32, (a_W A_9 Y_10 R_11 m6) ∧ ((0 : Int32) ≤ 0 ∧ 0 ≤ (9 : Int32)) ∧ ((∀ (M12 : ch_M), (a_W A_9 Y_10 R_11 M12) → (∀ m14 : ch_M, m14 = M12 → ch_J g m_l_refused (ch_rm m_l_refused) (ch_E g m_l_refused Q) 11 [some (.inr (0, 0, 0)), some (.inl (.long (a_V (y_can Y_2)))), none, some (.inl (.int (x_acR (y_can Y_10) 0 0 0))), none, none, none] [] m14 (k + 1201)))))))))))))) : ch_J g m_l_refused (ch_rm m_l_refused) (ch_E g m_l_refused Q) 0 [some (.inr (0, 0, 0)), none, none, none, none, none, none] [] m k := by
  refine ch_aload_n (i := 0) d_l_refused_0 rfl rfl ?_
  obtain ⟨A_1, h⟩ := h
  obtain ⟨Y_2, h⟩ := h
  obtain ⟨R_3, h⟩ := h
  have b8 := h.1
  replace h := h.2
  refine ch_callS (as := [.inr (0, 0, 0)]) d_l_refused_1 lk_l_254 ms_l_asks rfl rfl ⟨Nat.le_of_ble_eq_true rfl, Nat.le_of_ble_eq_true rfl⟩ (Nat.le_of_ble_eq_true rfl) (ch_rk0 (b := 1200) hk (Nat.le_of_ble_eq_true rfl) (Nat.le_of_ble_eq_true rfl)) (ch_mono (ch_Kl (fun r5 m6 q7 => ?_)) (r_l_asks g (fun (r_ : Int64) (m_ : ch_M) => (∃ (M4 : ch_M), (a_V (y_can Y_2)) = r_ ∧ (a_W A_1 Y_2 R_3 M4) ∧ m_ = M4)) (A_1) (Y_2) (R_3) m ⟨b8, (fun M4 f0_ => ⟨M4, rfl, f0_, rfl⟩)⟩))
  obtain ⟨M4, rfl, f0_, hm_⟩ := q7
  replace h := h M4 f0_ m6 hm_
  refine ch_lstore_n (i := 1) d_l_refused_4 rfl (Nat.le_of_ble_eq_true rfl) (ls' := [some (.inr (0, 0, 0)), some (.inl (.long (a_V (y_can Y_2)))), none, none, none, none, none]) rfl ?_
  refine ch_aload_n (i := 0) d_l_refused_5 rfl rfl ?_
  refine ch_iconst (v := 0) d_l_refused_6 (by decide) ?_
  obtain ⟨A_9, h⟩ := h
  obtain ⟨Y_10, h⟩ := h
  obtain ⟨R_11, h⟩ := h
  have b16 := h.1
  replace h := h.2
  have b17 := h.1
  replace h := h.2
  refine ch_callSX (as := [.inr (0, 0, 0), .inl (.int 0)]) d_l_refused_7 lk_l_186 ms_l_account rfl rfl ⟨Nat.le_of_ble_eq_true rfl, Nat.le_of_ble_eq_true rfl⟩ (Nat.le_of_ble_eq_true rfl) (ch_rk (a := 1200) (b := 1) hk (Nat.le_of_ble_eq_true rfl) (Nat.le_of_ble_eq_true rfl)) (ch_mono (ch_Ki (fun r13 m14 q15 => ?_)) (r_l_account g (fun (r_ : Int32) (m_ : ch_M) => (∃ (M12 : ch_M), (x_acR (y_can Y_10) 0 0 0) = r_ ∧ (a_W A_9 Y_10 R_11 M12) ∧ m_ = M12)) (A_9) (Y_10) (R_11) (0) m6 ⟨b16, b17, (fun M12 f0_ => ⟨M12, rfl, f0_, rfl⟩)⟩))
  obtain ⟨M12, rfl, f0_, hm_⟩ := q15
  replace h := h M12 f0_ m14 hm_
  refine ch_istore_n (i := 3) d_l_refused_10 rfl (Nat.le_of_ble_eq_true rfl) (ls' := [some (.inr (0, 0, 0)), some (.inl (.long (a_V (y_can Y_2)))), none, some (.inl (.int (x_acR (y_can Y_10) 0 0 0))), none, none, none]) rfl ?_
  exact h
set_option maxHeartbeats 1600000 in
theorem g_l_refused_11 (g : ch_G) (Q : ch_O → ch_M → Prop) (k : Nat) (hk : k + 11 ≤ 6000) (x1 : Int64) (x3 : Int32) (o4 : Option ch_V) (o5 : Option ch_V) (o6 : Option ch_V) (m : ch_M) (h : (∃ A_1 : a_G, (∃ Y_2 : ch_B, (∃ R_3 : Int32 × Int32 × Int32, (∃ w_4 : Int32, (∃ e_5 : Int32, (a_W A_1 Y_2 R_3 m) ∧ (∀ Z_, y_sm Y_2 Z_ → r_wn Z_ (-1) = (w_4, e_5)) ∧ (¬ w_4 = 0) ∧ ((∀ (M6 : ch_M), (a_W A_1 Y_2 (w_4, e_5, 0) M6) → (∀ m8 : ch_M, m8 = M6 → (∃ A_13 : a_G, (∃ Y_14 : ch_B, (a_W A_13 Y_14 (1, 0, 0) m8) ∧ (¬ 1 = (0 : Int32)) ∧ ((∃ A_20 : a_G, (∃ Y_21 : ch_B, (∃ R_22 : Int32 × Int32 × Int32, (∃ w_23 : Int32, (∃ e_24 : Int32, (a_W A_20 Y_21 R_22 m8) ∧ (∀ Z_, y_sm Y_21 Z_ → r_wn Z_ 100 = (w_23, e_24)) ∧ (¬ w_23 = 0) ∧ ((∀ (M25 : ch_M), (a_W A_20 Y_21 (w_23, e_24, 0) M25) → (∀ m27 : ch_M, m27 = M25 → ((x3 < 5 → ch_J g m_l_refused (ch_rm m_l_refused) (ch_E g m_l_refused Q) 68 [some (.inr (0, 0, 0)), some (.inl (.long x1)), none, some (.inl (.int x3)), o4, o5, o6] [] m27 (k + 6)) ∧ (¬ x3 < 5 → (∃ A_32 : a_G, (∃ Y_33 : ch_B, (∃ R_34 : Int32 × Int32 × Int32, (∃ w_35 : Int32, (∃ e_36 : Int32, (a_W A_32 Y_33 R_34 m27) ∧ (∀ Z_, y_sm Y_33 Z_ → r_wn Z_ 1 = (w_35, e_36)) ∧ (¬ w_35 = 0) ∧ ((∀ (M37 : ch_M), (a_W A_32 Y_33 (w_35, e_36, 0) M37) → (∀ m39 : ch_M, m39 = M37 → (∃ A_44 : a_G, (∃ Y_45 : ch_B, (a_W A_44 Y_45 (2, 5, 0) m39) ∧ (¬ 2 = (0 : Int32)) ∧ (ch_J g m_l_refused (ch_rm m_l_refused) (ch_E g m_l_refused Q) 68 [some (.inr (0, 0, 0)), some (.inl (.long x1)), none, some (.inl (.int x3)), o4, o5, o6] [] m39 (k + 11)))))))))))))))))))))))))))))))))) : ch_J g m_l_refused (ch_rm m_l_refused) (ch_E g m_l_refused Q) 11 [some (.inr (0, 0, 0)), some (.inl (.long x1)), none, some (.inl (.int x3)), o4, o5, o6] [] m k := by
  refine ch_aload_n (i := 0) d_l_refused_11 rfl rfl ?_
  refine ch_iconst (v := (-1)) d_l_refused_12 (by decide) ?_
  obtain ⟨A_1, h⟩ := h
  obtain ⟨Y_2, h⟩ := h
  obtain ⟨R_3, h⟩ := h
  obtain ⟨w_4, h⟩ := h
  obtain ⟨e_5, h⟩ := h
  have b10 := h.1
  replace h := h.2
  have b11 := h.1
  replace h := h.2
  have b12 := h.1
  replace h := h.2
  refine ch_callSX (as := [.inr (0, 0, 0), .inl (.int (-1))]) d_l_refused_13 lk_l_153 ms_l_child rfl rfl ⟨Nat.le_of_ble_eq_true rfl, Nat.le_of_ble_eq_true rfl⟩ (Nat.le_of_ble_eq_true rfl) (ch_rk0 (b := 1) hk (Nat.le_of_ble_eq_true rfl) (Nat.le_of_ble_eq_true rfl)) (ch_mono (ch_Ki (fun r7 m8 q9 => ?_)) (r_l_child g (fun (r_ : Int32) (m_ : ch_M) => (∃ (M6 : ch_M), (-1001) = r_ ∧ (a_W A_1 Y_2 (w_4, e_5, 0) M6) ∧ m_ = M6)) (A_1) (Y_2) (R_3) (w_4) (e_5) ((-1)) m ⟨b10, b11, b12, (fun M6 f0_ => ⟨M6, rfl, f0_, rfl⟩)⟩))
  obtain ⟨M6, rfl, f0_, hm_⟩ := q9
  replace h := h M6 f0_ m8 hm_
  refine ch_sipush (v := (-1001)) d_l_refused_16 (by decide) ?_
  refine ch_icmp_ne (tgt := 345) d_l_refused_19 (by decide) (fun c => absurd c (by decide)) (fun _ => ?_)
  refine ch_aload_n (i := 0) d_l_refused_22 rfl rfl ?_
  refine ch_iconst (v := 1) d_l_refused_23 (by decide) ?_
  refine ch_iconst (v := 0) d_l_refused_24 (by decide) ?_
  obtain ⟨A_13, h⟩ := h
  obtain ⟨Y_14, h⟩ := h
  have b18 := h.1
  replace h := h.2
  have b19 := h.1
  replace h := h.2
  refine ch_callS (as := [.inr (0, 0, 0), .inl (.int 1), .inl (.int 0)]) d_l_refused_25 lk_l_258 ms_l_is rfl rfl ⟨Nat.le_of_ble_eq_true rfl, Nat.le_of_ble_eq_true rfl⟩ (Nat.le_of_ble_eq_true rfl) (ch_rk (a := 1) (b := 4) hk (Nat.le_of_ble_eq_true rfl) (Nat.le_of_ble_eq_true rfl)) (ch_mono (ch_Ki (fun r15 m16 q17 => ?_)) (r_l_is g (fun (r_ : Int32) (m_ : ch_M) => (1 = r_ ∧ m8 = m_)) (A_13) (Y_14) (1) (0) m8 ⟨b18, b19, ⟨rfl, rfl⟩⟩))
  obtain ⟨rfl, rfl⟩ := q17
  replace h := h
  refine ch_if_eq (tgt := 345) d_l_refused_28 (by decide) (fun c => absurd c (by decide)) (fun _ => ?_)
  refine ch_aload_n (i := 0) d_l_refused_31 rfl rfl ?_
  refine ch_bipush (v := 100) d_l_refused_32 (by decide) ?_
  obtain ⟨A_20, h⟩ := h
  obtain ⟨Y_21, h⟩ := h
  obtain ⟨R_22, h⟩ := h
  obtain ⟨w_23, h⟩ := h
  obtain ⟨e_24, h⟩ := h
  have b29 := h.1
  replace h := h.2
  have b30 := h.1
  replace h := h.2
  have b31 := h.1
  replace h := h.2
  refine ch_callSX (as := [.inr (0, 0, 0), .inl (.int 100)]) d_l_refused_34 lk_l_153 ms_l_child rfl rfl ⟨Nat.le_of_ble_eq_true rfl, Nat.le_of_ble_eq_true rfl⟩ (Nat.le_of_ble_eq_true rfl) (ch_rk (a := 5) (b := 1) hk (Nat.le_of_ble_eq_true rfl) (Nat.le_of_ble_eq_true rfl)) (ch_mono (ch_Ki (fun r26 m27 q28 => ?_)) (r_l_child g (fun (r_ : Int32) (m_ : ch_M) => (∃ (M25 : ch_M), (-1001) = r_ ∧ (a_W A_20 Y_21 (w_23, e_24, 0) M25) ∧ m_ = M25)) (A_20) (Y_21) (R_22) (w_23) (e_24) (100) m8 ⟨b29, b30, b31, (fun M25 f0_ => ⟨M25, rfl, f0_, rfl⟩)⟩))
  obtain ⟨M25, rfl, f0_, hm_⟩ := q28
  replace h := h M25 f0_ m27 hm_
  refine ch_sipush (v := (-1001)) d_l_refused_37 (by decide) ?_
  refine ch_icmp_ne (tgt := 345) d_l_refused_40 (by decide) (fun c => absurd c (by decide)) (fun _ => ?_)
  refine ch_iload_n (i := 3) d_l_refused_43 rfl rfl ?_
  refine ch_iconst (v := 5) d_l_refused_44 (by decide) ?_
  refine ch_icmp_lt (tgt := 68) d_l_refused_45 (by decide) (fun c => ?_) (fun c => ?_)
  · replace h := h.1 c
    exact h
  · replace h := h.2 c
    refine ch_aload_n (i := 0) d_l_refused_48 rfl rfl ?_
    refine ch_iconst (v := 1) d_l_refused_49 (by decide) ?_
    obtain ⟨A_32, h⟩ := h
    obtain ⟨Y_33, h⟩ := h
    obtain ⟨R_34, h⟩ := h
    obtain ⟨w_35, h⟩ := h
    obtain ⟨e_36, h⟩ := h
    have b41 := h.1
    replace h := h.2
    have b42 := h.1
    replace h := h.2
    have b43 := h.1
    replace h := h.2
    refine ch_callSX (as := [.inr (0, 0, 0), .inl (.int 1)]) d_l_refused_50 lk_l_153 ms_l_child rfl rfl ⟨Nat.le_of_ble_eq_true rfl, Nat.le_of_ble_eq_true rfl⟩ (Nat.le_of_ble_eq_true rfl) (ch_rk (a := 6) (b := 1) hk (Nat.le_of_ble_eq_true rfl) (Nat.le_of_ble_eq_true rfl)) (ch_mono (ch_Ki (fun r38 m39 q40 => ?_)) (r_l_child g (fun (r_ : Int32) (m_ : ch_M) => (∃ (M37 : ch_M), (-1001) = r_ ∧ (a_W A_32 Y_33 (w_35, e_36, 0) M37) ∧ m_ = M37)) (A_32) (Y_33) (R_34) (w_35) (e_36) (1) m27 ⟨b41, b42, b43, (fun M37 f0_ => ⟨M37, rfl, f0_, rfl⟩)⟩))
    obtain ⟨M37, rfl, f0_, hm_⟩ := q40
    replace h := h M37 f0_ m39 hm_
    refine ch_sipush (v := (-1001)) d_l_refused_53 (by decide) ?_
    refine ch_icmp_ne (tgt := 345) d_l_refused_56 (by decide) (fun c => absurd c (by decide)) (fun _ => ?_)
    refine ch_aload_n (i := 0) d_l_refused_59 rfl rfl ?_
    refine ch_iconst (v := 2) d_l_refused_60 (by decide) ?_
    refine ch_iconst (v := 5) d_l_refused_61 (by decide) ?_
    obtain ⟨A_44, h⟩ := h
    obtain ⟨Y_45, h⟩ := h
    have b49 := h.1
    replace h := h.2
    have b50 := h.1
    replace h := h.2
    refine ch_callS (as := [.inr (0, 0, 0), .inl (.int 2), .inl (.int 5)]) d_l_refused_62 lk_l_258 ms_l_is rfl rfl ⟨Nat.le_of_ble_eq_true rfl, Nat.le_of_ble_eq_true rfl⟩ (Nat.le_of_ble_eq_true rfl) (ch_rk (a := 7) (b := 4) hk (Nat.le_of_ble_eq_true rfl) (Nat.le_of_ble_eq_true rfl)) (ch_mono (ch_Ki (fun r46 m47 q48 => ?_)) (r_l_is g (fun (r_ : Int32) (m_ : ch_M) => (1 = r_ ∧ m39 = m_)) (A_44) (Y_45) (2) (5) m39 ⟨b49, b50, ⟨rfl, rfl⟩⟩))
    obtain ⟨rfl, rfl⟩ := q48
    replace h := h
    refine ch_if_eq (tgt := 345) d_l_refused_65 (by decide) (fun c => absurd c (by decide)) (fun _ => ?_)
    exact h
set_option maxHeartbeats 1600000 in
theorem g_l_refused_68 (g : ch_G) (Q : ch_O → ch_M → Prop) (k : Nat) (hk : k + 12 ≤ 6000) (x1 : Int64) (x3 : Int32) (o4 : Option ch_V) (o5 : Option ch_V) (o6 : Option ch_V) (m : ch_M) (h : (∃ A_1 : a_G, (∃ Y_2 : ch_B, (∃ R_3 : Int32 × Int32 × Int32, (∃ w_4 : Int32, (∃ e_5 : Int32, (a_W A_1 Y_2 R_3 m) ∧ (∀ Z_, y_sm Y_2 Z_ → r_wc Z_ x3 99 = (w_4, e_5)) ∧ (¬ w_4 = 0) ∧ ((∀ (M6 : ch_M), (a_W A_1 Y_2 (w_4, e_5, 0) M6) → (∀ m8 : ch_M, m8 = M6 → (∃ A_13 : a_G, (∃ Y_14 : ch_B, (a_W A_13 Y_14 (3, x3, 0) m8) ∧ (¬ 3 = (0 : Int32)) ∧ ((∃ A_20 : a_G, (∃ Y_21 : ch_B, (∃ R_22 : Int32 × Int32 × Int32, (∃ w_23 : Int32, (∃ e_24 : Int32, (a_W A_20 Y_21 R_22 m8) ∧ (∀ Z_, y_sm Y_21 Z_ → r_wc Z_ (-1) 0 = (w_23, e_24)) ∧ (¬ w_23 = 0) ∧ ((∀ (M25 : ch_M), (a_W A_20 Y_21 (w_23, e_24, 0) M25) → (∀ m27 : ch_M, m27 = M25 → (∃ A_32 : a_G, (∃ Y_33 : ch_B, (∃ R_34 : Int32 × Int32 × Int32, (∃ w_35 : Int32, (∃ e_36 : Int32, (a_W A_32 Y_33 R_34 m27) ∧ (∀ Z_, y_sm Y_33 Z_ → r_wc Z_ 0 12 = (w_35, e_36)) ∧ (¬ w_35 = 0) ∧ ((∀ (M37 : ch_M), (a_W A_32 Y_33 (w_35, e_36, 0) M37) → (∀ m39 : ch_M, m39 = M37 → (∃ A_44 : a_G, (∃ Y_45 : ch_B, (a_W A_44 Y_45 (1, 0, 0) m39) ∧ (¬ 1 = (0 : Int32)) ∧ ((∃ A_51 : a_G, (∃ Y_52 : ch_B, (∃ R_53 : Int32 × Int32 × Int32, (∃ w_54 : Int32, (∃ e_55 : Int32, (a_W A_51 Y_52 R_53 m39) ∧ (∀ Z_, y_sm Y_52 Z_ → r_wc Z_ 0 (-1) = (w_54, e_55)) ∧ (¬ w_54 = 0) ∧ ((∀ (M56 : ch_M), (a_W A_51 Y_52 (w_54, e_55, 0) M56) → (∀ m58 : ch_M, m58 = M56 → ch_J g m_l_refused (ch_rm m_l_refused) (ch_E g m_l_refused Q) 136 [some (.inr (0, 0, 0)), some (.inl (.long x1)), none, some (.inl (.int x3)), o4, o5, o6] [] m58 (k + 12)))))))))))))))))))))))))))))))))))))))) : ch_J g m_l_refused (ch_rm m_l_refused) (ch_E g m_l_refused Q) 68 [some (.inr (0, 0, 0)), some (.inl (.long x1)), none, some (.inl (.int x3)), o4, o5, o6] [] m k := by
  refine ch_aload_n (i := 0) d_l_refused_68 rfl rfl ?_
  refine ch_iload_n (i := 3) d_l_refused_69 rfl rfl ?_
  refine ch_bipush (v := 99) d_l_refused_70 (by decide) ?_
  obtain ⟨A_1, h⟩ := h
  obtain ⟨Y_2, h⟩ := h
  obtain ⟨R_3, h⟩ := h
  obtain ⟨w_4, h⟩ := h
  obtain ⟨e_5, h⟩ := h
  have b10 := h.1
  replace h := h.2
  have b11 := h.1
  replace h := h.2
  have b12 := h.1
  replace h := h.2
  refine ch_callSX (as := [.inr (0, 0, 0), .inl (.int x3), .inl (.int 99)]) d_l_refused_72 lk_l_155 ms_l_chalk rfl rfl ⟨Nat.le_of_ble_eq_true rfl, Nat.le_of_ble_eq_true rfl⟩ (Nat.le_of_ble_eq_true rfl) (ch_rk0 (b := 1) hk (Nat.le_of_ble_eq_true rfl) (Nat.le_of_ble_eq_true rfl)) (ch_mono (ch_Ki (fun r7 m8 q9 => ?_)) (r_l_chalk g (fun (r_ : Int32) (m_ : ch_M) => (∃ (M6 : ch_M), (-1001) = r_ ∧ (a_W A_1 Y_2 (w_4, e_5, 0) M6) ∧ m_ = M6)) (A_1) (Y_2) (R_3) (w_4) (e_5) (x3) (99) m ⟨b10, b11, b12, (fun M6 f0_ => ⟨M6, rfl, f0_, rfl⟩)⟩))
  obtain ⟨M6, rfl, f0_, hm_⟩ := q9
  replace h := h M6 f0_ m8 hm_
  refine ch_sipush (v := (-1001)) d_l_refused_75 (by decide) ?_
  refine ch_icmp_ne (tgt := 345) d_l_refused_78 (by decide) (fun c => absurd c (by decide)) (fun _ => ?_)
  refine ch_aload_n (i := 0) d_l_refused_81 rfl rfl ?_
  refine ch_iconst (v := 3) d_l_refused_82 (by decide) ?_
  refine ch_iload_n (i := 3) d_l_refused_83 rfl rfl ?_
  obtain ⟨A_13, h⟩ := h
  obtain ⟨Y_14, h⟩ := h
  have b18 := h.1
  replace h := h.2
  have b19 := h.1
  replace h := h.2
  refine ch_callS (as := [.inr (0, 0, 0), .inl (.int 3), .inl (.int x3)]) d_l_refused_84 lk_l_258 ms_l_is rfl rfl ⟨Nat.le_of_ble_eq_true rfl, Nat.le_of_ble_eq_true rfl⟩ (Nat.le_of_ble_eq_true rfl) (ch_rk (a := 1) (b := 4) hk (Nat.le_of_ble_eq_true rfl) (Nat.le_of_ble_eq_true rfl)) (ch_mono (ch_Ki (fun r15 m16 q17 => ?_)) (r_l_is g (fun (r_ : Int32) (m_ : ch_M) => (1 = r_ ∧ m8 = m_)) (A_13) (Y_14) (3) (x3) m8 ⟨b18, b19, ⟨rfl, rfl⟩⟩))
  obtain ⟨rfl, rfl⟩ := q17
  replace h := h
  refine ch_if_eq (tgt := 345) d_l_refused_87 (by decide) (fun c => absurd c (by decide)) (fun _ => ?_)
  refine ch_aload_n (i := 0) d_l_refused_90 rfl rfl ?_
  refine ch_iconst (v := (-1)) d_l_refused_91 (by decide) ?_
  refine ch_iconst (v := 0) d_l_refused_92 (by decide) ?_
  obtain ⟨A_20, h⟩ := h
  obtain ⟨Y_21, h⟩ := h
  obtain ⟨R_22, h⟩ := h
  obtain ⟨w_23, h⟩ := h
  obtain ⟨e_24, h⟩ := h
  have b29 := h.1
  replace h := h.2
  have b30 := h.1
  replace h := h.2
  have b31 := h.1
  replace h := h.2
  refine ch_callSX (as := [.inr (0, 0, 0), .inl (.int (-1)), .inl (.int 0)]) d_l_refused_93 lk_l_155 ms_l_chalk rfl rfl ⟨Nat.le_of_ble_eq_true rfl, Nat.le_of_ble_eq_true rfl⟩ (Nat.le_of_ble_eq_true rfl) (ch_rk (a := 5) (b := 1) hk (Nat.le_of_ble_eq_true rfl) (Nat.le_of_ble_eq_true rfl)) (ch_mono (ch_Ki (fun r26 m27 q28 => ?_)) (r_l_chalk g (fun (r_ : Int32) (m_ : ch_M) => (∃ (M25 : ch_M), (-1001) = r_ ∧ (a_W A_20 Y_21 (w_23, e_24, 0) M25) ∧ m_ = M25)) (A_20) (Y_21) (R_22) (w_23) (e_24) ((-1)) (0) m8 ⟨b29, b30, b31, (fun M25 f0_ => ⟨M25, rfl, f0_, rfl⟩)⟩))
  obtain ⟨M25, rfl, f0_, hm_⟩ := q28
  replace h := h M25 f0_ m27 hm_
  refine ch_sipush (v := (-1001)) d_l_refused_96 (by decide) ?_
  refine ch_icmp_ne (tgt := 345) d_l_refused_99 (by decide) (fun c => absurd c (by decide)) (fun _ => ?_)
  refine ch_aload_n (i := 0) d_l_refused_102 rfl rfl ?_
  refine ch_iconst (v := 0) d_l_refused_103 (by decide) ?_
  refine ch_bipush (v := 12) d_l_refused_104 (by decide) ?_
  obtain ⟨A_32, h⟩ := h
  obtain ⟨Y_33, h⟩ := h
  obtain ⟨R_34, h⟩ := h
  obtain ⟨w_35, h⟩ := h
  obtain ⟨e_36, h⟩ := h
  have b41 := h.1
  replace h := h.2
  have b42 := h.1
  replace h := h.2
  have b43 := h.1
  replace h := h.2
  refine ch_callSX (as := [.inr (0, 0, 0), .inl (.int 0), .inl (.int 12)]) d_l_refused_106 lk_l_155 ms_l_chalk rfl rfl ⟨Nat.le_of_ble_eq_true rfl, Nat.le_of_ble_eq_true rfl⟩ (Nat.le_of_ble_eq_true rfl) (ch_rk (a := 6) (b := 1) hk (Nat.le_of_ble_eq_true rfl) (Nat.le_of_ble_eq_true rfl)) (ch_mono (ch_Ki (fun r38 m39 q40 => ?_)) (r_l_chalk g (fun (r_ : Int32) (m_ : ch_M) => (∃ (M37 : ch_M), (-1001) = r_ ∧ (a_W A_32 Y_33 (w_35, e_36, 0) M37) ∧ m_ = M37)) (A_32) (Y_33) (R_34) (w_35) (e_36) (0) (12) m27 ⟨b41, b42, b43, (fun M37 f0_ => ⟨M37, rfl, f0_, rfl⟩)⟩))
  obtain ⟨M37, rfl, f0_, hm_⟩ := q40
  replace h := h M37 f0_ m39 hm_
  refine ch_sipush (v := (-1001)) d_l_refused_109 (by decide) ?_
  refine ch_icmp_ne (tgt := 345) d_l_refused_112 (by decide) (fun c => absurd c (by decide)) (fun _ => ?_)
  refine ch_aload_n (i := 0) d_l_refused_115 rfl rfl ?_
  refine ch_iconst (v := 1) d_l_refused_116 (by decide) ?_
  refine ch_iconst (v := 0) d_l_refused_117 (by decide) ?_
  obtain ⟨A_44, h⟩ := h
  obtain ⟨Y_45, h⟩ := h
  have b49 := h.1
  replace h := h.2
  have b50 := h.1
  replace h := h.2
  refine ch_callS (as := [.inr (0, 0, 0), .inl (.int 1), .inl (.int 0)]) d_l_refused_118 lk_l_258 ms_l_is rfl rfl ⟨Nat.le_of_ble_eq_true rfl, Nat.le_of_ble_eq_true rfl⟩ (Nat.le_of_ble_eq_true rfl) (ch_rk (a := 7) (b := 4) hk (Nat.le_of_ble_eq_true rfl) (Nat.le_of_ble_eq_true rfl)) (ch_mono (ch_Ki (fun r46 m47 q48 => ?_)) (r_l_is g (fun (r_ : Int32) (m_ : ch_M) => (1 = r_ ∧ m39 = m_)) (A_44) (Y_45) (1) (0) m39 ⟨b49, b50, ⟨rfl, rfl⟩⟩))
  obtain ⟨rfl, rfl⟩ := q48
  replace h := h
  refine ch_if_eq (tgt := 345) d_l_refused_121 (by decide) (fun c => absurd c (by decide)) (fun _ => ?_)
  refine ch_aload_n (i := 0) d_l_refused_124 rfl rfl ?_
  refine ch_iconst (v := 0) d_l_refused_125 (by decide) ?_
  refine ch_iconst (v := (-1)) d_l_refused_126 (by decide) ?_
  obtain ⟨A_51, h⟩ := h
  obtain ⟨Y_52, h⟩ := h
  obtain ⟨R_53, h⟩ := h
  obtain ⟨w_54, h⟩ := h
  obtain ⟨e_55, h⟩ := h
  have b60 := h.1
  replace h := h.2
  have b61 := h.1
  replace h := h.2
  have b62 := h.1
  replace h := h.2
  refine ch_callSX (as := [.inr (0, 0, 0), .inl (.int 0), .inl (.int (-1))]) d_l_refused_127 lk_l_155 ms_l_chalk rfl rfl ⟨Nat.le_of_ble_eq_true rfl, Nat.le_of_ble_eq_true rfl⟩ (Nat.le_of_ble_eq_true rfl) (ch_rk (a := 11) (b := 1) hk (Nat.le_of_ble_eq_true rfl) (Nat.le_of_ble_eq_true rfl)) (ch_mono (ch_Ki (fun r57 m58 q59 => ?_)) (r_l_chalk g (fun (r_ : Int32) (m_ : ch_M) => (∃ (M56 : ch_M), (-1001) = r_ ∧ (a_W A_51 Y_52 (w_54, e_55, 0) M56) ∧ m_ = M56)) (A_51) (Y_52) (R_53) (w_54) (e_55) (0) ((-1)) m39 ⟨b60, b61, b62, (fun M56 f0_ => ⟨M56, rfl, f0_, rfl⟩)⟩))
  obtain ⟨M56, rfl, f0_, hm_⟩ := q59
  replace h := h M56 f0_ m58 hm_
  refine ch_sipush (v := (-1001)) d_l_refused_130 (by decide) ?_
  refine ch_icmp_ne (tgt := 345) d_l_refused_133 (by decide) (fun c => absurd c (by decide)) (fun _ => ?_)
  exact h
set_option maxHeartbeats 1600000 in
theorem g_l_refused_136 (g : ch_G) (Q : ch_O → ch_M → Prop) (k : Nat) (hk : k + 15 ≤ 6000) (x1 : Int64) (x3 : Int32) (o4 : Option ch_V) (o5 : Option ch_V) (o6 : Option ch_V) (m : ch_M) (h : (∃ A_1 : a_G, (∃ Y_2 : ch_B, (∃ R_3 : Int32 × Int32 × Int32, (∃ w_4 : Int32, (∃ e_5 : Int32, (a_W A_1 Y_2 R_3 m) ∧ (∀ Z_, y_sm Y_2 Z_ → r_hx Z_ x3 0 = (w_4, e_5)) ∧ (¬ w_4 = 0) ∧ ((∀ (M6 : ch_M), (a_W A_1 Y_2 (w_4, e_5, 0) M6) → (∀ m8 : ch_M, m8 = M6 → (∃ A_13 : a_G, (∃ Y_14 : ch_B, (a_W A_13 Y_14 (3, x3, 0) m8) ∧ (¬ 3 = (0 : Int32)) ∧ ((∃ A_20 : a_G, (∃ Y_21 : ch_B, (∃ R_22 : Int32 × Int32 × Int32, (∃ w_23 : Int32, (∃ e_24 : Int32, (a_W A_20 Y_21 R_22 m8) ∧ (∀ Z_, y_sm Y_21 Z_ → r_ww Z_ x3 = (w_23, e_24)) ∧ (¬ w_23 = 0) ∧ ((∀ (M25 : ch_M), (a_W A_20 Y_21 (w_23, e_24, 0) M25) → (∀ m27 : ch_M, m27 = M25 → (∃ A_32 : a_G, (∃ Y_33 : ch_B, (a_W A_32 Y_33 (3, x3, 0) m27) ∧ (¬ 3 = (0 : Int32)) ∧ ((∃ A_39 : a_G, (∃ Y_40 : ch_B, (∃ R_41 : Int32 × Int32 × Int32, (∃ w_42 : Int32, (∃ e_43 : Int32, (a_W A_39 Y_40 R_41 m27) ∧ (∀ Z_, y_sm Y_40 Z_ → r_ws Z_ x3 = (w_42, e_43)) ∧ (¬ w_42 = 0) ∧ ((∀ (M44 : ch_M), (a_W A_39 Y_40 (w_42, e_43, 0) M44) → (∀ m46 : ch_M, m46 = M44 → (∃ A_51 : a_G, (∃ Y_52 : ch_B, (a_W A_51 Y_52 (3, x3, 0) m46) ∧ (¬ 3 = (0 : Int32)) ∧ (ch_J g m_l_refused (ch_rm m_l_refused) (ch_E g m_l_refused Q) 197 [some (.inr (0, 0, 0)), some (.inl (.long x1)), none, some (.inl (.int x3)), o4, o5, o6] [] m46 (k + 15))))))))))))))))))))))))))))))))))) : ch_J g m_l_refused (ch_rm m_l_refused) (ch_E g m_l_refused Q) 136 [some (.inr (0, 0, 0)), some (.inl (.long x1)), none, some (.inl (.int x3)), o4, o5, o6] [] m k := by
  refine ch_aload_n (i := 0) d_l_refused_136 rfl rfl ?_
  refine ch_iload_n (i := 3) d_l_refused_137 rfl rfl ?_
  refine ch_iconst (v := 0) d_l_refused_138 (by decide) ?_
  obtain ⟨A_1, h⟩ := h
  obtain ⟨Y_2, h⟩ := h
  obtain ⟨R_3, h⟩ := h
  obtain ⟨w_4, h⟩ := h
  obtain ⟨e_5, h⟩ := h
  have b10 := h.1
  replace h := h.2
  have b11 := h.1
  replace h := h.2
  have b12 := h.1
  replace h := h.2
  refine ch_callSX (as := [.inr (0, 0, 0), .inl (.int x3), .inl (.int 0)]) d_l_refused_139 lk_l_161 ms_l_hop rfl rfl ⟨Nat.le_of_ble_eq_true rfl, Nat.le_of_ble_eq_true rfl⟩ (Nat.le_of_ble_eq_true rfl) (ch_rk0 (b := 1) hk (Nat.le_of_ble_eq_true rfl) (Nat.le_of_ble_eq_true rfl)) (ch_mono (ch_Ki (fun r7 m8 q9 => ?_)) (r_l_hop g (fun (r_ : Int32) (m_ : ch_M) => (∃ (M6 : ch_M), (-1001) = r_ ∧ (a_W A_1 Y_2 (w_4, e_5, 0) M6) ∧ m_ = M6)) (A_1) (Y_2) (R_3) (w_4) (e_5) (x3) (0) m ⟨b10, b11, b12, (fun M6 f0_ => ⟨M6, rfl, f0_, rfl⟩)⟩))
  obtain ⟨M6, rfl, f0_, hm_⟩ := q9
  replace h := h M6 f0_ m8 hm_
  refine ch_sipush (v := (-1001)) d_l_refused_142 (by decide) ?_
  refine ch_icmp_ne (tgt := 345) d_l_refused_145 (by decide) (fun c => absurd c (by decide)) (fun _ => ?_)
  refine ch_aload_n (i := 0) d_l_refused_148 rfl rfl ?_
  refine ch_iconst (v := 3) d_l_refused_149 (by decide) ?_
  refine ch_iload_n (i := 3) d_l_refused_150 rfl rfl ?_
  obtain ⟨A_13, h⟩ := h
  obtain ⟨Y_14, h⟩ := h
  have b18 := h.1
  replace h := h.2
  have b19 := h.1
  replace h := h.2
  refine ch_callS (as := [.inr (0, 0, 0), .inl (.int 3), .inl (.int x3)]) d_l_refused_151 lk_l_258 ms_l_is rfl rfl ⟨Nat.le_of_ble_eq_true rfl, Nat.le_of_ble_eq_true rfl⟩ (Nat.le_of_ble_eq_true rfl) (ch_rk (a := 1) (b := 4) hk (Nat.le_of_ble_eq_true rfl) (Nat.le_of_ble_eq_true rfl)) (ch_mono (ch_Ki (fun r15 m16 q17 => ?_)) (r_l_is g (fun (r_ : Int32) (m_ : ch_M) => (1 = r_ ∧ m8 = m_)) (A_13) (Y_14) (3) (x3) m8 ⟨b18, b19, ⟨rfl, rfl⟩⟩))
  obtain ⟨rfl, rfl⟩ := q17
  replace h := h
  refine ch_if_eq (tgt := 345) d_l_refused_154 (by decide) (fun c => absurd c (by decide)) (fun _ => ?_)
  refine ch_aload_n (i := 0) d_l_refused_157 rfl rfl ?_
  refine ch_iload_n (i := 3) d_l_refused_158 rfl rfl ?_
  obtain ⟨A_20, h⟩ := h
  obtain ⟨Y_21, h⟩ := h
  obtain ⟨R_22, h⟩ := h
  obtain ⟨w_23, h⟩ := h
  obtain ⟨e_24, h⟩ := h
  have b29 := h.1
  replace h := h.2
  have b30 := h.1
  replace h := h.2
  have b31 := h.1
  replace h := h.2
  refine ch_callSX (as := [.inr (0, 0, 0), .inl (.int x3)]) d_l_refused_159 lk_l_163 ms_l_warrant rfl rfl ⟨Nat.le_of_ble_eq_true rfl, Nat.le_of_ble_eq_true rfl⟩ (Nat.le_of_ble_eq_true rfl) (ch_rk (a := 5) (b := 1) hk (Nat.le_of_ble_eq_true rfl) (Nat.le_of_ble_eq_true rfl)) (ch_mono (ch_Ki (fun r26 m27 q28 => ?_)) (r_l_warrant g (fun (r_ : Int32) (m_ : ch_M) => (∃ (M25 : ch_M), (-1001) = r_ ∧ (a_W A_20 Y_21 (w_23, e_24, 0) M25) ∧ m_ = M25)) (A_20) (Y_21) (R_22) (w_23) (e_24) (x3) m8 ⟨b29, b30, b31, (fun M25 f0_ => ⟨M25, rfl, f0_, rfl⟩)⟩))
  obtain ⟨M25, rfl, f0_, hm_⟩ := q28
  replace h := h M25 f0_ m27 hm_
  refine ch_sipush (v := (-1001)) d_l_refused_162 (by decide) ?_
  refine ch_icmp_ne (tgt := 345) d_l_refused_165 (by decide) (fun c => absurd c (by decide)) (fun _ => ?_)
  refine ch_aload_n (i := 0) d_l_refused_168 rfl rfl ?_
  refine ch_iconst (v := 3) d_l_refused_169 (by decide) ?_
  refine ch_iload_n (i := 3) d_l_refused_170 rfl rfl ?_
  obtain ⟨A_32, h⟩ := h
  obtain ⟨Y_33, h⟩ := h
  have b37 := h.1
  replace h := h.2
  have b38 := h.1
  replace h := h.2
  refine ch_callS (as := [.inr (0, 0, 0), .inl (.int 3), .inl (.int x3)]) d_l_refused_171 lk_l_258 ms_l_is rfl rfl ⟨Nat.le_of_ble_eq_true rfl, Nat.le_of_ble_eq_true rfl⟩ (Nat.le_of_ble_eq_true rfl) (ch_rk (a := 6) (b := 4) hk (Nat.le_of_ble_eq_true rfl) (Nat.le_of_ble_eq_true rfl)) (ch_mono (ch_Ki (fun r34 m35 q36 => ?_)) (r_l_is g (fun (r_ : Int32) (m_ : ch_M) => (1 = r_ ∧ m27 = m_)) (A_32) (Y_33) (3) (x3) m27 ⟨b37, b38, ⟨rfl, rfl⟩⟩))
  obtain ⟨rfl, rfl⟩ := q36
  replace h := h
  refine ch_if_eq (tgt := 345) d_l_refused_174 (by decide) (fun c => absurd c (by decide)) (fun _ => ?_)
  refine ch_aload_n (i := 0) d_l_refused_177 rfl rfl ?_
  refine ch_iload_n (i := 3) d_l_refused_178 rfl rfl ?_
  obtain ⟨A_39, h⟩ := h
  obtain ⟨Y_40, h⟩ := h
  obtain ⟨R_41, h⟩ := h
  obtain ⟨w_42, h⟩ := h
  obtain ⟨e_43, h⟩ := h
  have b48 := h.1
  replace h := h.2
  have b49 := h.1
  replace h := h.2
  have b50 := h.1
  replace h := h.2
  refine ch_callSX (as := [.inr (0, 0, 0), .inl (.int x3)]) d_l_refused_179 lk_l_222 ms_l_strike rfl rfl ⟨Nat.le_of_ble_eq_true rfl, Nat.le_of_ble_eq_true rfl⟩ (Nat.le_of_ble_eq_true rfl) (ch_rk (a := 10) (b := 1) hk (Nat.le_of_ble_eq_true rfl) (Nat.le_of_ble_eq_true rfl)) (ch_mono (ch_Ki (fun r45 m46 q47 => ?_)) (r_l_strike g (fun (r_ : Int32) (m_ : ch_M) => (∃ (M44 : ch_M), (-1001) = r_ ∧ (a_W A_39 Y_40 (w_42, e_43, 0) M44) ∧ m_ = M44)) (A_39) (Y_40) (R_41) (w_42) (e_43) (x3) m27 ⟨b48, b49, b50, (fun M44 f0_ => ⟨M44, rfl, f0_, rfl⟩)⟩))
  obtain ⟨M44, rfl, f0_, hm_⟩ := q47
  replace h := h M44 f0_ m46 hm_
  refine ch_sipush (v := (-1001)) d_l_refused_182 (by decide) ?_
  refine ch_icmp_ne (tgt := 345) d_l_refused_185 (by decide) (fun c => absurd c (by decide)) (fun _ => ?_)
  refine ch_aload_n (i := 0) d_l_refused_188 rfl rfl ?_
  refine ch_iconst (v := 3) d_l_refused_189 (by decide) ?_
  refine ch_iload_n (i := 3) d_l_refused_190 rfl rfl ?_
  obtain ⟨A_51, h⟩ := h
  obtain ⟨Y_52, h⟩ := h
  have b56 := h.1
  replace h := h.2
  have b57 := h.1
  replace h := h.2
  refine ch_callS (as := [.inr (0, 0, 0), .inl (.int 3), .inl (.int x3)]) d_l_refused_191 lk_l_258 ms_l_is rfl rfl ⟨Nat.le_of_ble_eq_true rfl, Nat.le_of_ble_eq_true rfl⟩ (Nat.le_of_ble_eq_true rfl) (ch_rk (a := 11) (b := 4) hk (Nat.le_of_ble_eq_true rfl) (Nat.le_of_ble_eq_true rfl)) (ch_mono (ch_Ki (fun r53 m54 q55 => ?_)) (r_l_is g (fun (r_ : Int32) (m_ : ch_M) => (1 = r_ ∧ m46 = m_)) (A_51) (Y_52) (3) (x3) m46 ⟨b56, b57, ⟨rfl, rfl⟩⟩))
  obtain ⟨rfl, rfl⟩ := q55
  replace h := h
  refine ch_if_eq (tgt := 345) d_l_refused_194 (by decide) (fun c => absurd c (by decide)) (fun _ => ?_)
  exact h
set_option maxHeartbeats 1600000 in
theorem g_l_refused_197 (g : ch_G) (Q : ch_O → ch_M → Prop) (k : Nat) (hk : k + 11 ≤ 6000) (x1 : Int64) (x3 : Int32) (o4 : Option ch_V) (o5 : Option ch_V) (o6 : Option ch_V) (m : ch_M) (h : (∃ A_1 : a_G, (∃ Y_2 : ch_B, (∃ R_3 : Int32 × Int32 × Int32, (∃ w_4 : Int32, (∃ e_5 : Int32, (a_W A_1 Y_2 R_3 m) ∧ (∀ Z_, y_sm Y_2 Z_ → r_wr Z_ 0 = (w_4, e_5)) ∧ (¬ w_4 = 0) ∧ ((∀ (M6 : ch_M), (a_W A_1 Y_2 (w_4, e_5, 0) M6) → (∀ m8 : ch_M, m8 = M6 → (∃ A_13 : a_G, (∃ Y_14 : ch_B, (a_W A_13 Y_14 (1, 0, 0) m8) ∧ (¬ 1 = (0 : Int32)) ∧ ((∃ A_20 : a_G, (∃ Y_21 : ch_B, (∃ R_22 : Int32 × Int32 × Int32, (∃ w_23 : Int32, (∃ e_24 : Int32, (a_W A_20 Y_21 R_22 m8) ∧ (∀ Z_, y_sm Y_21 Z_ → r_wr Z_ 10 = (w_23, e_24)) ∧ (¬ w_23 = 0) ∧ ((∀ (M25 : ch_M), (a_W A_20 Y_21 (w_23, e_24, 0) M25) → (∀ m27 : ch_M, m27 = M25 → (∃ A_32 : a_G, (∃ Y_33 : ch_B, (∃ R_34 : Int32 × Int32 × Int32, (∃ w_35 : Int32, (∃ e_36 : Int32, (a_W A_32 Y_33 R_34 m27) ∧ (∀ Z_, y_sm Y_33 Z_ → r_wg Z_ x3 0 0 = (w_35, e_36)) ∧ (¬ w_35 = 0) ∧ ((∀ (M37 : ch_M), (a_W A_32 Y_33 (w_35, e_36, 0) M37) → (∀ m39 : ch_M, m39 = M37 → (∃ A_44 : a_G, (∃ Y_45 : ch_B, (a_W A_44 Y_45 (3, x3, 0) m39) ∧ (¬ 3 = (0 : Int32)) ∧ (ch_J g m_l_refused (ch_rm m_l_refused) (ch_E g m_l_refused Q) 251 [some (.inr (0, 0, 0)), some (.inl (.long x1)), none, some (.inl (.int x3)), o4, o5, o6] [] m39 (k + 11)))))))))))))))))))))))))))))))) : ch_J g m_l_refused (ch_rm m_l_refused) (ch_E g m_l_refused Q) 197 [some (.inr (0, 0, 0)), some (.inl (.long x1)), none, some (.inl (.int x3)), o4, o5, o6] [] m k := by
  refine ch_aload_n (i := 0) d_l_refused_197 rfl rfl ?_
  refine ch_iconst (v := 0) d_l_refused_198 (by decide) ?_
  obtain ⟨A_1, h⟩ := h
  obtain ⟨Y_2, h⟩ := h
  obtain ⟨R_3, h⟩ := h
  obtain ⟨w_4, h⟩ := h
  obtain ⟨e_5, h⟩ := h
  have b10 := h.1
  replace h := h.2
  have b11 := h.1
  replace h := h.2
  have b12 := h.1
  replace h := h.2
  refine ch_callSX (as := [.inr (0, 0, 0), .inl (.int 0)]) d_l_refused_199 lk_l_224 ms_l_rain rfl rfl ⟨Nat.le_of_ble_eq_true rfl, Nat.le_of_ble_eq_true rfl⟩ (Nat.le_of_ble_eq_true rfl) (ch_rk0 (b := 1) hk (Nat.le_of_ble_eq_true rfl) (Nat.le_of_ble_eq_true rfl)) (ch_mono (ch_Ki (fun r7 m8 q9 => ?_)) (r_l_rain g (fun (r_ : Int32) (m_ : ch_M) => (∃ (M6 : ch_M), (-1001) = r_ ∧ (a_W A_1 Y_2 (w_4, e_5, 0) M6) ∧ m_ = M6)) (A_1) (Y_2) (R_3) (w_4) (e_5) (0) m ⟨b10, b11, b12, (fun M6 f0_ => ⟨M6, rfl, f0_, rfl⟩)⟩))
  obtain ⟨M6, rfl, f0_, hm_⟩ := q9
  replace h := h M6 f0_ m8 hm_
  refine ch_sipush (v := (-1001)) d_l_refused_202 (by decide) ?_
  refine ch_icmp_ne (tgt := 345) d_l_refused_205 (by decide) (fun c => absurd c (by decide)) (fun _ => ?_)
  refine ch_aload_n (i := 0) d_l_refused_208 rfl rfl ?_
  refine ch_iconst (v := 1) d_l_refused_209 (by decide) ?_
  refine ch_iconst (v := 0) d_l_refused_210 (by decide) ?_
  obtain ⟨A_13, h⟩ := h
  obtain ⟨Y_14, h⟩ := h
  have b18 := h.1
  replace h := h.2
  have b19 := h.1
  replace h := h.2
  refine ch_callS (as := [.inr (0, 0, 0), .inl (.int 1), .inl (.int 0)]) d_l_refused_211 lk_l_258 ms_l_is rfl rfl ⟨Nat.le_of_ble_eq_true rfl, Nat.le_of_ble_eq_true rfl⟩ (Nat.le_of_ble_eq_true rfl) (ch_rk (a := 1) (b := 4) hk (Nat.le_of_ble_eq_true rfl) (Nat.le_of_ble_eq_true rfl)) (ch_mono (ch_Ki (fun r15 m16 q17 => ?_)) (r_l_is g (fun (r_ : Int32) (m_ : ch_M) => (1 = r_ ∧ m8 = m_)) (A_13) (Y_14) (1) (0) m8 ⟨b18, b19, ⟨rfl, rfl⟩⟩))
  obtain ⟨rfl, rfl⟩ := q17
  replace h := h
  refine ch_if_eq (tgt := 345) d_l_refused_214 (by decide) (fun c => absurd c (by decide)) (fun _ => ?_)
  refine ch_aload_n (i := 0) d_l_refused_217 rfl rfl ?_
  refine ch_bipush (v := 10) d_l_refused_218 (by decide) ?_
  obtain ⟨A_20, h⟩ := h
  obtain ⟨Y_21, h⟩ := h
  obtain ⟨R_22, h⟩ := h
  obtain ⟨w_23, h⟩ := h
  obtain ⟨e_24, h⟩ := h
  have b29 := h.1
  replace h := h.2
  have b30 := h.1
  replace h := h.2
  have b31 := h.1
  replace h := h.2
  refine ch_callSX (as := [.inr (0, 0, 0), .inl (.int 10)]) d_l_refused_220 lk_l_224 ms_l_rain rfl rfl ⟨Nat.le_of_ble_eq_true rfl, Nat.le_of_ble_eq_true rfl⟩ (Nat.le_of_ble_eq_true rfl) (ch_rk (a := 5) (b := 1) hk (Nat.le_of_ble_eq_true rfl) (Nat.le_of_ble_eq_true rfl)) (ch_mono (ch_Ki (fun r26 m27 q28 => ?_)) (r_l_rain g (fun (r_ : Int32) (m_ : ch_M) => (∃ (M25 : ch_M), (-1001) = r_ ∧ (a_W A_20 Y_21 (w_23, e_24, 0) M25) ∧ m_ = M25)) (A_20) (Y_21) (R_22) (w_23) (e_24) (10) m8 ⟨b29, b30, b31, (fun M25 f0_ => ⟨M25, rfl, f0_, rfl⟩)⟩))
  obtain ⟨M25, rfl, f0_, hm_⟩ := q28
  replace h := h M25 f0_ m27 hm_
  refine ch_sipush (v := (-1001)) d_l_refused_223 (by decide) ?_
  refine ch_icmp_ne (tgt := 345) d_l_refused_226 (by decide) (fun c => absurd c (by decide)) (fun _ => ?_)
  refine ch_aload_n (i := 0) d_l_refused_229 rfl rfl ?_
  refine ch_iload_n (i := 3) d_l_refused_230 rfl rfl ?_
  refine ch_iconst (v := 0) d_l_refused_231 (by decide) ?_
  refine ch_iconst (v := 0) d_l_refused_232 (by decide) ?_
  obtain ⟨A_32, h⟩ := h
  obtain ⟨Y_33, h⟩ := h
  obtain ⟨R_34, h⟩ := h
  obtain ⟨w_35, h⟩ := h
  obtain ⟨e_36, h⟩ := h
  have b41 := h.1
  replace h := h.2
  have b42 := h.1
  replace h := h.2
  have b43 := h.1
  replace h := h.2
  refine ch_callSX (as := [.inr (0, 0, 0), .inl (.int x3), .inl (.int 0), .inl (.int 0)]) d_l_refused_233 lk_l_226 ms_l_give rfl rfl ⟨Nat.le_of_ble_eq_true rfl, Nat.le_of_ble_eq_true rfl⟩ (Nat.le_of_ble_eq_true rfl) (ch_rk (a := 6) (b := 1) hk (Nat.le_of_ble_eq_true rfl) (Nat.le_of_ble_eq_true rfl)) (ch_mono (ch_Ki (fun r38 m39 q40 => ?_)) (r_l_give g (fun (r_ : Int32) (m_ : ch_M) => (∃ (M37 : ch_M), (-1001) = r_ ∧ (a_W A_32 Y_33 (w_35, e_36, 0) M37) ∧ m_ = M37)) (A_32) (Y_33) (R_34) (w_35) (e_36) (x3) (0) (0) m27 ⟨b41, b42, b43, (fun M37 f0_ => ⟨M37, rfl, f0_, rfl⟩)⟩))
  obtain ⟨M37, rfl, f0_, hm_⟩ := q40
  replace h := h M37 f0_ m39 hm_
  refine ch_sipush (v := (-1001)) d_l_refused_236 (by decide) ?_
  refine ch_icmp_ne (tgt := 345) d_l_refused_239 (by decide) (fun c => absurd c (by decide)) (fun _ => ?_)
  refine ch_aload_n (i := 0) d_l_refused_242 rfl rfl ?_
  refine ch_iconst (v := 3) d_l_refused_243 (by decide) ?_
  refine ch_iload_n (i := 3) d_l_refused_244 rfl rfl ?_
  obtain ⟨A_44, h⟩ := h
  obtain ⟨Y_45, h⟩ := h
  have b49 := h.1
  replace h := h.2
  have b50 := h.1
  replace h := h.2
  refine ch_callS (as := [.inr (0, 0, 0), .inl (.int 3), .inl (.int x3)]) d_l_refused_245 lk_l_258 ms_l_is rfl rfl ⟨Nat.le_of_ble_eq_true rfl, Nat.le_of_ble_eq_true rfl⟩ (Nat.le_of_ble_eq_true rfl) (ch_rk (a := 7) (b := 4) hk (Nat.le_of_ble_eq_true rfl) (Nat.le_of_ble_eq_true rfl)) (ch_mono (ch_Ki (fun r46 m47 q48 => ?_)) (r_l_is g (fun (r_ : Int32) (m_ : ch_M) => (1 = r_ ∧ m39 = m_)) (A_44) (Y_45) (3) (x3) m39 ⟨b49, b50, ⟨rfl, rfl⟩⟩))
  obtain ⟨rfl, rfl⟩ := q48
  replace h := h
  refine ch_if_eq (tgt := 345) d_l_refused_248 (by decide) (fun c => absurd c (by decide)) (fun _ => ?_)
  exact h
set_option maxHeartbeats 1600000 in
theorem g_l_refused_251 (g : ch_G) (Q : ch_O → ch_M → Prop) (k : Nat) (hk : k + 20 ≤ 6000) (x1 : Int64) (x3 : Int32) (o4 : Option ch_V) (o5 : Option ch_V) (o6 : Option ch_V) (m : ch_M) (h : (∃ A_1 : a_G, (∃ Y_2 : ch_B, (∃ R_3 : Int32 × Int32 × Int32, (∃ w_4 : Int32, (∃ e_5 : Int32, (a_W A_1 Y_2 R_3 m) ∧ (∀ Z_, y_sm Y_2 Z_ → r_wg Z_ 0 (-1) 0 = (w_4, e_5)) ∧ (¬ w_4 = 0) ∧ ((∀ (M6 : ch_M), (a_W A_1 Y_2 (w_4, e_5, 0) M6) → (∀ m8 : ch_M, m8 = M6 → (∃ A_13 : a_G, (∃ Y_14 : ch_B, (a_W A_13 Y_14 (3, x3, 0) m8) ∧ (¬ 3 = (0 : Int32)) ∧ ((∃ A_20 : a_G, (∃ Y_21 : ch_B, (∃ R_22 : Int32 × Int32 × Int32, (∃ w_23 : Int32, (∃ e_24 : Int32, (a_W A_20 Y_21 R_22 m8) ∧ (∀ Z_, y_sm Y_21 Z_ → r_wg Z_ 1 1 0 = (w_23, e_24)) ∧ (¬ w_23 = 0) ∧ ((∀ (M25 : ch_M), (a_W A_20 Y_21 (w_23, e_24, 0) M25) → (∀ m27 : ch_M, m27 = M25 → (∃ A_32 : a_G, (∃ Y_33 : ch_B, (a_W A_32 Y_33 (11, 1, 0) m27) ∧ (¬ 11 = (0 : Int32)) ∧ ((∃ A_39 : a_G, (∃ Y_40 : ch_B, (∃ R_41 : Int32 × Int32 × Int32, (∃ w_42 : Int32, (∃ e_43 : Int32, (a_W A_39 Y_40 R_41 m27) ∧ (∀ Z_, y_sm Y_40 Z_ → r_wg Z_ 0 1 0 = (w_42, e_43)) ∧ (¬ w_42 = 0) ∧ ((∀ (M44 : ch_M), (a_W A_39 Y_40 (w_42, e_43, 0) M44) → (∀ m46 : ch_M, m46 = M44 → (∃ A_51 : a_G, (∃ Y_52 : ch_B, (a_W A_51 Y_52 (1, 0, 0) m46) ∧ (¬ 1 = (0 : Int32)) ∧ ((∃ A_58 : a_G, (∃ Y_59 : ch_B, (∃ R_60 : Int32 × Int32 × Int32, (∃ w_61 : Int32, (∃ e_62 : Int32, (a_W A_58 Y_59 R_60 m46) ∧ (∀ Z_, y_sm Y_59 Z_ → r_wg Z_ 0 1 100 = (w_61, e_62)) ∧ (¬ w_61 = 0) ∧ ((∀ (M63 : ch_M), (a_W A_58 Y_59 (w_61, e_62, 0) M63) → (∀ m65 : ch_M, m65 = M63 → (∃ A_70 : a_G, (∃ Y_71 : ch_B, (a_W A_70 Y_71 (1, 0, 0) m65) ∧ (¬ 1 = (0 : Int32)) ∧ (ch_J g m_l_refused (ch_rm m_l_refused) (ch_E g m_l_refused Q) 351 [some (.inr (0, 0, 0)), some (.inl (.long x1)), none, some (.inl (.int x3)), some (.inl (.int 1)), some (.inl (.int 0)), o6] [] m65 (k + 20)))))))))))))))))))))))))))))))))))))))))))))) : ch_J g m_l_refused (ch_rm m_l_refused) (ch_E g m_l_refused Q) 251 [some (.inr (0, 0, 0)), some (.inl (.long x1)), none, some (.inl (.int x3)), o4, o5, o6] [] m k := by
  refine ch_aload_n (i := 0) d_l_refused_251 rfl rfl ?_
  refine ch_iconst (v := 0) d_l_refused_252 (by decide) ?_
  refine ch_iconst (v := (-1)) d_l_refused_253 (by decide) ?_
  refine ch_iconst (v := 0) d_l_refused_254 (by decide) ?_
  obtain ⟨A_1, h⟩ := h
  obtain ⟨Y_2, h⟩ := h
  obtain ⟨R_3, h⟩ := h
  obtain ⟨w_4, h⟩ := h
  obtain ⟨e_5, h⟩ := h
  have b10 := h.1
  replace h := h.2
  have b11 := h.1
  replace h := h.2
  have b12 := h.1
  replace h := h.2
  refine ch_callSX (as := [.inr (0, 0, 0), .inl (.int 0), .inl (.int (-1)), .inl (.int 0)]) d_l_refused_255 lk_l_226 ms_l_give rfl rfl ⟨Nat.le_of_ble_eq_true rfl, Nat.le_of_ble_eq_true rfl⟩ (Nat.le_of_ble_eq_true rfl) (ch_rk0 (b := 1) hk (Nat.le_of_ble_eq_true rfl) (Nat.le_of_ble_eq_true rfl)) (ch_mono (ch_Ki (fun r7 m8 q9 => ?_)) (r_l_give g (fun (r_ : Int32) (m_ : ch_M) => (∃ (M6 : ch_M), (-1001) = r_ ∧ (a_W A_1 Y_2 (w_4, e_5, 0) M6) ∧ m_ = M6)) (A_1) (Y_2) (R_3) (w_4) (e_5) (0) ((-1)) (0) m ⟨b10, b11, b12, (fun M6 f0_ => ⟨M6, rfl, f0_, rfl⟩)⟩))
  obtain ⟨M6, rfl, f0_, hm_⟩ := q9
  replace h := h M6 f0_ m8 hm_
  refine ch_sipush (v := (-1001)) d_l_refused_258 (by decide) ?_
  refine ch_icmp_ne (tgt := 345) d_l_refused_261 (by decide) (fun c => absurd c (by decide)) (fun _ => ?_)
  refine ch_aload_n (i := 0) d_l_refused_264 rfl rfl ?_
  refine ch_iconst (v := 3) d_l_refused_265 (by decide) ?_
  refine ch_iload_n (i := 3) d_l_refused_266 rfl rfl ?_
  obtain ⟨A_13, h⟩ := h
  obtain ⟨Y_14, h⟩ := h
  have b18 := h.1
  replace h := h.2
  have b19 := h.1
  replace h := h.2
  refine ch_callS (as := [.inr (0, 0, 0), .inl (.int 3), .inl (.int x3)]) d_l_refused_267 lk_l_258 ms_l_is rfl rfl ⟨Nat.le_of_ble_eq_true rfl, Nat.le_of_ble_eq_true rfl⟩ (Nat.le_of_ble_eq_true rfl) (ch_rk (a := 1) (b := 4) hk (Nat.le_of_ble_eq_true rfl) (Nat.le_of_ble_eq_true rfl)) (ch_mono (ch_Ki (fun r15 m16 q17 => ?_)) (r_l_is g (fun (r_ : Int32) (m_ : ch_M) => (1 = r_ ∧ m8 = m_)) (A_13) (Y_14) (3) (x3) m8 ⟨b18, b19, ⟨rfl, rfl⟩⟩))
  obtain ⟨rfl, rfl⟩ := q17
  replace h := h
  refine ch_if_eq (tgt := 345) d_l_refused_270 (by decide) (fun c => absurd c (by decide)) (fun _ => ?_)
  refine ch_aload_n (i := 0) d_l_refused_273 rfl rfl ?_
  refine ch_iconst (v := 1) d_l_refused_274 (by decide) ?_
  refine ch_iconst (v := 1) d_l_refused_275 (by decide) ?_
  refine ch_iconst (v := 0) d_l_refused_276 (by decide) ?_
  obtain ⟨A_20, h⟩ := h
  obtain ⟨Y_21, h⟩ := h
  obtain ⟨R_22, h⟩ := h
  obtain ⟨w_23, h⟩ := h
  obtain ⟨e_24, h⟩ := h
  have b29 := h.1
  replace h := h.2
  have b30 := h.1
  replace h := h.2
  have b31 := h.1
  replace h := h.2
  refine ch_callSX (as := [.inr (0, 0, 0), .inl (.int 1), .inl (.int 1), .inl (.int 0)]) d_l_refused_277 lk_l_226 ms_l_give rfl rfl ⟨Nat.le_of_ble_eq_true rfl, Nat.le_of_ble_eq_true rfl⟩ (Nat.le_of_ble_eq_true rfl) (ch_rk (a := 5) (b := 1) hk (Nat.le_of_ble_eq_true rfl) (Nat.le_of_ble_eq_true rfl)) (ch_mono (ch_Ki (fun r26 m27 q28 => ?_)) (r_l_give g (fun (r_ : Int32) (m_ : ch_M) => (∃ (M25 : ch_M), (-1001) = r_ ∧ (a_W A_20 Y_21 (w_23, e_24, 0) M25) ∧ m_ = M25)) (A_20) (Y_21) (R_22) (w_23) (e_24) (1) (1) (0) m8 ⟨b29, b30, b31, (fun M25 f0_ => ⟨M25, rfl, f0_, rfl⟩)⟩))
  obtain ⟨M25, rfl, f0_, hm_⟩ := q28
  replace h := h M25 f0_ m27 hm_
  refine ch_sipush (v := (-1001)) d_l_refused_280 (by decide) ?_
  refine ch_icmp_ne (tgt := 345) d_l_refused_283 (by decide) (fun c => absurd c (by decide)) (fun _ => ?_)
  refine ch_aload_n (i := 0) d_l_refused_286 rfl rfl ?_
  refine ch_bipush (v := 11) d_l_refused_287 (by decide) ?_
  refine ch_iconst (v := 1) d_l_refused_289 (by decide) ?_
  obtain ⟨A_32, h⟩ := h
  obtain ⟨Y_33, h⟩ := h
  have b37 := h.1
  replace h := h.2
  have b38 := h.1
  replace h := h.2
  refine ch_callS (as := [.inr (0, 0, 0), .inl (.int 11), .inl (.int 1)]) d_l_refused_290 lk_l_258 ms_l_is rfl rfl ⟨Nat.le_of_ble_eq_true rfl, Nat.le_of_ble_eq_true rfl⟩ (Nat.le_of_ble_eq_true rfl) (ch_rk (a := 6) (b := 4) hk (Nat.le_of_ble_eq_true rfl) (Nat.le_of_ble_eq_true rfl)) (ch_mono (ch_Ki (fun r34 m35 q36 => ?_)) (r_l_is g (fun (r_ : Int32) (m_ : ch_M) => (1 = r_ ∧ m27 = m_)) (A_32) (Y_33) (11) (1) m27 ⟨b37, b38, ⟨rfl, rfl⟩⟩))
  obtain ⟨rfl, rfl⟩ := q36
  replace h := h
  refine ch_if_eq (tgt := 345) d_l_refused_293 (by decide) (fun c => absurd c (by decide)) (fun _ => ?_)
  refine ch_aload_n (i := 0) d_l_refused_296 rfl rfl ?_
  refine ch_iconst (v := 0) d_l_refused_297 (by decide) ?_
  refine ch_iconst (v := 1) d_l_refused_298 (by decide) ?_
  refine ch_iconst (v := 0) d_l_refused_299 (by decide) ?_
  obtain ⟨A_39, h⟩ := h
  obtain ⟨Y_40, h⟩ := h
  obtain ⟨R_41, h⟩ := h
  obtain ⟨w_42, h⟩ := h
  obtain ⟨e_43, h⟩ := h
  have b48 := h.1
  replace h := h.2
  have b49 := h.1
  replace h := h.2
  have b50 := h.1
  replace h := h.2
  refine ch_callSX (as := [.inr (0, 0, 0), .inl (.int 0), .inl (.int 1), .inl (.int 0)]) d_l_refused_300 lk_l_226 ms_l_give rfl rfl ⟨Nat.le_of_ble_eq_true rfl, Nat.le_of_ble_eq_true rfl⟩ (Nat.le_of_ble_eq_true rfl) (ch_rk (a := 10) (b := 1) hk (Nat.le_of_ble_eq_true rfl) (Nat.le_of_ble_eq_true rfl)) (ch_mono (ch_Ki (fun r45 m46 q47 => ?_)) (r_l_give g (fun (r_ : Int32) (m_ : ch_M) => (∃ (M44 : ch_M), (-1001) = r_ ∧ (a_W A_39 Y_40 (w_42, e_43, 0) M44) ∧ m_ = M44)) (A_39) (Y_40) (R_41) (w_42) (e_43) (0) (1) (0) m27 ⟨b48, b49, b50, (fun M44 f0_ => ⟨M44, rfl, f0_, rfl⟩)⟩))
  obtain ⟨M44, rfl, f0_, hm_⟩ := q47
  replace h := h M44 f0_ m46 hm_
  refine ch_sipush (v := (-1001)) d_l_refused_303 (by decide) ?_
  refine ch_icmp_ne (tgt := 345) d_l_refused_306 (by decide) (fun c => absurd c (by decide)) (fun _ => ?_)
  refine ch_aload_n (i := 0) d_l_refused_309 rfl rfl ?_
  refine ch_iconst (v := 1) d_l_refused_310 (by decide) ?_
  refine ch_iconst (v := 0) d_l_refused_311 (by decide) ?_
  obtain ⟨A_51, h⟩ := h
  obtain ⟨Y_52, h⟩ := h
  have b56 := h.1
  replace h := h.2
  have b57 := h.1
  replace h := h.2
  refine ch_callS (as := [.inr (0, 0, 0), .inl (.int 1), .inl (.int 0)]) d_l_refused_312 lk_l_258 ms_l_is rfl rfl ⟨Nat.le_of_ble_eq_true rfl, Nat.le_of_ble_eq_true rfl⟩ (Nat.le_of_ble_eq_true rfl) (ch_rk (a := 11) (b := 4) hk (Nat.le_of_ble_eq_true rfl) (Nat.le_of_ble_eq_true rfl)) (ch_mono (ch_Ki (fun r53 m54 q55 => ?_)) (r_l_is g (fun (r_ : Int32) (m_ : ch_M) => (1 = r_ ∧ m46 = m_)) (A_51) (Y_52) (1) (0) m46 ⟨b56, b57, ⟨rfl, rfl⟩⟩))
  obtain ⟨rfl, rfl⟩ := q55
  replace h := h
  refine ch_if_eq (tgt := 345) d_l_refused_315 (by decide) (fun c => absurd c (by decide)) (fun _ => ?_)
  refine ch_aload_n (i := 0) d_l_refused_318 rfl rfl ?_
  refine ch_iconst (v := 0) d_l_refused_319 (by decide) ?_
  refine ch_iconst (v := 1) d_l_refused_320 (by decide) ?_
  refine ch_bipush (v := 100) d_l_refused_321 (by decide) ?_
  obtain ⟨A_58, h⟩ := h
  obtain ⟨Y_59, h⟩ := h
  obtain ⟨R_60, h⟩ := h
  obtain ⟨w_61, h⟩ := h
  obtain ⟨e_62, h⟩ := h
  have b67 := h.1
  replace h := h.2
  have b68 := h.1
  replace h := h.2
  have b69 := h.1
  replace h := h.2
  refine ch_callSX (as := [.inr (0, 0, 0), .inl (.int 0), .inl (.int 1), .inl (.int 100)]) d_l_refused_323 lk_l_226 ms_l_give rfl rfl ⟨Nat.le_of_ble_eq_true rfl, Nat.le_of_ble_eq_true rfl⟩ (Nat.le_of_ble_eq_true rfl) (ch_rk (a := 15) (b := 1) hk (Nat.le_of_ble_eq_true rfl) (Nat.le_of_ble_eq_true rfl)) (ch_mono (ch_Ki (fun r64 m65 q66 => ?_)) (r_l_give g (fun (r_ : Int32) (m_ : ch_M) => (∃ (M63 : ch_M), (-1001) = r_ ∧ (a_W A_58 Y_59 (w_61, e_62, 0) M63) ∧ m_ = M63)) (A_58) (Y_59) (R_60) (w_61) (e_62) (0) (1) (100) m46 ⟨b67, b68, b69, (fun M63 f0_ => ⟨M63, rfl, f0_, rfl⟩)⟩))
  obtain ⟨M63, rfl, f0_, hm_⟩ := q66
  replace h := h M63 f0_ m65 hm_
  refine ch_sipush (v := (-1001)) d_l_refused_326 (by decide) ?_
  refine ch_icmp_ne (tgt := 345) d_l_refused_329 (by decide) (fun c => absurd c (by decide)) (fun _ => ?_)
  refine ch_aload_n (i := 0) d_l_refused_332 rfl rfl ?_
  refine ch_iconst (v := 1) d_l_refused_333 (by decide) ?_
  refine ch_iconst (v := 0) d_l_refused_334 (by decide) ?_
  obtain ⟨A_70, h⟩ := h
  obtain ⟨Y_71, h⟩ := h
  have b75 := h.1
  replace h := h.2
  have b76 := h.1
  replace h := h.2
  refine ch_callS (as := [.inr (0, 0, 0), .inl (.int 1), .inl (.int 0)]) d_l_refused_335 lk_l_258 ms_l_is rfl rfl ⟨Nat.le_of_ble_eq_true rfl, Nat.le_of_ble_eq_true rfl⟩ (Nat.le_of_ble_eq_true rfl) (ch_rk (a := 16) (b := 4) hk (Nat.le_of_ble_eq_true rfl) (Nat.le_of_ble_eq_true rfl)) (ch_mono (ch_Ki (fun r72 m73 q74 => ?_)) (r_l_is g (fun (r_ : Int32) (m_ : ch_M) => (1 = r_ ∧ m65 = m_)) (A_70) (Y_71) (1) (0) m65 ⟨b75, b76, ⟨rfl, rfl⟩⟩))
  obtain ⟨rfl, rfl⟩ := q74
  replace h := h
  refine ch_if_eq (tgt := 345) d_l_refused_338 (by decide) (fun c => absurd c (by decide)) (fun _ => ?_)
  refine ch_iconst (v := 1) d_l_refused_341 (by decide) ?_
  refine ch_goto (tgt := 346) d_l_refused_342 (by decide) ?_
  refine ch_istore (i := 4) d_l_refused_346 (Nat.le_of_ble_eq_true rfl) (ls' := [some (.inr (0, 0, 0)), some (.inl (.long x1)), none, some (.inl (.int x3)), some (.inl (.int 1)), o5, o6]) rfl ?_
  refine ch_iconst (v := 0) d_l_refused_348 (by decide) ?_
  refine ch_istore (i := 5) d_l_refused_349 (Nat.le_of_ble_eq_true rfl) (ls' := [some (.inr (0, 0, 0)), some (.inl (.long x1)), none, some (.inl (.int x3)), some (.inl (.int 1)), some (.inl (.int 0)), o6]) rfl ?_
  exact h
set_option maxHeartbeats 1600000 in
theorem g_l_refused_351 (g : ch_G) (Q : ch_O → ch_M → Prop) (k : Nat) (hk : k + 22 ≤ 6000) (x1 : Int64) (x3 : Int32) (x5 : Int32) (o6 : Option ch_V) (m : ch_M) (h : ((x3 ≤ x5 → ch_J g m_l_refused (ch_rm m_l_refused) (ch_E g m_l_refused Q) 714 [some (.inr (0, 0, 0)), some (.inl (.long x1)), none, some (.inl (.int x3)), some (.inl (.int 1)), some (.inl (.int 0)), o6] [] m k) ∧ (¬ x3 ≤ x5 → (∃ A_1 : a_G, (∃ Y_2 : ch_B, (∃ R_3 : Int32 × Int32 × Int32, (a_W A_1 Y_2 R_3 m) ∧ ((0 : Int32) ≤ x5 ∧ x5 < Y_2 0 8) ∧ ((0 : Int32) ≤ 2 ∧ 2 ≤ (6 : Int32)) ∧ ((∀ (M4 : ch_M), (a_W A_1 Y_2 R_3 M4) → (∀ m6 : ch_M, m6 = M4 → (((x_coR (y_can Y_2) x5 2) ≤ 0 → (∃ A_11 : a_G, (∃ Y_12 : ch_B, (∃ R_13 : Int32 × Int32 × Int32, (∃ w_14 : Int32, (∃ e_15 : Int32, (a_W A_11 Y_12 R_13 m6) ∧ (∀ Z_, y_sm Y_12 Z_ → r_hx Z_ x5 0 = (w_14, e_15)) ∧ (¬ w_14 = 0) ∧ ((∀ (M16 : ch_M), (a_W A_11 Y_12 (w_14, e_15, 0) M16) → (∀ m18 : ch_M, m18 = M16 → (∃ A_23 : a_G, (∃ Y_24 : ch_B, (a_W A_23 Y_24 (1, 0, 0) m18) ∧ (¬ 1 = (0 : Int32)) ∧ ((∃ A_30 : a_G, (∃ Y_31 : ch_B, (∃ R_32 : Int32 × Int32 × Int32, (∃ w_33 : Int32, (∃ e_34 : Int32, (a_W A_30 Y_31 R_32 m18) ∧ (∀ Z_, y_sm Y_31 Z_ → r_hx Z_ x5 1 = (w_33, e_34)) ∧ (¬ w_33 = 0) ∧ ((∀ (M35 : ch_M), (a_W A_30 Y_31 (w_33, e_34, 0) M35) → (∀ m37 : ch_M, m37 = M35 → (∃ A_42 : a_G, (∃ Y_43 : ch_B, (a_W A_42 Y_43 (8, 0, 0) m37) ∧ (¬ 8 = (0 : Int32)) ∧ ((∃ A_49 : a_G, (∃ Y_50 : ch_B, (∃ R_51 : Int32 × Int32 × Int32, (∃ w_52 : Int32, (∃ e_53 : Int32, (a_W A_49 Y_50 R_51 m37) ∧ (∀ Z_, y_sm Y_50 Z_ → r_hx Z_ x5 33331 = (w_52, e_53)) ∧ (¬ w_52 = 0) ∧ ((∀ (M54 : ch_M), (a_W A_49 Y_50 (w_52, e_53, 0) M54) → (∀ m56 : ch_M, m56 = M54 → (∃ A_61 : a_G, (∃ Y_62 : ch_B, (a_W A_61 Y_62 (8, 12, 0) m56) ∧ (¬ 8 = (0 : Int32)) ∧ ((∃ A_68 : a_G, (∃ Y_69 : ch_B, (∃ R_70 : Int32 × Int32 × Int32, (∃ w_71 : Int32, (∃ e_72 : Int32, (a_W A_68 Y_69 R_70 m56) ∧ (∀ Z_, y_sm Y_69 Z_ → r_ws Z_ x5 = (w_71, e_72)) ∧ (¬ w_71 = 0) ∧ ((∀ (M73 : ch_M), (a_W A_68 Y_69 (w_71, e_72, 0) M73) → (∀ m75 : ch_M, m75 = M73 → (∃ A_80 : a_G, (∃ Y_81 : ch_B, (a_W A_80 Y_81 (10, 0, 0) m75) ∧ (¬ 10 = (0 : Int32)) ∧ (ch_J g m_l_refused (ch_rm m_l_refused) (ch_E g m_l_refused Q) 592 [some (.inr (0, 0, 0)), some (.inl (.long x1)), none, some (.inl (.int x3)), some (.inl (.int 1)), some (.inl (.int x5)), some (.inl (.int (x_coR (y_can Y_2) x5 2)))] [] m75 (k + 22)))))))))))))))))))))))))))))))))))))))))))))) ∧ (¬ (x_coR (y_can Y_2) x5 2) ≤ 0 → (∃ A_87 : a_G, (∃ Y_88 : ch_B, (∃ R_89 : Int32 × Int32 × Int32, (∃ w_90 : Int32, (∃ e_91 : Int32, (a_W A_87 Y_88 R_89 m6) ∧ (∀ Z_, y_sm Y_88 Z_ → r_hx Z_ x5 0 = (w_90, e_91)) ∧ (¬ w_90 = 0) ∧ ((∀ (M92 : ch_M), (a_W A_87 Y_88 (w_90, e_91, 0) M92) → (∀ m94 : ch_M, m94 = M92 → (∃ A_99 : a_G, (∃ Y_100 : ch_B, (a_W A_99 Y_100 (7, (x_coR (y_can Y_2) x5 2), 0) m94) ∧ (¬ 7 = (0 : Int32)) ∧ ((∃ A_106 : a_G, (∃ Y_107 : ch_B, (∃ R_108 : Int32 × Int32 × Int32, (∃ w_109 : Int32, (∃ e_110 : Int32, (a_W A_106 Y_107 R_108 m94) ∧ (∀ Z_, y_sm Y_107 Z_ → r_ww Z_ x5 = (w_109, e_110)) ∧ (¬ w_109 = 0) ∧ ((∀ (M111 : ch_M), (a_W A_106 Y_107 (w_109, e_110, 0) M111) → (∀ m113 : ch_M, m113 = M111 → (∃ A_118 : a_G, (∃ Y_119 : ch_B, (a_W A_118 Y_119 (7, (x_coR (y_can Y_2) x5 2), 0) m113) ∧ (¬ 7 = (0 : Int32)) ∧ (ch_J g m_l_refused (ch_rm m_l_refused) (ch_E g m_l_refused Q) 430 [some (.inr (0, 0, 0)), some (.inl (.long x1)), none, some (.inl (.int x3)), some (.inl (.int 1)), some (.inl (.int x5)), some (.inl (.int (x_coR (y_can Y_2) x5 2)))] [] m113 (k + 12)))))))))))))))))))))))))))))))))) : ch_J g m_l_refused (ch_rm m_l_refused) (ch_E g m_l_refused Q) 351 [some (.inr (0, 0, 0)), some (.inl (.long x1)), none, some (.inl (.int x3)), some (.inl (.int 1)), some (.inl (.int x5)), o6] [] m k := by
  refine ch_iload d_l_refused_351 rfl ?_
  refine ch_iload_n (i := 3) d_l_refused_353 rfl rfl ?_
  refine ch_icmp_ge (tgt := 711) d_l_refused_354 (by decide) (fun c => ?_) (fun c => ?_)
  · replace h := h.1 c
    refine ch_iconst (v := 0) d_l_refused_711 (by decide) ?_
    refine ch_istore (i := 5) d_l_refused_712 (Nat.le_of_ble_eq_true rfl) (ls' := [some (.inr (0, 0, 0)), some (.inl (.long x1)), none, some (.inl (.int x3)), some (.inl (.int 1)), some (.inl (.int 0)), o6]) rfl ?_
    exact h
  · replace h := h.2 c
    refine ch_aload_n (i := 0) d_l_refused_357 rfl rfl ?_
    refine ch_iload d_l_refused_358 rfl ?_
    refine ch_iconst (v := 2) d_l_refused_360 (by decide) ?_
    obtain ⟨A_1, h⟩ := h
    obtain ⟨Y_2, h⟩ := h
    obtain ⟨R_3, h⟩ := h
    have b8 := h.1
    replace h := h.2
    have b9 := h.1
    replace h := h.2
    have b10 := h.1
    replace h := h.2
    refine ch_callSX (as := [.inr (0, 0, 0), .inl (.int x5), .inl (.int 2)]) d_l_refused_361 lk_l_188 ms_l_of rfl rfl ⟨Nat.le_of_ble_eq_true rfl, Nat.le_of_ble_eq_true rfl⟩ (Nat.le_of_ble_eq_true rfl) (ch_rk0 (b := 2) hk (Nat.le_of_ble_eq_true rfl) (Nat.le_of_ble_eq_true rfl)) (ch_mono (ch_Ki (fun r5 m6 q7 => ?_)) (r_l_of g (fun (r_ : Int32) (m_ : ch_M) => (∃ (M4 : ch_M), (x_coR (y_can Y_2) x5 2) = r_ ∧ (a_W A_1 Y_2 R_3 M4) ∧ m_ = M4)) (A_1) (Y_2) (R_3) (x5) (2) m ⟨b8, b9, b10, (fun M4 f0_ => ⟨M4, rfl, f0_, rfl⟩)⟩))
    obtain ⟨M4, rfl, f0_, hm_⟩ := q7
    replace h := h M4 f0_ m6 hm_
    refine ch_istore (i := 6) d_l_refused_364 (Nat.le_of_ble_eq_true rfl) (ls' := [some (.inr (0, 0, 0)), some (.inl (.long x1)), none, some (.inl (.int x3)), some (.inl (.int 1)), some (.inl (.int x5)), some (.inl (.int (x_coR (y_can Y_2) x5 2)))]) rfl ?_
    refine ch_iload d_l_refused_366 rfl ?_
    refine ch_if_le (tgt := 487) d_l_refused_368 (by decide) (fun c => ?_) (fun c => ?_)
    · replace h := h.1 c
      refine ch_iload d_l_refused_487 rfl ?_
      refine ch_if_eq (tgt := 589) d_l_refused_489 (by decide) (fun c => absurd c (by decide)) (fun _ => ?_)
      refine ch_aload_n (i := 0) d_l_refused_492 rfl rfl ?_
      refine ch_iload d_l_refused_493 rfl ?_
      refine ch_iconst (v := 0) d_l_refused_495 (by decide) ?_
      obtain ⟨A_11, h⟩ := h
      obtain ⟨Y_12, h⟩ := h
      obtain ⟨R_13, h⟩ := h
      obtain ⟨w_14, h⟩ := h
      obtain ⟨e_15, h⟩ := h
      have b20 := h.1
      replace h := h.2
      have b21 := h.1
      replace h := h.2
      have b22 := h.1
      replace h := h.2
      refine ch_callSX (as := [.inr (0, 0, 0), .inl (.int x5), .inl (.int 0)]) d_l_refused_496 lk_l_161 ms_l_hop rfl rfl ⟨Nat.le_of_ble_eq_true rfl, Nat.le_of_ble_eq_true rfl⟩ (Nat.le_of_ble_eq_true rfl) (ch_rk (a := 2) (b := 1) hk (Nat.le_of_ble_eq_true rfl) (Nat.le_of_ble_eq_true rfl)) (ch_mono (ch_Ki (fun r17 m18 q19 => ?_)) (r_l_hop g (fun (r_ : Int32) (m_ : ch_M) => (∃ (M16 : ch_M), (-1001) = r_ ∧ (a_W A_11 Y_12 (w_14, e_15, 0) M16) ∧ m_ = M16)) (A_11) (Y_12) (R_13) (w_14) (e_15) (x5) (0) m6 ⟨b20, b21, b22, (fun M16 f0_ => ⟨M16, rfl, f0_, rfl⟩)⟩))
      obtain ⟨M16, rfl, f0_, hm_⟩ := q19
      replace h := h M16 f0_ m18 hm_
      refine ch_sipush (v := (-1001)) d_l_refused_499 (by decide) ?_
      refine ch_icmp_ne (tgt := 589) d_l_refused_502 (by decide) (fun c => absurd c (by decide)) (fun _ => ?_)
      refine ch_aload_n (i := 0) d_l_refused_505 rfl rfl ?_
      refine ch_iconst (v := 1) d_l_refused_506 (by decide) ?_
      refine ch_iconst (v := 0) d_l_refused_507 (by decide) ?_
      obtain ⟨A_23, h⟩ := h
      obtain ⟨Y_24, h⟩ := h
      have b28 := h.1
      replace h := h.2
      have b29 := h.1
      replace h := h.2
      refine ch_callS (as := [.inr (0, 0, 0), .inl (.int 1), .inl (.int 0)]) d_l_refused_508 lk_l_258 ms_l_is rfl rfl ⟨Nat.le_of_ble_eq_true rfl, Nat.le_of_ble_eq_true rfl⟩ (Nat.le_of_ble_eq_true rfl) (ch_rk (a := 3) (b := 4) hk (Nat.le_of_ble_eq_true rfl) (Nat.le_of_ble_eq_true rfl)) (ch_mono (ch_Ki (fun r25 m26 q27 => ?_)) (r_l_is g (fun (r_ : Int32) (m_ : ch_M) => (1 = r_ ∧ m18 = m_)) (A_23) (Y_24) (1) (0) m18 ⟨b28, b29, ⟨rfl, rfl⟩⟩))
      obtain ⟨rfl, rfl⟩ := q27
      replace h := h
      refine ch_if_eq (tgt := 589) d_l_refused_511 (by decide) (fun c => absurd c (by decide)) (fun _ => ?_)
      refine ch_aload_n (i := 0) d_l_refused_514 rfl rfl ?_
      refine ch_iload d_l_refused_515 rfl ?_
      refine ch_iconst (v := 1) d_l_refused_517 (by decide) ?_
      obtain ⟨A_30, h⟩ := h
      obtain ⟨Y_31, h⟩ := h
      obtain ⟨R_32, h⟩ := h
      obtain ⟨w_33, h⟩ := h
      obtain ⟨e_34, h⟩ := h
      have b39 := h.1
      replace h := h.2
      have b40 := h.1
      replace h := h.2
      have b41 := h.1
      replace h := h.2
      refine ch_callSX (as := [.inr (0, 0, 0), .inl (.int x5), .inl (.int 1)]) d_l_refused_518 lk_l_161 ms_l_hop rfl rfl ⟨Nat.le_of_ble_eq_true rfl, Nat.le_of_ble_eq_true rfl⟩ (Nat.le_of_ble_eq_true rfl) (ch_rk (a := 7) (b := 1) hk (Nat.le_of_ble_eq_true rfl) (Nat.le_of_ble_eq_true rfl)) (ch_mono (ch_Ki (fun r36 m37 q38 => ?_)) (r_l_hop g (fun (r_ : Int32) (m_ : ch_M) => (∃ (M35 : ch_M), (-1001) = r_ ∧ (a_W A_30 Y_31 (w_33, e_34, 0) M35) ∧ m_ = M35)) (A_30) (Y_31) (R_32) (w_33) (e_34) (x5) (1) m18 ⟨b39, b40, b41, (fun M35 f0_ => ⟨M35, rfl, f0_, rfl⟩)⟩))
      obtain ⟨M35, rfl, f0_, hm_⟩ := q38
      replace h := h M35 f0_ m37 hm_
      refine ch_sipush (v := (-1001)) d_l_refused_521 (by decide) ?_
      refine ch_icmp_ne (tgt := 589) d_l_refused_524 (by decide) (fun c => absurd c (by decide)) (fun _ => ?_)
      refine ch_aload_n (i := 0) d_l_refused_527 rfl rfl ?_
      refine ch_bipush (v := 8) d_l_refused_528 (by decide) ?_
      refine ch_iconst (v := 0) d_l_refused_530 (by decide) ?_
      obtain ⟨A_42, h⟩ := h
      obtain ⟨Y_43, h⟩ := h
      have b47 := h.1
      replace h := h.2
      have b48 := h.1
      replace h := h.2
      refine ch_callS (as := [.inr (0, 0, 0), .inl (.int 8), .inl (.int 0)]) d_l_refused_531 lk_l_258 ms_l_is rfl rfl ⟨Nat.le_of_ble_eq_true rfl, Nat.le_of_ble_eq_true rfl⟩ (Nat.le_of_ble_eq_true rfl) (ch_rk (a := 8) (b := 4) hk (Nat.le_of_ble_eq_true rfl) (Nat.le_of_ble_eq_true rfl)) (ch_mono (ch_Ki (fun r44 m45 q46 => ?_)) (r_l_is g (fun (r_ : Int32) (m_ : ch_M) => (1 = r_ ∧ m37 = m_)) (A_42) (Y_43) (8) (0) m37 ⟨b47, b48, ⟨rfl, rfl⟩⟩))
      obtain ⟨rfl, rfl⟩ := q46
      replace h := h
      refine ch_if_eq (tgt := 589) d_l_refused_534 (by decide) (fun c => absurd c (by decide)) (fun _ => ?_)
      refine ch_aload_n (i := 0) d_l_refused_537 rfl rfl ?_
      refine ch_iload d_l_refused_538 rfl ?_
      refine ch_ldc_w d_l_refused_540 lc_l_262 ?_
      obtain ⟨A_49, h⟩ := h
      obtain ⟨Y_50, h⟩ := h
      obtain ⟨R_51, h⟩ := h
      obtain ⟨w_52, h⟩ := h
      obtain ⟨e_53, h⟩ := h
      have b58 := h.1
      replace h := h.2
      have b59 := h.1
      replace h := h.2
      have b60 := h.1
      replace h := h.2
      refine ch_callSX (as := [.inr (0, 0, 0), .inl (.int x5), .inl (.int 33331)]) d_l_refused_543 lk_l_161 ms_l_hop rfl rfl ⟨Nat.le_of_ble_eq_true rfl, Nat.le_of_ble_eq_true rfl⟩ (Nat.le_of_ble_eq_true rfl) (ch_rk (a := 12) (b := 1) hk (Nat.le_of_ble_eq_true rfl) (Nat.le_of_ble_eq_true rfl)) (ch_mono (ch_Ki (fun r55 m56 q57 => ?_)) (r_l_hop g (fun (r_ : Int32) (m_ : ch_M) => (∃ (M54 : ch_M), (-1001) = r_ ∧ (a_W A_49 Y_50 (w_52, e_53, 0) M54) ∧ m_ = M54)) (A_49) (Y_50) (R_51) (w_52) (e_53) (x5) (33331) m37 ⟨b58, b59, b60, (fun M54 f0_ => ⟨M54, rfl, f0_, rfl⟩)⟩))
      obtain ⟨M54, rfl, f0_, hm_⟩ := q57
      replace h := h M54 f0_ m56 hm_
      refine ch_sipush (v := (-1001)) d_l_refused_546 (by decide) ?_
      refine ch_icmp_ne (tgt := 589) d_l_refused_549 (by decide) (fun c => absurd c (by decide)) (fun _ => ?_)
      refine ch_aload_n (i := 0) d_l_refused_552 rfl rfl ?_
      refine ch_bipush (v := 8) d_l_refused_553 (by decide) ?_
      refine ch_bipush (v := 12) d_l_refused_555 (by decide) ?_
      obtain ⟨A_61, h⟩ := h
      obtain ⟨Y_62, h⟩ := h
      have b66 := h.1
      replace h := h.2
      have b67 := h.1
      replace h := h.2
      refine ch_callS (as := [.inr (0, 0, 0), .inl (.int 8), .inl (.int 12)]) d_l_refused_557 lk_l_258 ms_l_is rfl rfl ⟨Nat.le_of_ble_eq_true rfl, Nat.le_of_ble_eq_true rfl⟩ (Nat.le_of_ble_eq_true rfl) (ch_rk (a := 13) (b := 4) hk (Nat.le_of_ble_eq_true rfl) (Nat.le_of_ble_eq_true rfl)) (ch_mono (ch_Ki (fun r63 m64 q65 => ?_)) (r_l_is g (fun (r_ : Int32) (m_ : ch_M) => (1 = r_ ∧ m56 = m_)) (A_61) (Y_62) (8) (12) m56 ⟨b66, b67, ⟨rfl, rfl⟩⟩))
      obtain ⟨rfl, rfl⟩ := q65
      replace h := h
      refine ch_if_eq (tgt := 589) d_l_refused_560 (by decide) (fun c => absurd c (by decide)) (fun _ => ?_)
      refine ch_aload_n (i := 0) d_l_refused_563 rfl rfl ?_
      refine ch_iload d_l_refused_564 rfl ?_
      obtain ⟨A_68, h⟩ := h
      obtain ⟨Y_69, h⟩ := h
      obtain ⟨R_70, h⟩ := h
      obtain ⟨w_71, h⟩ := h
      obtain ⟨e_72, h⟩ := h
      have b77 := h.1
      replace h := h.2
      have b78 := h.1
      replace h := h.2
      have b79 := h.1
      replace h := h.2
      refine ch_callSX (as := [.inr (0, 0, 0), .inl (.int x5)]) d_l_refused_566 lk_l_222 ms_l_strike rfl rfl ⟨Nat.le_of_ble_eq_true rfl, Nat.le_of_ble_eq_true rfl⟩ (Nat.le_of_ble_eq_true rfl) (ch_rk (a := 17) (b := 1) hk (Nat.le_of_ble_eq_true rfl) (Nat.le_of_ble_eq_true rfl)) (ch_mono (ch_Ki (fun r74 m75 q76 => ?_)) (r_l_strike g (fun (r_ : Int32) (m_ : ch_M) => (∃ (M73 : ch_M), (-1001) = r_ ∧ (a_W A_68 Y_69 (w_71, e_72, 0) M73) ∧ m_ = M73)) (A_68) (Y_69) (R_70) (w_71) (e_72) (x5) m56 ⟨b77, b78, b79, (fun M73 f0_ => ⟨M73, rfl, f0_, rfl⟩)⟩))
      obtain ⟨M73, rfl, f0_, hm_⟩ := q76
      replace h := h M73 f0_ m75 hm_
      refine ch_sipush (v := (-1001)) d_l_refused_569 (by decide) ?_
      refine ch_icmp_ne (tgt := 589) d_l_refused_572 (by decide) (fun c => absurd c (by decide)) (fun _ => ?_)
      refine ch_aload_n (i := 0) d_l_refused_575 rfl rfl ?_
      refine ch_bipush (v := 10) d_l_refused_576 (by decide) ?_
      refine ch_iconst (v := 0) d_l_refused_578 (by decide) ?_
      obtain ⟨A_80, h⟩ := h
      obtain ⟨Y_81, h⟩ := h
      have b85 := h.1
      replace h := h.2
      have b86 := h.1
      replace h := h.2
      refine ch_callS (as := [.inr (0, 0, 0), .inl (.int 10), .inl (.int 0)]) d_l_refused_579 lk_l_258 ms_l_is rfl rfl ⟨Nat.le_of_ble_eq_true rfl, Nat.le_of_ble_eq_true rfl⟩ (Nat.le_of_ble_eq_true rfl) (ch_rk (a := 18) (b := 4) hk (Nat.le_of_ble_eq_true rfl) (Nat.le_of_ble_eq_true rfl)) (ch_mono (ch_Ki (fun r82 m83 q84 => ?_)) (r_l_is g (fun (r_ : Int32) (m_ : ch_M) => (1 = r_ ∧ m75 = m_)) (A_80) (Y_81) (10) (0) m75 ⟨b85, b86, ⟨rfl, rfl⟩⟩))
      obtain ⟨rfl, rfl⟩ := q84
      replace h := h
      refine ch_if_eq (tgt := 589) d_l_refused_582 (by decide) (fun c => absurd c (by decide)) (fun _ => ?_)
      refine ch_iconst (v := 1) d_l_refused_585 (by decide) ?_
      refine ch_goto (tgt := 590) d_l_refused_586 (by decide) ?_
      refine ch_istore (i := 4) d_l_refused_590 (Nat.le_of_ble_eq_true rfl) (ls' := [some (.inr (0, 0, 0)), some (.inl (.long x1)), none, some (.inl (.int x3)), some (.inl (.int 1)), some (.inl (.int x5)), some (.inl (.int (x_coR (y_can Y_2) x5 2)))]) rfl ?_
      exact h
    · replace h := h.2 c
      refine ch_iload d_l_refused_371 rfl ?_
      refine ch_if_eq (tgt := 427) d_l_refused_373 (by decide) (fun c => absurd c (by decide)) (fun _ => ?_)
      refine ch_aload_n (i := 0) d_l_refused_376 rfl rfl ?_
      refine ch_iload d_l_refused_377 rfl ?_
      refine ch_iconst (v := 0) d_l_refused_379 (by decide) ?_
      obtain ⟨A_87, h⟩ := h
      obtain ⟨Y_88, h⟩ := h
      obtain ⟨R_89, h⟩ := h
      obtain ⟨w_90, h⟩ := h
      obtain ⟨e_91, h⟩ := h
      have b96 := h.1
      replace h := h.2
      have b97 := h.1
      replace h := h.2
      have b98 := h.1
      replace h := h.2
      refine ch_callSX (as := [.inr (0, 0, 0), .inl (.int x5), .inl (.int 0)]) d_l_refused_380 lk_l_161 ms_l_hop rfl rfl ⟨Nat.le_of_ble_eq_true rfl, Nat.le_of_ble_eq_true rfl⟩ (Nat.le_of_ble_eq_true rfl) (ch_rk (a := 2) (b := 1) hk (Nat.le_of_ble_eq_true rfl) (Nat.le_of_ble_eq_true rfl)) (ch_mono (ch_Ki (fun r93 m94 q95 => ?_)) (r_l_hop g (fun (r_ : Int32) (m_ : ch_M) => (∃ (M92 : ch_M), (-1001) = r_ ∧ (a_W A_87 Y_88 (w_90, e_91, 0) M92) ∧ m_ = M92)) (A_87) (Y_88) (R_89) (w_90) (e_91) (x5) (0) m6 ⟨b96, b97, b98, (fun M92 f0_ => ⟨M92, rfl, f0_, rfl⟩)⟩))
      obtain ⟨M92, rfl, f0_, hm_⟩ := q95
      replace h := h M92 f0_ m94 hm_
      refine ch_sipush (v := (-1001)) d_l_refused_383 (by decide) ?_
      refine ch_icmp_ne (tgt := 427) d_l_refused_386 (by decide) (fun c => absurd c (by decide)) (fun _ => ?_)
      refine ch_aload_n (i := 0) d_l_refused_389 rfl rfl ?_
      refine ch_bipush (v := 7) d_l_refused_390 (by decide) ?_
      refine ch_iload d_l_refused_392 rfl ?_
      obtain ⟨A_99, h⟩ := h
      obtain ⟨Y_100, h⟩ := h
      have b104 := h.1
      replace h := h.2
      have b105 := h.1
      replace h := h.2
      refine ch_callS (as := [.inr (0, 0, 0), .inl (.int 7), .inl (.int (x_coR (y_can Y_2) x5 2))]) d_l_refused_394 lk_l_258 ms_l_is rfl rfl ⟨Nat.le_of_ble_eq_true rfl, Nat.le_of_ble_eq_true rfl⟩ (Nat.le_of_ble_eq_true rfl) (ch_rk (a := 3) (b := 4) hk (Nat.le_of_ble_eq_true rfl) (Nat.le_of_ble_eq_true rfl)) (ch_mono (ch_Ki (fun r101 m102 q103 => ?_)) (r_l_is g (fun (r_ : Int32) (m_ : ch_M) => (1 = r_ ∧ m94 = m_)) (A_99) (Y_100) (7) ((x_coR (y_can Y_2) x5 2)) m94 ⟨b104, b105, ⟨rfl, rfl⟩⟩))
      obtain ⟨rfl, rfl⟩ := q103
      replace h := h
      refine ch_if_eq (tgt := 427) d_l_refused_397 (by decide) (fun c => absurd c (by decide)) (fun _ => ?_)
      refine ch_aload_n (i := 0) d_l_refused_400 rfl rfl ?_
      refine ch_iload d_l_refused_401 rfl ?_
      obtain ⟨A_106, h⟩ := h
      obtain ⟨Y_107, h⟩ := h
      obtain ⟨R_108, h⟩ := h
      obtain ⟨w_109, h⟩ := h
      obtain ⟨e_110, h⟩ := h
      have b115 := h.1
      replace h := h.2
      have b116 := h.1
      replace h := h.2
      have b117 := h.1
      replace h := h.2
      refine ch_callSX (as := [.inr (0, 0, 0), .inl (.int x5)]) d_l_refused_403 lk_l_163 ms_l_warrant rfl rfl ⟨Nat.le_of_ble_eq_true rfl, Nat.le_of_ble_eq_true rfl⟩ (Nat.le_of_ble_eq_true rfl) (ch_rk (a := 7) (b := 1) hk (Nat.le_of_ble_eq_true rfl) (Nat.le_of_ble_eq_true rfl)) (ch_mono (ch_Ki (fun r112 m113 q114 => ?_)) (r_l_warrant g (fun (r_ : Int32) (m_ : ch_M) => (∃ (M111 : ch_M), (-1001) = r_ ∧ (a_W A_106 Y_107 (w_109, e_110, 0) M111) ∧ m_ = M111)) (A_106) (Y_107) (R_108) (w_109) (e_110) (x5) m94 ⟨b115, b116, b117, (fun M111 f0_ => ⟨M111, rfl, f0_, rfl⟩)⟩))
      obtain ⟨M111, rfl, f0_, hm_⟩ := q114
      replace h := h M111 f0_ m113 hm_
      refine ch_sipush (v := (-1001)) d_l_refused_406 (by decide) ?_
      refine ch_icmp_ne (tgt := 427) d_l_refused_409 (by decide) (fun c => absurd c (by decide)) (fun _ => ?_)
      refine ch_aload_n (i := 0) d_l_refused_412 rfl rfl ?_
      refine ch_bipush (v := 7) d_l_refused_413 (by decide) ?_
      refine ch_iload d_l_refused_415 rfl ?_
      obtain ⟨A_118, h⟩ := h
      obtain ⟨Y_119, h⟩ := h
      have b123 := h.1
      replace h := h.2
      have b124 := h.1
      replace h := h.2
      refine ch_callS (as := [.inr (0, 0, 0), .inl (.int 7), .inl (.int (x_coR (y_can Y_2) x5 2))]) d_l_refused_417 lk_l_258 ms_l_is rfl rfl ⟨Nat.le_of_ble_eq_true rfl, Nat.le_of_ble_eq_true rfl⟩ (Nat.le_of_ble_eq_true rfl) (ch_rk (a := 8) (b := 4) hk (Nat.le_of_ble_eq_true rfl) (Nat.le_of_ble_eq_true rfl)) (ch_mono (ch_Ki (fun r120 m121 q122 => ?_)) (r_l_is g (fun (r_ : Int32) (m_ : ch_M) => (1 = r_ ∧ m113 = m_)) (A_118) (Y_119) (7) ((x_coR (y_can Y_2) x5 2)) m113 ⟨b123, b124, ⟨rfl, rfl⟩⟩))
      obtain ⟨rfl, rfl⟩ := q122
      replace h := h
      refine ch_if_eq (tgt := 427) d_l_refused_420 (by decide) (fun c => absurd c (by decide)) (fun _ => ?_)
      refine ch_iconst (v := 1) d_l_refused_423 (by decide) ?_
      refine ch_goto (tgt := 428) d_l_refused_424 (by decide) ?_
      refine ch_istore (i := 4) d_l_refused_428 (Nat.le_of_ble_eq_true rfl) (ls' := [some (.inr (0, 0, 0)), some (.inl (.long x1)), none, some (.inl (.int x3)), some (.inl (.int 1)), some (.inl (.int x5)), some (.inl (.int (x_coR (y_can Y_2) x5 2)))]) rfl ?_
      exact h
set_option maxHeartbeats 1600000 in
theorem g_l_refused_430 (g : ch_G) (Q : ch_O → ch_M → Prop) (k : Nat) (hk : k + 9 ≤ 6000) (x1 : Int64) (x3 : Int32) (x5 : Int32) (x6 : Int32) (m : ch_M) (h : (∃ A_1 : a_G, (∃ Y_2 : ch_B, (∃ R_3 : Int32 × Int32 × Int32, (a_W A_1 Y_2 R_3 m) ∧ ((0 : Int32) ≤ x5 ∧ x5 < Y_2 0 8) ∧ ((0 : Int32) ≤ 0 ∧ 0 ≤ (6 : Int32)) ∧ ((∀ (M4 : ch_M), (a_W A_1 Y_2 R_3 M4) → (∀ m6 : ch_M, m6 = M4 → ((x6 ≤ (x_coR (y_can Y_2) x5 0) → ch_J g m_l_refused (ch_rm m_l_refused) (ch_E g m_l_refused Q) 643 [some (.inr (0, 0, 0)), some (.inl (.long x1)), none, some (.inl (.int x3)), some (.inl (.int 1)), some (.inl (.int x5)), some (.inl (.int x6))] [] m6 (k + 2)) ∧ (¬ x6 ≤ (x_coR (y_can Y_2) x5 0) → (∃ A_11 : a_G, (∃ Y_12 : ch_B, (∃ R_13 : Int32 × Int32 × Int32, (∃ w_14 : Int32, (∃ e_15 : Int32, (a_W A_11 Y_12 R_13 m6) ∧ (∀ Z_, y_sm Y_12 Z_ → r_ws Z_ x5 = (w_14, e_15)) ∧ (¬ w_14 = 0) ∧ ((∀ (M16 : ch_M), (a_W A_11 Y_12 (w_14, e_15, 0) M16) → (∀ m18 : ch_M, m18 = M16 → (∃ A_23 : a_G, (∃ Y_24 : ch_B, (∃ R_25 : Int32 × Int32 × Int32, (a_W A_23 Y_24 R_25 m18) ∧ ((0 : Int32) ≤ x5 ∧ x5 < Y_24 0 8) ∧ ((0 : Int32) ≤ 0 ∧ 0 ≤ (6 : Int32)) ∧ ((∀ (M26 : ch_M), (a_W A_23 Y_24 R_25 M26) → (∀ m28 : ch_M, m28 = M26 → (∃ A_33 : a_G, (∃ Y_34 : ch_B, (a_W A_33 Y_34 (5, (x6 - (x_coR (y_can Y_24) x5 0)), 0) m28) ∧ (¬ 5 = (0 : Int32)) ∧ (ch_J g m_l_refused (ch_rm m_l_refused) (ch_E g m_l_refused Q) 643 [some (.inr (0, 0, 0)), some (.inl (.long x1)), none, some (.inl (.int x3)), some (.inl (.int 1)), some (.inl (.int x5)), some (.inl (.int x6))] [] m28 (k + 9))))))))))))))))))))))))))) : ch_J g m_l_refused (ch_rm m_l_refused) (ch_E g m_l_refused Q) 430 [some (.inr (0, 0, 0)), some (.inl (.long x1)), none, some (.inl (.int x3)), some (.inl (.int 1)), some (.inl (.int x5)), some (.inl (.int x6))] [] m k := by
  refine ch_aload_n (i := 0) d_l_refused_430 rfl rfl ?_
  refine ch_iload d_l_refused_431 rfl ?_
  refine ch_iconst (v := 0) d_l_refused_433 (by decide) ?_
  obtain ⟨A_1, h⟩ := h
  obtain ⟨Y_2, h⟩ := h
  obtain ⟨R_3, h⟩ := h
  have b8 := h.1
  replace h := h.2
  have b9 := h.1
  replace h := h.2
  have b10 := h.1
  replace h := h.2
  refine ch_callSX (as := [.inr (0, 0, 0), .inl (.int x5), .inl (.int 0)]) d_l_refused_434 lk_l_188 ms_l_of rfl rfl ⟨Nat.le_of_ble_eq_true rfl, Nat.le_of_ble_eq_true rfl⟩ (Nat.le_of_ble_eq_true rfl) (ch_rk0 (b := 2) hk (Nat.le_of_ble_eq_true rfl) (Nat.le_of_ble_eq_true rfl)) (ch_mono (ch_Ki (fun r5 m6 q7 => ?_)) (r_l_of g (fun (r_ : Int32) (m_ : ch_M) => (∃ (M4 : ch_M), (x_coR (y_can Y_2) x5 0) = r_ ∧ (a_W A_1 Y_2 R_3 M4) ∧ m_ = M4)) (A_1) (Y_2) (R_3) (x5) (0) m ⟨b8, b9, b10, (fun M4 f0_ => ⟨M4, rfl, f0_, rfl⟩)⟩))
  obtain ⟨M4, rfl, f0_, hm_⟩ := q7
  replace h := h M4 f0_ m6 hm_
  refine ch_iload d_l_refused_437 rfl ?_
  refine ch_icmp_ge (tgt := 643) d_l_refused_439 (by decide) (fun c => ?_) (fun c => ?_)
  · replace h := h.1 c
    exact h
  · replace h := h.2 c
    refine ch_iload d_l_refused_442 rfl ?_
    refine ch_if_eq (tgt := 481) d_l_refused_444 (by decide) (fun c => absurd c (by decide)) (fun _ => ?_)
    refine ch_aload_n (i := 0) d_l_refused_447 rfl rfl ?_
    refine ch_iload d_l_refused_448 rfl ?_
    obtain ⟨A_11, h⟩ := h
    obtain ⟨Y_12, h⟩ := h
    obtain ⟨R_13, h⟩ := h
    obtain ⟨w_14, h⟩ := h
    obtain ⟨e_15, h⟩ := h
    have b20 := h.1
    replace h := h.2
    have b21 := h.1
    replace h := h.2
    have b22 := h.1
    replace h := h.2
    refine ch_callSX (as := [.inr (0, 0, 0), .inl (.int x5)]) d_l_refused_450 lk_l_222 ms_l_strike rfl rfl ⟨Nat.le_of_ble_eq_true rfl, Nat.le_of_ble_eq_true rfl⟩ (Nat.le_of_ble_eq_true rfl) (ch_rk (a := 2) (b := 1) hk (Nat.le_of_ble_eq_true rfl) (Nat.le_of_ble_eq_true rfl)) (ch_mono (ch_Ki (fun r17 m18 q19 => ?_)) (r_l_strike g (fun (r_ : Int32) (m_ : ch_M) => (∃ (M16 : ch_M), (-1001) = r_ ∧ (a_W A_11 Y_12 (w_14, e_15, 0) M16) ∧ m_ = M16)) (A_11) (Y_12) (R_13) (w_14) (e_15) (x5) m6 ⟨b20, b21, b22, (fun M16 f0_ => ⟨M16, rfl, f0_, rfl⟩)⟩))
    obtain ⟨M16, rfl, f0_, hm_⟩ := q19
    replace h := h M16 f0_ m18 hm_
    refine ch_sipush (v := (-1001)) d_l_refused_453 (by decide) ?_
    refine ch_icmp_ne (tgt := 481) d_l_refused_456 (by decide) (fun c => absurd c (by decide)) (fun _ => ?_)
    refine ch_aload_n (i := 0) d_l_refused_459 rfl rfl ?_
    refine ch_iconst (v := 5) d_l_refused_460 (by decide) ?_
    refine ch_iload d_l_refused_461 rfl ?_
    refine ch_aload_n (i := 0) d_l_refused_463 rfl rfl ?_
    refine ch_iload d_l_refused_464 rfl ?_
    refine ch_iconst (v := 0) d_l_refused_466 (by decide) ?_
    obtain ⟨A_23, h⟩ := h
    obtain ⟨Y_24, h⟩ := h
    obtain ⟨R_25, h⟩ := h
    have b30 := h.1
    replace h := h.2
    have b31 := h.1
    replace h := h.2
    have b32 := h.1
    replace h := h.2
    refine ch_callSX (as := [.inr (0, 0, 0), .inl (.int x5), .inl (.int 0)]) d_l_refused_467 lk_l_188 ms_l_of rfl rfl ⟨Nat.le_of_ble_eq_true rfl, Nat.le_of_ble_eq_true rfl⟩ (Nat.le_of_ble_eq_true rfl) (ch_rk (a := 3) (b := 2) hk (Nat.le_of_ble_eq_true rfl) (Nat.le_of_ble_eq_true rfl)) (ch_mono (ch_Ki (fun r27 m28 q29 => ?_)) (r_l_of g (fun (r_ : Int32) (m_ : ch_M) => (∃ (M26 : ch_M), (x_coR (y_can Y_24) x5 0) = r_ ∧ (a_W A_23 Y_24 R_25 M26) ∧ m_ = M26)) (A_23) (Y_24) (R_25) (x5) (0) m18 ⟨b30, b31, b32, (fun M26 f0_ => ⟨M26, rfl, f0_, rfl⟩)⟩))
    obtain ⟨M26, rfl, f0_, hm_⟩ := q29
    replace h := h M26 f0_ m28 hm_
    refine ch_isub d_l_refused_470 ?_
    obtain ⟨A_33, h⟩ := h
    obtain ⟨Y_34, h⟩ := h
    have b38 := h.1
    replace h := h.2
    have b39 := h.1
    replace h := h.2
    refine ch_callS (as := [.inr (0, 0, 0), .inl (.int 5), .inl (.int (x6 - (x_coR (y_can Y_24) x5 0)))]) d_l_refused_471 lk_l_258 ms_l_is rfl rfl ⟨Nat.le_of_ble_eq_true rfl, Nat.le_of_ble_eq_true rfl⟩ (Nat.le_of_ble_eq_true rfl) (ch_rk (a := 5) (b := 4) hk (Nat.le_of_ble_eq_true rfl) (Nat.le_of_ble_eq_true rfl)) (ch_mono (ch_Ki (fun r35 m36 q37 => ?_)) (r_l_is g (fun (r_ : Int32) (m_ : ch_M) => (1 = r_ ∧ m28 = m_)) (A_33) (Y_34) (5) ((x6 - (x_coR (y_can Y_24) x5 0))) m28 ⟨b38, b39, ⟨rfl, rfl⟩⟩))
    obtain ⟨rfl, rfl⟩ := q37
    replace h := h
    refine ch_if_eq (tgt := 481) d_l_refused_474 (by decide) (fun c => absurd c (by decide)) (fun _ => ?_)
    refine ch_iconst (v := 1) d_l_refused_477 (by decide) ?_
    refine ch_goto (tgt := 482) d_l_refused_478 (by decide) ?_
    refine ch_istore (i := 4) d_l_refused_482 (Nat.le_of_ble_eq_true rfl) (ls' := [some (.inr (0, 0, 0)), some (.inl (.long x1)), none, some (.inl (.int x3)), some (.inl (.int 1)), some (.inl (.int x5)), some (.inl (.int x6))]) rfl ?_
    refine ch_goto (tgt := 643) d_l_refused_484 (by decide) ?_
    exact h
set_option maxHeartbeats 1600000 in
theorem g_l_refused_592 (g : ch_G) (Q : ch_O → ch_M → Prop) (k : Nat) (hk : k + 9 ≤ 6000) (x1 : Int64) (x3 : Int32) (x5 : Int32) (x6 : Int32) (m : ch_M) (h : (∃ A_1 : a_G, (∃ Y_2 : ch_B, (∃ R_3 : Int32 × Int32 × Int32, (a_W A_1 Y_2 R_3 m) ∧ ((0 : Int32) ≤ x5 ∧ x5 < Y_2 0 8) ∧ ((0 : Int32) ≤ 1 ∧ 1 ≤ (6 : Int32)) ∧ ((∀ (M4 : ch_M), (a_W A_1 Y_2 R_3 M4) → (∀ m6 : ch_M, m6 = M4 → ((3 ≤ (x_coR (y_can Y_2) x5 1) → ch_J g m_l_refused (ch_rm m_l_refused) (ch_E g m_l_refused Q) 643 [some (.inr (0, 0, 0)), some (.inl (.long x1)), none, some (.inl (.int x3)), some (.inl (.int 1)), some (.inl (.int x5)), some (.inl (.int x6))] [] m6 (k + 2)) ∧ (¬ 3 ≤ (x_coR (y_can Y_2) x5 1) → (∃ A_11 : a_G, (∃ Y_12 : ch_B, (∃ R_13 : Int32 × Int32 × Int32, (∃ w_14 : Int32, (∃ e_15 : Int32, (a_W A_11 Y_12 R_13 m6) ∧ (∀ Z_, y_sm Y_12 Z_ → r_ww Z_ x5 = (w_14, e_15)) ∧ (¬ w_14 = 0) ∧ ((∀ (M16 : ch_M), (a_W A_11 Y_12 (w_14, e_15, 0) M16) → (∀ m18 : ch_M, m18 = M16 → (∃ A_23 : a_G, (∃ Y_24 : ch_B, (∃ R_25 : Int32 × Int32 × Int32, (a_W A_23 Y_24 R_25 m18) ∧ ((0 : Int32) ≤ x5 ∧ x5 < Y_24 0 8) ∧ ((0 : Int32) ≤ 1 ∧ 1 ≤ (6 : Int32)) ∧ ((∀ (M26 : ch_M), (a_W A_23 Y_24 R_25 M26) → (∀ m28 : ch_M, m28 = M26 → (∃ A_33 : a_G, (∃ Y_34 : ch_B, (a_W A_33 Y_34 (9, (x_coR (y_can Y_24) x5 1), 0) m28) ∧ (¬ 9 = (0 : Int32)) ∧ (ch_J g m_l_refused (ch_rm m_l_refused) (ch_E g m_l_refused Q) 643 [some (.inr (0, 0, 0)), some (.inl (.long x1)), none, some (.inl (.int x3)), some (.inl (.int 1)), some (.inl (.int x5)), some (.inl (.int x6))] [] m28 (k + 9))))))))))))))))))))))))))) : ch_J g m_l_refused (ch_rm m_l_refused) (ch_E g m_l_refused Q) 592 [some (.inr (0, 0, 0)), some (.inl (.long x1)), none, some (.inl (.int x3)), some (.inl (.int 1)), some (.inl (.int x5)), some (.inl (.int x6))] [] m k := by
  refine ch_aload_n (i := 0) d_l_refused_592 rfl rfl ?_
  refine ch_iload d_l_refused_593 rfl ?_
  refine ch_iconst (v := 1) d_l_refused_595 (by decide) ?_
  obtain ⟨A_1, h⟩ := h
  obtain ⟨Y_2, h⟩ := h
  obtain ⟨R_3, h⟩ := h
  have b8 := h.1
  replace h := h.2
  have b9 := h.1
  replace h := h.2
  have b10 := h.1
  replace h := h.2
  refine ch_callSX (as := [.inr (0, 0, 0), .inl (.int x5), .inl (.int 1)]) d_l_refused_596 lk_l_188 ms_l_of rfl rfl ⟨Nat.le_of_ble_eq_true rfl, Nat.le_of_ble_eq_true rfl⟩ (Nat.le_of_ble_eq_true rfl) (ch_rk0 (b := 2) hk (Nat.le_of_ble_eq_true rfl) (Nat.le_of_ble_eq_true rfl)) (ch_mono (ch_Ki (fun r5 m6 q7 => ?_)) (r_l_of g (fun (r_ : Int32) (m_ : ch_M) => (∃ (M4 : ch_M), (x_coR (y_can Y_2) x5 1) = r_ ∧ (a_W A_1 Y_2 R_3 M4) ∧ m_ = M4)) (A_1) (Y_2) (R_3) (x5) (1) m ⟨b8, b9, b10, (fun M4 f0_ => ⟨M4, rfl, f0_, rfl⟩)⟩))
  obtain ⟨M4, rfl, f0_, hm_⟩ := q7
  replace h := h M4 f0_ m6 hm_
  refine ch_iconst (v := 3) d_l_refused_599 (by decide) ?_
  refine ch_icmp_ge (tgt := 643) d_l_refused_600 (by decide) (fun c => ?_) (fun c => ?_)
  · replace h := h.1 c
    exact h
  · replace h := h.2 c
    refine ch_iload d_l_refused_603 rfl ?_
    refine ch_if_eq (tgt := 640) d_l_refused_605 (by decide) (fun c => absurd c (by decide)) (fun _ => ?_)
    refine ch_aload_n (i := 0) d_l_refused_608 rfl rfl ?_
    refine ch_iload d_l_refused_609 rfl ?_
    obtain ⟨A_11, h⟩ := h
    obtain ⟨Y_12, h⟩ := h
    obtain ⟨R_13, h⟩ := h
    obtain ⟨w_14, h⟩ := h
    obtain ⟨e_15, h⟩ := h
    have b20 := h.1
    replace h := h.2
    have b21 := h.1
    replace h := h.2
    have b22 := h.1
    replace h := h.2
    refine ch_callSX (as := [.inr (0, 0, 0), .inl (.int x5)]) d_l_refused_611 lk_l_163 ms_l_warrant rfl rfl ⟨Nat.le_of_ble_eq_true rfl, Nat.le_of_ble_eq_true rfl⟩ (Nat.le_of_ble_eq_true rfl) (ch_rk (a := 2) (b := 1) hk (Nat.le_of_ble_eq_true rfl) (Nat.le_of_ble_eq_true rfl)) (ch_mono (ch_Ki (fun r17 m18 q19 => ?_)) (r_l_warrant g (fun (r_ : Int32) (m_ : ch_M) => (∃ (M16 : ch_M), (-1001) = r_ ∧ (a_W A_11 Y_12 (w_14, e_15, 0) M16) ∧ m_ = M16)) (A_11) (Y_12) (R_13) (w_14) (e_15) (x5) m6 ⟨b20, b21, b22, (fun M16 f0_ => ⟨M16, rfl, f0_, rfl⟩)⟩))
    obtain ⟨M16, rfl, f0_, hm_⟩ := q19
    replace h := h M16 f0_ m18 hm_
    refine ch_sipush (v := (-1001)) d_l_refused_614 (by decide) ?_
    refine ch_icmp_ne (tgt := 640) d_l_refused_617 (by decide) (fun c => absurd c (by decide)) (fun _ => ?_)
    refine ch_aload_n (i := 0) d_l_refused_620 rfl rfl ?_
    refine ch_bipush (v := 9) d_l_refused_621 (by decide) ?_
    refine ch_aload_n (i := 0) d_l_refused_623 rfl rfl ?_
    refine ch_iload d_l_refused_624 rfl ?_
    refine ch_iconst (v := 1) d_l_refused_626 (by decide) ?_
    obtain ⟨A_23, h⟩ := h
    obtain ⟨Y_24, h⟩ := h
    obtain ⟨R_25, h⟩ := h
    have b30 := h.1
    replace h := h.2
    have b31 := h.1
    replace h := h.2
    have b32 := h.1
    replace h := h.2
    refine ch_callSX (as := [.inr (0, 0, 0), .inl (.int x5), .inl (.int 1)]) d_l_refused_627 lk_l_188 ms_l_of rfl rfl ⟨Nat.le_of_ble_eq_true rfl, Nat.le_of_ble_eq_true rfl⟩ (Nat.le_of_ble_eq_true rfl) (ch_rk (a := 3) (b := 2) hk (Nat.le_of_ble_eq_true rfl) (Nat.le_of_ble_eq_true rfl)) (ch_mono (ch_Ki (fun r27 m28 q29 => ?_)) (r_l_of g (fun (r_ : Int32) (m_ : ch_M) => (∃ (M26 : ch_M), (x_coR (y_can Y_24) x5 1) = r_ ∧ (a_W A_23 Y_24 R_25 M26) ∧ m_ = M26)) (A_23) (Y_24) (R_25) (x5) (1) m18 ⟨b30, b31, b32, (fun M26 f0_ => ⟨M26, rfl, f0_, rfl⟩)⟩))
    obtain ⟨M26, rfl, f0_, hm_⟩ := q29
    replace h := h M26 f0_ m28 hm_
    obtain ⟨A_33, h⟩ := h
    obtain ⟨Y_34, h⟩ := h
    have b38 := h.1
    replace h := h.2
    have b39 := h.1
    replace h := h.2
    refine ch_callS (as := [.inr (0, 0, 0), .inl (.int 9), .inl (.int (x_coR (y_can Y_24) x5 1))]) d_l_refused_630 lk_l_258 ms_l_is rfl rfl ⟨Nat.le_of_ble_eq_true rfl, Nat.le_of_ble_eq_true rfl⟩ (Nat.le_of_ble_eq_true rfl) (ch_rk (a := 5) (b := 4) hk (Nat.le_of_ble_eq_true rfl) (Nat.le_of_ble_eq_true rfl)) (ch_mono (ch_Ki (fun r35 m36 q37 => ?_)) (r_l_is g (fun (r_ : Int32) (m_ : ch_M) => (1 = r_ ∧ m28 = m_)) (A_33) (Y_34) (9) ((x_coR (y_can Y_24) x5 1)) m28 ⟨b38, b39, ⟨rfl, rfl⟩⟩))
    obtain ⟨rfl, rfl⟩ := q37
    replace h := h
    refine ch_if_eq (tgt := 640) d_l_refused_633 (by decide) (fun c => absurd c (by decide)) (fun _ => ?_)
    refine ch_iconst (v := 1) d_l_refused_636 (by decide) ?_
    refine ch_goto (tgt := 641) d_l_refused_637 (by decide) ?_
    refine ch_istore (i := 4) d_l_refused_641 (Nat.le_of_ble_eq_true rfl) (ls' := [some (.inr (0, 0, 0)), some (.inl (.long x1)), none, some (.inl (.int x3)), some (.inl (.int 1)), some (.inl (.int x5)), some (.inl (.int x6))]) rfl ?_
    exact h
set_option maxHeartbeats 1600000 in
theorem g_l_refused_643 (g : ch_G) (Q : ch_O → ch_M → Prop) (k : Nat) (hk : k + 9 ≤ 6000) (x1 : Int64) (x3 : Int32) (x5 : Int32) (x6 : Int32) (m : ch_M) (h : (∃ A_1 : a_G, (∃ Y_2 : ch_B, (∃ R_3 : Int32 × Int32 × Int32, (a_W A_1 Y_2 R_3 m) ∧ ((0 : Int32) ≤ x5 ∧ x5 < Y_2 0 8) ∧ ((0 : Int32) ≤ 0 ∧ 0 ≤ (6 : Int32)) ∧ ((∀ (M4 : ch_M), (a_W A_1 Y_2 R_3 M4) → (∀ m6 : ch_M, m6 = M4 → ((99 ≤ (x_coR (y_can Y_2) x5 0) → ch_J g m_l_refused (ch_rm m_l_refused) (ch_E g m_l_refused Q) 351 [some (.inr (0, 0, 0)), some (.inl (.long x1)), none, some (.inl (.int x3)), some (.inl (.int 1)), some (.inl (.int (x5 + 1))), some (.inl (.int x6))] [] m6 (k + 2)) ∧ (¬ 99 ≤ (x_coR (y_can Y_2) x5 0) → (¬ x3 = 0) ∧ (∃ A_11 : a_G, (∃ Y_12 : ch_B, (∃ R_13 : Int32 × Int32 × Int32, (∃ w_14 : Int32, (∃ e_15 : Int32, (a_W A_11 Y_12 R_13 m6) ∧ (∀ Z_, y_sm Y_12 Z_ → r_wg Z_ x5 ((x5 + 1) - (x5 + 1) / x3 * x3) 99 = (w_14, e_15)) ∧ (¬ w_14 = 0) ∧ ((∀ (M16 : ch_M), (a_W A_11 Y_12 (w_14, e_15, 0) M16) → (∀ m18 : ch_M, m18 = M16 → (∃ A_23 : a_G, (∃ Y_24 : ch_B, (∃ R_25 : Int32 × Int32 × Int32, (a_W A_23 Y_24 R_25 m18) ∧ ((0 : Int32) ≤ x5 ∧ x5 < Y_24 0 8) ∧ ((0 : Int32) ≤ 0 ∧ 0 ≤ (6 : Int32)) ∧ ((∀ (M26 : ch_M), (a_W A_23 Y_24 R_25 M26) → (∀ m28 : ch_M, m28 = M26 → (∃ A_33 : a_G, (∃ Y_34 : ch_B, (a_W A_33 Y_34 (5, (99 - (x_coR (y_can Y_24) x5 0)), 0) m28) ∧ (¬ 5 = (0 : Int32)) ∧ (ch_J g m_l_refused (ch_rm m_l_refused) (ch_E g m_l_refused Q) 351 [some (.inr (0, 0, 0)), some (.inl (.long x1)), none, some (.inl (.int x3)), some (.inl (.int 1)), some (.inl (.int (x5 + 1))), some (.inl (.int x6))] [] m28 (k + 9))))))))))))))))))))))))))) : ch_J g m_l_refused (ch_rm m_l_refused) (ch_E g m_l_refused Q) 643 [some (.inr (0, 0, 0)), some (.inl (.long x1)), none, some (.inl (.int x3)), some (.inl (.int 1)), some (.inl (.int x5)), some (.inl (.int x6))] [] m k := by
  refine ch_aload_n (i := 0) d_l_refused_643 rfl rfl ?_
  refine ch_iload d_l_refused_644 rfl ?_
  refine ch_iconst (v := 0) d_l_refused_646 (by decide) ?_
  obtain ⟨A_1, h⟩ := h
  obtain ⟨Y_2, h⟩ := h
  obtain ⟨R_3, h⟩ := h
  have b8 := h.1
  replace h := h.2
  have b9 := h.1
  replace h := h.2
  have b10 := h.1
  replace h := h.2
  refine ch_callSX (as := [.inr (0, 0, 0), .inl (.int x5), .inl (.int 0)]) d_l_refused_647 lk_l_188 ms_l_of rfl rfl ⟨Nat.le_of_ble_eq_true rfl, Nat.le_of_ble_eq_true rfl⟩ (Nat.le_of_ble_eq_true rfl) (ch_rk0 (b := 2) hk (Nat.le_of_ble_eq_true rfl) (Nat.le_of_ble_eq_true rfl)) (ch_mono (ch_Ki (fun r5 m6 q7 => ?_)) (r_l_of g (fun (r_ : Int32) (m_ : ch_M) => (∃ (M4 : ch_M), (x_coR (y_can Y_2) x5 0) = r_ ∧ (a_W A_1 Y_2 R_3 M4) ∧ m_ = M4)) (A_1) (Y_2) (R_3) (x5) (0) m ⟨b8, b9, b10, (fun M4 f0_ => ⟨M4, rfl, f0_, rfl⟩)⟩))
  obtain ⟨M4, rfl, f0_, hm_⟩ := q7
  replace h := h M4 f0_ m6 hm_
  refine ch_bipush (v := 99) d_l_refused_650 (by decide) ?_
  refine ch_icmp_ge (tgt := 705) d_l_refused_652 (by decide) (fun c => ?_) (fun c => ?_)
  · replace h := h.1 c
    refine ch_iinc (i := 5) (v := (x5 + 1)) d_l_refused_705 rfl rfl (Nat.le_of_ble_eq_true rfl) (ls' := [some (.inr (0, 0, 0)), some (.inl (.long x1)), none, some (.inl (.int x3)), some (.inl (.int 1)), some (.inl (.int (x5 + 1))), some (.inl (.int x6))]) rfl ?_
    refine ch_goto (tgt := 351) d_l_refused_708 (by decide) ?_
    exact h
  · replace h := h.2 c
    refine ch_iload d_l_refused_655 rfl ?_
    refine ch_if_eq (tgt := 702) d_l_refused_657 (by decide) (fun c => absurd c (by decide)) (fun _ => ?_)
    refine ch_aload_n (i := 0) d_l_refused_660 rfl rfl ?_
    refine ch_iload d_l_refused_661 rfl ?_
    refine ch_iload d_l_refused_663 rfl ?_
    refine ch_iconst (v := 1) d_l_refused_665 (by decide) ?_
    refine ch_iadd d_l_refused_666 ?_
    refine ch_iload_n (i := 3) d_l_refused_667 rfl rfl ?_
    refine ch_irem d_l_refused_668 h.1 ?_
    replace h := h.2
    refine ch_bipush (v := 99) d_l_refused_669 (by decide) ?_
    obtain ⟨A_11, h⟩ := h
    obtain ⟨Y_12, h⟩ := h
    obtain ⟨R_13, h⟩ := h
    obtain ⟨w_14, h⟩ := h
    obtain ⟨e_15, h⟩ := h
    have b20 := h.1
    replace h := h.2
    have b21 := h.1
    replace h := h.2
    have b22 := h.1
    replace h := h.2
    refine ch_callSX (as := [.inr (0, 0, 0), .inl (.int x5), .inl (.int ((x5 + 1) - (x5 + 1) / x3 * x3)), .inl (.int 99)]) d_l_refused_671 lk_l_226 ms_l_give rfl rfl ⟨Nat.le_of_ble_eq_true rfl, Nat.le_of_ble_eq_true rfl⟩ (Nat.le_of_ble_eq_true rfl) (ch_rk (a := 2) (b := 1) hk (Nat.le_of_ble_eq_true rfl) (Nat.le_of_ble_eq_true rfl)) (ch_mono (ch_Ki (fun r17 m18 q19 => ?_)) (r_l_give g (fun (r_ : Int32) (m_ : ch_M) => (∃ (M16 : ch_M), (-1001) = r_ ∧ (a_W A_11 Y_12 (w_14, e_15, 0) M16) ∧ m_ = M16)) (A_11) (Y_12) (R_13) (w_14) (e_15) (x5) (((x5 + 1) - (x5 + 1) / x3 * x3)) (99) m6 ⟨b20, b21, b22, (fun M16 f0_ => ⟨M16, rfl, f0_, rfl⟩)⟩))
    obtain ⟨M16, rfl, f0_, hm_⟩ := q19
    replace h := h M16 f0_ m18 hm_
    refine ch_sipush (v := (-1001)) d_l_refused_674 (by decide) ?_
    refine ch_icmp_ne (tgt := 702) d_l_refused_677 (by decide) (fun c => absurd c (by decide)) (fun _ => ?_)
    refine ch_aload_n (i := 0) d_l_refused_680 rfl rfl ?_
    refine ch_iconst (v := 5) d_l_refused_681 (by decide) ?_
    refine ch_bipush (v := 99) d_l_refused_682 (by decide) ?_
    refine ch_aload_n (i := 0) d_l_refused_684 rfl rfl ?_
    refine ch_iload d_l_refused_685 rfl ?_
    refine ch_iconst (v := 0) d_l_refused_687 (by decide) ?_
    obtain ⟨A_23, h⟩ := h
    obtain ⟨Y_24, h⟩ := h
    obtain ⟨R_25, h⟩ := h
    have b30 := h.1
    replace h := h.2
    have b31 := h.1
    replace h := h.2
    have b32 := h.1
    replace h := h.2
    refine ch_callSX (as := [.inr (0, 0, 0), .inl (.int x5), .inl (.int 0)]) d_l_refused_688 lk_l_188 ms_l_of rfl rfl ⟨Nat.le_of_ble_eq_true rfl, Nat.le_of_ble_eq_true rfl⟩ (Nat.le_of_ble_eq_true rfl) (ch_rk (a := 3) (b := 2) hk (Nat.le_of_ble_eq_true rfl) (Nat.le_of_ble_eq_true rfl)) (ch_mono (ch_Ki (fun r27 m28 q29 => ?_)) (r_l_of g (fun (r_ : Int32) (m_ : ch_M) => (∃ (M26 : ch_M), (x_coR (y_can Y_24) x5 0) = r_ ∧ (a_W A_23 Y_24 R_25 M26) ∧ m_ = M26)) (A_23) (Y_24) (R_25) (x5) (0) m18 ⟨b30, b31, b32, (fun M26 f0_ => ⟨M26, rfl, f0_, rfl⟩)⟩))
    obtain ⟨M26, rfl, f0_, hm_⟩ := q29
    replace h := h M26 f0_ m28 hm_
    refine ch_isub d_l_refused_691 ?_
    obtain ⟨A_33, h⟩ := h
    obtain ⟨Y_34, h⟩ := h
    have b38 := h.1
    replace h := h.2
    have b39 := h.1
    replace h := h.2
    refine ch_callS (as := [.inr (0, 0, 0), .inl (.int 5), .inl (.int (99 - (x_coR (y_can Y_24) x5 0)))]) d_l_refused_692 lk_l_258 ms_l_is rfl rfl ⟨Nat.le_of_ble_eq_true rfl, Nat.le_of_ble_eq_true rfl⟩ (Nat.le_of_ble_eq_true rfl) (ch_rk (a := 5) (b := 4) hk (Nat.le_of_ble_eq_true rfl) (Nat.le_of_ble_eq_true rfl)) (ch_mono (ch_Ki (fun r35 m36 q37 => ?_)) (r_l_is g (fun (r_ : Int32) (m_ : ch_M) => (1 = r_ ∧ m28 = m_)) (A_33) (Y_34) (5) ((99 - (x_coR (y_can Y_24) x5 0))) m28 ⟨b38, b39, ⟨rfl, rfl⟩⟩))
    obtain ⟨rfl, rfl⟩ := q37
    replace h := h
    refine ch_if_eq (tgt := 702) d_l_refused_695 (by decide) (fun c => absurd c (by decide)) (fun _ => ?_)
    refine ch_iconst (v := 1) d_l_refused_698 (by decide) ?_
    refine ch_goto (tgt := 703) d_l_refused_699 (by decide) ?_
    refine ch_istore (i := 4) d_l_refused_703 (Nat.le_of_ble_eq_true rfl) (ls' := [some (.inr (0, 0, 0)), some (.inl (.long x1)), none, some (.inl (.int x3)), some (.inl (.int 1)), some (.inl (.int x5)), some (.inl (.int x6))]) rfl ?_
    refine ch_iinc (i := 5) (v := (x5 + 1)) d_l_refused_705 rfl rfl (Nat.le_of_ble_eq_true rfl) (ls' := [some (.inr (0, 0, 0)), some (.inl (.long x1)), none, some (.inl (.int x3)), some (.inl (.int 1)), some (.inl (.int (x5 + 1))), some (.inl (.int x6))]) rfl ?_
    refine ch_goto (tgt := 351) d_l_refused_708 (by decide) ?_
    exact h
set_option maxHeartbeats 1600000 in
theorem g_l_refused_714 (g : ch_G) (Q : ch_O → ch_M → Prop) (k : Nat) (hk : k + 7 ≤ 6000) (x1 : Int64) (x3 : Int32) (x5 : Int32) (o6 : Option ch_V) (m : ch_M) (h : ((12 ≤ x5 → (∃ A_1 : a_G, (∃ Y_2 : ch_B, (∃ R_3 : Int32 × Int32 × Int32, (a_W A_1 Y_2 R_3 m) ∧ ((0 : Int32) ≤ 3 ∧ 3 ≤ (9 : Int32)) ∧ ((∀ (M4 : ch_M), (a_W A_1 Y_2 R_3 M4) → (∀ m6 : ch_M, m6 = M4 → (∃ A_10 : a_G, (∃ Y_11 : ch_B, (∃ R_12 : Int32 × Int32 × Int32, (a_W A_10 Y_11 R_12 m6) ∧ ((0 : Int32) ≤ 4 ∧ 4 ≤ (9 : Int32)) ∧ ((∀ (M13 : ch_M), (a_W A_10 Y_11 R_12 M13) → (∀ m15 : ch_M, m15 = M13 → ((¬ ((x_acR (y_can Y_2) 0 0 3) + (x_acR (y_can Y_11) 0 0 4)) = 0 → ch_J g m_l_refused (ch_rm m_l_refused) (ch_E g m_l_refused Q) 877 [some (.inr (0, 0, 0)), some (.inl (.long x1)), none, some (.inl (.int x3)), some (.inl (.int 1)), some (.inl (.int x5)), o6] [] m15 (k + 2)) ∧ (((x_acR (y_can Y_2) 0 0 3) + (x_acR (y_can Y_11) 0 0 4)) = 0 → (∃ A_19 : a_G, (∃ Y_20 : ch_B, (∃ R_21 : Int32 × Int32 × Int32, (∃ w_22 : Int32, (∃ e_23 : Int32, (a_W A_19 Y_20 R_21 m15) ∧ (∀ Z_, y_sm Y_20 Z_ → r_wr Z_ 1 = (w_22, e_23)) ∧ (¬ w_22 = 0) ∧ ((∀ (M24 : ch_M), (a_W A_19 Y_20 (w_22, e_23, 0) M24) → (∀ m26 : ch_M, m26 = M24 → (∃ A_31 : a_G, (∃ Y_32 : ch_B, (a_W A_31 Y_32 (12, 0, 0) m26) ∧ (¬ 12 = (0 : Int32)) ∧ (ch_J g m_l_refused (ch_rm m_l_refused) (ch_E g m_l_refused Q) 877 [some (.inr (0, 0, 0)), some (.inl (.long x1)), none, some (.inl (.int x3)), some (.inl (.int 1)), some (.inl (.int x5)), o6] [] m26 (k + 7))))))))))))))))))))))))))) ∧ (¬ 12 ≤ x5 → (∃ A_38 : a_G, (∃ Y_39 : ch_B, (∃ R_40 : Int32 × Int32 × Int32, (a_W A_38 Y_39 R_40 m) ∧ ((0 : Int32) ≤ x5 ∧ x5 < (12 : Int32)) ∧ ((∀ (M41 : ch_M), (a_W A_38 Y_39 R_40 M41) → (∀ m43 : ch_M, m43 = M41 → (((l_sq Y_39 x5 0) < 0 → ch_J g m_l_refused (ch_rm m_l_refused) (ch_E g m_l_refused Q) 775 [some (.inr (0, 0, 0)), some (.inl (.long x1)), none, some (.inl (.int x3)), some (.inl (.int 1)), some (.inl (.int x5)), some (.inl (.int (l_sq Y_39 x5 0)))] [] m43 (k + 1)) ∧ (¬ (l_sq Y_39 x5 0) < 0 → (¬ x3 = 0) ∧ (∃ A_47 : a_G, (∃ Y_48 : ch_B, (∃ R_49 : Int32 × Int32 × Int32, (∃ w_50 : Int32, (∃ e_51 : Int32, (a_W A_47 Y_48 R_49 m43) ∧ (∀ Z_, y_sm Y_48 Z_ → r_wc Z_ (((l_sq Y_39 x5 0) + 1) - ((l_sq Y_39 x5 0) + 1) / x3 * x3) x5 = (w_50, e_51)) ∧ (¬ w_50 = 0) ∧ ((∀ (M52 : ch_M), (a_W A_47 Y_48 (w_50, e_51, 0) M52) → (∀ m54 : ch_M, m54 = M52 → (∃ A_59 : a_G, (∃ Y_60 : ch_B, (a_W A_59 Y_60 (4, (l_sq Y_39 x5 0), 0) m54) ∧ (¬ 4 = (0 : Int32)) ∧ (ch_J g m_l_refused (ch_rm m_l_refused) (ch_E g m_l_refused Q) 775 [some (.inr (0, 0, 0)), some (.inl (.long x1)), none, some (.inl (.int x3)), some (.inl (.int 1)), some (.inl (.int x5)), some (.inl (.int (l_sq Y_39 x5 0)))] [] m54 (k + 6))))))))))))))))))))))) : ch_J g m_l_refused (ch_rm m_l_refused) (ch_E g m_l_refused Q) 714 [some (.inr (0, 0, 0)), some (.inl (.long x1)), none, some (.inl (.int x3)), some (.inl (.int 1)), some (.inl (.int x5)), o6] [] m k := by
  refine ch_iload d_l_refused_714 rfl ?_
  refine ch_bipush (v := 12) d_l_refused_716 (by decide) ?_
  refine ch_icmp_ge (tgt := 830) d_l_refused_718 (by decide) (fun c => ?_) (fun c => ?_)
  · replace h := h.1 c
    refine ch_aload_n (i := 0) d_l_refused_830 rfl rfl ?_
    refine ch_iconst (v := 3) d_l_refused_831 (by decide) ?_
    obtain ⟨A_1, h⟩ := h
    obtain ⟨Y_2, h⟩ := h
    obtain ⟨R_3, h⟩ := h
    have b8 := h.1
    replace h := h.2
    have b9 := h.1
    replace h := h.2
    refine ch_callSX (as := [.inr (0, 0, 0), .inl (.int 3)]) d_l_refused_832 lk_l_186 ms_l_account rfl rfl ⟨Nat.le_of_ble_eq_true rfl, Nat.le_of_ble_eq_true rfl⟩ (Nat.le_of_ble_eq_true rfl) (ch_rk0 (b := 1) hk (Nat.le_of_ble_eq_true rfl) (Nat.le_of_ble_eq_true rfl)) (ch_mono (ch_Ki (fun r5 m6 q7 => ?_)) (r_l_account g (fun (r_ : Int32) (m_ : ch_M) => (∃ (M4 : ch_M), (x_acR (y_can Y_2) 0 0 3) = r_ ∧ (a_W A_1 Y_2 R_3 M4) ∧ m_ = M4)) (A_1) (Y_2) (R_3) (3) m ⟨b8, b9, (fun M4 f0_ => ⟨M4, rfl, f0_, rfl⟩)⟩))
    obtain ⟨M4, rfl, f0_, hm_⟩ := q7
    replace h := h M4 f0_ m6 hm_
    refine ch_aload_n (i := 0) d_l_refused_835 rfl rfl ?_
    refine ch_iconst (v := 4) d_l_refused_836 (by decide) ?_
    obtain ⟨A_10, h⟩ := h
    obtain ⟨Y_11, h⟩ := h
    obtain ⟨R_12, h⟩ := h
    have b17 := h.1
    replace h := h.2
    have b18 := h.1
    replace h := h.2
    refine ch_callSX (as := [.inr (0, 0, 0), .inl (.int 4)]) d_l_refused_837 lk_l_186 ms_l_account rfl rfl ⟨Nat.le_of_ble_eq_true rfl, Nat.le_of_ble_eq_true rfl⟩ (Nat.le_of_ble_eq_true rfl) (ch_rk (a := 1) (b := 1) hk (Nat.le_of_ble_eq_true rfl) (Nat.le_of_ble_eq_true rfl)) (ch_mono (ch_Ki (fun r14 m15 q16 => ?_)) (r_l_account g (fun (r_ : Int32) (m_ : ch_M) => (∃ (M13 : ch_M), (x_acR (y_can Y_11) 0 0 4) = r_ ∧ (a_W A_10 Y_11 R_12 M13) ∧ m_ = M13)) (A_10) (Y_11) (R_12) (4) m6 ⟨b17, b18, (fun M13 f0_ => ⟨M13, rfl, f0_, rfl⟩)⟩))
    obtain ⟨M13, rfl, f0_, hm_⟩ := q16
    replace h := h M13 f0_ m15 hm_
    refine ch_iadd d_l_refused_840 ?_
    refine ch_if_ne (tgt := 877) d_l_refused_841 (by decide) (fun c => ?_) (fun c => ?_)
    · replace h := h.1 c
      exact h
    · replace h := h.2 c
      refine ch_iload d_l_refused_844 rfl ?_
      refine ch_if_eq (tgt := 874) d_l_refused_846 (by decide) (fun c => absurd c (by decide)) (fun _ => ?_)
      refine ch_aload_n (i := 0) d_l_refused_849 rfl rfl ?_
      refine ch_iconst (v := 1) d_l_refused_850 (by decide) ?_
      obtain ⟨A_19, h⟩ := h
      obtain ⟨Y_20, h⟩ := h
      obtain ⟨R_21, h⟩ := h
      obtain ⟨w_22, h⟩ := h
      obtain ⟨e_23, h⟩ := h
      have b28 := h.1
      replace h := h.2
      have b29 := h.1
      replace h := h.2
      have b30 := h.1
      replace h := h.2
      refine ch_callSX (as := [.inr (0, 0, 0), .inl (.int 1)]) d_l_refused_851 lk_l_224 ms_l_rain rfl rfl ⟨Nat.le_of_ble_eq_true rfl, Nat.le_of_ble_eq_true rfl⟩ (Nat.le_of_ble_eq_true rfl) (ch_rk (a := 2) (b := 1) hk (Nat.le_of_ble_eq_true rfl) (Nat.le_of_ble_eq_true rfl)) (ch_mono (ch_Ki (fun r25 m26 q27 => ?_)) (r_l_rain g (fun (r_ : Int32) (m_ : ch_M) => (∃ (M24 : ch_M), (-1001) = r_ ∧ (a_W A_19 Y_20 (w_22, e_23, 0) M24) ∧ m_ = M24)) (A_19) (Y_20) (R_21) (w_22) (e_23) (1) m15 ⟨b28, b29, b30, (fun M24 f0_ => ⟨M24, rfl, f0_, rfl⟩)⟩))
      obtain ⟨M24, rfl, f0_, hm_⟩ := q27
      replace h := h M24 f0_ m26 hm_
      refine ch_sipush (v := (-1001)) d_l_refused_854 (by decide) ?_
      refine ch_icmp_ne (tgt := 874) d_l_refused_857 (by decide) (fun c => absurd c (by decide)) (fun _ => ?_)
      refine ch_aload_n (i := 0) d_l_refused_860 rfl rfl ?_
      refine ch_bipush (v := 12) d_l_refused_861 (by decide) ?_
      refine ch_iconst (v := 0) d_l_refused_863 (by decide) ?_
      obtain ⟨A_31, h⟩ := h
      obtain ⟨Y_32, h⟩ := h
      have b36 := h.1
      replace h := h.2
      have b37 := h.1
      replace h := h.2
      refine ch_callS (as := [.inr (0, 0, 0), .inl (.int 12), .inl (.int 0)]) d_l_refused_864 lk_l_258 ms_l_is rfl rfl ⟨Nat.le_of_ble_eq_true rfl, Nat.le_of_ble_eq_true rfl⟩ (Nat.le_of_ble_eq_true rfl) (ch_rk (a := 3) (b := 4) hk (Nat.le_of_ble_eq_true rfl) (Nat.le_of_ble_eq_true rfl)) (ch_mono (ch_Ki (fun r33 m34 q35 => ?_)) (r_l_is g (fun (r_ : Int32) (m_ : ch_M) => (1 = r_ ∧ m26 = m_)) (A_31) (Y_32) (12) (0) m26 ⟨b36, b37, ⟨rfl, rfl⟩⟩))
      obtain ⟨rfl, rfl⟩ := q35
      replace h := h
      refine ch_if_eq (tgt := 874) d_l_refused_867 (by decide) (fun c => absurd c (by decide)) (fun _ => ?_)
      refine ch_iconst (v := 1) d_l_refused_870 (by decide) ?_
      refine ch_goto (tgt := 875) d_l_refused_871 (by decide) ?_
      refine ch_istore (i := 4) d_l_refused_875 (Nat.le_of_ble_eq_true rfl) (ls' := [some (.inr (0, 0, 0)), some (.inl (.long x1)), none, some (.inl (.int x3)), some (.inl (.int 1)), some (.inl (.int x5)), o6]) rfl ?_
      exact h
  · replace h := h.2 c
    refine ch_aload_n (i := 0) d_l_refused_721 rfl rfl ?_
    refine ch_iload d_l_refused_722 rfl ?_
    refine ch_iconst (v := 0) d_l_refused_724 (by decide) ?_
    obtain ⟨A_38, h⟩ := h
    obtain ⟨Y_39, h⟩ := h
    obtain ⟨R_40, h⟩ := h
    have b45 := h.1
    replace h := h.2
    have b46 := h.1
    replace h := h.2
    refine ch_callSX (as := [.inr (0, 0, 0), .inl (.int x5), .inl (.int 0)]) d_l_refused_725 lk_l_263 ms_l_squareOf rfl rfl ⟨Nat.le_of_ble_eq_true rfl, Nat.le_of_ble_eq_true rfl⟩ (Nat.le_of_ble_eq_true rfl) (ch_rk0 (b := 1) hk (Nat.le_of_ble_eq_true rfl) (Nat.le_of_ble_eq_true rfl)) (ch_mono (ch_Ki (fun r42 m43 q44 => ?_)) (r_l_squareOf g (fun (r_ : Int32) (m_ : ch_M) => (∃ (M41 : ch_M), (l_sq Y_39 x5 0) = r_ ∧ (a_W A_38 Y_39 R_40 M41) ∧ m_ = M41)) (A_38) (Y_39) (R_40) (x5) (0) m ⟨b45, b46, (fun M41 f0_ => ⟨M41, rfl, f0_, rfl⟩)⟩))
    obtain ⟨M41, rfl, f0_, hm_⟩ := q44
    replace h := h M41 f0_ m43 hm_
    refine ch_istore (i := 6) d_l_refused_728 (Nat.le_of_ble_eq_true rfl) (ls' := [some (.inr (0, 0, 0)), some (.inl (.long x1)), none, some (.inl (.int x3)), some (.inl (.int 1)), some (.inl (.int x5)), some (.inl (.int (l_sq Y_39 x5 0)))]) rfl ?_
    refine ch_iload d_l_refused_730 rfl ?_
    refine ch_if_lt (tgt := 775) d_l_refused_732 (by decide) (fun c => ?_) (fun c => ?_)
    · replace h := h.1 c
      exact h
    · replace h := h.2 c
      refine ch_iload d_l_refused_735 rfl ?_
      refine ch_if_eq (tgt := 772) d_l_refused_737 (by decide) (fun c => absurd c (by decide)) (fun _ => ?_)
      refine ch_aload_n (i := 0) d_l_refused_740 rfl rfl ?_
      refine ch_iload d_l_refused_741 rfl ?_
      refine ch_iconst (v := 1) d_l_refused_743 (by decide) ?_
      refine ch_iadd d_l_refused_744 ?_
      refine ch_iload_n (i := 3) d_l_refused_745 rfl rfl ?_
      refine ch_irem d_l_refused_746 h.1 ?_
      replace h := h.2
      refine ch_iload d_l_refused_747 rfl ?_
      obtain ⟨A_47, h⟩ := h
      obtain ⟨Y_48, h⟩ := h
      obtain ⟨R_49, h⟩ := h
      obtain ⟨w_50, h⟩ := h
      obtain ⟨e_51, h⟩ := h
      have b56 := h.1
      replace h := h.2
      have b57 := h.1
      replace h := h.2
      have b58 := h.1
      replace h := h.2
      refine ch_callSX (as := [.inr (0, 0, 0), .inl (.int (((l_sq Y_39 x5 0) + 1) - ((l_sq Y_39 x5 0) + 1) / x3 * x3)), .inl (.int x5)]) d_l_refused_749 lk_l_155 ms_l_chalk rfl rfl ⟨Nat.le_of_ble_eq_true rfl, Nat.le_of_ble_eq_true rfl⟩ (Nat.le_of_ble_eq_true rfl) (ch_rk (a := 1) (b := 1) hk (Nat.le_of_ble_eq_true rfl) (Nat.le_of_ble_eq_true rfl)) (ch_mono (ch_Ki (fun r53 m54 q55 => ?_)) (r_l_chalk g (fun (r_ : Int32) (m_ : ch_M) => (∃ (M52 : ch_M), (-1001) = r_ ∧ (a_W A_47 Y_48 (w_50, e_51, 0) M52) ∧ m_ = M52)) (A_47) (Y_48) (R_49) (w_50) (e_51) ((((l_sq Y_39 x5 0) + 1) - ((l_sq Y_39 x5 0) + 1) / x3 * x3)) (x5) m43 ⟨b56, b57, b58, (fun M52 f0_ => ⟨M52, rfl, f0_, rfl⟩)⟩))
      obtain ⟨M52, rfl, f0_, hm_⟩ := q55
      replace h := h M52 f0_ m54 hm_
      refine ch_sipush (v := (-1001)) d_l_refused_752 (by decide) ?_
      refine ch_icmp_ne (tgt := 772) d_l_refused_755 (by decide) (fun c => absurd c (by decide)) (fun _ => ?_)
      refine ch_aload_n (i := 0) d_l_refused_758 rfl rfl ?_
      refine ch_iconst (v := 4) d_l_refused_759 (by decide) ?_
      refine ch_iload d_l_refused_760 rfl ?_
      obtain ⟨A_59, h⟩ := h
      obtain ⟨Y_60, h⟩ := h
      have b64 := h.1
      replace h := h.2
      have b65 := h.1
      replace h := h.2
      refine ch_callS (as := [.inr (0, 0, 0), .inl (.int 4), .inl (.int (l_sq Y_39 x5 0))]) d_l_refused_762 lk_l_258 ms_l_is rfl rfl ⟨Nat.le_of_ble_eq_true rfl, Nat.le_of_ble_eq_true rfl⟩ (Nat.le_of_ble_eq_true rfl) (ch_rk (a := 2) (b := 4) hk (Nat.le_of_ble_eq_true rfl) (Nat.le_of_ble_eq_true rfl)) (ch_mono (ch_Ki (fun r61 m62 q63 => ?_)) (r_l_is g (fun (r_ : Int32) (m_ : ch_M) => (1 = r_ ∧ m54 = m_)) (A_59) (Y_60) (4) ((l_sq Y_39 x5 0)) m54 ⟨b64, b65, ⟨rfl, rfl⟩⟩))
      obtain ⟨rfl, rfl⟩ := q63
      replace h := h
      refine ch_if_eq (tgt := 772) d_l_refused_765 (by decide) (fun c => absurd c (by decide)) (fun _ => ?_)
      refine ch_iconst (v := 1) d_l_refused_768 (by decide) ?_
      refine ch_goto (tgt := 773) d_l_refused_769 (by decide) ?_
      refine ch_istore (i := 4) d_l_refused_773 (Nat.le_of_ble_eq_true rfl) (ls' := [some (.inr (0, 0, 0)), some (.inl (.long x1)), none, some (.inl (.int x3)), some (.inl (.int 1)), some (.inl (.int x5)), some (.inl (.int (l_sq Y_39 x5 0)))]) rfl ?_
      exact h
set_option maxHeartbeats 1600000 in
theorem g_l_refused_775 (g : ch_G) (Q : ch_O → ch_M → Prop) (k : Nat) (hk : k + 6 ≤ 6000) (x1 : Int64) (x3 : Int32) (x5 : Int32) (x6 : Int32) (m : ch_M) (h : (∃ A_1 : a_G, (∃ Y_2 : ch_B, (∃ R_3 : Int32 × Int32 × Int32, (a_W A_1 Y_2 R_3 m) ∧ ((0 : Int32) ≤ x5 ∧ x5 < (12 : Int32)) ∧ ((∀ (M4 : ch_M), (a_W A_1 Y_2 R_3 M4) → (∀ m6 : ch_M, m6 = M4 → ((¬ (l_sq Y_2 x5 1) = 9 → ch_J g m_l_refused (ch_rm m_l_refused) (ch_E g m_l_refused Q) 714 [some (.inr (0, 0, 0)), some (.inl (.long x1)), none, some (.inl (.int x3)), some (.inl (.int 1)), some (.inl (.int (x5 + 1))), some (.inl (.int x6))] [] m6 (k + 1)) ∧ ((l_sq Y_2 x5 1) = 9 → (∃ A_10 : a_G, (∃ Y_11 : ch_B, (∃ R_12 : Int32 × Int32 × Int32, (∃ w_13 : Int32, (∃ e_14 : Int32, (a_W A_10 Y_11 R_12 m6) ∧ (∀ Z_, y_sm Y_11 Z_ → r_wc Z_ x6 x5 = (w_13, e_14)) ∧ (¬ w_13 = 0) ∧ ((∀ (M15 : ch_M), (a_W A_10 Y_11 (w_13, e_14, 0) M15) → (∀ m17 : ch_M, m17 = M15 → (∃ A_22 : a_G, (∃ Y_23 : ch_B, (a_W A_22 Y_23 (6, x5, 0) m17) ∧ (¬ 6 = (0 : Int32)) ∧ (ch_J g m_l_refused (ch_rm m_l_refused) (ch_E g m_l_refused Q) 714 [some (.inr (0, 0, 0)), some (.inl (.long x1)), none, some (.inl (.int x3)), some (.inl (.int 1)), some (.inl (.int (x5 + 1))), some (.inl (.int x6))] [] m17 (k + 6))))))))))))))))))))) : ch_J g m_l_refused (ch_rm m_l_refused) (ch_E g m_l_refused Q) 775 [some (.inr (0, 0, 0)), some (.inl (.long x1)), none, some (.inl (.int x3)), some (.inl (.int 1)), some (.inl (.int x5)), some (.inl (.int x6))] [] m k := by
  refine ch_aload_n (i := 0) d_l_refused_775 rfl rfl ?_
  refine ch_iload d_l_refused_776 rfl ?_
  refine ch_iconst (v := 1) d_l_refused_778 (by decide) ?_
  obtain ⟨A_1, h⟩ := h
  obtain ⟨Y_2, h⟩ := h
  obtain ⟨R_3, h⟩ := h
  have b8 := h.1
  replace h := h.2
  have b9 := h.1
  replace h := h.2
  refine ch_callSX (as := [.inr (0, 0, 0), .inl (.int x5), .inl (.int 1)]) d_l_refused_779 lk_l_263 ms_l_squareOf rfl rfl ⟨Nat.le_of_ble_eq_true rfl, Nat.le_of_ble_eq_true rfl⟩ (Nat.le_of_ble_eq_true rfl) (ch_rk0 (b := 1) hk (Nat.le_of_ble_eq_true rfl) (Nat.le_of_ble_eq_true rfl)) (ch_mono (ch_Ki (fun r5 m6 q7 => ?_)) (r_l_squareOf g (fun (r_ : Int32) (m_ : ch_M) => (∃ (M4 : ch_M), (l_sq Y_2 x5 1) = r_ ∧ (a_W A_1 Y_2 R_3 M4) ∧ m_ = M4)) (A_1) (Y_2) (R_3) (x5) (1) m ⟨b8, b9, (fun M4 f0_ => ⟨M4, rfl, f0_, rfl⟩)⟩))
  obtain ⟨M4, rfl, f0_, hm_⟩ := q7
  replace h := h M4 f0_ m6 hm_
  refine ch_bipush (v := 9) d_l_refused_782 (by decide) ?_
  refine ch_icmp_ne (tgt := 824) d_l_refused_784 (by decide) (fun c => ?_) (fun c => ?_)
  · replace h := h.1 c
    refine ch_iinc (i := 5) (v := (x5 + 1)) d_l_refused_824 rfl rfl (Nat.le_of_ble_eq_true rfl) (ls' := [some (.inr (0, 0, 0)), some (.inl (.long x1)), none, some (.inl (.int x3)), some (.inl (.int 1)), some (.inl (.int (x5 + 1))), some (.inl (.int x6))]) rfl ?_
    refine ch_goto (tgt := 714) d_l_refused_827 (by decide) ?_
    exact h
  · replace h := h.2 c
    refine ch_iload d_l_refused_787 rfl ?_
    refine ch_if_eq (tgt := 821) d_l_refused_789 (by decide) (fun c => absurd c (by decide)) (fun _ => ?_)
    refine ch_aload_n (i := 0) d_l_refused_792 rfl rfl ?_
    refine ch_iload d_l_refused_793 rfl ?_
    refine ch_iload d_l_refused_795 rfl ?_
    obtain ⟨A_10, h⟩ := h
    obtain ⟨Y_11, h⟩ := h
    obtain ⟨R_12, h⟩ := h
    obtain ⟨w_13, h⟩ := h
    obtain ⟨e_14, h⟩ := h
    have b19 := h.1
    replace h := h.2
    have b20 := h.1
    replace h := h.2
    have b21 := h.1
    replace h := h.2
    refine ch_callSX (as := [.inr (0, 0, 0), .inl (.int x6), .inl (.int x5)]) d_l_refused_797 lk_l_155 ms_l_chalk rfl rfl ⟨Nat.le_of_ble_eq_true rfl, Nat.le_of_ble_eq_true rfl⟩ (Nat.le_of_ble_eq_true rfl) (ch_rk (a := 1) (b := 1) hk (Nat.le_of_ble_eq_true rfl) (Nat.le_of_ble_eq_true rfl)) (ch_mono (ch_Ki (fun r16 m17 q18 => ?_)) (r_l_chalk g (fun (r_ : Int32) (m_ : ch_M) => (∃ (M15 : ch_M), (-1001) = r_ ∧ (a_W A_10 Y_11 (w_13, e_14, 0) M15) ∧ m_ = M15)) (A_10) (Y_11) (R_12) (w_13) (e_14) (x6) (x5) m6 ⟨b19, b20, b21, (fun M15 f0_ => ⟨M15, rfl, f0_, rfl⟩)⟩))
    obtain ⟨M15, rfl, f0_, hm_⟩ := q18
    replace h := h M15 f0_ m17 hm_
    refine ch_sipush (v := (-1001)) d_l_refused_800 (by decide) ?_
    refine ch_icmp_ne (tgt := 821) d_l_refused_803 (by decide) (fun c => absurd c (by decide)) (fun _ => ?_)
    refine ch_aload_n (i := 0) d_l_refused_806 rfl rfl ?_
    refine ch_bipush (v := 6) d_l_refused_807 (by decide) ?_
    refine ch_iload d_l_refused_809 rfl ?_
    obtain ⟨A_22, h⟩ := h
    obtain ⟨Y_23, h⟩ := h
    have b27 := h.1
    replace h := h.2
    have b28 := h.1
    replace h := h.2
    refine ch_callS (as := [.inr (0, 0, 0), .inl (.int 6), .inl (.int x5)]) d_l_refused_811 lk_l_258 ms_l_is rfl rfl ⟨Nat.le_of_ble_eq_true rfl, Nat.le_of_ble_eq_true rfl⟩ (Nat.le_of_ble_eq_true rfl) (ch_rk (a := 2) (b := 4) hk (Nat.le_of_ble_eq_true rfl) (Nat.le_of_ble_eq_true rfl)) (ch_mono (ch_Ki (fun r24 m25 q26 => ?_)) (r_l_is g (fun (r_ : Int32) (m_ : ch_M) => (1 = r_ ∧ m17 = m_)) (A_22) (Y_23) (6) (x5) m17 ⟨b27, b28, ⟨rfl, rfl⟩⟩))
    obtain ⟨rfl, rfl⟩ := q26
    replace h := h
    refine ch_if_eq (tgt := 821) d_l_refused_814 (by decide) (fun c => absurd c (by decide)) (fun _ => ?_)
    refine ch_iconst (v := 1) d_l_refused_817 (by decide) ?_
    refine ch_goto (tgt := 822) d_l_refused_818 (by decide) ?_
    refine ch_istore (i := 4) d_l_refused_822 (Nat.le_of_ble_eq_true rfl) (ls' := [some (.inr (0, 0, 0)), some (.inl (.long x1)), none, some (.inl (.int x3)), some (.inl (.int 1)), some (.inl (.int x5)), some (.inl (.int x6))]) rfl ?_
    refine ch_iinc (i := 5) (v := (x5 + 1)) d_l_refused_824 rfl rfl (Nat.le_of_ble_eq_true rfl) (ls' := [some (.inr (0, 0, 0)), some (.inl (.long x1)), none, some (.inl (.int x3)), some (.inl (.int 1)), some (.inl (.int (x5 + 1))), some (.inl (.int x6))]) rfl ?_
    refine ch_goto (tgt := 714) d_l_refused_827 (by decide) ?_
    exact h
set_option maxHeartbeats 1600000 in
theorem g_l_refused_877 (g : ch_G) (Q : ch_O → ch_M → Prop) (k : Nat) (hk : k + 11 ≤ 6000) (x1 : Int64) (x3 : Int32) (x5 : Int32) (o6 : Option ch_V) (m : ch_M) (h : (∃ A_1 : a_G, (∃ Y_2 : ch_B, (∃ R_3 : Int32 × Int32 × Int32, (∃ w_4 : Int32, (∃ e_5 : Int32, (a_W A_1 Y_2 R_3 m) ∧ (∀ Z_, y_sm Y_2 Z_ → r_wg Z_ 1 1 1 = (w_4, e_5)) ∧ (¬ w_4 = 0) ∧ ((∀ (M6 : ch_M), (a_W A_1 Y_2 (w_4, e_5, 0) M6) → (∀ m8 : ch_M, m8 = M6 → (∃ A_13 : a_G, (∃ Y_14 : ch_B, (∃ R_15 : Int32 × Int32 × Int32, (a_W A_13 Y_14 R_15 m8) ∧ (¬ ((0 : Int32) ≤ 12 ∧ 12 < (12 : Int32))) ∧ ((∀ (M16 : ch_M), (a_W A_13 Y_14 R_15 M16) → (∀ m18 : ch_M, m18 = M16 → (∃ A_22 : a_G, (∃ Y_23 : ch_B, (∃ R_24 : Int32 × Int32 × Int32, (a_W A_22 Y_23 R_24 m18) ∧ (¬ ((0 : Int32) ≤ (-1) ∧ (-1) < (12 : Int32))) ∧ ((∀ (M25 : ch_M), (a_W A_22 Y_23 R_24 M25) → (∀ m27 : ch_M, m27 = M25 → (∃ A_31 : a_G, (∃ Y_32 : ch_B, (∃ R_33 : Int32 × Int32 × Int32, (a_W A_31 Y_32 R_33 m27) ∧ (¬ ((0 : Int32) ≤ x3 ∧ x3 < Y_32 0 8)) ∧ ((∀ (M34 : ch_M), (a_W A_31 Y_32 R_33 M34) → (∀ m36 : ch_M, m36 = M34 → (∃ A_40 : a_G, (∃ Y_41 : ch_B, (∃ R_42 : Int32 × Int32 × Int32, (a_W A_40 Y_41 R_42 m36) ∧ (¬ ((0 : Int32) ≤ (-1) ∧ (-1) < Y_41 0 8)) ∧ ((∀ (M43 : ch_M), (a_W A_40 Y_41 R_42 M43) → (∀ m45 : ch_M, m45 = M43 → (∃ A_49 : a_G, (∃ Y_50 : ch_B, (∃ R_51 : Int32 × Int32 × Int32, (a_W A_49 Y_50 R_51 m45) ∧ (((0 : Int32) ≤ 0 ∧ 0 < Y_50 0 8) ∧ ¬ ((0 : Int32) ≤ 7 ∧ 7 ≤ (6 : Int32))) ∧ ((∀ (M52 : ch_M), (a_W A_49 Y_50 R_51 M52) → (∀ m54 : ch_M, m54 = M52 → (∃ A_58 : a_G, (∃ Y_59 : ch_B, (∃ R_60 : Int32 × Int32 × Int32, (a_W A_58 Y_59 R_60 m54) ∧ (((0 : Int32) ≤ 0 ∧ 0 < Y_59 0 8) ∧ ¬ ((0 : Int32) ≤ (-1) ∧ (-1) ≤ (6 : Int32))) ∧ ((∀ (M61 : ch_M), (a_W A_58 Y_59 R_60 M61) → (∀ m63 : ch_M, m63 = M61 → ch_J g m_l_refused (ch_rm m_l_refused) (ch_E g m_l_refused Q) 970 [some (.inr (0, 0, 0)), some (.inl (.long x1)), none, some (.inl (.int x3)), some (.inl (.int 1)), some (.inl (.int x5)), o6] [] m63 (k + 11)))))))))))))))))))))))))))))))))))))))))))))) : ch_J g m_l_refused (ch_rm m_l_refused) (ch_E g m_l_refused Q) 877 [some (.inr (0, 0, 0)), some (.inl (.long x1)), none, some (.inl (.int x3)), some (.inl (.int 1)), some (.inl (.int x5)), o6] [] m k := by
  refine ch_iload d_l_refused_877 rfl ?_
  refine ch_if_eq (tgt := 1318) d_l_refused_879 (by decide) (fun c => absurd c (by decide)) (fun _ => ?_)
  refine ch_aload_n (i := 0) d_l_refused_882 rfl rfl ?_
  refine ch_iconst (v := 1) d_l_refused_883 (by decide) ?_
  refine ch_iconst (v := 1) d_l_refused_884 (by decide) ?_
  refine ch_iconst (v := 1) d_l_refused_885 (by decide) ?_
  obtain ⟨A_1, h⟩ := h
  obtain ⟨Y_2, h⟩ := h
  obtain ⟨R_3, h⟩ := h
  obtain ⟨w_4, h⟩ := h
  obtain ⟨e_5, h⟩ := h
  have b10 := h.1
  replace h := h.2
  have b11 := h.1
  replace h := h.2
  have b12 := h.1
  replace h := h.2
  refine ch_callSX (as := [.inr (0, 0, 0), .inl (.int 1), .inl (.int 1), .inl (.int 1)]) d_l_refused_886 lk_l_226 ms_l_give rfl rfl ⟨Nat.le_of_ble_eq_true rfl, Nat.le_of_ble_eq_true rfl⟩ (Nat.le_of_ble_eq_true rfl) (ch_rk0 (b := 1) hk (Nat.le_of_ble_eq_true rfl) (Nat.le_of_ble_eq_true rfl)) (ch_mono (ch_Ki (fun r7 m8 q9 => ?_)) (r_l_give g (fun (r_ : Int32) (m_ : ch_M) => (∃ (M6 : ch_M), (-1001) = r_ ∧ (a_W A_1 Y_2 (w_4, e_5, 0) M6) ∧ m_ = M6)) (A_1) (Y_2) (R_3) (w_4) (e_5) (1) (1) (1) m ⟨b10, b11, b12, (fun M6 f0_ => ⟨M6, rfl, f0_, rfl⟩)⟩))
  obtain ⟨M6, rfl, f0_, hm_⟩ := q9
  replace h := h M6 f0_ m8 hm_
  refine ch_sipush (v := (-1001)) d_l_refused_889 (by decide) ?_
  refine ch_icmp_ne (tgt := 1318) d_l_refused_892 (by decide) (fun c => absurd c (by decide)) (fun _ => ?_)
  refine ch_aload_n (i := 0) d_l_refused_895 rfl rfl ?_
  refine ch_bipush (v := 12) d_l_refused_896 (by decide) ?_
  refine ch_iconst (v := 1) d_l_refused_898 (by decide) ?_
  obtain ⟨A_13, h⟩ := h
  obtain ⟨Y_14, h⟩ := h
  obtain ⟨R_15, h⟩ := h
  have b20 := h.1
  replace h := h.2
  have b21 := h.1
  replace h := h.2
  refine ch_callSX (as := [.inr (0, 0, 0), .inl (.int 12), .inl (.int 1)]) d_l_refused_899 lk_l_263 ms_l_squareOf rfl rfl ⟨Nat.le_of_ble_eq_true rfl, Nat.le_of_ble_eq_true rfl⟩ (Nat.le_of_ble_eq_true rfl) (ch_rk (a := 1) (b := 1) hk (Nat.le_of_ble_eq_true rfl) (Nat.le_of_ble_eq_true rfl)) (ch_mono (ch_Ki (fun r17 m18 q19 => ?_)) (f_l_squareOf g (fun (r_ : Int32) (m_ : ch_M) => (∃ (M16 : ch_M), (-1001) = r_ ∧ (a_W A_13 Y_14 R_15 M16) ∧ m_ = M16)) (A_13) (Y_14) (R_15) (12) (1) m8 ⟨b20, b21, (fun M16 f0_ => ⟨M16, rfl, f0_, rfl⟩)⟩))
  obtain ⟨M16, rfl, f0_, hm_⟩ := q19
  replace h := h M16 f0_ m18 hm_
  refine ch_sipush (v := (-1001)) d_l_refused_902 (by decide) ?_
  refine ch_icmp_ne (tgt := 1318) d_l_refused_905 (by decide) (fun c => absurd c (by decide)) (fun _ => ?_)
  refine ch_aload_n (i := 0) d_l_refused_908 rfl rfl ?_
  refine ch_iconst (v := (-1)) d_l_refused_909 (by decide) ?_
  refine ch_iconst (v := 0) d_l_refused_910 (by decide) ?_
  obtain ⟨A_22, h⟩ := h
  obtain ⟨Y_23, h⟩ := h
  obtain ⟨R_24, h⟩ := h
  have b29 := h.1
  replace h := h.2
  have b30 := h.1
  replace h := h.2
  refine ch_callSX (as := [.inr (0, 0, 0), .inl (.int (-1)), .inl (.int 0)]) d_l_refused_911 lk_l_263 ms_l_squareOf rfl rfl ⟨Nat.le_of_ble_eq_true rfl, Nat.le_of_ble_eq_true rfl⟩ (Nat.le_of_ble_eq_true rfl) (ch_rk (a := 2) (b := 1) hk (Nat.le_of_ble_eq_true rfl) (Nat.le_of_ble_eq_true rfl)) (ch_mono (ch_Ki (fun r26 m27 q28 => ?_)) (f_l_squareOf g (fun (r_ : Int32) (m_ : ch_M) => (∃ (M25 : ch_M), (-1001) = r_ ∧ (a_W A_22 Y_23 R_24 M25) ∧ m_ = M25)) (A_22) (Y_23) (R_24) ((-1)) (0) m18 ⟨b29, b30, (fun M25 f0_ => ⟨M25, rfl, f0_, rfl⟩)⟩))
  obtain ⟨M25, rfl, f0_, hm_⟩ := q28
  replace h := h M25 f0_ m27 hm_
  refine ch_sipush (v := (-1001)) d_l_refused_914 (by decide) ?_
  refine ch_icmp_ne (tgt := 1318) d_l_refused_917 (by decide) (fun c => absurd c (by decide)) (fun _ => ?_)
  refine ch_aload_n (i := 0) d_l_refused_920 rfl rfl ?_
  refine ch_iload_n (i := 3) d_l_refused_921 rfl rfl ?_
  refine ch_bipush (v := 9) d_l_refused_922 (by decide) ?_
  obtain ⟨A_31, h⟩ := h
  obtain ⟨Y_32, h⟩ := h
  obtain ⟨R_33, h⟩ := h
  have b38 := h.1
  replace h := h.2
  have b39 := h.1
  replace h := h.2
  refine ch_callSX (as := [.inr (0, 0, 0), .inl (.int x3), .inl (.int 9)]) d_l_refused_924 lk_l_188 ms_l_of rfl rfl ⟨Nat.le_of_ble_eq_true rfl, Nat.le_of_ble_eq_true rfl⟩ (Nat.le_of_ble_eq_true rfl) (ch_rk (a := 3) (b := 2) hk (Nat.le_of_ble_eq_true rfl) (Nat.le_of_ble_eq_true rfl)) (ch_mono (ch_Ki (fun r35 m36 q37 => ?_)) (f_l_of g (fun (r_ : Int32) (m_ : ch_M) => (∃ (M34 : ch_M), (-1001) = r_ ∧ (a_W A_31 Y_32 R_33 M34) ∧ m_ = M34)) (A_31) (Y_32) (R_33) (x3) (9) m27 ⟨b38, b39, (fun M34 f0_ => ⟨M34, rfl, f0_, rfl⟩)⟩))
  obtain ⟨M34, rfl, f0_, hm_⟩ := q37
  replace h := h M34 f0_ m36 hm_
  refine ch_sipush (v := (-1001)) d_l_refused_927 (by decide) ?_
  refine ch_icmp_ne (tgt := 1318) d_l_refused_930 (by decide) (fun c => absurd c (by decide)) (fun _ => ?_)
  refine ch_aload_n (i := 0) d_l_refused_933 rfl rfl ?_
  refine ch_iconst (v := (-1)) d_l_refused_934 (by decide) ?_
  refine ch_iconst (v := 0) d_l_refused_935 (by decide) ?_
  obtain ⟨A_40, h⟩ := h
  obtain ⟨Y_41, h⟩ := h
  obtain ⟨R_42, h⟩ := h
  have b47 := h.1
  replace h := h.2
  have b48 := h.1
  replace h := h.2
  refine ch_callSX (as := [.inr (0, 0, 0), .inl (.int (-1)), .inl (.int 0)]) d_l_refused_936 lk_l_188 ms_l_of rfl rfl ⟨Nat.le_of_ble_eq_true rfl, Nat.le_of_ble_eq_true rfl⟩ (Nat.le_of_ble_eq_true rfl) (ch_rk (a := 5) (b := 2) hk (Nat.le_of_ble_eq_true rfl) (Nat.le_of_ble_eq_true rfl)) (ch_mono (ch_Ki (fun r44 m45 q46 => ?_)) (f_l_of g (fun (r_ : Int32) (m_ : ch_M) => (∃ (M43 : ch_M), (-1001) = r_ ∧ (a_W A_40 Y_41 R_42 M43) ∧ m_ = M43)) (A_40) (Y_41) (R_42) ((-1)) (0) m36 ⟨b47, b48, (fun M43 f0_ => ⟨M43, rfl, f0_, rfl⟩)⟩))
  obtain ⟨M43, rfl, f0_, hm_⟩ := q46
  replace h := h M43 f0_ m45 hm_
  refine ch_sipush (v := (-1001)) d_l_refused_939 (by decide) ?_
  refine ch_icmp_ne (tgt := 1318) d_l_refused_942 (by decide) (fun c => absurd c (by decide)) (fun _ => ?_)
  refine ch_aload_n (i := 0) d_l_refused_945 rfl rfl ?_
  refine ch_iconst (v := 0) d_l_refused_946 (by decide) ?_
  refine ch_bipush (v := 7) d_l_refused_947 (by decide) ?_
  obtain ⟨A_49, h⟩ := h
  obtain ⟨Y_50, h⟩ := h
  obtain ⟨R_51, h⟩ := h
  have b56 := h.1
  replace h := h.2
  have b57 := h.1
  replace h := h.2
  refine ch_callSX (as := [.inr (0, 0, 0), .inl (.int 0), .inl (.int 7)]) d_l_refused_949 lk_l_188 ms_l_of rfl rfl ⟨Nat.le_of_ble_eq_true rfl, Nat.le_of_ble_eq_true rfl⟩ (Nat.le_of_ble_eq_true rfl) (ch_rk (a := 7) (b := 2) hk (Nat.le_of_ble_eq_true rfl) (Nat.le_of_ble_eq_true rfl)) (ch_mono (ch_Ki (fun r53 m54 q55 => ?_)) (f2_l_of g (fun (r_ : Int32) (m_ : ch_M) => (∃ (M52 : ch_M), (-1002) = r_ ∧ (a_W A_49 Y_50 R_51 M52) ∧ m_ = M52)) (A_49) (Y_50) (R_51) (0) (7) m45 ⟨b56, b57, (fun M52 f0_ => ⟨M52, rfl, f0_, rfl⟩)⟩))
  obtain ⟨M52, rfl, f0_, hm_⟩ := q55
  replace h := h M52 f0_ m54 hm_
  refine ch_sipush (v := (-1002)) d_l_refused_952 (by decide) ?_
  refine ch_icmp_ne (tgt := 1318) d_l_refused_955 (by decide) (fun c => absurd c (by decide)) (fun _ => ?_)
  refine ch_aload_n (i := 0) d_l_refused_958 rfl rfl ?_
  refine ch_iconst (v := 0) d_l_refused_959 (by decide) ?_
  refine ch_iconst (v := (-1)) d_l_refused_960 (by decide) ?_
  obtain ⟨A_58, h⟩ := h
  obtain ⟨Y_59, h⟩ := h
  obtain ⟨R_60, h⟩ := h
  have b65 := h.1
  replace h := h.2
  have b66 := h.1
  replace h := h.2
  refine ch_callSX (as := [.inr (0, 0, 0), .inl (.int 0), .inl (.int (-1))]) d_l_refused_961 lk_l_188 ms_l_of rfl rfl ⟨Nat.le_of_ble_eq_true rfl, Nat.le_of_ble_eq_true rfl⟩ (Nat.le_of_ble_eq_true rfl) (ch_rk (a := 9) (b := 2) hk (Nat.le_of_ble_eq_true rfl) (Nat.le_of_ble_eq_true rfl)) (ch_mono (ch_Ki (fun r62 m63 q64 => ?_)) (f2_l_of g (fun (r_ : Int32) (m_ : ch_M) => (∃ (M61 : ch_M), (-1002) = r_ ∧ (a_W A_58 Y_59 R_60 M61) ∧ m_ = M61)) (A_58) (Y_59) (R_60) (0) ((-1)) m54 ⟨b65, b66, (fun M61 f0_ => ⟨M61, rfl, f0_, rfl⟩)⟩))
  obtain ⟨M61, rfl, f0_, hm_⟩ := q64
  replace h := h M61 f0_ m63 hm_
  refine ch_sipush (v := (-1002)) d_l_refused_964 (by decide) ?_
  refine ch_icmp_ne (tgt := 1318) d_l_refused_967 (by decide) (fun c => absurd c (by decide)) (fun _ => ?_)
  exact h
set_option maxHeartbeats 1600000 in
theorem g_l_refused_970 (g : ch_G) (Q : ch_O → ch_M → Prop) (k : Nat) (hk : k + 6 ≤ 6000) (x1 : Int64) (x3 : Int32) (x5 : Int32) (o6 : Option ch_V) (m : ch_M) (h : (∃ A_1 : a_G, (∃ Y_2 : ch_B, (∃ R_3 : Int32 × Int32 × Int32, (a_W A_1 Y_2 R_3 m) ∧ (¬ ((0 : Int32) ≤ x3 ∧ x3 < Y_2 0 8)) ∧ ((∀ (M4 : ch_M), (a_W A_1 Y_2 R_3 M4) → (∀ m6 : ch_M, m6 = M4 → (∃ A_10 : a_G, (∃ Y_11 : ch_B, (∃ R_12 : Int32 × Int32 × Int32, (a_W A_10 Y_11 R_12 m6) ∧ ((0 : Int32) ≤ 4 ∧ 4 ≤ (9 : Int32)) ∧ ((∀ (M13 : ch_M), (a_W A_10 Y_11 R_12 M13) → (∀ m15 : ch_M, m15 = M13 → (∃ A_19 : a_G, (∃ Y_20 : ch_B, (∃ R_21 : Int32 × Int32 × Int32, (a_W A_19 Y_20 R_21 m15) ∧ (¬ ((0 : Int32) ≤ (x_acR (y_can Y_11) 0 0 4) ∧ (x_acR (y_can Y_11) 0 0 4) < Y_20 0 9)) ∧ ((∀ (M22 : ch_M), (a_W A_19 Y_20 R_21 M22) → (∀ m24 : ch_M, m24 = M22 → (∃ A_28 : a_G, (∃ Y_29 : ch_B, (∃ R_30 : Int32 × Int32 × Int32, (a_W A_28 Y_29 R_30 m24) ∧ (¬ ((0 : Int32) ≤ (-1) ∧ (-1) < Y_29 0 9)) ∧ ((∀ (M31 : ch_M), (a_W A_28 Y_29 R_30 M31) → (∀ m33 : ch_M, m33 = M31 → (∃ A_37 : a_G, (∃ Y_38 : ch_B, (∃ R_39 : Int32 × Int32 × Int32, (a_W A_37 Y_38 R_39 m33) ∧ (¬ ((0 : Int32) ≤ x3 ∧ x3 < Y_38 0 8)) ∧ ((∀ (M40 : ch_M), (a_W A_37 Y_38 R_39 M40) → (∀ m42 : ch_M, m42 = M40 → (∃ A_46 : a_G, (∃ Y_47 : ch_B, (∃ R_48 : Int32 × Int32 × Int32, (a_W A_46 Y_47 R_48 m42) ∧ (¬ ((0 : Int32) ≤ (-1) ∧ (-1) < Y_47 0 8)) ∧ ((∀ (M49 : ch_M), (a_W A_46 Y_47 R_48 M49) → (∀ m51 : ch_M, m51 = M49 → ch_J g m_l_refused (ch_rm m_l_refused) (ch_E g m_l_refused Q) 1029 [some (.inr (0, 0, 0)), some (.inl (.long x1)), none, some (.inl (.int x3)), some (.inl (.int 1)), some (.inl (.int x5)), o6] [] m51 (k + 6)))))))))))))))))))))))))))))))))))))) : ch_J g m_l_refused (ch_rm m_l_refused) (ch_E g m_l_refused Q) 970 [some (.inr (0, 0, 0)), some (.inl (.long x1)), none, some (.inl (.int x3)), some (.inl (.int 1)), some (.inl (.int x5)), o6] [] m k := by
  refine ch_aload_n (i := 0) d_l_refused_970 rfl rfl ?_
  refine ch_iload_n (i := 3) d_l_refused_971 rfl rfl ?_
  obtain ⟨A_1, h⟩ := h
  obtain ⟨Y_2, h⟩ := h
  obtain ⟨R_3, h⟩ := h
  have b8 := h.1
  replace h := h.2
  have b9 := h.1
  replace h := h.2
  refine ch_callSX (as := [.inr (0, 0, 0), .inl (.int x3)]) d_l_refused_972 lk_l_191 ms_l_squares rfl rfl ⟨Nat.le_of_ble_eq_true rfl, Nat.le_of_ble_eq_true rfl⟩ (Nat.le_of_ble_eq_true rfl) (ch_rk0 (b := 1) hk (Nat.le_of_ble_eq_true rfl) (Nat.le_of_ble_eq_true rfl)) (ch_mono (ch_Ki (fun r5 m6 q7 => ?_)) (f_l_squares g (fun (r_ : Int32) (m_ : ch_M) => (∃ (M4 : ch_M), (-1001) = r_ ∧ (a_W A_1 Y_2 R_3 M4) ∧ m_ = M4)) (A_1) (Y_2) (R_3) (x3) m ⟨b8, b9, (fun M4 f0_ => ⟨M4, rfl, f0_, rfl⟩)⟩))
  obtain ⟨M4, rfl, f0_, hm_⟩ := q7
  replace h := h M4 f0_ m6 hm_
  refine ch_sipush (v := (-1001)) d_l_refused_975 (by decide) ?_
  refine ch_icmp_ne (tgt := 1318) d_l_refused_978 (by decide) (fun c => absurd c (by decide)) (fun _ => ?_)
  refine ch_aload_n (i := 0) d_l_refused_981 rfl rfl ?_
  refine ch_aload_n (i := 0) d_l_refused_982 rfl rfl ?_
  refine ch_iconst (v := 4) d_l_refused_983 (by decide) ?_
  obtain ⟨A_10, h⟩ := h
  obtain ⟨Y_11, h⟩ := h
  obtain ⟨R_12, h⟩ := h
  have b17 := h.1
  replace h := h.2
  have b18 := h.1
  replace h := h.2
  refine ch_callSX (as := [.inr (0, 0, 0), .inl (.int 4)]) d_l_refused_984 lk_l_186 ms_l_account rfl rfl ⟨Nat.le_of_ble_eq_true rfl, Nat.le_of_ble_eq_true rfl⟩ (Nat.le_of_ble_eq_true rfl) (ch_rk (a := 1) (b := 1) hk (Nat.le_of_ble_eq_true rfl) (Nat.le_of_ble_eq_true rfl)) (ch_mono (ch_Ki (fun r14 m15 q16 => ?_)) (r_l_account g (fun (r_ : Int32) (m_ : ch_M) => (∃ (M13 : ch_M), (x_acR (y_can Y_11) 0 0 4) = r_ ∧ (a_W A_10 Y_11 R_12 M13) ∧ m_ = M13)) (A_10) (Y_11) (R_12) (4) m6 ⟨b17, b18, (fun M13 f0_ => ⟨M13, rfl, f0_, rfl⟩)⟩))
  obtain ⟨M13, rfl, f0_, hm_⟩ := q16
  replace h := h M13 f0_ m15 hm_
  obtain ⟨A_19, h⟩ := h
  obtain ⟨Y_20, h⟩ := h
  obtain ⟨R_21, h⟩ := h
  have b26 := h.1
  replace h := h.2
  have b27 := h.1
  replace h := h.2
  refine ch_callSX (as := [.inr (0, 0, 0), .inl (.int (x_acR (y_can Y_11) 0 0 4))]) d_l_refused_987 lk_l_211 ms_l_warrantAt rfl rfl ⟨Nat.le_of_ble_eq_true rfl, Nat.le_of_ble_eq_true rfl⟩ (Nat.le_of_ble_eq_true rfl) (ch_rk (a := 2) (b := 1) hk (Nat.le_of_ble_eq_true rfl) (Nat.le_of_ble_eq_true rfl)) (ch_mono (ch_Ki (fun r23 m24 q25 => ?_)) (f_l_warrantAt g (fun (r_ : Int32) (m_ : ch_M) => (∃ (M22 : ch_M), (-1001) = r_ ∧ (a_W A_19 Y_20 R_21 M22) ∧ m_ = M22)) (A_19) (Y_20) (R_21) ((x_acR (y_can Y_11) 0 0 4)) m15 ⟨b26, b27, (fun M22 f0_ => ⟨M22, rfl, f0_, rfl⟩)⟩))
  obtain ⟨M22, rfl, f0_, hm_⟩ := q25
  replace h := h M22 f0_ m24 hm_
  refine ch_sipush (v := (-1001)) d_l_refused_990 (by decide) ?_
  refine ch_icmp_ne (tgt := 1318) d_l_refused_993 (by decide) (fun c => absurd c (by decide)) (fun _ => ?_)
  refine ch_aload_n (i := 0) d_l_refused_996 rfl rfl ?_
  refine ch_iconst (v := (-1)) d_l_refused_997 (by decide) ?_
  obtain ⟨A_28, h⟩ := h
  obtain ⟨Y_29, h⟩ := h
  obtain ⟨R_30, h⟩ := h
  have b35 := h.1
  replace h := h.2
  have b36 := h.1
  replace h := h.2
  refine ch_callSX (as := [.inr (0, 0, 0), .inl (.int (-1))]) d_l_refused_998 lk_l_211 ms_l_warrantAt rfl rfl ⟨Nat.le_of_ble_eq_true rfl, Nat.le_of_ble_eq_true rfl⟩ (Nat.le_of_ble_eq_true rfl) (ch_rk (a := 3) (b := 1) hk (Nat.le_of_ble_eq_true rfl) (Nat.le_of_ble_eq_true rfl)) (ch_mono (ch_Ki (fun r32 m33 q34 => ?_)) (f_l_warrantAt g (fun (r_ : Int32) (m_ : ch_M) => (∃ (M31 : ch_M), (-1001) = r_ ∧ (a_W A_28 Y_29 R_30 M31) ∧ m_ = M31)) (A_28) (Y_29) (R_30) ((-1)) m24 ⟨b35, b36, (fun M31 f0_ => ⟨M31, rfl, f0_, rfl⟩)⟩))
  obtain ⟨M31, rfl, f0_, hm_⟩ := q34
  replace h := h M31 f0_ m33 hm_
  refine ch_sipush (v := (-1001)) d_l_refused_1001 (by decide) ?_
  refine ch_icmp_ne (tgt := 1318) d_l_refused_1004 (by decide) (fun c => absurd c (by decide)) (fun _ => ?_)
  refine ch_aload_n (i := 0) d_l_refused_1007 rfl rfl ?_
  refine ch_iload_n (i := 3) d_l_refused_1008 rfl rfl ?_
  obtain ⟨A_37, h⟩ := h
  obtain ⟨Y_38, h⟩ := h
  obtain ⟨R_39, h⟩ := h
  have b44 := h.1
  replace h := h.2
  have b45 := h.1
  replace h := h.2
  refine ch_callSX (as := [.inr (0, 0, 0), .inl (.int x3)]) d_l_refused_1009 lk_l_193 ms_l_fewest rfl rfl ⟨Nat.le_of_ble_eq_true rfl, Nat.le_of_ble_eq_true rfl⟩ (Nat.le_of_ble_eq_true rfl) (ch_rk (a := 4) (b := 1) hk (Nat.le_of_ble_eq_true rfl) (Nat.le_of_ble_eq_true rfl)) (ch_mono (ch_Ki (fun r41 m42 q43 => ?_)) (f_l_fewest g (fun (r_ : Int32) (m_ : ch_M) => (∃ (M40 : ch_M), (-1001) = r_ ∧ (a_W A_37 Y_38 R_39 M40) ∧ m_ = M40)) (A_37) (Y_38) (R_39) (x3) m33 ⟨b44, b45, (fun M40 f0_ => ⟨M40, rfl, f0_, rfl⟩)⟩))
  obtain ⟨M40, rfl, f0_, hm_⟩ := q43
  replace h := h M40 f0_ m42 hm_
  refine ch_sipush (v := (-1001)) d_l_refused_1012 (by decide) ?_
  refine ch_icmp_ne (tgt := 1318) d_l_refused_1015 (by decide) (fun c => absurd c (by decide)) (fun _ => ?_)
  refine ch_aload_n (i := 0) d_l_refused_1018 rfl rfl ?_
  refine ch_iconst (v := (-1)) d_l_refused_1019 (by decide) ?_
  obtain ⟨A_46, h⟩ := h
  obtain ⟨Y_47, h⟩ := h
  obtain ⟨R_48, h⟩ := h
  have b53 := h.1
  replace h := h.2
  have b54 := h.1
  replace h := h.2
  refine ch_callSX (as := [.inr (0, 0, 0), .inl (.int (-1))]) d_l_refused_1020 lk_l_195 ms_l_fewestAgain rfl rfl ⟨Nat.le_of_ble_eq_true rfl, Nat.le_of_ble_eq_true rfl⟩ (Nat.le_of_ble_eq_true rfl) (ch_rk (a := 5) (b := 1) hk (Nat.le_of_ble_eq_true rfl) (Nat.le_of_ble_eq_true rfl)) (ch_mono (ch_Ki (fun r50 m51 q52 => ?_)) (f_l_fewestAgain g (fun (r_ : Int32) (m_ : ch_M) => (∃ (M49 : ch_M), (-1001) = r_ ∧ (a_W A_46 Y_47 R_48 M49) ∧ m_ = M49)) (A_46) (Y_47) (R_48) ((-1)) m42 ⟨b53, b54, (fun M49 f0_ => ⟨M49, rfl, f0_, rfl⟩)⟩))
  obtain ⟨M49, rfl, f0_, hm_⟩ := q52
  replace h := h M49 f0_ m51 hm_
  refine ch_sipush (v := (-1001)) d_l_refused_1023 (by decide) ?_
  refine ch_icmp_ne (tgt := 1318) d_l_refused_1026 (by decide) (fun c => absurd c (by decide)) (fun _ => ?_)
  exact h
set_option maxHeartbeats 1600000 in
theorem g_l_refused_1029 (g : ch_G) (Q : ch_O → ch_M → Prop) (k : Nat) (hk : k + 6 ≤ 6000) (x1 : Int64) (x3 : Int32) (x5 : Int32) (o6 : Option ch_V) (m : ch_M) (h : (∃ A_1 : a_G, (∃ Y_2 : ch_B, (∃ R_3 : Int32 × Int32 × Int32, (a_W A_1 Y_2 R_3 m) ∧ (¬ ((0 : Int32) ≤ x3 ∧ x3 < Y_2 0 8)) ∧ ((∀ (M4 : ch_M), (a_W A_1 Y_2 R_3 M4) → (∀ m6 : ch_M, m6 = M4 → (∃ A_10 : a_G, (∃ Y_11 : ch_B, (∃ R_12 : Int32 × Int32 × Int32, (a_W A_10 Y_11 R_12 m6) ∧ (((0 : Int32) ≤ 0 ∧ 0 < Y_11 0 8) ∧ ¬ ((0 : Int32) ≤ (-1) ∧ (-1) < (12 : Int32))) ∧ ((∀ (M13 : ch_M), (a_W A_10 Y_11 R_12 M13) → (∀ m15 : ch_M, m15 = M13 → (∃ A_19 : a_G, (∃ Y_20 : ch_B, (∃ R_21 : Int32 × Int32 × Int32, (a_W A_19 Y_20 R_21 m15) ∧ (((0 : Int32) ≤ 0 ∧ 0 < Y_20 0 8) ∧ ¬ ((0 : Int32) ≤ 12 ∧ 12 < (12 : Int32))) ∧ ((∀ (M22 : ch_M), (a_W A_19 Y_20 R_21 M22) → (∀ m24 : ch_M, m24 = M22 → ch_J g m_l_refused (ch_rm m_l_refused) (ch_E g m_l_refused Q) 1066 [some (.inr (0, 0, 0)), some (.inl (.long x1)), none, some (.inl (.int x3)), some (.inl (.int 1)), some (.inl (.int x5)), o6] [] m24 (k + 6)))))))))))))))))))) : ch_J g m_l_refused (ch_rm m_l_refused) (ch_E g m_l_refused Q) 1029 [some (.inr (0, 0, 0)), some (.inl (.long x1)), none, some (.inl (.int x3)), some (.inl (.int 1)), some (.inl (.int x5)), o6] [] m k := by
  refine ch_aload_n (i := 0) d_l_refused_1029 rfl rfl ?_
  refine ch_iload_n (i := 3) d_l_refused_1030 rfl rfl ?_
  refine ch_iconst (v := 0) d_l_refused_1031 (by decide) ?_
  obtain ⟨A_1, h⟩ := h
  obtain ⟨Y_2, h⟩ := h
  obtain ⟨R_3, h⟩ := h
  have b8 := h.1
  replace h := h.2
  have b9 := h.1
  replace h := h.2
  refine ch_callSX (as := [.inr (0, 0, 0), .inl (.int x3), .inl (.int 0)]) d_l_refused_1032 lk_l_205 ms_l_step rfl rfl ⟨Nat.le_of_ble_eq_true rfl, Nat.le_of_ble_eq_true rfl⟩ (Nat.le_of_ble_eq_true rfl) (ch_rk0 (b := 2) hk (Nat.le_of_ble_eq_true rfl) (Nat.le_of_ble_eq_true rfl)) (ch_mono (ch_Ki (fun r5 m6 q7 => ?_)) (f_l_step g (fun (r_ : Int32) (m_ : ch_M) => (∃ (M4 : ch_M), (-1001) = r_ ∧ (a_W A_1 Y_2 R_3 M4) ∧ m_ = M4)) (A_1) (Y_2) (R_3) (x3) (0) m ⟨b8, b9, (fun M4 f0_ => ⟨M4, rfl, f0_, rfl⟩)⟩))
  obtain ⟨M4, rfl, f0_, hm_⟩ := q7
  replace h := h M4 f0_ m6 hm_
  refine ch_sipush (v := (-1001)) d_l_refused_1035 (by decide) ?_
  refine ch_icmp_ne (tgt := 1318) d_l_refused_1038 (by decide) (fun c => absurd c (by decide)) (fun _ => ?_)
  refine ch_aload_n (i := 0) d_l_refused_1041 rfl rfl ?_
  refine ch_iconst (v := 0) d_l_refused_1042 (by decide) ?_
  refine ch_iconst (v := (-1)) d_l_refused_1043 (by decide) ?_
  obtain ⟨A_10, h⟩ := h
  obtain ⟨Y_11, h⟩ := h
  obtain ⟨R_12, h⟩ := h
  have b17 := h.1
  replace h := h.2
  have b18 := h.1
  replace h := h.2
  refine ch_callSX (as := [.inr (0, 0, 0), .inl (.int 0), .inl (.int (-1))]) d_l_refused_1044 lk_l_205 ms_l_step rfl rfl ⟨Nat.le_of_ble_eq_true rfl, Nat.le_of_ble_eq_true rfl⟩ (Nat.le_of_ble_eq_true rfl) (ch_rk (a := 2) (b := 2) hk (Nat.le_of_ble_eq_true rfl) (Nat.le_of_ble_eq_true rfl)) (ch_mono (ch_Ki (fun r14 m15 q16 => ?_)) (f2_l_step g (fun (r_ : Int32) (m_ : ch_M) => (∃ (M13 : ch_M), (-1002) = r_ ∧ (a_W A_10 Y_11 R_12 M13) ∧ m_ = M13)) (A_10) (Y_11) (R_12) (0) ((-1)) m6 ⟨b17, b18, (fun M13 f0_ => ⟨M13, rfl, f0_, rfl⟩)⟩))
  obtain ⟨M13, rfl, f0_, hm_⟩ := q16
  replace h := h M13 f0_ m15 hm_
  refine ch_sipush (v := (-1002)) d_l_refused_1047 (by decide) ?_
  refine ch_icmp_ne (tgt := 1318) d_l_refused_1050 (by decide) (fun c => absurd c (by decide)) (fun _ => ?_)
  refine ch_aload_n (i := 0) d_l_refused_1053 rfl rfl ?_
  refine ch_iconst (v := 0) d_l_refused_1054 (by decide) ?_
  refine ch_bipush (v := 12) d_l_refused_1055 (by decide) ?_
  obtain ⟨A_19, h⟩ := h
  obtain ⟨Y_20, h⟩ := h
  obtain ⟨R_21, h⟩ := h
  have b26 := h.1
  replace h := h.2
  have b27 := h.1
  replace h := h.2
  refine ch_callSX (as := [.inr (0, 0, 0), .inl (.int 0), .inl (.int 12)]) d_l_refused_1057 lk_l_205 ms_l_step rfl rfl ⟨Nat.le_of_ble_eq_true rfl, Nat.le_of_ble_eq_true rfl⟩ (Nat.le_of_ble_eq_true rfl) (ch_rk (a := 4) (b := 2) hk (Nat.le_of_ble_eq_true rfl) (Nat.le_of_ble_eq_true rfl)) (ch_mono (ch_Ki (fun r23 m24 q25 => ?_)) (f2_l_step g (fun (r_ : Int32) (m_ : ch_M) => (∃ (M22 : ch_M), (-1002) = r_ ∧ (a_W A_19 Y_20 R_21 M22) ∧ m_ = M22)) (A_19) (Y_20) (R_21) (0) (12) m15 ⟨b26, b27, (fun M22 f0_ => ⟨M22, rfl, f0_, rfl⟩)⟩))
  obtain ⟨M22, rfl, f0_, hm_⟩ := q25
  replace h := h M22 f0_ m24 hm_
  refine ch_sipush (v := (-1002)) d_l_refused_1060 (by decide) ?_
  refine ch_icmp_ne (tgt := 1318) d_l_refused_1063 (by decide) (fun c => absurd c (by decide)) (fun _ => ?_)
  exact h
set_option maxHeartbeats 1600000 in
theorem g_l_refused_1066 (g : ch_G) (Q : ch_O → ch_M → Prop) (k : Nat) (hk : k + 12 ≤ 6000) (x1 : Int64) (x3 : Int32) (x5 : Int32) (o6 : Option ch_V) (m : ch_M) (h : (∃ A_1 : a_G, (∃ Y_2 : ch_B, (∃ R_3 : Int32 × Int32 × Int32, (a_W A_1 Y_2 R_3 m) ∧ (¬ ((0 : Int32) ≤ x3 ∧ x3 < Y_2 0 8)) ∧ ((∀ (M4 : ch_M), (a_W A_1 Y_2 R_3 M4) → (∀ m6 : ch_M, m6 = M4 → (∃ A_10 : a_G, (∃ Y_11 : ch_B, (∃ R_12 : Int32 × Int32 × Int32, (a_W A_10 Y_11 R_12 m6) ∧ (((0 : Int32) ≤ 0 ∧ 0 < Y_11 0 8) ∧ l_gd 0 = false) ∧ ((∀ (M13 : ch_M), (a_W A_10 Y_11 R_12 M13) → (∀ m15 : ch_M, m15 = M13 → (∃ A_19 : a_G, (∃ Y_20 : ch_B, (∃ R_21 : Int32 × Int32 × Int32, (a_W A_19 Y_20 R_21 m15) ∧ (((0 : Int32) ≤ 0 ∧ 0 < Y_20 0 8) ∧ l_gd (-1) = false) ∧ ((∀ (M22 : ch_M), (a_W A_19 Y_20 R_21 M22) → (∀ m24 : ch_M, m24 = M22 → (∃ A_28 : a_G, (∃ Y_29 : ch_B, (∃ R_30 : Int32 × Int32 × Int32, (a_W A_28 Y_29 R_30 m24) ∧ (((0 : Int32) ≤ 0 ∧ 0 < Y_29 0 8) ∧ l_gd 333 = false) ∧ ((∀ (M31 : ch_M), (a_W A_28 Y_29 R_30 M31) → (∀ m33 : ch_M, m33 = M31 → (∃ A_37 : a_G, (∃ Y_38 : ch_B, (∃ R_39 : Int32 × Int32 × Int32, (a_W A_37 Y_38 R_39 m33) ∧ (((0 : Int32) ≤ 0 ∧ 0 < Y_38 0 8) ∧ l_gd 33331 = false) ∧ ((∀ (M40 : ch_M), (a_W A_37 Y_38 R_39 M40) → (∀ m42 : ch_M, m42 = M40 → (∃ A_46 : a_G, (∃ Y_47 : ch_B, (∃ R_48 : Int32 × Int32 × Int32, (a_W A_46 Y_47 R_48 m42) ∧ (((0 : Int32) ≤ 0 ∧ 0 < Y_47 0 8) ∧ l_gd 2147483647 = false) ∧ ((∀ (M49 : ch_M), (a_W A_46 Y_47 R_48 M49) → (∀ m51 : ch_M, m51 = M49 → ch_J g m_l_refused (ch_rm m_l_refused) (ch_E g m_l_refused Q) 1144 [some (.inr (0, 0, 0)), some (.inl (.long x1)), none, some (.inl (.int x3)), some (.inl (.int 1)), some (.inl (.int x5)), o6] [] m51 (k + 12)))))))))))))))))))))))))))))))))))))) : ch_J g m_l_refused (ch_rm m_l_refused) (ch_E g m_l_refused Q) 1066 [some (.inr (0, 0, 0)), some (.inl (.long x1)), none, some (.inl (.int x3)), some (.inl (.int 1)), some (.inl (.int x5)), o6] [] m k := by
  refine ch_aload_n (i := 0) d_l_refused_1066 rfl rfl ?_
  refine ch_iload_n (i := 3) d_l_refused_1067 rfl rfl ?_
  refine ch_iconst (v := 0) d_l_refused_1068 (by decide) ?_
  obtain ⟨A_1, h⟩ := h
  obtain ⟨Y_2, h⟩ := h
  obtain ⟨R_3, h⟩ := h
  have b8 := h.1
  replace h := h.2
  have b9 := h.1
  replace h := h.2
  refine ch_callSX (as := [.inr (0, 0, 0), .inl (.int x3), .inl (.int 0)]) d_l_refused_1069 lk_l_266 ms_l_wouldTread rfl rfl ⟨Nat.le_of_ble_eq_true rfl, Nat.le_of_ble_eq_true rfl⟩ (Nat.le_of_ble_eq_true rfl) (ch_rk0 (b := 2) hk (Nat.le_of_ble_eq_true rfl) (Nat.le_of_ble_eq_true rfl)) (ch_mono (ch_Ki (fun r5 m6 q7 => ?_)) (f_l_wouldTread g (fun (r_ : Int32) (m_ : ch_M) => (∃ (M4 : ch_M), (-1001) = r_ ∧ (a_W A_1 Y_2 R_3 M4) ∧ m_ = M4)) (A_1) (Y_2) (R_3) (x3) (0) m ⟨b8, b9, (fun M4 f0_ => ⟨M4, rfl, f0_, rfl⟩)⟩))
  obtain ⟨M4, rfl, f0_, hm_⟩ := q7
  replace h := h M4 f0_ m6 hm_
  refine ch_sipush (v := (-1001)) d_l_refused_1072 (by decide) ?_
  refine ch_icmp_ne (tgt := 1318) d_l_refused_1075 (by decide) (fun c => absurd c (by decide)) (fun _ => ?_)
  refine ch_aload_n (i := 0) d_l_refused_1078 rfl rfl ?_
  refine ch_iconst (v := 0) d_l_refused_1079 (by decide) ?_
  refine ch_iconst (v := 0) d_l_refused_1080 (by decide) ?_
  obtain ⟨A_10, h⟩ := h
  obtain ⟨Y_11, h⟩ := h
  obtain ⟨R_12, h⟩ := h
  have b17 := h.1
  replace h := h.2
  have b18 := h.1
  replace h := h.2
  refine ch_callSX (as := [.inr (0, 0, 0), .inl (.int 0), .inl (.int 0)]) d_l_refused_1081 lk_l_266 ms_l_wouldTread rfl rfl ⟨Nat.le_of_ble_eq_true rfl, Nat.le_of_ble_eq_true rfl⟩ (Nat.le_of_ble_eq_true rfl) (ch_rk (a := 2) (b := 2) hk (Nat.le_of_ble_eq_true rfl) (Nat.le_of_ble_eq_true rfl)) (ch_mono (ch_Ki (fun r14 m15 q16 => ?_)) (f2_l_wouldTread g (fun (r_ : Int32) (m_ : ch_M) => (∃ (M13 : ch_M), (-1002) = r_ ∧ (a_W A_10 Y_11 R_12 M13) ∧ m_ = M13)) (A_10) (Y_11) (R_12) (0) (0) m6 ⟨b17, b18, (fun M13 f0_ => ⟨M13, rfl, f0_, rfl⟩)⟩))
  obtain ⟨M13, rfl, f0_, hm_⟩ := q16
  replace h := h M13 f0_ m15 hm_
  refine ch_sipush (v := (-1002)) d_l_refused_1084 (by decide) ?_
  refine ch_icmp_ne (tgt := 1318) d_l_refused_1087 (by decide) (fun c => absurd c (by decide)) (fun _ => ?_)
  refine ch_aload_n (i := 0) d_l_refused_1090 rfl rfl ?_
  refine ch_iconst (v := 0) d_l_refused_1091 (by decide) ?_
  refine ch_iconst (v := (-1)) d_l_refused_1092 (by decide) ?_
  obtain ⟨A_19, h⟩ := h
  obtain ⟨Y_20, h⟩ := h
  obtain ⟨R_21, h⟩ := h
  have b26 := h.1
  replace h := h.2
  have b27 := h.1
  replace h := h.2
  refine ch_callSX (as := [.inr (0, 0, 0), .inl (.int 0), .inl (.int (-1))]) d_l_refused_1093 lk_l_266 ms_l_wouldTread rfl rfl ⟨Nat.le_of_ble_eq_true rfl, Nat.le_of_ble_eq_true rfl⟩ (Nat.le_of_ble_eq_true rfl) (ch_rk (a := 4) (b := 2) hk (Nat.le_of_ble_eq_true rfl) (Nat.le_of_ble_eq_true rfl)) (ch_mono (ch_Ki (fun r23 m24 q25 => ?_)) (f2_l_wouldTread g (fun (r_ : Int32) (m_ : ch_M) => (∃ (M22 : ch_M), (-1002) = r_ ∧ (a_W A_19 Y_20 R_21 M22) ∧ m_ = M22)) (A_19) (Y_20) (R_21) (0) ((-1)) m15 ⟨b26, b27, (fun M22 f0_ => ⟨M22, rfl, f0_, rfl⟩)⟩))
  obtain ⟨M22, rfl, f0_, hm_⟩ := q25
  replace h := h M22 f0_ m24 hm_
  refine ch_sipush (v := (-1002)) d_l_refused_1096 (by decide) ?_
  refine ch_icmp_ne (tgt := 1318) d_l_refused_1099 (by decide) (fun c => absurd c (by decide)) (fun _ => ?_)
  refine ch_aload_n (i := 0) d_l_refused_1102 rfl rfl ?_
  refine ch_iconst (v := 0) d_l_refused_1103 (by decide) ?_
  refine ch_sipush (v := 333) d_l_refused_1104 (by decide) ?_
  obtain ⟨A_28, h⟩ := h
  obtain ⟨Y_29, h⟩ := h
  obtain ⟨R_30, h⟩ := h
  have b35 := h.1
  replace h := h.2
  have b36 := h.1
  replace h := h.2
  refine ch_callSX (as := [.inr (0, 0, 0), .inl (.int 0), .inl (.int 333)]) d_l_refused_1107 lk_l_266 ms_l_wouldTread rfl rfl ⟨Nat.le_of_ble_eq_true rfl, Nat.le_of_ble_eq_true rfl⟩ (Nat.le_of_ble_eq_true rfl) (ch_rk (a := 6) (b := 2) hk (Nat.le_of_ble_eq_true rfl) (Nat.le_of_ble_eq_true rfl)) (ch_mono (ch_Ki (fun r32 m33 q34 => ?_)) (f2_l_wouldTread g (fun (r_ : Int32) (m_ : ch_M) => (∃ (M31 : ch_M), (-1002) = r_ ∧ (a_W A_28 Y_29 R_30 M31) ∧ m_ = M31)) (A_28) (Y_29) (R_30) (0) (333) m24 ⟨b35, b36, (fun M31 f0_ => ⟨M31, rfl, f0_, rfl⟩)⟩))
  obtain ⟨M31, rfl, f0_, hm_⟩ := q34
  replace h := h M31 f0_ m33 hm_
  refine ch_sipush (v := (-1002)) d_l_refused_1110 (by decide) ?_
  refine ch_icmp_ne (tgt := 1318) d_l_refused_1113 (by decide) (fun c => absurd c (by decide)) (fun _ => ?_)
  refine ch_aload_n (i := 0) d_l_refused_1116 rfl rfl ?_
  refine ch_iconst (v := 0) d_l_refused_1117 (by decide) ?_
  refine ch_ldc_w d_l_refused_1118 lc_l_262 ?_
  obtain ⟨A_37, h⟩ := h
  obtain ⟨Y_38, h⟩ := h
  obtain ⟨R_39, h⟩ := h
  have b44 := h.1
  replace h := h.2
  have b45 := h.1
  replace h := h.2
  refine ch_callSX (as := [.inr (0, 0, 0), .inl (.int 0), .inl (.int 33331)]) d_l_refused_1121 lk_l_266 ms_l_wouldTread rfl rfl ⟨Nat.le_of_ble_eq_true rfl, Nat.le_of_ble_eq_true rfl⟩ (Nat.le_of_ble_eq_true rfl) (ch_rk (a := 8) (b := 2) hk (Nat.le_of_ble_eq_true rfl) (Nat.le_of_ble_eq_true rfl)) (ch_mono (ch_Ki (fun r41 m42 q43 => ?_)) (f2_l_wouldTread g (fun (r_ : Int32) (m_ : ch_M) => (∃ (M40 : ch_M), (-1002) = r_ ∧ (a_W A_37 Y_38 R_39 M40) ∧ m_ = M40)) (A_37) (Y_38) (R_39) (0) (33331) m33 ⟨b44, b45, (fun M40 f0_ => ⟨M40, rfl, f0_, rfl⟩)⟩))
  obtain ⟨M40, rfl, f0_, hm_⟩ := q43
  replace h := h M40 f0_ m42 hm_
  refine ch_sipush (v := (-1002)) d_l_refused_1124 (by decide) ?_
  refine ch_icmp_ne (tgt := 1318) d_l_refused_1127 (by decide) (fun c => absurd c (by decide)) (fun _ => ?_)
  refine ch_aload_n (i := 0) d_l_refused_1130 rfl rfl ?_
  refine ch_iconst (v := 0) d_l_refused_1131 (by decide) ?_
  refine ch_ldc_w d_l_refused_1132 lc_l_268 ?_
  obtain ⟨A_46, h⟩ := h
  obtain ⟨Y_47, h⟩ := h
  obtain ⟨R_48, h⟩ := h
  have b53 := h.1
  replace h := h.2
  have b54 := h.1
  replace h := h.2
  refine ch_callSX (as := [.inr (0, 0, 0), .inl (.int 0), .inl (.int 2147483647)]) d_l_refused_1135 lk_l_266 ms_l_wouldTread rfl rfl ⟨Nat.le_of_ble_eq_true rfl, Nat.le_of_ble_eq_true rfl⟩ (Nat.le_of_ble_eq_true rfl) (ch_rk (a := 10) (b := 2) hk (Nat.le_of_ble_eq_true rfl) (Nat.le_of_ble_eq_true rfl)) (ch_mono (ch_Ki (fun r50 m51 q52 => ?_)) (f2_l_wouldTread g (fun (r_ : Int32) (m_ : ch_M) => (∃ (M49 : ch_M), (-1002) = r_ ∧ (a_W A_46 Y_47 R_48 M49) ∧ m_ = M49)) (A_46) (Y_47) (R_48) (0) (2147483647) m42 ⟨b53, b54, (fun M49 f0_ => ⟨M49, rfl, f0_, rfl⟩)⟩))
  obtain ⟨M49, rfl, f0_, hm_⟩ := q52
  replace h := h M49 f0_ m51 hm_
  refine ch_sipush (v := (-1002)) d_l_refused_1138 (by decide) ?_
  refine ch_icmp_ne (tgt := 1318) d_l_refused_1141 (by decide) (fun c => absurd c (by decide)) (fun _ => ?_)
  exact h
set_option maxHeartbeats 1600000 in
theorem g_l_refused_1144 (g : ch_G) (Q : ch_O → ch_M → Prop) (k : Nat) (hk : k + 8 ≤ 6000) (x1 : Int64) (x3 : Int32) (x5 : Int32) (o6 : Option ch_V) (m : ch_M) (h : (∃ A_1 : a_G, (∃ Y_2 : ch_B, (∃ R_3 : Int32 × Int32 × Int32, (a_W A_1 Y_2 R_3 m) ∧ (¬ ((0 : Int32) ≤ x3 ∧ x3 < Y_2 0 8)) ∧ ((∀ (M4 : ch_M), (a_W A_1 Y_2 R_3 M4) → (∀ m6 : ch_M, m6 = M4 → (∃ A_10 : a_G, (∃ Y_11 : ch_B, (∃ R_12 : Int32 × Int32 × Int32, (a_W A_10 Y_11 R_12 m6) ∧ (¬ ((1 : Int32) ≤ 0 ∧ 0 ≤ (9 : Int32))) ∧ ((∀ (M13 : ch_M), (a_W A_10 Y_11 R_12 M13) → (∀ m15 : ch_M, m15 = M13 → (∃ A_19 : a_G, (∃ Y_20 : ch_B, (∃ R_21 : Int32 × Int32 × Int32, (a_W A_19 Y_20 R_21 m15) ∧ (¬ ((1 : Int32) ≤ 10 ∧ 10 ≤ (9 : Int32))) ∧ ((∀ (M22 : ch_M), (a_W A_19 Y_20 R_21 M22) → (∀ m24 : ch_M, m24 = M22 → (∃ A_28 : a_G, (∃ Y_29 : ch_B, (∃ R_30 : Int32 × Int32 × Int32, (a_W A_28 Y_29 R_30 m24) ∧ (¬ ((0 : Int32) ≤ x3 ∧ x3 < Y_29 0 8)) ∧ ((∀ (M31 : ch_M), (a_W A_28 Y_29 R_30 M31) → (∀ m33 : ch_M, m33 = M31 → (∃ A_37 : a_G, (∃ Y_38 : ch_B, (∃ R_39 : Int32 × Int32 × Int32, (a_W A_37 Y_38 R_39 m33) ∧ (¬ ((0 : Int32) ≤ (-1) ∧ (-1) < Y_38 0 8)) ∧ ((∀ (M40 : ch_M), (a_W A_37 Y_38 R_39 M40) → (∀ m42 : ch_M, m42 = M40 → (∃ A_46 : a_G, (∃ Y_47 : ch_B, (∃ R_48 : Int32 × Int32 × Int32, (a_W A_46 Y_47 R_48 m42) ∧ (¬ ((0 : Int32) ≤ x3 ∧ x3 < Y_47 0 8)) ∧ ((∀ (M49 : ch_M), (a_W A_46 Y_47 R_48 M49) → (∀ m51 : ch_M, m51 = M49 → ch_J g m_l_refused (ch_rm m_l_refused) (ch_E g m_l_refused Q) 1211 [some (.inr (0, 0, 0)), some (.inl (.long x1)), none, some (.inl (.int x3)), some (.inl (.int 1)), some (.inl (.int x5)), o6] [] m51 (k + 8)))))))))))))))))))))))))))))))))))))) : ch_J g m_l_refused (ch_rm m_l_refused) (ch_E g m_l_refused Q) 1144 [some (.inr (0, 0, 0)), some (.inl (.long x1)), none, some (.inl (.int x3)), some (.inl (.int 1)), some (.inl (.int x5)), o6] [] m k := by
  refine ch_aload_n (i := 0) d_l_refused_1144 rfl rfl ?_
  refine ch_iload_n (i := 3) d_l_refused_1145 rfl rfl ?_
  obtain ⟨A_1, h⟩ := h
  obtain ⟨Y_2, h⟩ := h
  obtain ⟨R_3, h⟩ := h
  have b8 := h.1
  replace h := h.2
  have b9 := h.1
  replace h := h.2
  refine ch_callSX (as := [.inr (0, 0, 0), .inl (.int x3)]) d_l_refused_1146 lk_l_197 ms_l_longest rfl rfl ⟨Nat.le_of_ble_eq_true rfl, Nat.le_of_ble_eq_true rfl⟩ (Nat.le_of_ble_eq_true rfl) (ch_rk0 (b := 1) hk (Nat.le_of_ble_eq_true rfl) (Nat.le_of_ble_eq_true rfl)) (ch_mono (ch_Ki (fun r5 m6 q7 => ?_)) (f_l_longest g (fun (r_ : Int32) (m_ : ch_M) => (∃ (M4 : ch_M), (-1001) = r_ ∧ (a_W A_1 Y_2 R_3 M4) ∧ m_ = M4)) (A_1) (Y_2) (R_3) (x3) m ⟨b8, b9, (fun M4 f0_ => ⟨M4, rfl, f0_, rfl⟩)⟩))
  obtain ⟨M4, rfl, f0_, hm_⟩ := q7
  replace h := h M4 f0_ m6 hm_
  refine ch_sipush (v := (-1001)) d_l_refused_1149 (by decide) ?_
  refine ch_icmp_ne (tgt := 1318) d_l_refused_1152 (by decide) (fun c => absurd c (by decide)) (fun _ => ?_)
  refine ch_aload_n (i := 0) d_l_refused_1155 rfl rfl ?_
  refine ch_iconst (v := 0) d_l_refused_1156 (by decide) ?_
  obtain ⟨A_10, h⟩ := h
  obtain ⟨Y_11, h⟩ := h
  obtain ⟨R_12, h⟩ := h
  have b17 := h.1
  replace h := h.2
  have b18 := h.1
  replace h := h.2
  refine ch_callSX (as := [.inr (0, 0, 0), .inl (.int 0)]) d_l_refused_1157 lk_l_209 ms_l_wouldEnd rfl rfl ⟨Nat.le_of_ble_eq_true rfl, Nat.le_of_ble_eq_true rfl⟩ (Nat.le_of_ble_eq_true rfl) (ch_rk (a := 1) (b := 1) hk (Nat.le_of_ble_eq_true rfl) (Nat.le_of_ble_eq_true rfl)) (ch_mono (ch_Ki (fun r14 m15 q16 => ?_)) (f_l_wouldEnd g (fun (r_ : Int32) (m_ : ch_M) => (∃ (M13 : ch_M), (-1001) = r_ ∧ (a_W A_10 Y_11 R_12 M13) ∧ m_ = M13)) (A_10) (Y_11) (R_12) (0) m6 ⟨b17, b18, (fun M13 f0_ => ⟨M13, rfl, f0_, rfl⟩)⟩))
  obtain ⟨M13, rfl, f0_, hm_⟩ := q16
  replace h := h M13 f0_ m15 hm_
  refine ch_sipush (v := (-1001)) d_l_refused_1160 (by decide) ?_
  refine ch_icmp_ne (tgt := 1318) d_l_refused_1163 (by decide) (fun c => absurd c (by decide)) (fun _ => ?_)
  refine ch_aload_n (i := 0) d_l_refused_1166 rfl rfl ?_
  refine ch_bipush (v := 10) d_l_refused_1167 (by decide) ?_
  obtain ⟨A_19, h⟩ := h
  obtain ⟨Y_20, h⟩ := h
  obtain ⟨R_21, h⟩ := h
  have b26 := h.1
  replace h := h.2
  have b27 := h.1
  replace h := h.2
  refine ch_callSX (as := [.inr (0, 0, 0), .inl (.int 10)]) d_l_refused_1169 lk_l_209 ms_l_wouldEnd rfl rfl ⟨Nat.le_of_ble_eq_true rfl, Nat.le_of_ble_eq_true rfl⟩ (Nat.le_of_ble_eq_true rfl) (ch_rk (a := 2) (b := 1) hk (Nat.le_of_ble_eq_true rfl) (Nat.le_of_ble_eq_true rfl)) (ch_mono (ch_Ki (fun r23 m24 q25 => ?_)) (f_l_wouldEnd g (fun (r_ : Int32) (m_ : ch_M) => (∃ (M22 : ch_M), (-1001) = r_ ∧ (a_W A_19 Y_20 R_21 M22) ∧ m_ = M22)) (A_19) (Y_20) (R_21) (10) m15 ⟨b26, b27, (fun M22 f0_ => ⟨M22, rfl, f0_, rfl⟩)⟩))
  obtain ⟨M22, rfl, f0_, hm_⟩ := q25
  replace h := h M22 f0_ m24 hm_
  refine ch_sipush (v := (-1001)) d_l_refused_1172 (by decide) ?_
  refine ch_icmp_ne (tgt := 1318) d_l_refused_1175 (by decide) (fun c => absurd c (by decide)) (fun _ => ?_)
  refine ch_aload_n (i := 0) d_l_refused_1178 rfl rfl ?_
  refine ch_iload_n (i := 3) d_l_refused_1179 rfl rfl ?_
  obtain ⟨A_28, h⟩ := h
  obtain ⟨Y_29, h⟩ := h
  obtain ⟨R_30, h⟩ := h
  have b35 := h.1
  replace h := h.2
  have b36 := h.1
  replace h := h.2
  refine ch_callSX (as := [.inr (0, 0, 0), .inl (.int x3)]) d_l_refused_1180 lk_l_199 ms_l_rainFor rfl rfl ⟨Nat.le_of_ble_eq_true rfl, Nat.le_of_ble_eq_true rfl⟩ (Nat.le_of_ble_eq_true rfl) (ch_rk (a := 3) (b := 2) hk (Nat.le_of_ble_eq_true rfl) (Nat.le_of_ble_eq_true rfl)) (ch_mono (ch_Ki (fun r32 m33 q34 => ?_)) (f_l_rainFor g (fun (r_ : Int32) (m_ : ch_M) => (∃ (M31 : ch_M), (-1001) = r_ ∧ (a_W A_28 Y_29 R_30 M31) ∧ m_ = M31)) (A_28) (Y_29) (R_30) (x3) m24 ⟨b35, b36, (fun M31 f0_ => ⟨M31, rfl, f0_, rfl⟩)⟩))
  obtain ⟨M31, rfl, f0_, hm_⟩ := q34
  replace h := h M31 f0_ m33 hm_
  refine ch_sipush (v := (-1001)) d_l_refused_1183 (by decide) ?_
  refine ch_icmp_ne (tgt := 1318) d_l_refused_1186 (by decide) (fun c => absurd c (by decide)) (fun _ => ?_)
  refine ch_aload_n (i := 0) d_l_refused_1189 rfl rfl ?_
  refine ch_iconst (v := (-1)) d_l_refused_1190 (by decide) ?_
  obtain ⟨A_37, h⟩ := h
  obtain ⟨Y_38, h⟩ := h
  obtain ⟨R_39, h⟩ := h
  have b44 := h.1
  replace h := h.2
  have b45 := h.1
  replace h := h.2
  refine ch_callSX (as := [.inr (0, 0, 0), .inl (.int (-1))]) d_l_refused_1191 lk_l_201 ms_l_wouldLose rfl rfl ⟨Nat.le_of_ble_eq_true rfl, Nat.le_of_ble_eq_true rfl⟩ (Nat.le_of_ble_eq_true rfl) (ch_rk (a := 5) (b := 1) hk (Nat.le_of_ble_eq_true rfl) (Nat.le_of_ble_eq_true rfl)) (ch_mono (ch_Ki (fun r41 m42 q43 => ?_)) (f_l_wouldLose g (fun (r_ : Int32) (m_ : ch_M) => (∃ (M40 : ch_M), (-1001) = r_ ∧ (a_W A_37 Y_38 R_39 M40) ∧ m_ = M40)) (A_37) (Y_38) (R_39) ((-1)) m33 ⟨b44, b45, (fun M40 f0_ => ⟨M40, rfl, f0_, rfl⟩)⟩))
  obtain ⟨M40, rfl, f0_, hm_⟩ := q43
  replace h := h M40 f0_ m42 hm_
  refine ch_sipush (v := (-1001)) d_l_refused_1194 (by decide) ?_
  refine ch_icmp_ne (tgt := 1318) d_l_refused_1197 (by decide) (fun c => absurd c (by decide)) (fun _ => ?_)
  refine ch_aload_n (i := 0) d_l_refused_1200 rfl rfl ?_
  refine ch_iload_n (i := 3) d_l_refused_1201 rfl rfl ?_
  obtain ⟨A_46, h⟩ := h
  obtain ⟨Y_47, h⟩ := h
  obtain ⟨R_48, h⟩ := h
  have b53 := h.1
  replace h := h.2
  have b54 := h.1
  replace h := h.2
  refine ch_callSX (as := [.inr (0, 0, 0), .inl (.int x3)]) d_l_refused_1202 lk_l_203 ms_l_termsFor rfl rfl ⟨Nat.le_of_ble_eq_true rfl, Nat.le_of_ble_eq_true rfl⟩ (Nat.le_of_ble_eq_true rfl) (ch_rk (a := 6) (b := 2) hk (Nat.le_of_ble_eq_true rfl) (Nat.le_of_ble_eq_true rfl)) (ch_mono (ch_Ki (fun r50 m51 q52 => ?_)) (f_l_termsFor g (fun (r_ : Int32) (m_ : ch_M) => (∃ (M49 : ch_M), (-1001) = r_ ∧ (a_W A_46 Y_47 R_48 M49) ∧ m_ = M49)) (A_46) (Y_47) (R_48) (x3) m42 ⟨b53, b54, (fun M49 f0_ => ⟨M49, rfl, f0_, rfl⟩)⟩))
  obtain ⟨M49, rfl, f0_, hm_⟩ := q52
  replace h := h M49 f0_ m51 hm_
  refine ch_sipush (v := (-1001)) d_l_refused_1205 (by decide) ?_
  refine ch_icmp_ne (tgt := 1318) d_l_refused_1208 (by decide) (fun c => absurd c (by decide)) (fun _ => ?_)
  exact h
set_option maxHeartbeats 1600000 in
theorem g_l_refused_1211 (g : ch_G) (Q : ch_O → ch_M → Prop) (k : Nat) (hk : k + 3 ≤ 6000) (x1 : Int64) (x3 : Int32) (x5 : Int32) (o6 : Option ch_V) (m : ch_M) (h : (∃ A_1 : a_G, (∃ Y_2 : ch_B, (∃ R_3 : Int32 × Int32 × Int32, (a_W A_1 Y_2 R_3 m) ∧ (¬ ((0 : Int32) ≤ 4 ∧ 4 ≤ (3 : Int32))) ∧ ((∀ (M4 : ch_M), (a_W A_1 Y_2 R_3 M4) → (∀ m6 : ch_M, m6 = M4 → (∃ A_10 : a_G, (∃ Y_11 : ch_B, (∃ R_12 : Int32 × Int32 × Int32, (a_W A_10 Y_11 R_12 m6) ∧ (¬ ((0 : Int32) ≤ (-1) ∧ (-1) ≤ (3 : Int32))) ∧ ((∀ (M13 : ch_M), (a_W A_10 Y_11 R_12 M13) → (∀ m15 : ch_M, m15 = M13 → (∃ A_19 : a_G, (∃ Y_20 : ch_B, (∃ R_21 : Int32 × Int32 × Int32, (a_W A_19 Y_20 R_21 m15) ∧ (((0 : Int32) ≤ 0 ∧ 0 ≤ (3 : Int32)) ∧ ¬ ((0 : Int32) ≤ x3 ∧ x3 < Y_20 0 8)) ∧ ((∀ (M22 : ch_M), (a_W A_19 Y_20 R_21 M22) → (∀ m24 : ch_M, m24 = M22 → ch_J g m_l_refused (ch_rm m_l_refused) (ch_E g m_l_refused Q) 1247 [some (.inr (0, 0, 0)), some (.inl (.long x1)), none, some (.inl (.int x3)), some (.inl (.int 1)), some (.inl (.int x5)), o6] [] m24 (k + 3)))))))))))))))))))) : ch_J g m_l_refused (ch_rm m_l_refused) (ch_E g m_l_refused Q) 1211 [some (.inr (0, 0, 0)), some (.inl (.long x1)), none, some (.inl (.int x3)), some (.inl (.int 1)), some (.inl (.int x5)), o6] [] m k := by
  refine ch_aload_n (i := 0) d_l_refused_1211 rfl rfl ?_
  refine ch_iconst (v := 4) d_l_refused_1212 (by decide) ?_
  refine ch_iconst (v := 0) d_l_refused_1213 (by decide) ?_
  obtain ⟨A_1, h⟩ := h
  obtain ⟨Y_2, h⟩ := h
  obtain ⟨R_3, h⟩ := h
  have b8 := h.1
  replace h := h.2
  have b9 := h.1
  replace h := h.2
  refine ch_callSX (as := [.inr (0, 0, 0), .inl (.int 4), .inl (.int 0)]) d_l_refused_1214 lk_l_207 ms_l_ranked rfl rfl ⟨Nat.le_of_ble_eq_true rfl, Nat.le_of_ble_eq_true rfl⟩ (Nat.le_of_ble_eq_true rfl) (ch_rk0 (b := 1) hk (Nat.le_of_ble_eq_true rfl) (Nat.le_of_ble_eq_true rfl)) (ch_mono (ch_Ki (fun r5 m6 q7 => ?_)) (f_l_ranked g (fun (r_ : Int32) (m_ : ch_M) => (∃ (M4 : ch_M), (-1001) = r_ ∧ (a_W A_1 Y_2 R_3 M4) ∧ m_ = M4)) (A_1) (Y_2) (R_3) (4) (0) m ⟨b8, b9, (fun M4 f0_ => ⟨M4, rfl, f0_, rfl⟩)⟩))
  obtain ⟨M4, rfl, f0_, hm_⟩ := q7
  replace h := h M4 f0_ m6 hm_
  refine ch_sipush (v := (-1001)) d_l_refused_1217 (by decide) ?_
  refine ch_icmp_ne (tgt := 1318) d_l_refused_1220 (by decide) (fun c => absurd c (by decide)) (fun _ => ?_)
  refine ch_aload_n (i := 0) d_l_refused_1223 rfl rfl ?_
  refine ch_iconst (v := (-1)) d_l_refused_1224 (by decide) ?_
  refine ch_iconst (v := 0) d_l_refused_1225 (by decide) ?_
  obtain ⟨A_10, h⟩ := h
  obtain ⟨Y_11, h⟩ := h
  obtain ⟨R_12, h⟩ := h
  have b17 := h.1
  replace h := h.2
  have b18 := h.1
  replace h := h.2
  refine ch_callSX (as := [.inr (0, 0, 0), .inl (.int (-1)), .inl (.int 0)]) d_l_refused_1226 lk_l_207 ms_l_ranked rfl rfl ⟨Nat.le_of_ble_eq_true rfl, Nat.le_of_ble_eq_true rfl⟩ (Nat.le_of_ble_eq_true rfl) (ch_rk (a := 1) (b := 1) hk (Nat.le_of_ble_eq_true rfl) (Nat.le_of_ble_eq_true rfl)) (ch_mono (ch_Ki (fun r14 m15 q16 => ?_)) (f_l_ranked g (fun (r_ : Int32) (m_ : ch_M) => (∃ (M13 : ch_M), (-1001) = r_ ∧ (a_W A_10 Y_11 R_12 M13) ∧ m_ = M13)) (A_10) (Y_11) (R_12) ((-1)) (0) m6 ⟨b17, b18, (fun M13 f0_ => ⟨M13, rfl, f0_, rfl⟩)⟩))
  obtain ⟨M13, rfl, f0_, hm_⟩ := q16
  replace h := h M13 f0_ m15 hm_
  refine ch_sipush (v := (-1001)) d_l_refused_1229 (by decide) ?_
  refine ch_icmp_ne (tgt := 1318) d_l_refused_1232 (by decide) (fun c => absurd c (by decide)) (fun _ => ?_)
  refine ch_aload_n (i := 0) d_l_refused_1235 rfl rfl ?_
  refine ch_iconst (v := 0) d_l_refused_1236 (by decide) ?_
  refine ch_iload_n (i := 3) d_l_refused_1237 rfl rfl ?_
  obtain ⟨A_19, h⟩ := h
  obtain ⟨Y_20, h⟩ := h
  obtain ⟨R_21, h⟩ := h
  have b26 := h.1
  replace h := h.2
  have b27 := h.1
  replace h := h.2
  refine ch_callSX (as := [.inr (0, 0, 0), .inl (.int 0), .inl (.int x3)]) d_l_refused_1238 lk_l_207 ms_l_ranked rfl rfl ⟨Nat.le_of_ble_eq_true rfl, Nat.le_of_ble_eq_true rfl⟩ (Nat.le_of_ble_eq_true rfl) (ch_rk (a := 2) (b := 1) hk (Nat.le_of_ble_eq_true rfl) (Nat.le_of_ble_eq_true rfl)) (ch_mono (ch_Ki (fun r23 m24 q25 => ?_)) (f2_l_ranked g (fun (r_ : Int32) (m_ : ch_M) => (∃ (M22 : ch_M), (-1002) = r_ ∧ (a_W A_19 Y_20 R_21 M22) ∧ m_ = M22)) (A_19) (Y_20) (R_21) (0) (x3) m15 ⟨b26, b27, (fun M22 f0_ => ⟨M22, rfl, f0_, rfl⟩)⟩))
  obtain ⟨M22, rfl, f0_, hm_⟩ := q25
  replace h := h M22 f0_ m24 hm_
  refine ch_sipush (v := (-1002)) d_l_refused_1241 (by decide) ?_
  refine ch_icmp_ne (tgt := 1318) d_l_refused_1244 (by decide) (fun c => absurd c (by decide)) (fun _ => ?_)
  exact h
set_option maxHeartbeats 1600000 in
theorem g_l_refused_1247 (g : ch_G) (Q : ch_O → ch_M → Prop) (k : Nat) (hk : k + 9 ≤ 6000) (x1 : Int64) (x3 : Int32) (x5 : Int32) (o6 : Option ch_V) (m : ch_M) (h : (∃ A_1 : a_G, (∃ Y_2 : ch_B, (∃ R_3 : Int32 × Int32 × Int32, (a_W A_1 Y_2 R_3 m) ∧ ((-1) < (0 : Int32) ∨ (60 : Int32) < (-1)) ∧ ((∀ (M4 : ch_M), (a_W A_1 Y_2 R_3 M4) → (∀ m6 : ch_M, m6 = M4 → (∃ A_10 : a_G, (∃ Y_11 : ch_B, (∃ R_12 : Int32 × Int32 × Int32, (a_W A_10 Y_11 R_12 m6) ∧ (80 < (0 : Int32) ∨ (60 : Int32) < 80) ∧ ((∀ (M13 : ch_M), (a_W A_10 Y_11 R_12 M13) → (∀ m15 : ch_M, m15 = M13 → (∃ A_19 : a_G, (∃ Y_20 : ch_B, (∃ R_21 : Int32 × Int32 × Int32, (a_W A_19 Y_20 R_21 m15) ∧ (¬ ((0 : Int32) ≤ 12 ∧ 12 ≤ (11 : Int32))) ∧ ((∀ (M22 : ch_M), (a_W A_19 Y_20 R_21 M22) → (∀ m24 : ch_M, m24 = M22 → (∃ A_28 : a_G, (∃ Y_29 : ch_B, (∃ R_30 : Int32 × Int32 × Int32, (a_W A_28 Y_29 R_30 m24) ∧ (¬ ((0 : Int32) ≤ (-1) ∧ (-1) ≤ (11 : Int32))) ∧ ((∀ (M31 : ch_M), (a_W A_28 Y_29 R_30 M31) → (∀ m33 : ch_M, m33 = M31 → (∃ A_37 : a_G, (∃ Y_38 : ch_B, (∃ R_39 : Int32 × Int32 × Int32, (a_W A_37 Y_38 R_39 m33) ∧ (¬ ((0 : Int32) ≤ 3 ∧ 3 ≤ (2 : Int32))) ∧ ((∀ (M40 : ch_M), (a_W A_37 Y_38 R_39 M40) → (∀ m42 : ch_M, m42 = M40 → (∃ A_46 : a_G, (∃ Y_47 : ch_B, (a_W A_46 Y_47 (11, 1, 0) m42) ∧ (¬ 11 = (0 : Int32)) ∧ (ch_J g m_l_refused (ch_rm m_l_refused) (ch_E g m_l_refused Q) 1326 [some (.inr (0, 0, 0)), some (.inl (.long x1)), none, some (.inl (.int x3)), some (.inl (.int 1)), some (.inl (.int x5)), o6] [] m42 (k + 9))))))))))))))))))))))))))))))))))) : ch_J g m_l_refused (ch_rm m_l_refused) (ch_E g m_l_refused Q) 1247 [some (.inr (0, 0, 0)), some (.inl (.long x1)), none, some (.inl (.int x3)), some (.inl (.int 1)), some (.inl (.int x5)), o6] [] m k := by
  refine ch_aload_n (i := 0) d_l_refused_1247 rfl rfl ?_
  refine ch_iconst (v := (-1)) d_l_refused_1248 (by decide) ?_
  obtain ⟨A_1, h⟩ := h
  obtain ⟨Y_2, h⟩ := h
  obtain ⟨R_3, h⟩ := h
  have b8 := h.1
  replace h := h.2
  have b9 := h.1
  replace h := h.2
  refine ch_callSX (as := [.inr (0, 0, 0), .inl (.int (-1))]) d_l_refused_1249 lk_l_144 ms_l_character rfl rfl ⟨Nat.le_of_ble_eq_true rfl, Nat.le_of_ble_eq_true rfl⟩ (Nat.le_of_ble_eq_true rfl) (ch_rk0 (b := 1) hk (Nat.le_of_ble_eq_true rfl) (Nat.le_of_ble_eq_true rfl)) (ch_mono (ch_Ki (fun r5 m6 q7 => ?_)) (f_l_character g (fun (r_ : Int32) (m_ : ch_M) => (∃ (M4 : ch_M), (-1001) = r_ ∧ (a_W A_1 Y_2 R_3 M4) ∧ m_ = M4)) (A_1) (Y_2) (R_3) ((-1)) m ⟨b8, b9, (fun M4 f0_ => ⟨M4, rfl, f0_, rfl⟩)⟩))
  obtain ⟨M4, rfl, f0_, hm_⟩ := q7
  replace h := h M4 f0_ m6 hm_
  refine ch_sipush (v := (-1001)) d_l_refused_1252 (by decide) ?_
  refine ch_icmp_ne (tgt := 1318) d_l_refused_1255 (by decide) (fun c => absurd c (by decide)) (fun _ => ?_)
  refine ch_aload_n (i := 0) d_l_refused_1258 rfl rfl ?_
  refine ch_bipush (v := 80) d_l_refused_1259 (by decide) ?_
  obtain ⟨A_10, h⟩ := h
  obtain ⟨Y_11, h⟩ := h
  obtain ⟨R_12, h⟩ := h
  have b17 := h.1
  replace h := h.2
  have b18 := h.1
  replace h := h.2
  refine ch_callSX (as := [.inr (0, 0, 0), .inl (.int 80)]) d_l_refused_1261 lk_l_144 ms_l_character rfl rfl ⟨Nat.le_of_ble_eq_true rfl, Nat.le_of_ble_eq_true rfl⟩ (Nat.le_of_ble_eq_true rfl) (ch_rk (a := 1) (b := 1) hk (Nat.le_of_ble_eq_true rfl) (Nat.le_of_ble_eq_true rfl)) (ch_mono (ch_Ki (fun r14 m15 q16 => ?_)) (f_l_character g (fun (r_ : Int32) (m_ : ch_M) => (∃ (M13 : ch_M), (-1001) = r_ ∧ (a_W A_10 Y_11 R_12 M13) ∧ m_ = M13)) (A_10) (Y_11) (R_12) (80) m6 ⟨b17, b18, (fun M13 f0_ => ⟨M13, rfl, f0_, rfl⟩)⟩))
  obtain ⟨M13, rfl, f0_, hm_⟩ := q16
  replace h := h M13 f0_ m15 hm_
  refine ch_sipush (v := (-1001)) d_l_refused_1264 (by decide) ?_
  refine ch_icmp_ne (tgt := 1318) d_l_refused_1267 (by decide) (fun c => absurd c (by decide)) (fun _ => ?_)
  refine ch_aload_n (i := 0) d_l_refused_1270 rfl rfl ?_
  refine ch_bipush (v := 12) d_l_refused_1271 (by decide) ?_
  obtain ⟨A_19, h⟩ := h
  obtain ⟨Y_20, h⟩ := h
  obtain ⟨R_21, h⟩ := h
  have b26 := h.1
  replace h := h.2
  have b27 := h.1
  replace h := h.2
  refine ch_callSX (as := [.inr (0, 0, 0), .inl (.int 12)]) d_l_refused_1273 lk_l_186 ms_l_account rfl rfl ⟨Nat.le_of_ble_eq_true rfl, Nat.le_of_ble_eq_true rfl⟩ (Nat.le_of_ble_eq_true rfl) (ch_rk (a := 2) (b := 1) hk (Nat.le_of_ble_eq_true rfl) (Nat.le_of_ble_eq_true rfl)) (ch_mono (ch_Ki (fun r23 m24 q25 => ?_)) (f_l_account g (fun (r_ : Int32) (m_ : ch_M) => (∃ (M22 : ch_M), (-1001) = r_ ∧ (a_W A_19 Y_20 R_21 M22) ∧ m_ = M22)) (A_19) (Y_20) (R_21) (12) m15 ⟨b26, b27, (fun M22 f0_ => ⟨M22, rfl, f0_, rfl⟩)⟩))
  obtain ⟨M22, rfl, f0_, hm_⟩ := q25
  replace h := h M22 f0_ m24 hm_
  refine ch_sipush (v := (-1001)) d_l_refused_1276 (by decide) ?_
  refine ch_icmp_ne (tgt := 1318) d_l_refused_1279 (by decide) (fun c => absurd c (by decide)) (fun _ => ?_)
  refine ch_aload_n (i := 0) d_l_refused_1282 rfl rfl ?_
  refine ch_iconst (v := (-1)) d_l_refused_1283 (by decide) ?_
  obtain ⟨A_28, h⟩ := h
  obtain ⟨Y_29, h⟩ := h
  obtain ⟨R_30, h⟩ := h
  have b35 := h.1
  replace h := h.2
  have b36 := h.1
  replace h := h.2
  refine ch_callSX (as := [.inr (0, 0, 0), .inl (.int (-1))]) d_l_refused_1284 lk_l_186 ms_l_account rfl rfl ⟨Nat.le_of_ble_eq_true rfl, Nat.le_of_ble_eq_true rfl⟩ (Nat.le_of_ble_eq_true rfl) (ch_rk (a := 3) (b := 1) hk (Nat.le_of_ble_eq_true rfl) (Nat.le_of_ble_eq_true rfl)) (ch_mono (ch_Ki (fun r32 m33 q34 => ?_)) (f_l_account g (fun (r_ : Int32) (m_ : ch_M) => (∃ (M31 : ch_M), (-1001) = r_ ∧ (a_W A_28 Y_29 R_30 M31) ∧ m_ = M31)) (A_28) (Y_29) (R_30) ((-1)) m24 ⟨b35, b36, (fun M31 f0_ => ⟨M31, rfl, f0_, rfl⟩)⟩))
  obtain ⟨M31, rfl, f0_, hm_⟩ := q34
  replace h := h M31 f0_ m33 hm_
  refine ch_sipush (v := (-1001)) d_l_refused_1287 (by decide) ?_
  refine ch_icmp_ne (tgt := 1318) d_l_refused_1290 (by decide) (fun c => absurd c (by decide)) (fun _ => ?_)
  refine ch_aload_n (i := 0) d_l_refused_1293 rfl rfl ?_
  refine ch_iconst (v := 3) d_l_refused_1294 (by decide) ?_
  obtain ⟨A_37, h⟩ := h
  obtain ⟨Y_38, h⟩ := h
  obtain ⟨R_39, h⟩ := h
  have b44 := h.1
  replace h := h.2
  have b45 := h.1
  replace h := h.2
  refine ch_callSX (as := [.inr (0, 0, 0), .inl (.int 3)]) d_l_refused_1295 lk_l_141 ms_l_reason rfl rfl ⟨Nat.le_of_ble_eq_true rfl, Nat.le_of_ble_eq_true rfl⟩ (Nat.le_of_ble_eq_true rfl) (ch_rk (a := 4) (b := 1) hk (Nat.le_of_ble_eq_true rfl) (Nat.le_of_ble_eq_true rfl)) (ch_mono (ch_Ki (fun r41 m42 q43 => ?_)) (f_l_reason g (fun (r_ : Int32) (m_ : ch_M) => (∃ (M40 : ch_M), (-1001) = r_ ∧ (a_W A_37 Y_38 R_39 M40) ∧ m_ = M40)) (A_37) (Y_38) (R_39) (3) m33 ⟨b44, b45, (fun M40 f0_ => ⟨M40, rfl, f0_, rfl⟩)⟩))
  obtain ⟨M40, rfl, f0_, hm_⟩ := q43
  replace h := h M40 f0_ m42 hm_
  refine ch_sipush (v := (-1001)) d_l_refused_1298 (by decide) ?_
  refine ch_icmp_ne (tgt := 1318) d_l_refused_1301 (by decide) (fun c => absurd c (by decide)) (fun _ => ?_)
  refine ch_aload_n (i := 0) d_l_refused_1304 rfl rfl ?_
  refine ch_bipush (v := 11) d_l_refused_1305 (by decide) ?_
  refine ch_iconst (v := 1) d_l_refused_1307 (by decide) ?_
  obtain ⟨A_46, h⟩ := h
  obtain ⟨Y_47, h⟩ := h
  have b51 := h.1
  replace h := h.2
  have b52 := h.1
  replace h := h.2
  refine ch_callS (as := [.inr (0, 0, 0), .inl (.int 11), .inl (.int 1)]) d_l_refused_1308 lk_l_258 ms_l_is rfl rfl ⟨Nat.le_of_ble_eq_true rfl, Nat.le_of_ble_eq_true rfl⟩ (Nat.le_of_ble_eq_true rfl) (ch_rk (a := 5) (b := 4) hk (Nat.le_of_ble_eq_true rfl) (Nat.le_of_ble_eq_true rfl)) (ch_mono (ch_Ki (fun r48 m49 q50 => ?_)) (r_l_is g (fun (r_ : Int32) (m_ : ch_M) => (1 = r_ ∧ m42 = m_)) (A_46) (Y_47) (11) (1) m42 ⟨b51, b52, ⟨rfl, rfl⟩⟩))
  obtain ⟨rfl, rfl⟩ := q50
  replace h := h
  refine ch_if_eq (tgt := 1318) d_l_refused_1311 (by decide) (fun c => absurd c (by decide)) (fun _ => ?_)
  refine ch_iconst (v := 1) d_l_refused_1314 (by decide) ?_
  refine ch_goto (tgt := 1319) d_l_refused_1315 (by decide) ?_
  refine ch_istore (i := 4) d_l_refused_1319 (Nat.le_of_ble_eq_true rfl) (ls' := [some (.inr (0, 0, 0)), some (.inl (.long x1)), none, some (.inl (.int x3)), some (.inl (.int 1)), some (.inl (.int x5)), o6]) rfl ?_
  refine ch_iload d_l_refused_1321 rfl ?_
  refine ch_if_eq (tgt := 1414) d_l_refused_1323 (by decide) (fun c => absurd c (by decide)) (fun _ => ?_)
  exact h
