theorem e_l_makes (g : ch_G) (Q : ch_O → ch_M → Prop)  (m : ch_M) (h : ch_J g m_l_makes (ch_rm m_l_makes) (ch_E g m_l_makes Q) 0 [some (.inr (0, 0, 0)), some (.inr (11, 0, 0)), none, none, none, none] [] m 0) : ch_C g m_l_makes [.inr (0, 0, 0), .inr (11, 0, 0)] m Q :=
  ch_enter mf_l_makes (by intro v hv; simp only [List.mem_cons, List.not_mem_nil, or_false] at hv; rcases hv with rfl | rfl <;> rfl) (Nat.le_of_ble_eq_true rfl) h
set_option maxHeartbeats 1600000 in
theorem g_l_makes_0 (g : ch_G) (Q : ch_O → ch_M → Prop) (k : Nat) (hk : k + 0 ≤ 400)  (m : ch_M) (h : (¬ 0 < (0 : Int32)) ∧ ((ch_scr g).2.1 < 2 ^ 31) ∧ ((¬ 4 = (0 : Int32)) ∧ (ch_J g m_l_makes (ch_rm m_l_makes) (ch_E g m_l_makes Q) 14 [some (.inr (0, 0, 0)), some (.inr (11, 0, 0)), some (.inl (.int (2 + (l_sm (l_atV g 0) 4)))), some (.inl (.int 0)), none, none] [] m k))) : ch_J g m_l_makes (ch_rm m_l_makes) (ch_E g m_l_makes Q) 0 [some (.inr (0, 0, 0)), some (.inr (11, 0, 0)), none, none, none, none] [] m k := by
  refine ch_iconst (v := 2) d_l_makes_0 (by decide) ?_
  refine ch_aload_n (i := 1) d_l_makes_1 rfl rfl ?_
  refine ch_iconst (v := 0) d_l_makes_2 (by decide) ?_
  have b4 := h.1
  replace h := h.2
  have b5 := h.1
  replace h := h.2
  refine ch_callS (as := [.inr (11, 0, 0), .inl (.int 0)]) d_l_makes_3 lk_l_149 ms_l_at rfl rfl ⟨Nat.le_of_ble_eq_true rfl, Nat.le_of_ble_eq_true rfl⟩ (Nat.le_of_ble_eq_true rfl) (ch_rk0 (b := 0) hk (Nat.le_of_ble_eq_true rfl) (Nat.le_of_ble_eq_true rfl)) (ch_mono (ch_Ki (fun r1 m2 q3 => ?_)) (s_l_at g (fun (r_ : Int32) (m_ : ch_M) => ((l_atV g 0) = r_ ∧ m = m_)) (0) m ⟨b4, b5, ⟨rfl, rfl⟩⟩))
  obtain ⟨rfl, rfl⟩ := q3
  replace h := h
  refine ch_iconst (v := 4) d_l_makes_6 (by decide) ?_
  have b9 := h.1
  replace h := h.2
  refine ch_callS (as := [.inl (.int (l_atV g 0)), .inl (.int 4)]) d_l_makes_7 lk_l_146 ms_l_some rfl rfl ⟨Nat.le_of_ble_eq_true rfl, Nat.le_of_ble_eq_true rfl⟩ (Nat.le_of_ble_eq_true rfl) (ch_rk0 (b := 0) hk (Nat.le_of_ble_eq_true rfl) (Nat.le_of_ble_eq_true rfl)) (ch_mono (ch_Ki (fun r6 m7 q8 => ?_)) (s_l_some g (fun (r_ : Int32) (m_ : ch_M) => ((l_sm (l_atV g 0) 4) = r_ ∧ m = m_)) ((l_atV g 0)) (4) m ⟨b9, ⟨rfl, rfl⟩⟩))
  obtain ⟨rfl, rfl⟩ := q8
  replace h := h
  refine ch_iadd d_l_makes_10 ?_
  refine ch_istore_n (i := 2) d_l_makes_11 rfl (Nat.le_of_ble_eq_true rfl) (ls' := [some (.inr (0, 0, 0)), some (.inr (11, 0, 0)), some (.inl (.int (2 + (l_sm (l_atV g 0) 4)))), none, none, none]) rfl ?_
  refine ch_iconst (v := 0) d_l_makes_12 (by decide) ?_
  refine ch_istore_n (i := 3) d_l_makes_13 rfl (Nat.le_of_ble_eq_true rfl) (ls' := [some (.inr (0, 0, 0)), some (.inr (11, 0, 0)), some (.inl (.int (2 + (l_sm (l_atV g 0) 4)))), some (.inl (.int 0)), none, none]) rfl ?_
  exact h
set_option maxHeartbeats 1600000 in
theorem g_l_makes_14 (g : ch_G) (Q : ch_O → ch_M → Prop) (k : Nat) (hk : k + 1 ≤ 400) (x2 : Int32) (x3 : Int32) (o4 : Option ch_V) (o5 : Option ch_V) (m : ch_M) (h : ((x2 ≤ x3 → ch_J g m_l_makes (ch_rm m_l_makes) (ch_E g m_l_makes Q) 51 [some (.inr (0, 0, 0)), some (.inr (11, 0, 0)), some (.inl (.int x2)), some (.inl (.int 0)), o4, o5] [] m k) ∧ (¬ x2 ≤ x3 → (¬ (1 + x3) < (0 : Int32)) ∧ ((ch_scr g).2.1 < 2 ^ 31) ∧ ((¬ 20 = (0 : Int32)) ∧ ((∃ A_10 : a_G, (a_S A_10 m) ∧ (A_10.1 + 12 < 2 ^ 31) ∧ (0 < A_10.1) ∧ ((((r_wn (ch_ob m 1 0) (3 + (l_sm (l_atV g (1 + x3)) 20))).1 = 0) → (∀ (M11 : ch_M), (a_S (a_up A_10 (A_10.1 + 12) (ch_ob m 1 0)) M11) → (ch_ob M11 1 0 = y_briB (ch_ob m 1 0) (3 + (l_sm (l_atV g (1 + x3)) 20))) → (∀ k_, M11 (14, 0, 1) k_ = m (14, 0, 1) k_) → (∀ m14 : ch_M, m14 = M11 → ((((ch_ob m 1 0) 0 8 + 1 - 1) = x3 → ch_J g m_l_makes (ch_rm m_l_makes) (ch_E g m_l_makes Q) 14 [some (.inr (0, 0, 0)), some (.inr (11, 0, 0)), some (.inl (.int x2)), some (.inl (.int (x3 + 1))), o4, o5] [] m14 (k + 1)) ∧ (¬ ((ch_ob m 1 0) 0 8 + 1 - 1) = x3 → Q (.inl (some (.inl (.int 0)))) m14))))) ∧ ((¬ (r_wn (ch_ob m 1 0) (3 + (l_sm (l_atV g (1 + x3)) 20))).1 = 0) → (∀ (M12 : ch_M), (a_S A_10 M12) → (ch_ob M12 1 0 = (ch_ob m 1 0)) → (M12 (3, 0, 0) 0 = (r_wn (ch_ob m 1 0) (3 + (l_sm (l_atV g (1 + x3)) 20))).1) → (M12 (3, 0, 0) 1 = (r_wn (ch_ob m 1 0) (3 + (l_sm (l_atV g (1 + x3)) 20))).2) → (M12 (3, 0, 0) 2 = 0) → (∀ k_, M12 (14, 0, 1) k_ = m (14, 0, 1) k_) → (∀ m14 : ch_M, m14 = M12 → (((-1001) = x3 → ch_J g m_l_makes (ch_rm m_l_makes) (ch_E g m_l_makes Q) 14 [some (.inr (0, 0, 0)), some (.inr (11, 0, 0)), some (.inl (.int x2)), some (.inl (.int (x3 + 1))), o4, o5] [] m14 (k + 1)) ∧ (¬ (-1001) = x3 → Q (.inl (some (.inl (.int 0)))) m14)))))))))))) : ch_J g m_l_makes (ch_rm m_l_makes) (ch_E g m_l_makes Q) 14 [some (.inr (0, 0, 0)), some (.inr (11, 0, 0)), some (.inl (.int x2)), some (.inl (.int x3)), o4, o5] [] m k := by
  refine ch_iload_n (i := 3) d_l_makes_14 rfl rfl ?_
  refine ch_iload_n (i := 2) d_l_makes_15 rfl rfl ?_
  refine ch_icmp_ge (tgt := 49) d_l_makes_16 (by decide) (fun c => ?_) (fun c => ?_)
  · replace h := h.1 c
    refine ch_iconst (v := 0) d_l_makes_49 (by decide) ?_
    refine ch_istore_n (i := 3) d_l_makes_50 rfl (Nat.le_of_ble_eq_true rfl) (ls' := [some (.inr (0, 0, 0)), some (.inr (11, 0, 0)), some (.inl (.int x2)), some (.inl (.int 0)), o4, o5]) rfl ?_
    exact h
  · replace h := h.2 c
    refine ch_aload_n (i := 0) d_l_makes_19 rfl rfl ?_
    refine ch_iconst (v := 3) d_l_makes_20 (by decide) ?_
    refine ch_aload_n (i := 1) d_l_makes_21 rfl rfl ?_
    refine ch_iconst (v := 1) d_l_makes_22 (by decide) ?_
    refine ch_iload_n (i := 3) d_l_makes_23 rfl rfl ?_
    refine ch_iadd d_l_makes_24 ?_
    have b4 := h.1
    replace h := h.2
    have b5 := h.1
    replace h := h.2
    refine ch_callS (as := [.inr (11, 0, 0), .inl (.int (1 + x3))]) d_l_makes_25 lk_l_149 ms_l_at rfl rfl ⟨Nat.le_of_ble_eq_true rfl, Nat.le_of_ble_eq_true rfl⟩ (Nat.le_of_ble_eq_true rfl) (ch_rk0 (b := 0) hk (Nat.le_of_ble_eq_true rfl) (Nat.le_of_ble_eq_true rfl)) (ch_mono (ch_Ki (fun r1 m2 q3 => ?_)) (s_l_at g (fun (r_ : Int32) (m_ : ch_M) => ((l_atV g (1 + x3)) = r_ ∧ m = m_)) ((1 + x3)) m ⟨b4, b5, ⟨rfl, rfl⟩⟩))
    obtain ⟨rfl, rfl⟩ := q3
    replace h := h
    refine ch_bipush (v := 20) d_l_makes_28 (by decide) ?_
    have b9 := h.1
    replace h := h.2
    refine ch_callS (as := [.inl (.int (l_atV g (1 + x3))), .inl (.int 20)]) d_l_makes_30 lk_l_146 ms_l_some rfl rfl ⟨Nat.le_of_ble_eq_true rfl, Nat.le_of_ble_eq_true rfl⟩ (Nat.le_of_ble_eq_true rfl) (ch_rk0 (b := 0) hk (Nat.le_of_ble_eq_true rfl) (Nat.le_of_ble_eq_true rfl)) (ch_mono (ch_Ki (fun r6 m7 q8 => ?_)) (s_l_some g (fun (r_ : Int32) (m_ : ch_M) => ((l_sm (l_atV g (1 + x3)) 20) = r_ ∧ m = m_)) ((l_atV g (1 + x3))) (20) m ⟨b9, ⟨rfl, rfl⟩⟩))
    obtain ⟨rfl, rfl⟩ := q8
    replace h := h
    refine ch_iadd d_l_makes_33 ?_
    obtain ⟨A_10, h⟩ := h
    have b16 := h.1
    replace h := h.2
    have b17 := h.1
    replace h := h.2
    have b18 := h.1
    replace h := h.2
    refine ch_callSX (as := [.inr (0, 0, 0), .inl (.int (3 + (l_sm (l_atV g (1 + x3)) 20)))]) d_l_makes_34 lk_l_153 ms_l_child rfl rfl ⟨Nat.le_of_ble_eq_true rfl, Nat.le_of_ble_eq_true rfl⟩ (Nat.le_of_ble_eq_true rfl) (ch_rk0 (b := 1) hk (Nat.le_of_ble_eq_true rfl) (Nat.le_of_ble_eq_true rfl)) (ch_mono (ch_Ki (fun r13 m14 q15 => ?_)) (t_l_child g (fun (r_ : Int32) (m_ : ch_M) => (∃ (M11 : ch_M), ((r_wn (ch_ob m 1 0) (3 + (l_sm (l_atV g (1 + x3)) 20))).1 = 0) ∧ ((ch_ob m 1 0) 0 8 + 1 - 1) = r_ ∧ (a_S (a_up A_10 (A_10.1 + 12) (ch_ob m 1 0)) M11) ∧ (ch_ob M11 1 0 = y_briB (ch_ob m 1 0) (3 + (l_sm (l_atV g (1 + x3)) 20))) ∧ (∀ k_, M11 (14, 0, 1) k_ = m (14, 0, 1) k_) ∧ m_ = M11) ∨ (∃ (M12 : ch_M), (¬ (r_wn (ch_ob m 1 0) (3 + (l_sm (l_atV g (1 + x3)) 20))).1 = 0) ∧ (-1001) = r_ ∧ (a_S A_10 M12) ∧ (ch_ob M12 1 0 = (ch_ob m 1 0)) ∧ (M12 (3, 0, 0) 0 = (r_wn (ch_ob m 1 0) (3 + (l_sm (l_atV g (1 + x3)) 20))).1) ∧ (M12 (3, 0, 0) 1 = (r_wn (ch_ob m 1 0) (3 + (l_sm (l_atV g (1 + x3)) 20))).2) ∧ (M12 (3, 0, 0) 2 = 0) ∧ (∀ k_, M12 (14, 0, 1) k_ = m (14, 0, 1) k_) ∧ m_ = M12)) (A_10) ((3 + (l_sm (l_atV g (1 + x3)) 20))) m ⟨b16, b17, b18, (fun c_ M11 f0_ f1_ f2_ => (Or.inl ⟨M11, c_, rfl, f0_, f1_, f2_, rfl⟩)), (fun c_ M12 f0_ f1_ f2_ f3_ f4_ f5_ => (Or.inr ⟨M12, c_, rfl, f0_, f1_, f2_, f3_, f4_, f5_, rfl⟩))⟩))
    rcases q15 with ⟨M11, c_, rfl, f0_, f1_, f2_, hm_⟩ | ⟨M12, c_, rfl, f0_, f1_, f2_, f3_, f4_, f5_, hm_⟩
    · replace h := h.1 c_ M11 f0_ f1_ f2_ m14 hm_
      refine ch_iload_n (i := 3) d_l_makes_37 rfl rfl ?_
      refine ch_icmp_eq (tgt := 43) d_l_makes_38 (by decide) (fun c => ?_) (fun c => ?_)
      · replace h := h.1 c
        refine ch_iinc (i := 3) (v := (x3 + 1)) d_l_makes_43 rfl rfl (Nat.le_of_ble_eq_true rfl) (ls' := [some (.inr (0, 0, 0)), some (.inr (11, 0, 0)), some (.inl (.int x2)), some (.inl (.int (x3 + 1))), o4, o5]) rfl ?_
        refine ch_goto (tgt := 14) d_l_makes_46 (by decide) ?_
        exact h
      · replace h := h.2 c
        refine ch_iconst (v := 0) d_l_makes_41 (by decide) ?_
        exact ch_iret (ty := .boolean) d_l_makes_42 rfl rfl (show (k + 1) ≤ 400 by omega) h
    · replace h := h.2 c_ M12 f0_ f1_ f2_ f3_ f4_ f5_ m14 hm_
      refine ch_iload_n (i := 3) d_l_makes_37 rfl rfl ?_
      refine ch_icmp_eq (tgt := 43) d_l_makes_38 (by decide) (fun c => ?_) (fun c => ?_)
      · replace h := h.1 c
        refine ch_iinc (i := 3) (v := (x3 + 1)) d_l_makes_43 rfl rfl (Nat.le_of_ble_eq_true rfl) (ls' := [some (.inr (0, 0, 0)), some (.inr (11, 0, 0)), some (.inl (.int x2)), some (.inl (.int (x3 + 1))), o4, o5]) rfl ?_
        refine ch_goto (tgt := 14) d_l_makes_46 (by decide) ?_
        exact h
      · replace h := h.2 c
        refine ch_iconst (v := 0) d_l_makes_41 (by decide) ?_
        exact ch_iret (ty := .boolean) d_l_makes_42 rfl rfl (show (k + 1) ≤ 400 by omega) h
set_option maxHeartbeats 1600000 in
theorem g_l_makes_51 (g : ch_G) (Q : ch_O → ch_M → Prop) (k : Nat) (hk : k + 4 ≤ 400) (x2 : Int32) (x3 : Int32) (o4 : Option ch_V) (o5 : Option ch_V) (m : ch_M) (h : ((12 ≤ x3 → ch_J g m_l_makes (ch_rm m_l_makes) (ch_E g m_l_makes Q) 140 [some (.inr (0, 0, 0)), some (.inr (11, 0, 0)), some (.inl (.int x2)), some (.inl (.int 0)), o4, o5] [] m k) ∧ (¬ 12 ≤ x3 → (¬ (6 + x3) < (0 : Int32)) ∧ ((ch_scr g).2.1 < 2 ^ 31) ∧ ((¬ x2 = (0 : Int32)) ∧ ((¬ 12 = (0 : Int32)) ∧ ((∃ A_14 : a_G, (a_S A_14 m) ∧ (A_14.1 + 12 < 2 ^ 31) ∧ (0 < A_14.1) ∧ ((((r_wc (ch_ob m 1 0) (l_sm (l_atV g (6 + x3)) x2) (l_sm ((l_atV g (6 + x3)) >>> (4 &&& (31 : Int32))) 12)).1 = 0) → (∀ (M15 : ch_M), (a_S (a_up A_14 (A_14.1 + 12) (ch_ob m 1 0)) M15) → (ch_ob M15 1 0 = y_chaB (ch_ob m 1 0) (l_sm (l_atV g (6 + x3)) x2) (l_sm ((l_atV g (6 + x3)) >>> (4 &&& (31 : Int32))) 12)) → (∀ k_, M15 (14, 0, 1) k_ = m (14, 0, 1) k_) → (∀ m18 : ch_M, m18 = M15 → ((5 ≤ (y_chv (ch_ob m 1 0) (l_sm ((l_atV g (6 + x3)) >>> (4 &&& (31 : Int32))) 12)) → ch_J g m_l_makes (ch_rm m_l_makes) (ch_E g m_l_makes Q) 51 [some (.inr (0, 0, 0)), some (.inr (11, 0, 0)), some (.inl (.int x2)), some (.inl (.int (x3 + 1))), some (.inl (.int (l_atV g (6 + x3)))), some (.inl (.int (y_chv (ch_ob m 1 0) (l_sm ((l_atV g (6 + x3)) >>> (4 &&& (31 : Int32))) 12))))] [] m18 (k + 1)) ∧ (¬ 5 ≤ (y_chv (ch_ob m 1 0) (l_sm ((l_atV g (6 + x3)) >>> (4 &&& (31 : Int32))) 12)) → ((¬ (y_chv (ch_ob m 1 0) (l_sm ((l_atV g (6 + x3)) >>> (4 &&& (31 : Int32))) 12)) = (-1001) → Q (.inl (some (.inl (.int 0)))) m18) ∧ ((y_chv (ch_ob m 1 0) (l_sm ((l_atV g (6 + x3)) >>> (4 &&& (31 : Int32))) 12)) = (-1001) → (¬ m18 (3, 0, 0) 0 = 0) ∧ ((((l_rs m18 0) = 4 → ch_J g m_l_makes (ch_rm m_l_makes) (ch_E g m_l_makes Q) 51 [some (.inr (0, 0, 0)), some (.inr (11, 0, 0)), some (.inl (.int x2)), some (.inl (.int (x3 + 1))), some (.inl (.int (l_atV g (6 + x3)))), some (.inl (.int (y_chv (ch_ob m 1 0) (l_sm ((l_atV g (6 + x3)) >>> (4 &&& (31 : Int32))) 12))))] [] m18 (k + 2)) ∧ (¬ (l_rs m18 0) = 4 → (¬ m18 (3, 0, 0) 0 = 0) ∧ ((((l_rs m18 0) = 5 → ch_J g m_l_makes (ch_rm m_l_makes) (ch_E g m_l_makes Q) 51 [some (.inr (0, 0, 0)), some (.inr (11, 0, 0)), some (.inl (.int x2)), some (.inl (.int (x3 + 1))), some (.inl (.int (l_atV g (6 + x3)))), some (.inl (.int (y_chv (ch_ob m 1 0) (l_sm ((l_atV g (6 + x3)) >>> (4 &&& (31 : Int32))) 12))))] [] m18 (k + 3)) ∧ (¬ (l_rs m18 0) = 5 → (¬ m18 (3, 0, 0) 0 = 0) ∧ ((((l_rs m18 0) = 6 → ch_J g m_l_makes (ch_rm m_l_makes) (ch_E g m_l_makes Q) 51 [some (.inr (0, 0, 0)), some (.inr (11, 0, 0)), some (.inl (.int x2)), some (.inl (.int (x3 + 1))), some (.inl (.int (l_atV g (6 + x3)))), some (.inl (.int (y_chv (ch_ob m 1 0) (l_sm ((l_atV g (6 + x3)) >>> (4 &&& (31 : Int32))) 12))))] [] m18 (k + 4)) ∧ (¬ (l_rs m18 0) = 6 → Q (.inl (some (.inl (.int 0)))) m18)))))))))))))))) ∧ ((¬ (r_wc (ch_ob m 1 0) (l_sm (l_atV g (6 + x3)) x2) (l_sm ((l_atV g (6 + x3)) >>> (4 &&& (31 : Int32))) 12)).1 = 0) → (∀ (M16 : ch_M), (a_S A_14 M16) → (ch_ob M16 1 0 = (ch_ob m 1 0)) → (M16 (3, 0, 0) 0 = (r_wc (ch_ob m 1 0) (l_sm (l_atV g (6 + x3)) x2) (l_sm ((l_atV g (6 + x3)) >>> (4 &&& (31 : Int32))) 12)).1) → (M16 (3, 0, 0) 1 = (r_wc (ch_ob m 1 0) (l_sm (l_atV g (6 + x3)) x2) (l_sm ((l_atV g (6 + x3)) >>> (4 &&& (31 : Int32))) 12)).2) → (M16 (3, 0, 0) 2 = 0) → (∀ k_, M16 (14, 0, 1) k_ = m (14, 0, 1) k_) → (∀ m18 : ch_M, m18 = M16 → (¬ m18 (3, 0, 0) 0 = 0) ∧ ((((l_rs m18 0) = 4 → ch_J g m_l_makes (ch_rm m_l_makes) (ch_E g m_l_makes Q) 51 [some (.inr (0, 0, 0)), some (.inr (11, 0, 0)), some (.inl (.int x2)), some (.inl (.int (x3 + 1))), some (.inl (.int (l_atV g (6 + x3)))), some (.inl (.int (-1001)))] [] m18 (k + 2)) ∧ (¬ (l_rs m18 0) = 4 → (¬ m18 (3, 0, 0) 0 = 0) ∧ ((((l_rs m18 0) = 5 → ch_J g m_l_makes (ch_rm m_l_makes) (ch_E g m_l_makes Q) 51 [some (.inr (0, 0, 0)), some (.inr (11, 0, 0)), some (.inl (.int x2)), some (.inl (.int (x3 + 1))), some (.inl (.int (l_atV g (6 + x3)))), some (.inl (.int (-1001)))] [] m18 (k + 3)) ∧ (¬ (l_rs m18 0) = 5 → (¬ m18 (3, 0, 0) 0 = 0) ∧ ((((l_rs m18 0) = 6 → ch_J g m_l_makes (ch_rm m_l_makes) (ch_E g m_l_makes Q) 51 [some (.inr (0, 0, 0)), some (.inr (11, 0, 0)), some (.inl (.int x2)), some (.inl (.int (x3 + 1))), some (.inl (.int (l_atV g (6 + x3)))), some (.inl (.int (-1001)))] [] m18 (k + 4)) ∧ (¬ (l_rs m18 0) = 6 → Q (.inl (some (.inl (.int 0)))) m18)))))))))))))))))))) : ch_J g m_l_makes (ch_rm m_l_makes) (ch_E g m_l_makes Q) 51 [some (.inr (0, 0, 0)), some (.inr (11, 0, 0)), some (.inl (.int x2)), some (.inl (.int x3)), o4, o5] [] m k := by
  refine ch_iload_n (i := 3) d_l_makes_51 rfl rfl ?_
  refine ch_bipush (v := 12) d_l_makes_52 (by decide) ?_
  refine ch_icmp_ge (tgt := 138) d_l_makes_54 (by decide) (fun c => ?_) (fun c => ?_)
  · replace h := h.1 c
    refine ch_iconst (v := 0) d_l_makes_138 (by decide) ?_
    refine ch_istore_n (i := 3) d_l_makes_139 rfl (Nat.le_of_ble_eq_true rfl) (ls' := [some (.inr (0, 0, 0)), some (.inr (11, 0, 0)), some (.inl (.int x2)), some (.inl (.int 0)), o4, o5]) rfl ?_
    exact h
  · replace h := h.2 c
    refine ch_aload_n (i := 1) d_l_makes_57 rfl rfl ?_
    refine ch_bipush (v := 6) d_l_makes_58 (by decide) ?_
    refine ch_iload_n (i := 3) d_l_makes_60 rfl rfl ?_
    refine ch_iadd d_l_makes_61 ?_
    have b4 := h.1
    replace h := h.2
    have b5 := h.1
    replace h := h.2
    refine ch_callS (as := [.inr (11, 0, 0), .inl (.int (6 + x3))]) d_l_makes_62 lk_l_149 ms_l_at rfl rfl ⟨Nat.le_of_ble_eq_true rfl, Nat.le_of_ble_eq_true rfl⟩ (Nat.le_of_ble_eq_true rfl) (ch_rk0 (b := 0) hk (Nat.le_of_ble_eq_true rfl) (Nat.le_of_ble_eq_true rfl)) (ch_mono (ch_Ki (fun r1 m2 q3 => ?_)) (s_l_at g (fun (r_ : Int32) (m_ : ch_M) => ((l_atV g (6 + x3)) = r_ ∧ m = m_)) ((6 + x3)) m ⟨b4, b5, ⟨rfl, rfl⟩⟩))
    obtain ⟨rfl, rfl⟩ := q3
    replace h := h
    refine ch_istore (i := 4) d_l_makes_65 (Nat.le_of_ble_eq_true rfl) (ls' := [some (.inr (0, 0, 0)), some (.inr (11, 0, 0)), some (.inl (.int x2)), some (.inl (.int x3)), some (.inl (.int (l_atV g (6 + x3)))), o5]) rfl ?_
    refine ch_aload_n (i := 0) d_l_makes_67 rfl rfl ?_
    refine ch_iload d_l_makes_68 rfl ?_
    refine ch_iload_n (i := 2) d_l_makes_70 rfl rfl ?_
    have b9 := h.1
    replace h := h.2
    refine ch_callS (as := [.inl (.int (l_atV g (6 + x3))), .inl (.int x2)]) d_l_makes_71 lk_l_146 ms_l_some rfl rfl ⟨Nat.le_of_ble_eq_true rfl, Nat.le_of_ble_eq_true rfl⟩ (Nat.le_of_ble_eq_true rfl) (ch_rk0 (b := 0) hk (Nat.le_of_ble_eq_true rfl) (Nat.le_of_ble_eq_true rfl)) (ch_mono (ch_Ki (fun r6 m7 q8 => ?_)) (s_l_some g (fun (r_ : Int32) (m_ : ch_M) => ((l_sm (l_atV g (6 + x3)) x2) = r_ ∧ m = m_)) ((l_atV g (6 + x3))) (x2) m ⟨b9, ⟨rfl, rfl⟩⟩))
    obtain ⟨rfl, rfl⟩ := q8
    replace h := h
    refine ch_iload d_l_makes_74 rfl ?_
    refine ch_iconst (v := 4) d_l_makes_76 (by decide) ?_
    refine ch_ishr d_l_makes_77 ?_
    refine ch_bipush (v := 12) d_l_makes_78 (by decide) ?_
    have b13 := h.1
    replace h := h.2
    refine ch_callS (as := [.inl (.int ((l_atV g (6 + x3)) >>> (4 &&& (31 : Int32)))), .inl (.int 12)]) d_l_makes_80 lk_l_146 ms_l_some rfl rfl ⟨Nat.le_of_ble_eq_true rfl, Nat.le_of_ble_eq_true rfl⟩ (Nat.le_of_ble_eq_true rfl) (ch_rk0 (b := 0) hk (Nat.le_of_ble_eq_true rfl) (Nat.le_of_ble_eq_true rfl)) (ch_mono (ch_Ki (fun r10 m11 q12 => ?_)) (s_l_some g (fun (r_ : Int32) (m_ : ch_M) => ((l_sm ((l_atV g (6 + x3)) >>> (4 &&& (31 : Int32))) 12) = r_ ∧ m = m_)) (((l_atV g (6 + x3)) >>> (4 &&& (31 : Int32)))) (12) m ⟨b13, ⟨rfl, rfl⟩⟩))
    obtain ⟨rfl, rfl⟩ := q12
    replace h := h
    obtain ⟨A_14, h⟩ := h
    have b20 := h.1
    replace h := h.2
    have b21 := h.1
    replace h := h.2
    have b22 := h.1
    replace h := h.2
    refine ch_callSX (as := [.inr (0, 0, 0), .inl (.int (l_sm (l_atV g (6 + x3)) x2)), .inl (.int (l_sm ((l_atV g (6 + x3)) >>> (4 &&& (31 : Int32))) 12))]) d_l_makes_83 lk_l_155 ms_l_chalk rfl rfl ⟨Nat.le_of_ble_eq_true rfl, Nat.le_of_ble_eq_true rfl⟩ (Nat.le_of_ble_eq_true rfl) (ch_rk0 (b := 1) hk (Nat.le_of_ble_eq_true rfl) (Nat.le_of_ble_eq_true rfl)) (ch_mono (ch_Ki (fun r17 m18 q19 => ?_)) (t_l_chalk g (fun (r_ : Int32) (m_ : ch_M) => (∃ (M15 : ch_M), ((r_wc (ch_ob m 1 0) (l_sm (l_atV g (6 + x3)) x2) (l_sm ((l_atV g (6 + x3)) >>> (4 &&& (31 : Int32))) 12)).1 = 0) ∧ (y_chv (ch_ob m 1 0) (l_sm ((l_atV g (6 + x3)) >>> (4 &&& (31 : Int32))) 12)) = r_ ∧ (a_S (a_up A_14 (A_14.1 + 12) (ch_ob m 1 0)) M15) ∧ (ch_ob M15 1 0 = y_chaB (ch_ob m 1 0) (l_sm (l_atV g (6 + x3)) x2) (l_sm ((l_atV g (6 + x3)) >>> (4 &&& (31 : Int32))) 12)) ∧ (∀ k_, M15 (14, 0, 1) k_ = m (14, 0, 1) k_) ∧ m_ = M15) ∨ (∃ (M16 : ch_M), (¬ (r_wc (ch_ob m 1 0) (l_sm (l_atV g (6 + x3)) x2) (l_sm ((l_atV g (6 + x3)) >>> (4 &&& (31 : Int32))) 12)).1 = 0) ∧ (-1001) = r_ ∧ (a_S A_14 M16) ∧ (ch_ob M16 1 0 = (ch_ob m 1 0)) ∧ (M16 (3, 0, 0) 0 = (r_wc (ch_ob m 1 0) (l_sm (l_atV g (6 + x3)) x2) (l_sm ((l_atV g (6 + x3)) >>> (4 &&& (31 : Int32))) 12)).1) ∧ (M16 (3, 0, 0) 1 = (r_wc (ch_ob m 1 0) (l_sm (l_atV g (6 + x3)) x2) (l_sm ((l_atV g (6 + x3)) >>> (4 &&& (31 : Int32))) 12)).2) ∧ (M16 (3, 0, 0) 2 = 0) ∧ (∀ k_, M16 (14, 0, 1) k_ = m (14, 0, 1) k_) ∧ m_ = M16)) (A_14) ((l_sm (l_atV g (6 + x3)) x2)) ((l_sm ((l_atV g (6 + x3)) >>> (4 &&& (31 : Int32))) 12)) m ⟨b20, b21, b22, (fun c_ M15 f0_ f1_ f2_ => (Or.inl ⟨M15, c_, rfl, f0_, f1_, f2_, rfl⟩)), (fun c_ M16 f0_ f1_ f2_ f3_ f4_ f5_ => (Or.inr ⟨M16, c_, rfl, f0_, f1_, f2_, f3_, f4_, f5_, rfl⟩))⟩))
    rcases q19 with ⟨M15, c_, rfl, f0_, f1_, f2_, hm_⟩ | ⟨M16, c_, rfl, f0_, f1_, f2_, f3_, f4_, f5_, hm_⟩
    · replace h := h.1 c_ M15 f0_ f1_ f2_ m18 hm_
      refine ch_istore (i := 5) d_l_makes_86 (Nat.le_of_ble_eq_true rfl) (ls' := [some (.inr (0, 0, 0)), some (.inr (11, 0, 0)), some (.inl (.int x2)), some (.inl (.int x3)), some (.inl (.int (l_atV g (6 + x3)))), some (.inl (.int (y_chv (ch_ob m 1 0) (l_sm ((l_atV g (6 + x3)) >>> (4 &&& (31 : Int32))) 12))))]) rfl ?_
      refine ch_iload d_l_makes_88 rfl ?_
      refine ch_iconst (v := 5) d_l_makes_90 (by decide) ?_
      refine ch_icmp_ge (tgt := 132) d_l_makes_91 (by decide) (fun c => ?_) (fun c => ?_)
      · replace h := h.1 c
        refine ch_iinc (i := 3) (v := (x3 + 1)) d_l_makes_132 rfl rfl (Nat.le_of_ble_eq_true rfl) (ls' := [some (.inr (0, 0, 0)), some (.inr (11, 0, 0)), some (.inl (.int x2)), some (.inl (.int (x3 + 1))), some (.inl (.int (l_atV g (6 + x3)))), some (.inl (.int (y_chv (ch_ob m 1 0) (l_sm ((l_atV g (6 + x3)) >>> (4 &&& (31 : Int32))) 12))))]) rfl ?_
        refine ch_goto (tgt := 51) d_l_makes_135 (by decide) ?_
        exact h
      · replace h := h.2 c
        refine ch_iload d_l_makes_94 rfl ?_
        refine ch_sipush (v := (-1001)) d_l_makes_96 (by decide) ?_
        refine ch_icmp_ne (tgt := 130) d_l_makes_99 (by decide) (fun c => ?_) (fun c => ?_)
        · replace h := h.1 c
          refine ch_iconst (v := 0) d_l_makes_130 (by decide) ?_
          exact ch_iret (ty := .boolean) d_l_makes_131 rfl rfl (show (k + 1) ≤ 400 by omega) h
        · replace h := h.2 c
          refine ch_aload_n (i := 0) d_l_makes_102 rfl rfl ?_
          refine ch_iconst (v := 0) d_l_makes_103 (by decide) ?_
          have b26 := h.1
          replace h := h.2
          refine ch_callSX (as := [.inr (0, 0, 0), .inl (.int 0)]) d_l_makes_104 lk_l_141 ms_l_reason rfl rfl ⟨Nat.le_of_ble_eq_true rfl, Nat.le_of_ble_eq_true rfl⟩ (Nat.le_of_ble_eq_true rfl) (ch_rk (a := 1) (b := 1) hk (Nat.le_of_ble_eq_true rfl) (Nat.le_of_ble_eq_true rfl)) (ch_mono (ch_Ki (fun r23 m24 q25 => ?_)) (t_l_reason g (fun (r_ : Int32) (m_ : ch_M) => ((l_rs m18 0) = r_ ∧ m18 = m_)) (0) m18 ⟨b26, ⟨rfl, rfl⟩⟩))
          obtain ⟨rfl, rfl⟩ := q25
          replace h := h
          refine ch_iconst (v := 4) d_l_makes_107 (by decide) ?_
          refine ch_icmp_eq (tgt := 132) d_l_makes_108 (by decide) (fun c => ?_) (fun c => ?_)
          · replace h := h.1 c
            refine ch_iinc (i := 3) (v := (x3 + 1)) d_l_makes_132 rfl rfl (Nat.le_of_ble_eq_true rfl) (ls' := [some (.inr (0, 0, 0)), some (.inr (11, 0, 0)), some (.inl (.int x2)), some (.inl (.int (x3 + 1))), some (.inl (.int (l_atV g (6 + x3)))), some (.inl (.int (y_chv (ch_ob m 1 0) (l_sm ((l_atV g (6 + x3)) >>> (4 &&& (31 : Int32))) 12))))]) rfl ?_
            refine ch_goto (tgt := 51) d_l_makes_135 (by decide) ?_
            exact h
          · replace h := h.2 c
            refine ch_aload_n (i := 0) d_l_makes_111 rfl rfl ?_
            refine ch_iconst (v := 0) d_l_makes_112 (by decide) ?_
            have b30 := h.1
            replace h := h.2
            refine ch_callSX (as := [.inr (0, 0, 0), .inl (.int 0)]) d_l_makes_113 lk_l_141 ms_l_reason rfl rfl ⟨Nat.le_of_ble_eq_true rfl, Nat.le_of_ble_eq_true rfl⟩ (Nat.le_of_ble_eq_true rfl) (ch_rk (a := 2) (b := 1) hk (Nat.le_of_ble_eq_true rfl) (Nat.le_of_ble_eq_true rfl)) (ch_mono (ch_Ki (fun r27 m28 q29 => ?_)) (t_l_reason g (fun (r_ : Int32) (m_ : ch_M) => ((l_rs m18 0) = r_ ∧ m18 = m_)) (0) m18 ⟨b30, ⟨rfl, rfl⟩⟩))
            obtain ⟨rfl, rfl⟩ := q29
            replace h := h
            refine ch_iconst (v := 5) d_l_makes_116 (by decide) ?_
            refine ch_icmp_eq (tgt := 132) d_l_makes_117 (by decide) (fun c => ?_) (fun c => ?_)
            · replace h := h.1 c
              refine ch_iinc (i := 3) (v := (x3 + 1)) d_l_makes_132 rfl rfl (Nat.le_of_ble_eq_true rfl) (ls' := [some (.inr (0, 0, 0)), some (.inr (11, 0, 0)), some (.inl (.int x2)), some (.inl (.int (x3 + 1))), some (.inl (.int (l_atV g (6 + x3)))), some (.inl (.int (y_chv (ch_ob m 1 0) (l_sm ((l_atV g (6 + x3)) >>> (4 &&& (31 : Int32))) 12))))]) rfl ?_
              refine ch_goto (tgt := 51) d_l_makes_135 (by decide) ?_
              exact h
            · replace h := h.2 c
              refine ch_aload_n (i := 0) d_l_makes_120 rfl rfl ?_
              refine ch_iconst (v := 0) d_l_makes_121 (by decide) ?_
              have b34 := h.1
              replace h := h.2
              refine ch_callSX (as := [.inr (0, 0, 0), .inl (.int 0)]) d_l_makes_122 lk_l_141 ms_l_reason rfl rfl ⟨Nat.le_of_ble_eq_true rfl, Nat.le_of_ble_eq_true rfl⟩ (Nat.le_of_ble_eq_true rfl) (ch_rk (a := 3) (b := 1) hk (Nat.le_of_ble_eq_true rfl) (Nat.le_of_ble_eq_true rfl)) (ch_mono (ch_Ki (fun r31 m32 q33 => ?_)) (t_l_reason g (fun (r_ : Int32) (m_ : ch_M) => ((l_rs m18 0) = r_ ∧ m18 = m_)) (0) m18 ⟨b34, ⟨rfl, rfl⟩⟩))
              obtain ⟨rfl, rfl⟩ := q33
              replace h := h
              refine ch_bipush (v := 6) d_l_makes_125 (by decide) ?_
              refine ch_icmp_eq (tgt := 132) d_l_makes_127 (by decide) (fun c => ?_) (fun c => ?_)
              · replace h := h.1 c
                refine ch_iinc (i := 3) (v := (x3 + 1)) d_l_makes_132 rfl rfl (Nat.le_of_ble_eq_true rfl) (ls' := [some (.inr (0, 0, 0)), some (.inr (11, 0, 0)), some (.inl (.int x2)), some (.inl (.int (x3 + 1))), some (.inl (.int (l_atV g (6 + x3)))), some (.inl (.int (y_chv (ch_ob m 1 0) (l_sm ((l_atV g (6 + x3)) >>> (4 &&& (31 : Int32))) 12))))]) rfl ?_
                refine ch_goto (tgt := 51) d_l_makes_135 (by decide) ?_
                exact h
              · replace h := h.2 c
                refine ch_iconst (v := 0) d_l_makes_130 (by decide) ?_
                exact ch_iret (ty := .boolean) d_l_makes_131 rfl rfl (show (k + 4) ≤ 400 by omega) h
    · replace h := h.2 c_ M16 f0_ f1_ f2_ f3_ f4_ f5_ m18 hm_
      refine ch_istore (i := 5) d_l_makes_86 (Nat.le_of_ble_eq_true rfl) (ls' := [some (.inr (0, 0, 0)), some (.inr (11, 0, 0)), some (.inl (.int x2)), some (.inl (.int x3)), some (.inl (.int (l_atV g (6 + x3)))), some (.inl (.int (-1001)))]) rfl ?_
      refine ch_iload d_l_makes_88 rfl ?_
      refine ch_iconst (v := 5) d_l_makes_90 (by decide) ?_
      refine ch_icmp_ge (tgt := 132) d_l_makes_91 (by decide) (fun c => absurd c (by decide)) (fun _ => ?_)
      refine ch_iload d_l_makes_94 rfl ?_
      refine ch_sipush (v := (-1001)) d_l_makes_96 (by decide) ?_
      refine ch_icmp_ne (tgt := 130) d_l_makes_99 (by decide) (fun c => absurd c (by decide)) (fun _ => ?_)
      refine ch_aload_n (i := 0) d_l_makes_102 rfl rfl ?_
      refine ch_iconst (v := 0) d_l_makes_103 (by decide) ?_
      have b38 := h.1
      replace h := h.2
      refine ch_callSX (as := [.inr (0, 0, 0), .inl (.int 0)]) d_l_makes_104 lk_l_141 ms_l_reason rfl rfl ⟨Nat.le_of_ble_eq_true rfl, Nat.le_of_ble_eq_true rfl⟩ (Nat.le_of_ble_eq_true rfl) (ch_rk (a := 1) (b := 1) hk (Nat.le_of_ble_eq_true rfl) (Nat.le_of_ble_eq_true rfl)) (ch_mono (ch_Ki (fun r35 m36 q37 => ?_)) (t_l_reason g (fun (r_ : Int32) (m_ : ch_M) => ((l_rs m18 0) = r_ ∧ m18 = m_)) (0) m18 ⟨b38, ⟨rfl, rfl⟩⟩))
      obtain ⟨rfl, rfl⟩ := q37
      replace h := h
      refine ch_iconst (v := 4) d_l_makes_107 (by decide) ?_
      refine ch_icmp_eq (tgt := 132) d_l_makes_108 (by decide) (fun c => ?_) (fun c => ?_)
      · replace h := h.1 c
        refine ch_iinc (i := 3) (v := (x3 + 1)) d_l_makes_132 rfl rfl (Nat.le_of_ble_eq_true rfl) (ls' := [some (.inr (0, 0, 0)), some (.inr (11, 0, 0)), some (.inl (.int x2)), some (.inl (.int (x3 + 1))), some (.inl (.int (l_atV g (6 + x3)))), some (.inl (.int (-1001)))]) rfl ?_
        refine ch_goto (tgt := 51) d_l_makes_135 (by decide) ?_
        exact h
      · replace h := h.2 c
        refine ch_aload_n (i := 0) d_l_makes_111 rfl rfl ?_
        refine ch_iconst (v := 0) d_l_makes_112 (by decide) ?_
        have b42 := h.1
        replace h := h.2
        refine ch_callSX (as := [.inr (0, 0, 0), .inl (.int 0)]) d_l_makes_113 lk_l_141 ms_l_reason rfl rfl ⟨Nat.le_of_ble_eq_true rfl, Nat.le_of_ble_eq_true rfl⟩ (Nat.le_of_ble_eq_true rfl) (ch_rk (a := 2) (b := 1) hk (Nat.le_of_ble_eq_true rfl) (Nat.le_of_ble_eq_true rfl)) (ch_mono (ch_Ki (fun r39 m40 q41 => ?_)) (t_l_reason g (fun (r_ : Int32) (m_ : ch_M) => ((l_rs m18 0) = r_ ∧ m18 = m_)) (0) m18 ⟨b42, ⟨rfl, rfl⟩⟩))
        obtain ⟨rfl, rfl⟩ := q41
        replace h := h
        refine ch_iconst (v := 5) d_l_makes_116 (by decide) ?_
        refine ch_icmp_eq (tgt := 132) d_l_makes_117 (by decide) (fun c => ?_) (fun c => ?_)
        · replace h := h.1 c
          refine ch_iinc (i := 3) (v := (x3 + 1)) d_l_makes_132 rfl rfl (Nat.le_of_ble_eq_true rfl) (ls' := [some (.inr (0, 0, 0)), some (.inr (11, 0, 0)), some (.inl (.int x2)), some (.inl (.int (x3 + 1))), some (.inl (.int (l_atV g (6 + x3)))), some (.inl (.int (-1001)))]) rfl ?_
          refine ch_goto (tgt := 51) d_l_makes_135 (by decide) ?_
          exact h
        · replace h := h.2 c
          refine ch_aload_n (i := 0) d_l_makes_120 rfl rfl ?_
          refine ch_iconst (v := 0) d_l_makes_121 (by decide) ?_
          have b46 := h.1
          replace h := h.2
          refine ch_callSX (as := [.inr (0, 0, 0), .inl (.int 0)]) d_l_makes_122 lk_l_141 ms_l_reason rfl rfl ⟨Nat.le_of_ble_eq_true rfl, Nat.le_of_ble_eq_true rfl⟩ (Nat.le_of_ble_eq_true rfl) (ch_rk (a := 3) (b := 1) hk (Nat.le_of_ble_eq_true rfl) (Nat.le_of_ble_eq_true rfl)) (ch_mono (ch_Ki (fun r43 m44 q45 => ?_)) (t_l_reason g (fun (r_ : Int32) (m_ : ch_M) => ((l_rs m18 0) = r_ ∧ m18 = m_)) (0) m18 ⟨b46, ⟨rfl, rfl⟩⟩))
          obtain ⟨rfl, rfl⟩ := q45
          replace h := h
          refine ch_bipush (v := 6) d_l_makes_125 (by decide) ?_
          refine ch_icmp_eq (tgt := 132) d_l_makes_127 (by decide) (fun c => ?_) (fun c => ?_)
          · replace h := h.1 c
            refine ch_iinc (i := 3) (v := (x3 + 1)) d_l_makes_132 rfl rfl (Nat.le_of_ble_eq_true rfl) (ls' := [some (.inr (0, 0, 0)), some (.inr (11, 0, 0)), some (.inl (.int x2)), some (.inl (.int (x3 + 1))), some (.inl (.int (l_atV g (6 + x3)))), some (.inl (.int (-1001)))]) rfl ?_
            refine ch_goto (tgt := 51) d_l_makes_135 (by decide) ?_
            exact h
          · replace h := h.2 c
            refine ch_iconst (v := 0) d_l_makes_130 (by decide) ?_
            exact ch_iret (ty := .boolean) d_l_makes_131 rfl rfl (show (k + 4) ≤ 400 by omega) h
set_option maxHeartbeats 1600000 in
theorem g_l_makes_140 (g : ch_G) (Q : ch_O → ch_M → Prop) (k : Nat) (hk : k + 2 ≤ 400) (x2 : Int32) (x3 : Int32) (o4 : Option ch_V) (o5 : Option ch_V) (m : ch_M) (h : ((5 ≤ x3 → (¬ 23 < (0 : Int32)) ∧ ((ch_scr g).2.1 < 2 ^ 31) ∧ ((¬ x2 = (0 : Int32)) ∧ ((∃ A_10 : a_G, (a_S A_10 m) ∧ (A_10.1 + 12 < 2 ^ 31) ∧ (0 < A_10.1) ∧ ((((r_ww (ch_ob m 1 0) (l_sm (l_atV g 23) x2)).1 = 0) → (∀ (M11 : ch_M), (a_S (a_up A_10 (A_10.1 + 12) (ch_ob m 1 0)) M11) → (ch_ob M11 1 0 = y_wriB (ch_ob m 1 0) (l_sm (l_atV g 23) x2)) → (∀ k_, M11 (14, 0, 1) k_ = m (14, 0, 1) k_) → (∀ m14 : ch_M, m14 = M11 → ((2 < (if 9 < (ch_ob m 1 0) 4 (Int32.toNatClampNeg (l_sm (l_atV g 23) x2)) then (9 : Int32) else (ch_ob m 1 0) 4 (Int32.toNatClampNeg (l_sm (l_atV g 23) x2))) → Q (.inl (some (.inl (.int 1)))) m14) ∧ (¬ 2 < (if 9 < (ch_ob m 1 0) 4 (Int32.toNatClampNeg (l_sm (l_atV g 23) x2)) then (9 : Int32) else (ch_ob m 1 0) 4 (Int32.toNatClampNeg (l_sm (l_atV g 23) x2))) → ((¬ (if 9 < (ch_ob m 1 0) 4 (Int32.toNatClampNeg (l_sm (l_atV g 23) x2)) then (9 : Int32) else (ch_ob m 1 0) 4 (Int32.toNatClampNeg (l_sm (l_atV g 23) x2))) = (-1001) → Q (.inl (some (.inl (.int 0)))) m14) ∧ ((if 9 < (ch_ob m 1 0) 4 (Int32.toNatClampNeg (l_sm (l_atV g 23) x2)) then (9 : Int32) else (ch_ob m 1 0) 4 (Int32.toNatClampNeg (l_sm (l_atV g 23) x2))) = (-1001) → (¬ m14 (3, 0, 0) 0 = 0) ∧ (((¬ (l_rs m14 0) = 9 → Q (.inl (some (.inl (.int 0)))) m14) ∧ ((l_rs m14 0) = 9 → Q (.inl (some (.inl (.int 1)))) m14)))))))))) ∧ ((¬ (r_ww (ch_ob m 1 0) (l_sm (l_atV g 23) x2)).1 = 0) → (∀ (M12 : ch_M), (a_S A_10 M12) → (ch_ob M12 1 0 = (ch_ob m 1 0)) → (M12 (3, 0, 0) 0 = (r_ww (ch_ob m 1 0) (l_sm (l_atV g 23) x2)).1) → (M12 (3, 0, 0) 1 = (r_ww (ch_ob m 1 0) (l_sm (l_atV g 23) x2)).2) → (M12 (3, 0, 0) 2 = 0) → (∀ k_, M12 (14, 0, 1) k_ = m (14, 0, 1) k_) → (∀ m14 : ch_M, m14 = M12 → (¬ m14 (3, 0, 0) 0 = 0) ∧ (((¬ (l_rs m14 0) = 9 → Q (.inl (some (.inl (.int 0)))) m14) ∧ ((l_rs m14 0) = 9 → Q (.inl (some (.inl (.int 1)))) m14))))))))))) ∧ (¬ 5 ≤ x3 → (¬ (18 + x3) < (0 : Int32)) ∧ ((ch_scr g).2.1 < 2 ^ 31) ∧ ((¬ x2 = (0 : Int32)) ∧ ((¬ (18 + x3) < (0 : Int32)) ∧ ((ch_scr g).2.1 < 2 ^ 31) ∧ (((∀ (R41 : Int32), (l_gd R41 = true) → (∃ A_45 : a_G, (a_S A_45 m) ∧ (A_45.1 + 12 < 2 ^ 31) ∧ (0 < A_45.1) ∧ ((((r_wh (ch_ob m 1 0) (l_sm (l_atV g (18 + x3)) x2) (s_rf (ch_ob m 5 0) R41) (s_rfB (ch_ob m 5 0) R41 0 1)).1 = 0) → (∀ (M46 : ch_M), (a_S (a_up A_45 (A_45.1 + 12) (ch_ob m 1 0)) M46) → (ch_ob M46 1 0 = y_hopB (ch_ob m 1 0) (l_sm (l_atV g (18 + x3)) x2) (s_rf (ch_ob m 5 0) R41) (Int32.toNatClampNeg (s_rfB (ch_ob m 5 0) R41 0 1))) → (∀ k_, M46 (14, 0, 1) k_ = m (14, 0, 1) k_) → (∀ m49 : ch_M, m49 = M46 → ((0 ≤ (y_ct (ch_ob m 1 0) (l_sm (l_atV g (18 + x3)) x2) (s_rf (ch_ob m 5 0) R41) (Int32.toNatClampNeg (s_rfB (ch_ob m 5 0) R41 0 1))) → ch_J g m_l_makes (ch_rm m_l_makes) (ch_E g m_l_makes Q) 140 [some (.inr (0, 0, 0)), some (.inr (11, 0, 0)), some (.inl (.int x2)), some (.inl (.int (x3 + 1))), o4, o5] [] m49 (k + 1)) ∧ (¬ 0 ≤ (y_ct (ch_ob m 1 0) (l_sm (l_atV g (18 + x3)) x2) (s_rf (ch_ob m 5 0) R41) (Int32.toNatClampNeg (s_rfB (ch_ob m 5 0) R41 0 1))) → Q (.inl (some (.inl (.int 0)))) m49))))) ∧ ((¬ (r_wh (ch_ob m 1 0) (l_sm (l_atV g (18 + x3)) x2) (s_rf (ch_ob m 5 0) R41) (s_rfB (ch_ob m 5 0) R41 0 1)).1 = 0) → (∀ (M47 : ch_M), (a_S A_45 M47) → (ch_ob M47 1 0 = (ch_ob m 1 0)) → (M47 (3, 0, 0) 0 = (r_wh (ch_ob m 1 0) (l_sm (l_atV g (18 + x3)) x2) (s_rf (ch_ob m 5 0) R41) (s_rfB (ch_ob m 5 0) R41 0 1)).1) → (M47 (3, 0, 0) 1 = (r_wh (ch_ob m 1 0) (l_sm (l_atV g (18 + x3)) x2) (s_rf (ch_ob m 5 0) R41) (s_rfB (ch_ob m 5 0) R41 0 1)).2) → (M47 (3, 0, 0) 2 = 0) → (∀ k_, M47 (14, 0, 1) k_ = m (14, 0, 1) k_) → (∀ m49 : ch_M, m49 = M47 → Q (.inl (some (.inl (.int 0)))) m49))))))))))))) : ch_J g m_l_makes (ch_rm m_l_makes) (ch_E g m_l_makes Q) 140 [some (.inr (0, 0, 0)), some (.inr (11, 0, 0)), some (.inl (.int x2)), some (.inl (.int x3)), o4, o5] [] m k := by
  refine ch_iload_n (i := 3) d_l_makes_140 rfl rfl ?_
  refine ch_iconst (v := 5) d_l_makes_141 (by decide) ?_
  refine ch_icmp_ge (tgt := 185) d_l_makes_142 (by decide) (fun c => ?_) (fun c => ?_)
  · replace h := h.1 c
    refine ch_aload_n (i := 0) d_l_makes_185 rfl rfl ?_
    refine ch_aload_n (i := 1) d_l_makes_186 rfl rfl ?_
    refine ch_bipush (v := 23) d_l_makes_187 (by decide) ?_
    have b4 := h.1
    replace h := h.2
    have b5 := h.1
    replace h := h.2
    refine ch_callS (as := [.inr (11, 0, 0), .inl (.int 23)]) d_l_makes_189 lk_l_149 ms_l_at rfl rfl ⟨Nat.le_of_ble_eq_true rfl, Nat.le_of_ble_eq_true rfl⟩ (Nat.le_of_ble_eq_true rfl) (ch_rk0 (b := 0) hk (Nat.le_of_ble_eq_true rfl) (Nat.le_of_ble_eq_true rfl)) (ch_mono (ch_Ki (fun r1 m2 q3 => ?_)) (s_l_at g (fun (r_ : Int32) (m_ : ch_M) => ((l_atV g 23) = r_ ∧ m = m_)) (23) m ⟨b4, b5, ⟨rfl, rfl⟩⟩))
    obtain ⟨rfl, rfl⟩ := q3
    replace h := h
    refine ch_iload_n (i := 2) d_l_makes_192 rfl rfl ?_
    have b9 := h.1
    replace h := h.2
    refine ch_callS (as := [.inl (.int (l_atV g 23)), .inl (.int x2)]) d_l_makes_193 lk_l_146 ms_l_some rfl rfl ⟨Nat.le_of_ble_eq_true rfl, Nat.le_of_ble_eq_true rfl⟩ (Nat.le_of_ble_eq_true rfl) (ch_rk0 (b := 0) hk (Nat.le_of_ble_eq_true rfl) (Nat.le_of_ble_eq_true rfl)) (ch_mono (ch_Ki (fun r6 m7 q8 => ?_)) (s_l_some g (fun (r_ : Int32) (m_ : ch_M) => ((l_sm (l_atV g 23) x2) = r_ ∧ m = m_)) ((l_atV g 23)) (x2) m ⟨b9, ⟨rfl, rfl⟩⟩))
    obtain ⟨rfl, rfl⟩ := q8
    replace h := h
    obtain ⟨A_10, h⟩ := h
    have b16 := h.1
    replace h := h.2
    have b17 := h.1
    replace h := h.2
    have b18 := h.1
    replace h := h.2
    refine ch_callSX (as := [.inr (0, 0, 0), .inl (.int (l_sm (l_atV g 23) x2))]) d_l_makes_196 lk_l_163 ms_l_warrant rfl rfl ⟨Nat.le_of_ble_eq_true rfl, Nat.le_of_ble_eq_true rfl⟩ (Nat.le_of_ble_eq_true rfl) (ch_rk0 (b := 1) hk (Nat.le_of_ble_eq_true rfl) (Nat.le_of_ble_eq_true rfl)) (ch_mono (ch_Ki (fun r13 m14 q15 => ?_)) (t_l_warrant g (fun (r_ : Int32) (m_ : ch_M) => (∃ (M11 : ch_M), ((r_ww (ch_ob m 1 0) (l_sm (l_atV g 23) x2)).1 = 0) ∧ (if 9 < (ch_ob m 1 0) 4 (Int32.toNatClampNeg (l_sm (l_atV g 23) x2)) then (9 : Int32) else (ch_ob m 1 0) 4 (Int32.toNatClampNeg (l_sm (l_atV g 23) x2))) = r_ ∧ (a_S (a_up A_10 (A_10.1 + 12) (ch_ob m 1 0)) M11) ∧ (ch_ob M11 1 0 = y_wriB (ch_ob m 1 0) (l_sm (l_atV g 23) x2)) ∧ (∀ k_, M11 (14, 0, 1) k_ = m (14, 0, 1) k_) ∧ m_ = M11) ∨ (∃ (M12 : ch_M), (¬ (r_ww (ch_ob m 1 0) (l_sm (l_atV g 23) x2)).1 = 0) ∧ (-1001) = r_ ∧ (a_S A_10 M12) ∧ (ch_ob M12 1 0 = (ch_ob m 1 0)) ∧ (M12 (3, 0, 0) 0 = (r_ww (ch_ob m 1 0) (l_sm (l_atV g 23) x2)).1) ∧ (M12 (3, 0, 0) 1 = (r_ww (ch_ob m 1 0) (l_sm (l_atV g 23) x2)).2) ∧ (M12 (3, 0, 0) 2 = 0) ∧ (∀ k_, M12 (14, 0, 1) k_ = m (14, 0, 1) k_) ∧ m_ = M12)) (A_10) ((l_sm (l_atV g 23) x2)) m ⟨b16, b17, b18, (fun c_ M11 f0_ f1_ f2_ => (Or.inl ⟨M11, c_, rfl, f0_, f1_, f2_, rfl⟩)), (fun c_ M12 f0_ f1_ f2_ f3_ f4_ f5_ => (Or.inr ⟨M12, c_, rfl, f0_, f1_, f2_, f3_, f4_, f5_, rfl⟩))⟩))
    rcases q15 with ⟨M11, c_, rfl, f0_, f1_, f2_, hm_⟩ | ⟨M12, c_, rfl, f0_, f1_, f2_, f3_, f4_, f5_, hm_⟩
    · replace h := h.1 c_ M11 f0_ f1_ f2_ m14 hm_
      refine ch_istore_n (i := 3) d_l_makes_199 rfl (Nat.le_of_ble_eq_true rfl) (ls' := [some (.inr (0, 0, 0)), some (.inr (11, 0, 0)), some (.inl (.int x2)), some (.inl (.int (if 9 < (ch_ob m 1 0) 4 (Int32.toNatClampNeg (l_sm (l_atV g 23) x2)) then (9 : Int32) else (ch_ob m 1 0) 4 (Int32.toNatClampNeg (l_sm (l_atV g 23) x2))))), o4, o5]) rfl ?_
      refine ch_iload_n (i := 3) d_l_makes_200 rfl rfl ?_
      refine ch_iconst (v := 2) d_l_makes_201 (by decide) ?_
      refine ch_icmp_gt (tgt := 222) d_l_makes_202 (by decide) (fun c => ?_) (fun c => ?_)
      · replace h := h.1 c
        refine ch_iconst (v := 1) d_l_makes_222 (by decide) ?_
        refine ch_goto (tgt := 227) d_l_makes_223 (by decide) ?_
        exact ch_iret (ty := .boolean) d_l_makes_227 rfl rfl (show (k + 1) ≤ 400 by omega) h
      · replace h := h.2 c
        refine ch_iload_n (i := 3) d_l_makes_205 rfl rfl ?_
        refine ch_sipush (v := (-1001)) d_l_makes_206 (by decide) ?_
        refine ch_icmp_ne (tgt := 226) d_l_makes_209 (by decide) (fun c => ?_) (fun c => ?_)
        · replace h := h.1 c
          refine ch_iconst (v := 0) d_l_makes_226 (by decide) ?_
          exact ch_iret (ty := .boolean) d_l_makes_227 rfl rfl (show (k + 1) ≤ 400 by omega) h
        · replace h := h.2 c
          refine ch_aload_n (i := 0) d_l_makes_212 rfl rfl ?_
          refine ch_iconst (v := 0) d_l_makes_213 (by decide) ?_
          have b22 := h.1
          replace h := h.2
          refine ch_callSX (as := [.inr (0, 0, 0), .inl (.int 0)]) d_l_makes_214 lk_l_141 ms_l_reason rfl rfl ⟨Nat.le_of_ble_eq_true rfl, Nat.le_of_ble_eq_true rfl⟩ (Nat.le_of_ble_eq_true rfl) (ch_rk (a := 1) (b := 1) hk (Nat.le_of_ble_eq_true rfl) (Nat.le_of_ble_eq_true rfl)) (ch_mono (ch_Ki (fun r19 m20 q21 => ?_)) (t_l_reason g (fun (r_ : Int32) (m_ : ch_M) => ((l_rs m14 0) = r_ ∧ m14 = m_)) (0) m14 ⟨b22, ⟨rfl, rfl⟩⟩))
          obtain ⟨rfl, rfl⟩ := q21
          replace h := h
          refine ch_bipush (v := 9) d_l_makes_217 (by decide) ?_
          refine ch_icmp_ne (tgt := 226) d_l_makes_219 (by decide) (fun c => ?_) (fun c => ?_)
          · replace h := h.1 c
            refine ch_iconst (v := 0) d_l_makes_226 (by decide) ?_
            exact ch_iret (ty := .boolean) d_l_makes_227 rfl rfl (show (k + 2) ≤ 400 by omega) h
          · replace h := h.2 c
            refine ch_iconst (v := 1) d_l_makes_222 (by decide) ?_
            refine ch_goto (tgt := 227) d_l_makes_223 (by decide) ?_
            exact ch_iret (ty := .boolean) d_l_makes_227 rfl rfl (show (k + 2) ≤ 400 by omega) h
    · replace h := h.2 c_ M12 f0_ f1_ f2_ f3_ f4_ f5_ m14 hm_
      refine ch_istore_n (i := 3) d_l_makes_199 rfl (Nat.le_of_ble_eq_true rfl) (ls' := [some (.inr (0, 0, 0)), some (.inr (11, 0, 0)), some (.inl (.int x2)), some (.inl (.int (-1001))), o4, o5]) rfl ?_
      refine ch_iload_n (i := 3) d_l_makes_200 rfl rfl ?_
      refine ch_iconst (v := 2) d_l_makes_201 (by decide) ?_
      refine ch_icmp_gt (tgt := 222) d_l_makes_202 (by decide) (fun c => absurd c (by decide)) (fun _ => ?_)
      refine ch_iload_n (i := 3) d_l_makes_205 rfl rfl ?_
      refine ch_sipush (v := (-1001)) d_l_makes_206 (by decide) ?_
      refine ch_icmp_ne (tgt := 226) d_l_makes_209 (by decide) (fun c => absurd c (by decide)) (fun _ => ?_)
      refine ch_aload_n (i := 0) d_l_makes_212 rfl rfl ?_
      refine ch_iconst (v := 0) d_l_makes_213 (by decide) ?_
      have b26 := h.1
      replace h := h.2
      refine ch_callSX (as := [.inr (0, 0, 0), .inl (.int 0)]) d_l_makes_214 lk_l_141 ms_l_reason rfl rfl ⟨Nat.le_of_ble_eq_true rfl, Nat.le_of_ble_eq_true rfl⟩ (Nat.le_of_ble_eq_true rfl) (ch_rk (a := 1) (b := 1) hk (Nat.le_of_ble_eq_true rfl) (Nat.le_of_ble_eq_true rfl)) (ch_mono (ch_Ki (fun r23 m24 q25 => ?_)) (t_l_reason g (fun (r_ : Int32) (m_ : ch_M) => ((l_rs m14 0) = r_ ∧ m14 = m_)) (0) m14 ⟨b26, ⟨rfl, rfl⟩⟩))
      obtain ⟨rfl, rfl⟩ := q25
      replace h := h
      refine ch_bipush (v := 9) d_l_makes_217 (by decide) ?_
      refine ch_icmp_ne (tgt := 226) d_l_makes_219 (by decide) (fun c => ?_) (fun c => ?_)
      · replace h := h.1 c
        refine ch_iconst (v := 0) d_l_makes_226 (by decide) ?_
        exact ch_iret (ty := .boolean) d_l_makes_227 rfl rfl (show (k + 2) ≤ 400 by omega) h
      · replace h := h.2 c
        refine ch_iconst (v := 1) d_l_makes_222 (by decide) ?_
        refine ch_goto (tgt := 227) d_l_makes_223 (by decide) ?_
        exact ch_iret (ty := .boolean) d_l_makes_227 rfl rfl (show (k + 2) ≤ 400 by omega) h
  · replace h := h.2 c
    refine ch_aload_n (i := 0) d_l_makes_145 rfl rfl ?_
    refine ch_aload_n (i := 1) d_l_makes_146 rfl rfl ?_
    refine ch_bipush (v := 18) d_l_makes_147 (by decide) ?_
    refine ch_iload_n (i := 3) d_l_makes_149 rfl rfl ?_
    refine ch_iadd d_l_makes_150 ?_
    have b30 := h.1
    replace h := h.2
    have b31 := h.1
    replace h := h.2
    refine ch_callS (as := [.inr (11, 0, 0), .inl (.int (18 + x3))]) d_l_makes_151 lk_l_149 ms_l_at rfl rfl ⟨Nat.le_of_ble_eq_true rfl, Nat.le_of_ble_eq_true rfl⟩ (Nat.le_of_ble_eq_true rfl) (ch_rk0 (b := 0) hk (Nat.le_of_ble_eq_true rfl) (Nat.le_of_ble_eq_true rfl)) (ch_mono (ch_Ki (fun r27 m28 q29 => ?_)) (s_l_at g (fun (r_ : Int32) (m_ : ch_M) => ((l_atV g (18 + x3)) = r_ ∧ m = m_)) ((18 + x3)) m ⟨b30, b31, ⟨rfl, rfl⟩⟩))
    obtain ⟨rfl, rfl⟩ := q29
    replace h := h
    refine ch_iload_n (i := 2) d_l_makes_154 rfl rfl ?_
    have b35 := h.1
    replace h := h.2
    refine ch_callS (as := [.inl (.int (l_atV g (18 + x3))), .inl (.int x2)]) d_l_makes_155 lk_l_146 ms_l_some rfl rfl ⟨Nat.le_of_ble_eq_true rfl, Nat.le_of_ble_eq_true rfl⟩ (Nat.le_of_ble_eq_true rfl) (ch_rk0 (b := 0) hk (Nat.le_of_ble_eq_true rfl) (Nat.le_of_ble_eq_true rfl)) (ch_mono (ch_Ki (fun r32 m33 q34 => ?_)) (s_l_some g (fun (r_ : Int32) (m_ : ch_M) => ((l_sm (l_atV g (18 + x3)) x2) = r_ ∧ m = m_)) ((l_atV g (18 + x3))) (x2) m ⟨b35, ⟨rfl, rfl⟩⟩))
    obtain ⟨rfl, rfl⟩ := q34
    replace h := h
    refine ch_aload_n (i := 1) d_l_makes_158 rfl rfl ?_
    refine ch_bipush (v := 18) d_l_makes_159 (by decide) ?_
    refine ch_iload_n (i := 3) d_l_makes_161 rfl rfl ?_
    refine ch_iadd d_l_makes_162 ?_
    have b39 := h.1
    replace h := h.2
    have b40 := h.1
    replace h := h.2
    refine ch_callS (as := [.inr (11, 0, 0), .inl (.int (18 + x3))]) d_l_makes_163 lk_l_149 ms_l_at rfl rfl ⟨Nat.le_of_ble_eq_true rfl, Nat.le_of_ble_eq_true rfl⟩ (Nat.le_of_ble_eq_true rfl) (ch_rk0 (b := 0) hk (Nat.le_of_ble_eq_true rfl) (Nat.le_of_ble_eq_true rfl)) (ch_mono (ch_Ki (fun r36 m37 q38 => ?_)) (s_l_at g (fun (r_ : Int32) (m_ : ch_M) => ((l_atV g (18 + x3)) = r_ ∧ m = m_)) ((18 + x3)) m ⟨b39, b40, ⟨rfl, rfl⟩⟩))
    obtain ⟨rfl, rfl⟩ := q38
    replace h := h
    refine ch_iconst (v := 3) d_l_makes_166 (by decide) ?_
    refine ch_ishr d_l_makes_167 ?_
    refine ch_callS (as := [.inl (.int ((l_atV g (18 + x3)) >>> (3 &&& (31 : Int32))))]) d_l_makes_168 lk_l_158 ms_l_steps rfl rfl ⟨Nat.le_of_ble_eq_true rfl, Nat.le_of_ble_eq_true rfl⟩ (Nat.le_of_ble_eq_true rfl) (ch_rk0 (b := 0) hk (Nat.le_of_ble_eq_true rfl) (Nat.le_of_ble_eq_true rfl)) (ch_mono (ch_Ki (fun r42 m43 q44 => ?_)) (s_l_steps g (fun (r_ : Int32) (m_ : ch_M) => (∃ (R41 : Int32), R41 = r_ ∧ (l_gd R41 = true) ∧ m = m_)) (((l_atV g (18 + x3)) >>> (3 &&& (31 : Int32)))) m (fun R41 f0_ => ⟨R41, rfl, f0_, rfl⟩)))
    obtain ⟨R41, rfl, f0_, rfl⟩ := q44
    replace h := h R41 f0_
    obtain ⟨A_45, h⟩ := h
    have b51 := h.1
    replace h := h.2
    have b52 := h.1
    replace h := h.2
    have b53 := h.1
    replace h := h.2
    refine ch_callSX (as := [.inr (0, 0, 0), .inl (.int (l_sm (l_atV g (18 + x3)) x2)), .inl (.int R41)]) d_l_makes_171 lk_l_161 ms_l_hop rfl rfl ⟨Nat.le_of_ble_eq_true rfl, Nat.le_of_ble_eq_true rfl⟩ (Nat.le_of_ble_eq_true rfl) (ch_rk0 (b := 1) hk (Nat.le_of_ble_eq_true rfl) (Nat.le_of_ble_eq_true rfl)) (ch_mono (ch_Ki (fun r48 m49 q50 => ?_)) (t_l_hop g (fun (r_ : Int32) (m_ : ch_M) => (∃ (M46 : ch_M), ((r_wh (ch_ob m 1 0) (l_sm (l_atV g (18 + x3)) x2) (s_rf (ch_ob m 5 0) R41) (s_rfB (ch_ob m 5 0) R41 0 1)).1 = 0) ∧ (y_ct (ch_ob m 1 0) (l_sm (l_atV g (18 + x3)) x2) (s_rf (ch_ob m 5 0) R41) (Int32.toNatClampNeg (s_rfB (ch_ob m 5 0) R41 0 1))) = r_ ∧ (a_S (a_up A_45 (A_45.1 + 12) (ch_ob m 1 0)) M46) ∧ (ch_ob M46 1 0 = y_hopB (ch_ob m 1 0) (l_sm (l_atV g (18 + x3)) x2) (s_rf (ch_ob m 5 0) R41) (Int32.toNatClampNeg (s_rfB (ch_ob m 5 0) R41 0 1))) ∧ (∀ k_, M46 (14, 0, 1) k_ = m (14, 0, 1) k_) ∧ m_ = M46) ∨ (∃ (M47 : ch_M), (¬ (r_wh (ch_ob m 1 0) (l_sm (l_atV g (18 + x3)) x2) (s_rf (ch_ob m 5 0) R41) (s_rfB (ch_ob m 5 0) R41 0 1)).1 = 0) ∧ (-1001) = r_ ∧ (a_S A_45 M47) ∧ (ch_ob M47 1 0 = (ch_ob m 1 0)) ∧ (M47 (3, 0, 0) 0 = (r_wh (ch_ob m 1 0) (l_sm (l_atV g (18 + x3)) x2) (s_rf (ch_ob m 5 0) R41) (s_rfB (ch_ob m 5 0) R41 0 1)).1) ∧ (M47 (3, 0, 0) 1 = (r_wh (ch_ob m 1 0) (l_sm (l_atV g (18 + x3)) x2) (s_rf (ch_ob m 5 0) R41) (s_rfB (ch_ob m 5 0) R41 0 1)).2) ∧ (M47 (3, 0, 0) 2 = 0) ∧ (∀ k_, M47 (14, 0, 1) k_ = m (14, 0, 1) k_) ∧ m_ = M47)) (A_45) ((l_sm (l_atV g (18 + x3)) x2)) (R41) m ⟨b51, b52, b53, (fun c_ M46 f0_ f1_ f2_ => (Or.inl ⟨M46, c_, rfl, f0_, f1_, f2_, rfl⟩)), (fun c_ M47 f0_ f1_ f2_ f3_ f4_ f5_ => (Or.inr ⟨M47, c_, rfl, f0_, f1_, f2_, f3_, f4_, f5_, rfl⟩))⟩))
    rcases q50 with ⟨M46, c_, rfl, f0_, f1_, f2_, hm_⟩ | ⟨M47, c_, rfl, f0_, f1_, f2_, f3_, f4_, f5_, hm_⟩
    · replace h := h.1 c_ M46 f0_ f1_ f2_ m49 hm_
      refine ch_if_ge (tgt := 179) d_l_makes_174 (by decide) (fun c => ?_) (fun c => ?_)
      · replace h := h.1 c
        refine ch_iinc (i := 3) (v := (x3 + 1)) d_l_makes_179 rfl rfl (Nat.le_of_ble_eq_true rfl) (ls' := [some (.inr (0, 0, 0)), some (.inr (11, 0, 0)), some (.inl (.int x2)), some (.inl (.int (x3 + 1))), o4, o5]) rfl ?_
        refine ch_goto (tgt := 140) d_l_makes_182 (by decide) ?_
        exact h
      · replace h := h.2 c
        refine ch_iconst (v := 0) d_l_makes_177 (by decide) ?_
        exact ch_iret (ty := .boolean) d_l_makes_178 rfl rfl (show (k + 1) ≤ 400 by omega) h
    · replace h := h.2 c_ M47 f0_ f1_ f2_ f3_ f4_ f5_ m49 hm_
      refine ch_if_ge (tgt := 179) d_l_makes_174 (by decide) (fun c => absurd c (by decide)) (fun _ => ?_)
      refine ch_iconst (v := 0) d_l_makes_177 (by decide) ?_
      exact ch_iret (ty := .boolean) d_l_makes_178 rfl rfl (show (k + 1) ≤ 400 by omega) h
