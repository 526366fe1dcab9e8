set_option maxHeartbeats 1600000 in
theorem g_l_law_487 (g : ch_G) (R : Room) (E : ch_En) (k : Nat) (hR : ch_RR R 18) (hC : 120000 ≤ R.cells ∧ 720000 ≤ R.slots) (hk : k + 400 ≤ 120000) (o3 : Option ch_V) (o4 : Option ch_V) (o5 : Option ch_V) (o6 : Option ch_V) (o7 : Option ch_V) (o8 : Option ch_V) (o9 : Option ch_V) (o10 : Option ch_V) (o1 : Option ch_V) (m : ch_M) (h : (∃ A_1 : a_G, (a_S A_1 m) ∧ (A_1.1 + 300 < 2 ^ 31) ∧ (0 < A_1.1) ∧ ((ch_scr g).2.1 < 2 ^ 31) ∧ (m (1, 0, 0) 8 = 0) ∧ ((∀ (M2 : ch_M) (B3 : a_G), (a_S B3 M2) → (A_1.1 ≤ B3.1) → (B3.1 ≤ A_1.1 + 300) → (B3.2.2.2 = A_1.2.2.2) → ((2 : Int32) ≤ M2 (1, 0, 0) 8) → (∀ m5 : ch_M, m5 = M2 → ch_J g m_l_law R E 497 [some (.inr (11, 0, 0)), o1, some (.inr (0, 0, 0)), o3, o4, o5, o6, o7, o8, o9, o10] [] m5 (k + 400)))))) : ch_J g m_l_law R E 487 [some (.inr (11, 0, 0)), o1, some (.inr (0, 0, 0)), o3, o4, o5, o6, o7, o8, o9, o10] [] m k := by
  refine ch_aload_n (i := 2) d_l_law_487 rfl rfl ?_
  refine ch_aload_n (i := 0) d_l_law_488 rfl rfl ?_
  obtain ⟨A_1, h⟩ := h
  have b7 := h.1
  replace h := h.2
  have b8 := h.1
  replace h := h.2
  have b9 := h.1
  replace h := h.2
  have b10 := h.1
  replace h := h.2
  have b11 := h.1
  replace h := h.2
  refine ch_callS (as := [.inr (0, 0, 0), .inr (11, 0, 0)]) d_l_law_489 lk_l_286 ms_l_makes rfl rfl (ch_hR hR (Nat.le_of_ble_eq_true rfl)) (Nat.le_of_ble_eq_true rfl) (ch_rcL0 (b := 400) hC hk (Nat.le_of_ble_eq_true rfl)) (ch_mono (ch_Ki (fun r4 m5 q6 => ?_)) (s_l_makes g (fun (r_ : Int32) (m_ : ch_M) => (∃ (M2 : ch_M) (B3 : a_G), 1 = r_ ∧ (a_S B3 M2) ∧ (A_1.1 ≤ B3.1) ∧ (B3.1 ≤ A_1.1 + 300) ∧ (B3.2.2.2 = A_1.2.2.2) ∧ ((2 : Int32) ≤ M2 (1, 0, 0) 8) ∧ m_ = M2)) (A_1) m ⟨b7, b8, b9, b10, b11, (fun M2 B3 f0_ f1_ f2_ f3_ f4_ => ⟨M2, B3, rfl, f0_, f1_, f2_, f3_, f4_, rfl⟩)⟩))
  obtain ⟨M2, B3, rfl, f0_, f1_, f2_, f3_, f4_, hm_⟩ := q6
  replace h := h M2 B3 f0_ f1_ f2_ f3_ f4_ m5 hm_
  refine ch_if_ne (tgt := 497) d_l_law_492 (by decide) (fun _ => ?_) (fun c => absurd c (by decide))
  exact h
set_option maxHeartbeats 1600000 in
theorem g_l_law_497 (g : ch_G) (R : Room) (E : ch_En) (k : Nat) (hR : ch_RR R 18) (hC : 120000 ≤ R.cells ∧ 720000 ≤ R.slots) (hk : k + 8400 ≤ 120000) (o3 : Option ch_V) (o4 : Option ch_V) (o5 : Option ch_V) (o6 : Option ch_V) (o7 : Option ch_V) (o8 : Option ch_V) (o9 : Option ch_V) (o10 : Option ch_V) (o1 : Option ch_V) (m : ch_M) (h : (∃ A_1 : a_G, (∃ Y_2 : ch_B, (∃ R_3 : Int32 × Int32 × Int32, (a_W A_1 Y_2 R_3 m) ∧ ((∀ (M4 : ch_M), (a_W A_1 Y_2 R_3 M4) → (∀ k_, k_ < 18 → M4 (14, 0, 1) k_ = m (14, 0, 1) k_) → (∀ m6 : ch_M, m6 = M4 → (∃ A_9 : a_G, (∃ Y_10 : ch_B, (∃ R_11 : Int32 × Int32 × Int32, (a_W A_9 Y_10 R_11 m6) ∧ ((∀ (M12 : ch_M), (a_W A_9 Y_10 R_11 M12) → (∀ k_, k_ < 18 → M12 (14, 0, 1) k_ = m6 (14, 0, 1) k_) → (∀ m14 : ch_M, m14 = M12 → ((¬ (lg_cmp (a_V (y_can Y_10)) (a_V (y_can Y_2))) = 0 → ch_J g m_l_law R E 519 [some (.inr (11, 0, 0)), o1, some (.inr (0, 0, 0)), some (.inl (.long (a_V (y_can Y_2)))), none, o5, o6, o7, o8, o9, o10] [.inl (.int 0)] m14 (k + 2400)) ∧ ((lg_cmp (a_V (y_can Y_10)) (a_V (y_can Y_2))) = 0 → (∃ A_17 : a_G, (∃ Y_18 : ch_B, (∃ R_19 : Int32 × Int32 × Int32, (a_W A_17 Y_18 R_19 m14) ∧ (l_tx g) ∧ ((2 : Int32) ≤ Y_18 0 8) ∧ ((∀ (Q20 : Int32 × Int32 × Int32) (M21 : ch_M), (a_W A_17 Y_18 Q20 M21) → (∀ m23 : ch_M, m23 = M21 → ch_J g m_l_law R E 520 [some (.inr (11, 0, 0)), o1, some (.inr (0, 0, 0)), some (.inl (.long (a_V (y_can Y_2)))), none, o5, o6, o7, o8, o9, o10] [] m23 (k + 8400)))))))))))))))))))))) : ch_J g m_l_law R E 497 [some (.inr (11, 0, 0)), o1, some (.inr (0, 0, 0)), o3, o4, o5, o6, o7, o8, o9, o10] [] m k := by
  refine ch_aload_n (i := 2) d_l_law_497 rfl rfl ?_
  obtain ⟨A_1, h⟩ := h
  obtain ⟨Y_2, h⟩ := h
  obtain ⟨R_3, h⟩ := h
  have b8 := h.1
  replace h := h.2
  refine ch_callS (as := [.inr (0, 0, 0)]) d_l_law_498 lk_l_254 ms_l_asks rfl rfl (ch_hR hR (Nat.le_of_ble_eq_true rfl)) (Nat.le_of_ble_eq_true rfl) (ch_rcL0 (b := 1200) hC hk (Nat.le_of_ble_eq_true rfl)) (ch_mono (ch_Kl (fun r5 m6 q7 => ?_)) (q_l_asks g (fun (r_ : Int64) (m_ : ch_M) => (∃ (M4 : ch_M), (a_V (y_can Y_2)) = r_ ∧ (a_W A_1 Y_2 R_3 M4) ∧ (∀ k_, k_ < 18 → M4 (14, 0, 1) k_ = m (14, 0, 1) k_) ∧ m_ = M4)) (A_1) (Y_2) (R_3) m ⟨b8, (fun M4 f0_ f1_ => ⟨M4, rfl, f0_, f1_, rfl⟩)⟩))
  obtain ⟨M4, rfl, f0_, f1_, hm_⟩ := q7
  replace h := h M4 f0_ f1_ m6 hm_
  refine ch_lstore_n (i := 3) d_l_law_501 rfl (Nat.le_of_ble_eq_true rfl) (ls' := [some (.inr (11, 0, 0)), o1, some (.inr (0, 0, 0)), some (.inl (.long (a_V (y_can Y_2)))), none, o5, o6, o7, o8, o9, o10]) rfl ?_
  refine ch_aload_n (i := 2) d_l_law_502 rfl rfl ?_
  obtain ⟨A_9, h⟩ := h
  obtain ⟨Y_10, h⟩ := h
  obtain ⟨R_11, h⟩ := h
  have b16 := h.1
  replace h := h.2
  refine ch_callS (as := [.inr (0, 0, 0)]) d_l_law_503 lk_l_254 ms_l_asks rfl rfl (ch_hR hR (Nat.le_of_ble_eq_true rfl)) (Nat.le_of_ble_eq_true rfl) (ch_rcL (a := 1200) (b := 1200) hC hk (Nat.le_of_ble_eq_true rfl)) (ch_mono (ch_Kl (fun r13 m14 q15 => ?_)) (q_l_asks g (fun (r_ : Int64) (m_ : ch_M) => (∃ (M12 : ch_M), (a_V (y_can Y_10)) = r_ ∧ (a_W A_9 Y_10 R_11 M12) ∧ (∀ k_, k_ < 18 → M12 (14, 0, 1) k_ = m6 (14, 0, 1) k_) ∧ m_ = M12)) (A_9) (Y_10) (R_11) m6 ⟨b16, (fun M12 f0_ f1_ => ⟨M12, rfl, f0_, f1_, rfl⟩)⟩))
  obtain ⟨M12, rfl, f0_, f1_, hm_⟩ := q15
  replace h := h M12 f0_ f1_ m14 hm_
  refine ch_lload_n (i := 3) d_l_law_506 rfl rfl ?_
  refine ch_lcmp d_l_law_507 ?_
  refine ch_if_ne (tgt := 518) d_l_law_508 (by decide) (fun c => ?_) (fun c => ?_)
  · replace h := h.1 c
    refine ch_iconst (v := 0) d_l_law_518 (by decide) ?_
    exact h
  · replace h := h.2 c
    refine ch_aload_n (i := 2) d_l_law_511 rfl rfl ?_
    obtain ⟨A_17, h⟩ := h
    obtain ⟨Y_18, h⟩ := h
    obtain ⟨R_19, h⟩ := h
    have b25 := h.1
    replace h := h.2
    have b26 := h.1
    replace h := h.2
    have b27 := h.1
    replace h := h.2
    refine ch_callS (as := [.inr (0, 0, 0)]) d_l_law_512 lk_l_290 ms_l_refused rfl rfl (ch_hR hR (Nat.le_of_ble_eq_true rfl)) (Nat.le_of_ble_eq_true rfl) (ch_rcL (a := 2400) (b := 6000) hC hk (Nat.le_of_ble_eq_true rfl)) (ch_mono (ch_Ki (fun r22 m23 q24 => ?_)) (r_l_refused g (fun (r_ : Int32) (m_ : ch_M) => (∃ (Q20 : Int32 × Int32 × Int32) (M21 : ch_M), 1 = r_ ∧ (a_W A_17 Y_18 Q20 M21) ∧ m_ = M21)) (A_17) (Y_18) (R_19) m14 ⟨b25, b26, b27, (fun Q20 M21 f0_ => ⟨Q20, M21, rfl, f0_, rfl⟩)⟩))
    obtain ⟨Q20, M21, rfl, f0_, hm_⟩ := q24
    replace h := h Q20 M21 f0_ m23 hm_
    refine ch_if_ne (tgt := 520) d_l_law_515 (by decide) (fun _ => ?_) (fun c => absurd c (by decide))
    exact h
set_option maxHeartbeats 1600000 in
theorem g_l_law_520 (g : ch_G) (R : Room) (E : ch_En) (k : Nat) (hR : ch_RR R 18) (hC : 120000 ≤ R.cells ∧ 720000 ≤ R.slots) (hk : k + 1201 ≤ 120000) (x3 : Int64) (o5 : Option ch_V) (o6 : Option ch_V) (o7 : Option ch_V) (o8 : Option ch_V) (o9 : Option ch_V) (o10 : Option ch_V) (o1 : Option ch_V) (m : ch_M) (h : (∃ A_1 : a_G, (∃ Y_2 : ch_B, (∃ R_3 : Int32 × Int32 × Int32, (a_W A_1 Y_2 R_3 m) ∧ ((∀ (M4 : ch_M), (a_W (a_sv A_1 Y_2) Y_2 (M4 (3, 0, 0) 0, M4 (3, 0, 0) 1, M4 (3, 0, 0) 2) M4) → (∀ m6 : ch_M, m6 = M4 → (∃ A_9 : a_G, (∃ Y_10 : ch_B, (∃ R_11 : Int32 × Int32 × Int32, (a_W A_9 Y_10 R_11 m6) ∧ ((0 : Int32) ≤ 0 ∧ 0 ≤ (9 : Int32)) ∧ ((∀ (M12 : ch_M), (a_W A_9 Y_10 R_11 M12) → (∀ m14 : ch_M, m14 = M12 → ((¬ (Y_2 0 8) = (x_acR (y_can Y_10) 0 0 0) → ch_J g m_l_law R E 546 [some (.inr (11, 0, 0)), o1, some (.inr (0, 0, 0)), some (.inl (.long x3)), none, some (.inl (.int (Y_2 0 8))), o6, o7, o8, o9, o10] [.inl (.int 0)] m14 (k + 1)) ∧ ((Y_2 0 8) = (x_acR (y_can Y_10) 0 0 0) → (∃ A_18 : a_G, (∃ Y_19 : ch_B, (∃ R_20 : Int32 × Int32 × Int32, (a_W A_18 Y_19 R_20 m14) ∧ ((∀ (M21 : ch_M), (a_W A_18 Y_19 R_20 M21) → (∀ k_, k_ < 18 → M21 (14, 0, 1) k_ = m14 (14, 0, 1) k_) → (∀ m23 : ch_M, m23 = M21 → (((lg_cmp (a_V (y_can Y_19)) x3) = 0 → ch_J g m_l_law R E 547 [some (.inr (11, 0, 0)), o1, some (.inr (0, 0, 0)), some (.inl (.long x3)), none, some (.inl (.int (Y_2 0 8))), o6, o7, o8, o9, o10] [] m23 (k + 1201)) ∧ (¬ (lg_cmp (a_V (y_can Y_19)) x3) = 0 → ch_J g m_l_law R E 546 [some (.inr (11, 0, 0)), o1, some (.inr (0, 0, 0)), some (.inl (.long x3)), none, some (.inl (.int (Y_2 0 8))), o6, o7, o8, o9, o10] [.inl (.int 0)] m23 (k + 1201)))))))))))))))))))))))) : ch_J g m_l_law R E 520 [some (.inr (11, 0, 0)), o1, some (.inr (0, 0, 0)), some (.inl (.long x3)), none, o5, o6, o7, o8, o9, o10] [] m k := by
  refine ch_aload_n (i := 2) d_l_law_520 rfl rfl ?_
  obtain ⟨A_1, h⟩ := h
  obtain ⟨Y_2, h⟩ := h
  obtain ⟨R_3, h⟩ := h
  have b8 := h.1
  replace h := h.2
  refine ch_callV (as := []) d_l_law_521 lk_l_283 mi_x_save me_x_save rfl rfl rfl (ch_hR hR (Nat.le_of_ble_eq_true rfl)) (Nat.le_of_ble_eq_true rfl) (ch_rcL0 (b := 0) hC hk (Nat.le_of_ble_eq_true rfl)) (ch_mono (ch_Ki (fun r5 m6 q7 => ?_)) (c_x_save g (fun (r_ : Int32) (m_ : ch_M) => (∃ (M4 : ch_M), (Y_2 0 8) = r_ ∧ (a_W (a_sv A_1 Y_2) Y_2 (M4 (3, 0, 0) 0, M4 (3, 0, 0) 1, M4 (3, 0, 0) 2) M4) ∧ m_ = M4)) (A_1) (Y_2) (R_3) m ⟨b8, (fun M4 f0_ => ⟨M4, rfl, f0_, rfl⟩)⟩))
  obtain ⟨M4, rfl, f0_, hm_⟩ := q7
  replace h := h M4 f0_ m6 hm_
  refine ch_istore (i := 5) d_l_law_524 (Nat.le_of_ble_eq_true rfl) (ls' := [some (.inr (11, 0, 0)), o1, some (.inr (0, 0, 0)), some (.inl (.long x3)), none, some (.inl (.int (Y_2 0 8))), o6, o7, o8, o9, o10]) rfl ?_
  refine ch_iload d_l_law_526 rfl ?_
  refine ch_aload_n (i := 2) d_l_law_528 rfl rfl ?_
  refine ch_iconst (v := 0) d_l_law_529 (by decide) ?_
  obtain ⟨A_9, h⟩ := h
  obtain ⟨Y_10, h⟩ := h
  obtain ⟨R_11, h⟩ := h
  have b16 := h.1
  replace h := h.2
  have b17 := h.1
  replace h := h.2
  refine ch_callSX (as := [.inr (0, 0, 0), .inl (.int 0)]) d_l_law_530 lk_l_186 ms_l_account rfl rfl (ch_hR hR (Nat.le_of_ble_eq_true rfl)) (Nat.le_of_ble_eq_true rfl) (ch_rcL0 (b := 1) hC hk (Nat.le_of_ble_eq_true rfl)) (ch_mono (ch_Ki (fun r13 m14 q15 => ?_)) (r_l_account g (fun (r_ : Int32) (m_ : ch_M) => (∃ (M12 : ch_M), (x_acR (y_can Y_10) 0 0 0) = r_ ∧ (a_W A_9 Y_10 R_11 M12) ∧ m_ = M12)) (A_9) (Y_10) (R_11) (0) m6 ⟨b16, b17, (fun M12 f0_ => ⟨M12, rfl, f0_, rfl⟩)⟩))
  obtain ⟨M12, rfl, f0_, hm_⟩ := q15
  replace h := h M12 f0_ m14 hm_
  refine ch_icmp_ne (tgt := 545) d_l_law_533 (by decide) (fun c => ?_) (fun c => ?_)
  · replace h := h.1 c
    refine ch_iconst (v := 0) d_l_law_545 (by decide) ?_
    exact h
  · replace h := h.2 c
    refine ch_aload_n (i := 2) d_l_law_536 rfl rfl ?_
    obtain ⟨A_18, h⟩ := h
    obtain ⟨Y_19, h⟩ := h
    obtain ⟨R_20, h⟩ := h
    have b25 := h.1
    replace h := h.2
    refine ch_callS (as := [.inr (0, 0, 0)]) d_l_law_537 lk_l_254 ms_l_asks rfl rfl (ch_hR hR (Nat.le_of_ble_eq_true rfl)) (Nat.le_of_ble_eq_true rfl) (ch_rcL (a := 1) (b := 1200) hC hk (Nat.le_of_ble_eq_true rfl)) (ch_mono (ch_Kl (fun r22 m23 q24 => ?_)) (q_l_asks g (fun (r_ : Int64) (m_ : ch_M) => (∃ (M21 : ch_M), (a_V (y_can Y_19)) = r_ ∧ (a_W A_18 Y_19 R_20 M21) ∧ (∀ k_, k_ < 18 → M21 (14, 0, 1) k_ = m14 (14, 0, 1) k_) ∧ m_ = M21)) (A_18) (Y_19) (R_20) m14 ⟨b25, (fun M21 f0_ f1_ => ⟨M21, rfl, f0_, f1_, rfl⟩)⟩))
    obtain ⟨M21, rfl, f0_, f1_, hm_⟩ := q24
    replace h := h M21 f0_ f1_ m23 hm_
    refine ch_lload_n (i := 3) d_l_law_540 rfl rfl ?_
    refine ch_lcmp d_l_law_541 ?_
    refine ch_if_eq (tgt := 547) d_l_law_542 (by decide) (fun c => ?_) (fun c => ?_)
    · replace h := h.1 c
      exact h
    · replace h := h.2 c
      refine ch_iconst (v := 0) d_l_law_545 (by decide) ?_
      exact h
set_option maxHeartbeats 1600000 in
theorem g_l_law_553 (g : ch_G) (R : Room) (E : ch_En) (k : Nat) (hR : ch_RR R 18) (hC : 120000 ≤ R.cells ∧ 720000 ≤ R.slots) (hk : k + 0 ≤ 120000) (x3 : Int64) (x5 : Int32) (o7 : Option ch_V) (o8 : Option ch_V) (o9 : Option ch_V) (o10 : Option ch_V) (o1 : Option ch_V) (m : ch_M) (h : ch_J g m_l_law R E 559 [some (.inr (11, 0, 0)), o1, some (.inr (0, 0, 0)), some (.inl (.long x3)), none, some (.inl (.int x5)), some (.inr (14, 0, 1)), some (.inl (.int 0)), some (.inl (.int 0)), o9, o10] [] m k) : ch_J g m_l_law R E 553 [some (.inr (11, 0, 0)), o1, some (.inr (0, 0, 0)), some (.inl (.long x3)), none, some (.inl (.int x5)), some (.inr (14, 0, 1)), o7, o8, o9, o10] [] m k := by
  refine ch_iconst (v := 0) d_l_law_553 (by decide) ?_
  refine ch_istore (i := 7) d_l_law_554 (Nat.le_of_ble_eq_true rfl) (ls' := [some (.inr (11, 0, 0)), o1, some (.inr (0, 0, 0)), some (.inl (.long x3)), none, some (.inl (.int x5)), some (.inr (14, 0, 1)), some (.inl (.int 0)), o8, o9, o10]) rfl ?_
  refine ch_iconst (v := 0) d_l_law_556 (by decide) ?_
  refine ch_istore (i := 8) d_l_law_557 (Nat.le_of_ble_eq_true rfl) (ls' := [some (.inr (11, 0, 0)), o1, some (.inr (0, 0, 0)), some (.inl (.long x3)), none, some (.inl (.int x5)), some (.inr (14, 0, 1)), some (.inl (.int 0)), some (.inl (.int 0)), o9, o10]) rfl ?_
  exact h
set_option maxHeartbeats 1600000 in
theorem g_l_law_559 (g : ch_G) (R : Room) (E : ch_En) (k : Nat) (hR : ch_RR R 18) (hC : 120000 ≤ R.cells ∧ 720000 ≤ R.slots) (hk : k + 2600 ≤ 120000) (hch : l_CH g) (x3 : Int64) (x5 : Int32) (x7 : Int32) (x8 : Int32) (o9 : Option ch_V) (o10 : Option ch_V) (o1 : Option ch_V) (m : ch_M) (h : ((8 ≤ x8 → ch_J g m_l_law R E 629 [some (.inr (11, 0, 0)), o1, some (.inr (0, 0, 0)), some (.inl (.long x3)), none, some (.inl (.int x5)), some (.inr (14, 0, 1)), some (.inl (.int x7)), some (.inl (.int 1)), o9, o10] [] m k) ∧ (¬ 8 ≤ x8 → (∃ A_1 : a_G, (∃ Y_2 : ch_B, (∃ R_3 : Int32 × Int32 × Int32, (a_W A_1 Y_2 R_3 m) ∧ ((∀ (M4 : ch_M), (a_W A_1 Y_2 R_3 M4) → (∀ k_, k_ < 18 → M4 (14, 0, 1) k_ = m (14, 0, 1) k_) → (∀ m6 : ch_M, m6 = M4 → (¬ (20 + x8) < (0 : Int32)) ∧ ((ch_scr g).2.1 < 2 ^ 31) ∧ ((∃ A_14 : a_G, (∃ Y_15 : ch_B, (∃ R_16 : Int32 × Int32 × Int32, (a_W A_14 Y_15 R_16 m6) ∧ (A_14.1 + 1440 < 2 ^ 31) ∧ ((∀ (M17 : ch_M), (a_W (a_up A_14 (A_14.1 + 720) Y_15) (ch_ob M17 1 0) (M17 (3, 0, 0) 0, M17 (3, 0, 0) 1, M17 (3, 0, 0) 2) M17) → (∀ k_, k_ < 18 → M17 (14, 0, 1) k_ = m6 (14, 0, 1) k_) → (∀ m20 : ch_M, m20 = M17 → (vp_in x7 9) ∧ ∃ y26 z27 : Int32, ch_lw y26 z27 = (a_V (y_can Y_2)) ∧ (∀ m25 : ch_M, m25 = ch_wr (ch_wr m20 (14, 0, 1) (2 * Int32.toNatClampNeg x7) y26) (14, 0, 1) (2 * Int32.toNatClampNeg x7 + 1) z27 → ch_J g m_l_law R E 559 [some (.inr (11, 0, 0)), o1, some (.inr (0, 0, 0)), some (.inl (.long x3)), none, some (.inl (.int x5)), some (.inr (14, 0, 1)), some (.inl (.int (x7 + 1))), some (.inl (.int (x8 + 1))), some (.inl (.long (a_V (y_can Y_2)))), none] [] m25 (k + 1400)))) ∧ (∀ (M18 : ch_M), (a_W A_14 Y_15 (M18 (3, 0, 0) 0, M18 (3, 0, 0) 1, M18 (3, 0, 0) 2) M18) → (∀ k_, k_ < 18 → M18 (14, 0, 1) k_ = m6 (14, 0, 1) k_) → (∀ m20 : ch_M, m20 = M18 → (∃ A_28 : a_G, (∃ Y_29 : ch_B, (∃ R_30 : Int32 × Int32 × Int32, (a_W A_28 Y_29 R_30 m20) ∧ ((∀ (M31 : ch_M), (a_W A_28 Y_29 R_30 M31) → (∀ k_, k_ < 18 → M31 (14, 0, 1) k_ = m20 (14, 0, 1) k_) → (∀ m33 : ch_M, m33 = M31 → (((lg_cmp (a_V (y_can Y_29)) (a_V (y_can Y_2))) = 0 → ch_J g m_l_law R E 559 [some (.inr (11, 0, 0)), o1, some (.inr (0, 0, 0)), some (.inl (.long x3)), none, some (.inl (.int x5)), some (.inr (14, 0, 1)), some (.inl (.int x7)), some (.inl (.int (x8 + 1))), some (.inl (.long (a_V (y_can Y_2)))), none] [] m33 (k + 2600)) ∧ (¬ (lg_cmp (a_V (y_can Y_29)) (a_V (y_can Y_2))) = 0 → ch_J g m_l_law R E 619 [some (.inr (11, 0, 0)), o1, some (.inr (0, 0, 0)), some (.inl (.long x3)), none, some (.inl (.int x5)), some (.inr (14, 0, 1)), some (.inl (.int x7)), some (.inl (.int x8)), some (.inl (.long (a_V (y_can Y_2)))), none] [.inl (.int 0)] m33 (k + 2600))))))))))))))))))))))))) : ch_J g m_l_law R E 559 [some (.inr (11, 0, 0)), o1, some (.inr (0, 0, 0)), some (.inl (.long x3)), none, some (.inl (.int x5)), some (.inr (14, 0, 1)), some (.inl (.int x7)), some (.inl (.int x8)), o9, o10] [] m k := by
  refine ch_iload d_l_law_559 rfl ?_
  refine ch_bipush (v := 8) d_l_law_561 (by decide) ?_
  refine ch_icmp_ge (tgt := 626) d_l_law_563 (by decide) (fun c => ?_) (fun c => ?_)
  · replace h := h.1 c
    refine ch_iconst (v := 1) d_l_law_626 (by decide) ?_
    refine ch_istore (i := 8) d_l_law_627 (Nat.le_of_ble_eq_true rfl) (ls' := [some (.inr (11, 0, 0)), o1, some (.inr (0, 0, 0)), some (.inl (.long x3)), none, some (.inl (.int x5)), some (.inr (14, 0, 1)), some (.inl (.int x7)), some (.inl (.int 1)), o9, o10]) rfl ?_
    exact h
  · replace h := h.2 c
    refine ch_aload_n (i := 2) d_l_law_566 rfl rfl ?_
    obtain ⟨A_1, h⟩ := h
    obtain ⟨Y_2, h⟩ := h
    obtain ⟨R_3, h⟩ := h
    have b8 := h.1
    replace h := h.2
    refine ch_callS (as := [.inr (0, 0, 0)]) d_l_law_567 lk_l_254 ms_l_asks rfl rfl (ch_hR hR (Nat.le_of_ble_eq_true rfl)) (Nat.le_of_ble_eq_true rfl) (ch_rcL0 (b := 1200) hC hk (Nat.le_of_ble_eq_true rfl)) (ch_mono (ch_Kl (fun r5 m6 q7 => ?_)) (q_l_asks g (fun (r_ : Int64) (m_ : ch_M) => (∃ (M4 : ch_M), (a_V (y_can Y_2)) = r_ ∧ (a_W A_1 Y_2 R_3 M4) ∧ (∀ k_, k_ < 18 → M4 (14, 0, 1) k_ = m (14, 0, 1) k_) ∧ m_ = M4)) (A_1) (Y_2) (R_3) m ⟨b8, (fun M4 f0_ f1_ => ⟨M4, rfl, f0_, f1_, rfl⟩)⟩))
    obtain ⟨M4, rfl, f0_, f1_, hm_⟩ := q7
    replace h := h M4 f0_ f1_ m6 hm_
    refine ch_lstore (i := 9) d_l_law_570 (Nat.le_of_ble_eq_true rfl) (ls' := [some (.inr (11, 0, 0)), o1, some (.inr (0, 0, 0)), some (.inl (.long x3)), none, some (.inl (.int x5)), some (.inr (14, 0, 1)), some (.inl (.int x7)), some (.inl (.int x8)), some (.inl (.long (a_V (y_can Y_2)))), none]) rfl ?_
    refine ch_aload_n (i := 2) d_l_law_572 rfl rfl ?_
    refine ch_aload_n (i := 0) d_l_law_573 rfl rfl ?_
    refine ch_bipush (v := 20) d_l_law_574 (by decide) ?_
    refine ch_iload d_l_law_576 rfl ?_
    refine ch_iadd d_l_law_578 ?_
    have b12 := h.1
    replace h := h.2
    have b13 := h.1
    replace h := h.2
    refine ch_callS (as := [.inr (11, 0, 0), .inl (.int (20 + x8))]) d_l_law_579 lk_l_149 ms_l_at rfl rfl (ch_hR hR (Nat.le_of_ble_eq_true rfl)) (Nat.le_of_ble_eq_true rfl) (ch_rcL (a := 1200) (b := 0) hC hk (Nat.le_of_ble_eq_true rfl)) (ch_mono (ch_Ki (fun r9 m10 q11 => ?_)) (s_l_at g (fun (r_ : Int32) (m_ : ch_M) => ((l_atV g (20 + x8)) = r_ ∧ m6 = m_)) ((20 + x8)) m6 ⟨b12, b13, ⟨rfl, rfl⟩⟩))
    obtain ⟨rfl, rfl⟩ := q11
    replace h := h
    refine ch_iload d_l_law_582 rfl ?_
    refine ch_sipush (v := 977) d_l_law_584 (by decide) ?_
    refine ch_imul d_l_law_587 ?_
    refine ch_ixor d_l_law_588 ?_
    obtain ⟨A_14, h⟩ := h
    obtain ⟨Y_15, h⟩ := h
    obtain ⟨R_16, h⟩ := h
    have b22 := h.1
    replace h := h.2
    have b23 := h.1
    replace h := h.2
    refine ch_callS (as := [.inr (0, 0, 0), .inl (.int ((l_atV g (20 + x8)) ^^^ (x8 * 977)))]) d_l_law_589 lk_l_294 ms_l_changes rfl rfl (ch_hR hR (Nat.le_of_ble_eq_true rfl)) (Nat.le_of_ble_eq_true rfl) (ch_rcL (a := 1200) (b := 200) hC hk (Nat.le_of_ble_eq_true rfl)) (ch_mono (ch_Ki (fun r19 m20 q21 => ?_)) ((fun _ => c_l_changes g hch) g (fun (r_ : Int32) (m_ : ch_M) => (∃ (M17 : ch_M), 1 = r_ ∧ (a_W (a_up A_14 (A_14.1 + 720) Y_15) (ch_ob M17 1 0) (M17 (3, 0, 0) 0, M17 (3, 0, 0) 1, M17 (3, 0, 0) 2) M17) ∧ (∀ k_, k_ < 18 → M17 (14, 0, 1) k_ = m6 (14, 0, 1) k_) ∧ m_ = M17) ∨ (∃ (M18 : ch_M), 0 = r_ ∧ (a_W A_14 Y_15 (M18 (3, 0, 0) 0, M18 (3, 0, 0) 1, M18 (3, 0, 0) 2) M18) ∧ (∀ k_, k_ < 18 → M18 (14, 0, 1) k_ = m6 (14, 0, 1) k_) ∧ m_ = M18)) (A_14) (Y_15) (R_16) (((l_atV g (20 + x8)) ^^^ (x8 * 977))) m6 ⟨b22, b23, (fun M17 f0_ f1_ => (Or.inl ⟨M17, rfl, f0_, f1_, rfl⟩)), (fun M18 f0_ f1_ => (Or.inr ⟨M18, rfl, f0_, f1_, rfl⟩))⟩))
    rcases q21 with ⟨M17, rfl, f0_, f1_, hm_⟩ | ⟨M18, rfl, f0_, f1_, hm_⟩
    · replace h := h.1 M17 f0_ f1_ m20 hm_
      refine ch_if_eq (tgt := 608) d_l_law_592 (by decide) (fun c => absurd c (by decide)) (fun _ => ?_)
      refine ch_aload d_l_law_595 rfl ?_
      refine ch_iload d_l_law_597 rfl ?_
      refine ch_iinc (i := 7) (v := (x7 + 1)) d_l_law_599 rfl rfl (Nat.le_of_ble_eq_true rfl) (ls' := [some (.inr (11, 0, 0)), o1, some (.inr (0, 0, 0)), some (.inl (.long x3)), none, some (.inl (.int x5)), some (.inr (14, 0, 1)), some (.inl (.int (x7 + 1))), some (.inl (.int x8)), some (.inl (.long (a_V (y_can Y_2)))), none]) rfl ?_
      refine ch_lload d_l_law_602 rfl ?_
      have b24 := h.1
      replace h := h.2
      obtain ⟨y26, z27, hw, h⟩ := h
      refine ch_last (n := 9) d_l_law_604 (by decide) rfl b24 hw ?_
      show ch_J g _ _ _ _ _ _ (ch_wr (ch_wr m20 (14, 0, 1) (2 * Int32.toNatClampNeg x7) y26) (14, 0, 1) (2 * Int32.toNatClampNeg x7 + 1) z27) _
      generalize hmm25 : ch_wr (ch_wr m20 (14, 0, 1) (2 * Int32.toNatClampNeg x7) y26) (14, 0, 1) (2 * Int32.toNatClampNeg x7 + 1) z27 = m25
      replace h := h m25 hmm25.symm
      refine ch_goto (tgt := 620) d_l_law_605 (by decide) ?_
      refine ch_iinc (i := 8) (v := (x8 + 1)) d_l_law_620 rfl rfl (Nat.le_of_ble_eq_true rfl) (ls' := [some (.inr (11, 0, 0)), o1, some (.inr (0, 0, 0)), some (.inl (.long x3)), none, some (.inl (.int x5)), some (.inr (14, 0, 1)), some (.inl (.int (x7 + 1))), some (.inl (.int (x8 + 1))), some (.inl (.long (a_V (y_can Y_2)))), none]) rfl ?_
      refine ch_goto (tgt := 559) d_l_law_623 (by decide) ?_
      exact h
    · replace h := h.2 M18 f0_ f1_ m20 hm_
      refine ch_if_eq (tgt := 608) d_l_law_592 (by decide) (fun _ => ?_) (fun c => absurd c (by decide))
      refine ch_aload_n (i := 2) d_l_law_608 rfl rfl ?_
      obtain ⟨A_28, h⟩ := h
      obtain ⟨Y_29, h⟩ := h
      obtain ⟨R_30, h⟩ := h
      have b35 := h.1
      replace h := h.2
      refine ch_callS (as := [.inr (0, 0, 0)]) d_l_law_609 lk_l_254 ms_l_asks rfl rfl (ch_hR hR (Nat.le_of_ble_eq_true rfl)) (Nat.le_of_ble_eq_true rfl) (ch_rcL (a := 1400) (b := 1200) hC hk (Nat.le_of_ble_eq_true rfl)) (ch_mono (ch_Kl (fun r32 m33 q34 => ?_)) (q_l_asks g (fun (r_ : Int64) (m_ : ch_M) => (∃ (M31 : ch_M), (a_V (y_can Y_29)) = r_ ∧ (a_W A_28 Y_29 R_30 M31) ∧ (∀ k_, k_ < 18 → M31 (14, 0, 1) k_ = m20 (14, 0, 1) k_) ∧ m_ = M31)) (A_28) (Y_29) (R_30) m20 ⟨b35, (fun M31 f0_ f1_ => ⟨M31, rfl, f0_, f1_, rfl⟩)⟩))
      obtain ⟨M31, rfl, f0_, f1_, hm_⟩ := q34
      replace h := h M31 f0_ f1_ m33 hm_
      refine ch_lload d_l_law_612 rfl ?_
      refine ch_lcmp d_l_law_614 ?_
      refine ch_if_eq (tgt := 620) d_l_law_615 (by decide) (fun c => ?_) (fun c => ?_)
      · replace h := h.1 c
        refine ch_iinc (i := 8) (v := (x8 + 1)) d_l_law_620 rfl rfl (Nat.le_of_ble_eq_true rfl) (ls' := [some (.inr (11, 0, 0)), o1, some (.inr (0, 0, 0)), some (.inl (.long x3)), none, some (.inl (.int x5)), some (.inr (14, 0, 1)), some (.inl (.int x7)), some (.inl (.int (x8 + 1))), some (.inl (.long (a_V (y_can Y_2)))), none]) rfl ?_
        refine ch_goto (tgt := 559) d_l_law_623 (by decide) ?_
        exact h
      · replace h := h.2 c
        refine ch_iconst (v := 0) d_l_law_618 (by decide) ?_
        exact h
set_option maxHeartbeats 1600000 in
theorem g_l_law_629 (g : ch_G) (R : Room) (E : ch_En) (k : Nat) (hR : ch_RR R 18) (hC : 120000 ≤ R.cells ∧ 720000 ≤ R.slots) (hk : k + 1201 ≤ 120000) (x3 : Int64) (x5 : Int32) (x7 : Int32) (x8 : Int32) (o9 : Option ch_V) (o10 : Option ch_V) (o1 : Option ch_V) (m : ch_M) (h : ((x7 < x8 → ch_J g m_l_law R E 686 [some (.inr (11, 0, 0)), o1, some (.inr (0, 0, 0)), some (.inl (.long x3)), none, some (.inl (.int x5)), some (.inr (14, 0, 1)), some (.inl (.int x7)), some (.inl (.int x8)), o9, o10] [] m k) ∧ (¬ x7 < x8 → (∃ A_1 : a_G, (∃ Y_2 : ch_B, (∃ R_3 : Int32 × Int32 × Int32, (a_W A_1 Y_2 R_3 m) ∧ (¬ A_1.2.1 = 0) ∧ ((∀ (M4 : ch_M), (a_W (a_dn A_1) (A_1.2.2.1 0) (M4 (3, 0, 0) 0, M4 (3, 0, 0) 1, M4 (3, 0, 0) 2) M4) → (∀ k_, M4 (14, 0, 1) k_ = m (14, 0, 1) k_) → (∀ m6 : ch_M, m6 = M4 → (((nI (A_1.2.1 - 1)) < (x7 - x8) → ch_J g m_l_law R E 679 [some (.inr (11, 0, 0)), o1, some (.inr (0, 0, 0)), some (.inl (.long x3)), none, some (.inl (.int x5)), some (.inr (14, 0, 1)), some (.inl (.int x7)), some (.inl (.int x8)), some (.inl (.int (nI (A_1.2.1 - 1)))), o10] [.inl (.int 0)] m6 (k + 1)) ∧ (¬ (nI (A_1.2.1 - 1)) < (x7 - x8) → (((8 - x8) < (nI (A_1.2.1 - 1)) → ch_J g m_l_law R E 679 [some (.inr (11, 0, 0)), o1, some (.inr (0, 0, 0)), some (.inl (.long x3)), none, some (.inl (.int x5)), some (.inr (14, 0, 1)), some (.inl (.int x7)), some (.inl (.int x8)), some (.inl (.int (nI (A_1.2.1 - 1)))), o10] [.inl (.int 0)] m6 (k + 1)) ∧ (¬ (8 - x8) < (nI (A_1.2.1 - 1)) → (∃ A_10 : a_G, (∃ Y_11 : ch_B, (∃ R_12 : Int32 × Int32 × Int32, (a_W A_10 Y_11 R_12 m6) ∧ ((∀ (M13 : ch_M), (a_W A_10 Y_11 R_12 M13) → (∀ k_, k_ < 18 → M13 (14, 0, 1) k_ = m6 (14, 0, 1) k_) → (∀ m15 : ch_M, m15 = M13 → (vp_in (x7 - x8) 9) ∧ (((lg_cmp (a_V (y_can Y_11)) (ch_lw (m15 (14, 0, 1) (2 * Int32.toNatClampNeg (x7 - x8))) (m15 (14, 0, 1) (2 * Int32.toNatClampNeg (x7 - x8) + 1)))) = 0 → ch_J g m_l_law R E 629 [some (.inr (11, 0, 0)), o1, some (.inr (0, 0, 0)), some (.inl (.long x3)), none, some (.inl (.int x5)), some (.inr (14, 0, 1)), some (.inl (.int x7)), some (.inl (.int (x8 + 1))), some (.inl (.int (nI (A_1.2.1 - 1)))), o10] [] m15 (k + 1201)) ∧ (¬ (lg_cmp (a_V (y_can Y_11)) (ch_lw (m15 (14, 0, 1) (2 * Int32.toNatClampNeg (x7 - x8))) (m15 (14, 0, 1) (2 * Int32.toNatClampNeg (x7 - x8) + 1)))) = 0 → ch_J g m_l_law R E 679 [some (.inr (11, 0, 0)), o1, some (.inr (0, 0, 0)), some (.inl (.long x3)), none, some (.inl (.int x5)), some (.inr (14, 0, 1)), some (.inl (.int x7)), some (.inl (.int x8)), some (.inl (.int (nI (A_1.2.1 - 1)))), o10] [.inl (.int 0)] m15 (k + 1201)))))))))))))))))))))) : ch_J g m_l_law R E 629 [some (.inr (11, 0, 0)), o1, some (.inr (0, 0, 0)), some (.inl (.long x3)), none, some (.inl (.int x5)), some (.inr (14, 0, 1)), some (.inl (.int x7)), some (.inl (.int x8)), o9, o10] [] m k := by
  refine ch_iload d_l_law_629 rfl ?_
  refine ch_iload d_l_law_631 rfl ?_
  refine ch_icmp_gt (tgt := 686) d_l_law_633 (by decide) (fun c => ?_) (fun c => ?_)
  · replace h := h.1 c
    exact h
  · replace h := h.2 c
    refine ch_aload_n (i := 2) d_l_law_636 rfl rfl ?_
    obtain ⟨A_1, h⟩ := h
    obtain ⟨Y_2, h⟩ := h
    obtain ⟨R_3, h⟩ := h
    have b8 := h.1
    replace h := h.2
    have b9 := h.1
    replace h := h.2
    refine ch_callSX (as := [.inr (0, 0, 0)]) d_l_law_637 lk_l_279 ms_l_undo rfl rfl (ch_hR hR (Nat.le_of_ble_eq_true rfl)) (Nat.le_of_ble_eq_true rfl) (ch_rcL0 (b := 1) hC hk (Nat.le_of_ble_eq_true rfl)) (ch_mono (ch_Ki (fun r5 m6 q7 => ?_)) (c_l_undo g (fun (r_ : Int32) (m_ : ch_M) => (∃ (M4 : ch_M), (nI (A_1.2.1 - 1)) = r_ ∧ (a_W (a_dn A_1) (A_1.2.2.1 0) (M4 (3, 0, 0) 0, M4 (3, 0, 0) 1, M4 (3, 0, 0) 2) M4) ∧ (∀ k_, M4 (14, 0, 1) k_ = m (14, 0, 1) k_) ∧ m_ = M4)) (A_1) (Y_2) (R_3) m ⟨b8, b9, (fun M4 f0_ f1_ => ⟨M4, rfl, f0_, f1_, rfl⟩)⟩))
    obtain ⟨M4, rfl, f0_, f1_, hm_⟩ := q7
    replace h := h M4 f0_ f1_ m6 hm_
    refine ch_istore (i := 9) d_l_law_640 (Nat.le_of_ble_eq_true rfl) (ls' := [some (.inr (11, 0, 0)), o1, some (.inr (0, 0, 0)), some (.inl (.long x3)), none, some (.inl (.int x5)), some (.inr (14, 0, 1)), some (.inl (.int x7)), some (.inl (.int x8)), some (.inl (.int (nI (A_1.2.1 - 1)))), o10]) rfl ?_
    refine ch_iload d_l_law_642 rfl ?_
    refine ch_iload d_l_law_644 rfl ?_
    refine ch_iload d_l_law_646 rfl ?_
    refine ch_isub d_l_law_648 ?_
    refine ch_icmp_lt (tgt := 678) d_l_law_649 (by decide) (fun c => ?_) (fun c => ?_)
    · replace h := h.1 c
      refine ch_iconst (v := 0) d_l_law_678 (by decide) ?_
      exact h
    · replace h := h.2 c
      refine ch_iload d_l_law_652 rfl ?_
      refine ch_bipush (v := 8) d_l_law_654 (by decide) ?_
      refine ch_iload d_l_law_656 rfl ?_
      refine ch_isub d_l_law_658 ?_
      refine ch_icmp_gt (tgt := 678) d_l_law_659 (by decide) (fun c => ?_) (fun c => ?_)
      · replace h := h.1 c
        refine ch_iconst (v := 0) d_l_law_678 (by decide) ?_
        exact h
      · replace h := h.2 c
        refine ch_aload_n (i := 2) d_l_law_662 rfl rfl ?_
        obtain ⟨A_10, h⟩ := h
        obtain ⟨Y_11, h⟩ := h
        obtain ⟨R_12, h⟩ := h
        have b17 := h.1
        replace h := h.2
        refine ch_callS (as := [.inr (0, 0, 0)]) d_l_law_663 lk_l_254 ms_l_asks rfl rfl (ch_hR hR (Nat.le_of_ble_eq_true rfl)) (Nat.le_of_ble_eq_true rfl) (ch_rcL (a := 1) (b := 1200) hC hk (Nat.le_of_ble_eq_true rfl)) (ch_mono (ch_Kl (fun r14 m15 q16 => ?_)) (q_l_asks g (fun (r_ : Int64) (m_ : ch_M) => (∃ (M13 : ch_M), (a_V (y_can Y_11)) = r_ ∧ (a_W A_10 Y_11 R_12 M13) ∧ (∀ k_, k_ < 18 → M13 (14, 0, 1) k_ = m6 (14, 0, 1) k_) ∧ m_ = M13)) (A_10) (Y_11) (R_12) m6 ⟨b17, (fun M13 f0_ f1_ => ⟨M13, rfl, f0_, f1_, rfl⟩)⟩))
        obtain ⟨M13, rfl, f0_, f1_, hm_⟩ := q16
        replace h := h M13 f0_ f1_ m15 hm_
        refine ch_aload d_l_law_666 rfl ?_
        refine ch_iload d_l_law_668 rfl ?_
        refine ch_iload d_l_law_670 rfl ?_
        refine ch_isub d_l_law_672 ?_
        have b18 := h.1
        replace h := h.2
        refine ch_lald (n := 9) d_l_law_673 (by decide) rfl b18 ?_
        refine ch_lcmp d_l_law_674 ?_
        refine ch_if_eq (tgt := 680) d_l_law_675 (by decide) (fun c => ?_) (fun c => ?_)
        · replace h := h.1 c
          refine ch_iinc (i := 8) (v := (x8 + 1)) d_l_law_680 rfl rfl (Nat.le_of_ble_eq_true rfl) (ls' := [some (.inr (11, 0, 0)), o1, some (.inr (0, 0, 0)), some (.inl (.long x3)), none, some (.inl (.int x5)), some (.inr (14, 0, 1)), some (.inl (.int x7)), some (.inl (.int (x8 + 1))), some (.inl (.int (nI (A_1.2.1 - 1)))), o10]) rfl ?_
          refine ch_goto (tgt := 629) d_l_law_683 (by decide) ?_
          exact h
        · replace h := h.2 c
          refine ch_iconst (v := 0) d_l_law_678 (by decide) ?_
          exact h
set_option maxHeartbeats 1600000 in
theorem g_l_law_686 (g : ch_G) (R : Room) (E : ch_En) (k : Nat) (hR : ch_RR R 18) (hC : 120000 ≤ R.cells ∧ 720000 ≤ R.slots) (hk : k + 1 ≤ 120000) (x3 : Int64) (x5 : Int32) (x7 : Int32) (x8 : Int32) (o9 : Option ch_V) (o10 : Option ch_V) (o1 : Option ch_V) (m : ch_M) (h : (∃ A_1 : a_G, (∃ Y_2 : ch_B, (∃ R_3 : Int32 × Int32 × Int32, (a_W A_1 Y_2 R_3 m) ∧ (¬ A_1.2.2.2.1.1 = 0) ∧ ((∀ (M4 : ch_M), (a_W (a_re A_1) A_1.2.2.2.1.2 (M4 (3, 0, 0) 0, M4 (3, 0, 0) 1, M4 (3, 0, 0) 2) M4) → (∀ k_, M4 (14, 0, 1) k_ = m (14, 0, 1) k_) → (∀ m6 : ch_M, m6 = M4 → ((¬ (A_1.2.2.2.1.2 0 8) = x5 → ch_J g m_l_law R E 737 [some (.inr (11, 0, 0)), o1, some (.inr (0, 0, 0)), some (.inl (.long x3)), none, some (.inl (.int x5)), some (.inr (14, 0, 1)), some (.inl (.int x7)), some (.inl (.int x8)), o9, o10] [.inl (.int 0)] m6 (k + 1)) ∧ ((A_1.2.2.2.1.2 0 8) = x5 → ch_J g m_l_law R E 695 [some (.inr (11, 0, 0)), o1, some (.inr (0, 0, 0)), some (.inl (.long x3)), none, some (.inl (.int x5)), some (.inr (14, 0, 1)), some (.inl (.int x7)), some (.inl (.int x8)), o9, o10] [] m6 (k + 1)))))))))) : ch_J g m_l_law R E 686 [some (.inr (11, 0, 0)), o1, some (.inr (0, 0, 0)), some (.inl (.long x3)), none, some (.inl (.int x5)), some (.inr (14, 0, 1)), some (.inl (.int x7)), some (.inl (.int x8)), o9, o10] [] m k := by
  refine ch_aload_n (i := 2) d_l_law_686 rfl rfl ?_
  obtain ⟨A_1, h⟩ := h
  obtain ⟨Y_2, h⟩ := h
  obtain ⟨R_3, h⟩ := h
  have b8 := h.1
  replace h := h.2
  have b9 := h.1
  replace h := h.2
  refine ch_callSX (as := [.inr (0, 0, 0)]) d_l_law_687 lk_l_281 ms_l_restore rfl rfl (ch_hR hR (Nat.le_of_ble_eq_true rfl)) (Nat.le_of_ble_eq_true rfl) (ch_rcL0 (b := 1) hC hk (Nat.le_of_ble_eq_true rfl)) (ch_mono (ch_Ki (fun r5 m6 q7 => ?_)) (c_l_restore g (fun (r_ : Int32) (m_ : ch_M) => (∃ (M4 : ch_M), (A_1.2.2.2.1.2 0 8) = r_ ∧ (a_W (a_re A_1) A_1.2.2.2.1.2 (M4 (3, 0, 0) 0, M4 (3, 0, 0) 1, M4 (3, 0, 0) 2) M4) ∧ (∀ k_, M4 (14, 0, 1) k_ = m (14, 0, 1) k_) ∧ m_ = M4)) (A_1) (Y_2) (R_3) m ⟨b8, b9, (fun M4 f0_ f1_ => ⟨M4, rfl, f0_, f1_, rfl⟩)⟩))
  obtain ⟨M4, rfl, f0_, f1_, hm_⟩ := q7
  replace h := h M4 f0_ f1_ m6 hm_
  refine ch_iload d_l_law_690 rfl ?_
  refine ch_icmp_ne (tgt := 736) d_l_law_692 (by decide) (fun c => ?_) (fun c => ?_)
  · replace h := h.1 c
    refine ch_iconst (v := 0) d_l_law_736 (by decide) ?_
    exact h
  · replace h := h.2 c
    exact h
set_option maxHeartbeats 1600000 in
theorem g_l_law_705 (g : ch_G) (R : Room) (E : ch_En) (k : Nat) (hR : ch_RR R 18) (hC : 120000 ≤ R.cells ∧ 720000 ≤ R.slots) (hk : k + 2401 ≤ 120000) (x3 : Int64) (x5 : Int32) (x7 : Int32) (x8 : Int32) (o9 : Option ch_V) (o10 : Option ch_V) (o1 : Option ch_V) (m : ch_M) (h : (∃ A_1 : a_G, (∃ Y_2 : ch_B, (∃ R_3 : Int32 × Int32 × Int32, (a_W A_1 Y_2 R_3 m) ∧ ((∀ (M4 : ch_M), (a_W A_1 Y_2 R_3 M4) → (∀ k_, k_ < 18 → M4 (14, 0, 1) k_ = m (14, 0, 1) k_) → (∀ m6 : ch_M, m6 = M4 → ((¬ (lg_cmp (a_V (y_can Y_2)) x3) = 0 → ch_J g m_l_law R E 737 [some (.inr (11, 0, 0)), o1, some (.inr (0, 0, 0)), some (.inl (.long x3)), none, some (.inl (.int x5)), some (.inr (14, 0, 1)), some (.inl (.int x7)), some (.inl (.int x8)), o9, o10] [.inl (.int 0)] m6 (k + 1200)) ∧ ((lg_cmp (a_V (y_can Y_2)) x3) = 0 → (∃ A_9 : a_G, (∃ Y_10 : ch_B, (∃ R_11 : Int32 × Int32 × Int32, (a_W A_9 Y_10 R_11 m6) ∧ (¬ A_9.2.2.2.1.1 = 0) ∧ ((∀ (M12 : ch_M), (a_W (a_re A_9) A_9.2.2.2.1.2 (M12 (3, 0, 0) 0, M12 (3, 0, 0) 1, M12 (3, 0, 0) 2) M12) → (∀ k_, M12 (14, 0, 1) k_ = m6 (14, 0, 1) k_) → (∀ m14 : ch_M, m14 = M12 → ((¬ (A_9.2.2.2.1.2 0 8) = x5 → ch_J g m_l_law R E 737 [some (.inr (11, 0, 0)), o1, some (.inr (0, 0, 0)), some (.inl (.long x3)), none, some (.inl (.int x5)), some (.inr (14, 0, 1)), some (.inl (.int x7)), some (.inl (.int x8)), o9, o10] [.inl (.int 0)] m14 (k + 1201)) ∧ ((A_9.2.2.2.1.2 0 8) = x5 → (∃ A_18 : a_G, (∃ Y_19 : ch_B, (∃ R_20 : Int32 × Int32 × Int32, (a_W A_18 Y_19 R_20 m14) ∧ ((∀ (M21 : ch_M), (a_W A_18 Y_19 R_20 M21) → (∀ k_, k_ < 18 → M21 (14, 0, 1) k_ = m14 (14, 0, 1) k_) → (∀ m23 : ch_M, m23 = M21 → ((¬ (lg_cmp (a_V (y_can Y_19)) x3) = 0 → ch_J g m_l_law R E 737 [some (.inr (11, 0, 0)), o1, some (.inr (0, 0, 0)), some (.inl (.long x3)), none, some (.inl (.int x5)), some (.inr (14, 0, 1)), some (.inl (.int x7)), some (.inl (.int x8)), o9, o10] [.inl (.int 0)] m23 (k + 2401)) ∧ ((lg_cmp (a_V (y_can Y_19)) x3) = 0 → ch_J g m_l_law R E 737 [some (.inr (11, 0, 0)), o1, some (.inr (0, 0, 0)), some (.inl (.long x3)), none, some (.inl (.int x5)), some (.inr (14, 0, 1)), some (.inl (.int x7)), some (.inl (.int x8)), o9, o10] [.inl (.int 1)] m23 (k + 2401)))))))))))))))))))))))))) : ch_J g m_l_law R E 705 [some (.inr (11, 0, 0)), o1, some (.inr (0, 0, 0)), some (.inl (.long x3)), none, some (.inl (.int x5)), some (.inr (14, 0, 1)), some (.inl (.int x7)), some (.inl (.int x8)), o9, o10] [] m k := by
  refine ch_aload_n (i := 2) d_l_law_705 rfl rfl ?_
  obtain ⟨A_1, h⟩ := h
  obtain ⟨Y_2, h⟩ := h
  obtain ⟨R_3, h⟩ := h
  have b8 := h.1
  replace h := h.2
  refine ch_callS (as := [.inr (0, 0, 0)]) d_l_law_706 lk_l_254 ms_l_asks rfl rfl (ch_hR hR (Nat.le_of_ble_eq_true rfl)) (Nat.le_of_ble_eq_true rfl) (ch_rcL0 (b := 1200) hC hk (Nat.le_of_ble_eq_true rfl)) (ch_mono (ch_Kl (fun r5 m6 q7 => ?_)) (q_l_asks g (fun (r_ : Int64) (m_ : ch_M) => (∃ (M4 : ch_M), (a_V (y_can Y_2)) = r_ ∧ (a_W A_1 Y_2 R_3 M4) ∧ (∀ k_, k_ < 18 → M4 (14, 0, 1) k_ = m (14, 0, 1) k_) ∧ m_ = M4)) (A_1) (Y_2) (R_3) m ⟨b8, (fun M4 f0_ f1_ => ⟨M4, rfl, f0_, f1_, rfl⟩)⟩))
  obtain ⟨M4, rfl, f0_, f1_, hm_⟩ := q7
  replace h := h M4 f0_ f1_ m6 hm_
  refine ch_lload_n (i := 3) d_l_law_709 rfl rfl ?_
  refine ch_lcmp d_l_law_710 ?_
  refine ch_if_ne (tgt := 736) d_l_law_711 (by decide) (fun c => ?_) (fun c => ?_)
  · replace h := h.1 c
    refine ch_iconst (v := 0) d_l_law_736 (by decide) ?_
    exact h
  · replace h := h.2 c
    refine ch_aload_n (i := 2) d_l_law_714 rfl rfl ?_
    obtain ⟨A_9, h⟩ := h
    obtain ⟨Y_10, h⟩ := h
    obtain ⟨R_11, h⟩ := h
    have b16 := h.1
    replace h := h.2
    have b17 := h.1
    replace h := h.2
    refine ch_callSX (as := [.inr (0, 0, 0)]) d_l_law_715 lk_l_281 ms_l_restore rfl rfl (ch_hR hR (Nat.le_of_ble_eq_true rfl)) (Nat.le_of_ble_eq_true rfl) (ch_rcL (a := 1200) (b := 1) hC hk (Nat.le_of_ble_eq_true rfl)) (ch_mono (ch_Ki (fun r13 m14 q15 => ?_)) (c_l_restore g (fun (r_ : Int32) (m_ : ch_M) => (∃ (M12 : ch_M), (A_9.2.2.2.1.2 0 8) = r_ ∧ (a_W (a_re A_9) A_9.2.2.2.1.2 (M12 (3, 0, 0) 0, M12 (3, 0, 0) 1, M12 (3, 0, 0) 2) M12) ∧ (∀ k_, M12 (14, 0, 1) k_ = m6 (14, 0, 1) k_) ∧ m_ = M12)) (A_9) (Y_10) (R_11) m6 ⟨b16, b17, (fun M12 f0_ f1_ => ⟨M12, rfl, f0_, f1_, rfl⟩)⟩))
    obtain ⟨M12, rfl, f0_, f1_, hm_⟩ := q15
    replace h := h M12 f0_ f1_ m14 hm_
    refine ch_iload d_l_law_718 rfl ?_
    refine ch_icmp_ne (tgt := 736) d_l_law_720 (by decide) (fun c => ?_) (fun c => ?_)
    · replace h := h.1 c
      refine ch_iconst (v := 0) d_l_law_736 (by decide) ?_
      exact h
    · replace h := h.2 c
      refine ch_aload_n (i := 2) d_l_law_723 rfl rfl ?_
      obtain ⟨A_18, h⟩ := h
      obtain ⟨Y_19, h⟩ := h
      obtain ⟨R_20, h⟩ := h
      have b25 := h.1
      replace h := h.2
      refine ch_callS (as := [.inr (0, 0, 0)]) d_l_law_724 lk_l_254 ms_l_asks rfl rfl (ch_hR hR (Nat.le_of_ble_eq_true rfl)) (Nat.le_of_ble_eq_true rfl) (ch_rcL (a := 1201) (b := 1200) hC hk (Nat.le_of_ble_eq_true rfl)) (ch_mono (ch_Kl (fun r22 m23 q24 => ?_)) (q_l_asks g (fun (r_ : Int64) (m_ : ch_M) => (∃ (M21 : ch_M), (a_V (y_can Y_19)) = r_ ∧ (a_W A_18 Y_19 R_20 M21) ∧ (∀ k_, k_ < 18 → M21 (14, 0, 1) k_ = m14 (14, 0, 1) k_) ∧ m_ = M21)) (A_18) (Y_19) (R_20) m14 ⟨b25, (fun M21 f0_ f1_ => ⟨M21, rfl, f0_, f1_, rfl⟩)⟩))
      obtain ⟨M21, rfl, f0_, f1_, hm_⟩ := q24
      replace h := h M21 f0_ f1_ m23 hm_
      refine ch_lload_n (i := 3) d_l_law_727 rfl rfl ?_
      refine ch_lcmp d_l_law_728 ?_
      refine ch_if_ne (tgt := 736) d_l_law_729 (by decide) (fun c => ?_) (fun c => ?_)
      · replace h := h.1 c
        refine ch_iconst (v := 0) d_l_law_736 (by decide) ?_
        exact h
      · replace h := h.2 c
        refine ch_iconst (v := 1) d_l_law_732 (by decide) ?_
        refine ch_goto (tgt := 737) d_l_law_733 (by decide) ?_
        exact h
set_option maxHeartbeats 1600000 in
theorem g_l_law_695 (g : ch_G) (R : Room) (E : ch_En) (k : Nat) (hR : ch_RR R 18) (hC : 120000 ≤ R.cells ∧ 720000 ≤ R.slots) (hk : k + 1 ≤ 120000) (x3 : Int64) (x5 : Int32) (x7 : Int32) (x8 : Int32) (o9 : Option ch_V) (o10 : Option ch_V) (o1 : Option ch_V) (m : ch_M) (h : (∃ A_1 : a_G, (∃ Y_2 : ch_B, (∃ R_3 : Int32 × Int32 × Int32, (a_W A_1 Y_2 R_3 m) ∧ (A_1.2.1 = 0) ∧ (ch_J g m_l_law R E 705 [some (.inr (11, 0, 0)), o1, some (.inr (0, 0, 0)), some (.inl (.long x3)), none, some (.inl (.int x5)), some (.inr (14, 0, 1)), some (.inl (.int x7)), some (.inl (.int x8)), o9, o10] [] m (k + 1)))))) : ch_J g m_l_law R E 695 [some (.inr (11, 0, 0)), o1, some (.inr (0, 0, 0)), some (.inl (.long x3)), none, some (.inl (.int x5)), some (.inr (14, 0, 1)), some (.inl (.int x7)), some (.inl (.int x8)), o9, o10] [] m k := by
  refine ch_aload_n (i := 2) d_l_law_695 rfl rfl ?_
  obtain ⟨A_1, h⟩ := h
  obtain ⟨Y_2, h⟩ := h
  obtain ⟨R_3, h⟩ := h
  have b7 := h.1
  replace h := h.2
  have b8 := h.1
  replace h := h.2
  refine ch_callSX (as := [.inr (0, 0, 0)]) d_l_law_696 lk_l_279 ms_l_undo rfl rfl (ch_hR hR (Nat.le_of_ble_eq_true rfl)) (Nat.le_of_ble_eq_true rfl) (ch_rcL0 (b := 1) hC hk (Nat.le_of_ble_eq_true rfl)) (ch_mono (ch_Ki (fun r4 m5 q6 => ?_)) (f_l_undo g (fun (r_ : Int32) (m_ : ch_M) => ((-1001) = r_ ∧ m = m_)) (A_1) (Y_2) (R_3) m ⟨b7, b8, ⟨rfl, rfl⟩⟩))
  obtain ⟨rfl, rfl⟩ := q6
  replace h := h
  refine ch_sipush (v := (-1001)) d_l_law_699 (by decide) ?_
  refine ch_icmp_ne (tgt := 736) d_l_law_702 (by decide) (fun c => absurd c (by decide)) (fun _ => ?_)
  exact h
