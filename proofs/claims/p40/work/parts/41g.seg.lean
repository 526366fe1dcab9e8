set_option maxHeartbeats 1600000 in
theorem g_l_refused_1326 (g : ch_G) (Q : ch_O → ch_M → Prop) (k : Nat) (hk : k + 80 ≤ 6000) (x1 : Int64) (x3 : Int32) (x5 : Int32) (o6 : Option ch_V) (m : ch_M) (h : (∃ A_1 : a_G, (∃ Y_2 : ch_B, (∃ R_3 : Int32 × Int32 × Int32, (a_W A_1 Y_2 R_3 m) ∧ (3 = 3) ∧ (l_tx g) ∧ ((∀ (M4 : ch_M), (a_W A_1 Y_2 (M4 (3, 0, 0) 0, M4 (3, 0, 0) 1, M4 (3, 0, 0) 2) M4) → (M4 (0, 0, 0) 13 = 0) → (∀ m6 : ch_M, m6 = M4 → (((¬ (m6 (0, 0, 0) 13) = 0 → Q (.inl (some (.inl (.int 0)))) m6) ∧ ((m6 (0, 0, 0) 13) = 0 → ch_J g m_l_refused (ch_rm m_l_refused) (ch_E g m_l_refused Q) 1346 [some (.inr (0, 0, 0)), some (.inl (.long x1)), none, some (.inl (.int x3)), some (.inl (.int 1)), some (.inl (.int x5)), o6] [] m6 (k + 80))))))))))) : ch_J g m_l_refused (ch_rm m_l_refused) (ch_E g m_l_refused Q) 1326 [some (.inr (0, 0, 0)), some (.inl (.long x1)), none, some (.inl (.int x3)), some (.inl (.int 1)), some (.inl (.int x5)), o6] [] m k := by
  refine ch_aload_n (i := 0) d_l_refused_1326 rfl rfl ?_
  refine ch_ldcS_w (i := 3) d_l_refused_1327 rfl rfl ?_
  obtain ⟨A_1, h⟩ := h
  obtain ⟨Y_2, h⟩ := h
  obtain ⟨R_3, h⟩ := h
  have b8 := h.1
  replace h := h.2
  have b9 := h.1
  replace h := h.2
  have b10 := h.1
  replace h := h.2
  refine ch_callS (as := [.inr (0, 0, 0), .inr (12, 3, 0)]) d_l_refused_1330 lk_l_248 ms_l_runs rfl rfl ⟨Nat.le_of_ble_eq_true rfl, Nat.le_of_ble_eq_true rfl⟩ (Nat.le_of_ble_eq_true rfl) (ch_rk0 (b := 80) hk (Nat.le_of_ble_eq_true rfl) (Nat.le_of_ble_eq_true rfl)) (ch_mono (ch_Ki (fun r5 m6 q7 => ?_)) (r3_l_runs g (fun (r_ : Int32) (m_ : ch_M) => (∃ (M4 : ch_M), (-1001) = r_ ∧ (a_W A_1 Y_2 (M4 (3, 0, 0) 0, M4 (3, 0, 0) 1, M4 (3, 0, 0) 2) M4) ∧ (M4 (0, 0, 0) 13 = 0) ∧ m_ = M4)) (A_1) (Y_2) (R_3) (3) m ⟨b8, b9, b10, (fun M4 f0_ f1_ => ⟨M4, rfl, f0_, f1_, rfl⟩)⟩))
  obtain ⟨M4, rfl, f0_, f1_, hm_⟩ := q7
  replace h := h M4 f0_ f1_ m6 hm_
  refine ch_sipush (v := (-1001)) d_l_refused_1333 (by decide) ?_
  refine ch_icmp_ne (tgt := 1414) d_l_refused_1336 (by decide) (fun c => absurd c (by decide)) (fun _ => ?_)
  refine ch_aload_n (i := 0) d_l_refused_1339 rfl rfl ?_
  refine ch_callV (as := []) d_l_refused_1340 lk_l_271 mi_x_faultPosition me_x_faultPosition rfl rfl rfl ⟨Nat.le_of_ble_eq_true rfl, Nat.le_of_ble_eq_true rfl⟩ (Nat.le_of_ble_eq_true rfl) (ch_rk (a := 80) (b := 0) hk (Nat.le_of_ble_eq_true rfl) (Nat.le_of_ble_eq_true rfl)) (ch_mono (ch_Ki (fun r11 m12 q13 => ?_)) (s_x_faultPosition g (fun (r_ : Int32) (m_ : ch_M) => ((m6 (0, 0, 0) 13) = r_ ∧ m6 = m_))  m6 ⟨rfl, rfl⟩))
  obtain ⟨rfl, rfl⟩ := q13
  replace h := h
  refine ch_if_ne (tgt := 1414) d_l_refused_1343 (by decide) (fun c => ?_) (fun c => ?_)
  · replace h := h.1 c
    refine ch_iconst (v := 0) d_l_refused_1414 (by decide) ?_
    exact ch_iret (ty := .boolean) d_l_refused_1415 rfl rfl (show (k + 80) ≤ 6000 by omega) h
  · replace h := h.2 c
    exact h
set_option maxHeartbeats 1600000 in
theorem g_l_refused_1346 (g : ch_G) (Q : ch_O → ch_M → Prop) (k : Nat) (hk : k + 84 ≤ 6000) (x1 : Int64) (x3 : Int32) (x5 : Int32) (o6 : Option ch_V) (m : ch_M) (h : (∃ A_1 : a_G, (∃ Y_2 : ch_B, (∃ R_3 : Int32 × Int32 × Int32, (a_W A_1 Y_2 R_3 m) ∧ (4 = 4) ∧ (l_tx g) ∧ ((2 : Int32) ≤ Y_2 0 8) ∧ ((∀ (M4 : ch_M), (a_W A_1 Y_2 (3, Y_2 0 8, 2) M4) → (∀ m6 : ch_M, m6 = M4 → (∃ A_12 : a_G, (∃ Y_13 : ch_B, (a_W A_12 Y_13 (3, x3, 2) m6) ∧ (¬ 3 = (0 : Int32)) ∧ (ch_J g m_l_refused (ch_rm m_l_refused) (ch_E g m_l_refused Q) 1369 [some (.inr (0, 0, 0)), some (.inl (.long x1)), none, some (.inl (.int x3)), some (.inl (.int 1)), some (.inl (.int x5)), o6] [] m6 (k + 84))))))))))) : ch_J g m_l_refused (ch_rm m_l_refused) (ch_E g m_l_refused Q) 1346 [some (.inr (0, 0, 0)), some (.inl (.long x1)), none, some (.inl (.int x3)), some (.inl (.int 1)), some (.inl (.int x5)), o6] [] m k := by
  refine ch_aload_n (i := 0) d_l_refused_1346 rfl rfl ?_
  refine ch_ldcS_w (i := 4) d_l_refused_1347 rfl rfl ?_
  obtain ⟨A_1, h⟩ := h
  obtain ⟨Y_2, h⟩ := h
  obtain ⟨R_3, h⟩ := h
  have b8 := h.1
  replace h := h.2
  have b9 := h.1
  replace h := h.2
  have b10 := h.1
  replace h := h.2
  have b11 := h.1
  replace h := h.2
  refine ch_callS (as := [.inr (0, 0, 0), .inr (12, 4, 0)]) d_l_refused_1350 lk_l_248 ms_l_runs rfl rfl ⟨Nat.le_of_ble_eq_true rfl, Nat.le_of_ble_eq_true rfl⟩ (Nat.le_of_ble_eq_true rfl) (ch_rk0 (b := 80) hk (Nat.le_of_ble_eq_true rfl) (Nat.le_of_ble_eq_true rfl)) (ch_mono (ch_Ki (fun r5 m6 q7 => ?_)) (r4_l_runs g (fun (r_ : Int32) (m_ : ch_M) => (∃ (M4 : ch_M), (-1002) = r_ ∧ (a_W A_1 Y_2 (3, Y_2 0 8, 2) M4) ∧ m_ = M4)) (A_1) (Y_2) (R_3) (4) m ⟨b8, b9, b10, b11, (fun M4 f0_ => ⟨M4, rfl, f0_, rfl⟩)⟩))
  obtain ⟨M4, rfl, f0_, hm_⟩ := q7
  replace h := h M4 f0_ m6 hm_
  refine ch_sipush (v := (-1002)) d_l_refused_1353 (by decide) ?_
  refine ch_icmp_ne (tgt := 1414) d_l_refused_1356 (by decide) (fun c => absurd c (by decide)) (fun _ => ?_)
  refine ch_aload_n (i := 0) d_l_refused_1359 rfl rfl ?_
  refine ch_iconst (v := 2) d_l_refused_1360 (by decide) ?_
  refine ch_iconst (v := 3) d_l_refused_1361 (by decide) ?_
  refine ch_iload_n (i := 3) d_l_refused_1362 rfl rfl ?_
  obtain ⟨A_12, h⟩ := h
  obtain ⟨Y_13, h⟩ := h
  have b17 := h.1
  replace h := h.2
  have b18 := h.1
  replace h := h.2
  refine ch_callS (as := [.inr (0, 0, 0), .inl (.int 2), .inl (.int 3), .inl (.int x3)]) d_l_refused_1363 lk_l_137 ms_l_isAt rfl rfl ⟨Nat.le_of_ble_eq_true rfl, Nat.le_of_ble_eq_true rfl⟩ (Nat.le_of_ble_eq_true rfl) (ch_rk (a := 80) (b := 4) hk (Nat.le_of_ble_eq_true rfl) (Nat.le_of_ble_eq_true rfl)) (ch_mono (ch_Ki (fun r14 m15 q16 => ?_)) (r_l_isAt g (fun (r_ : Int32) (m_ : ch_M) => (1 = r_ ∧ m6 = m_)) (A_12) (Y_13) (2) (3) (x3) m6 ⟨b17, b18, ⟨rfl, rfl⟩⟩))
  obtain ⟨rfl, rfl⟩ := q16
  replace h := h
  refine ch_if_eq (tgt := 1414) d_l_refused_1366 (by decide) (fun c => absurd c (by decide)) (fun _ => ?_)
  exact h
set_option maxHeartbeats 1600000 in
theorem g_l_refused_1369 (g : ch_G) (Q : ch_O → ch_M → Prop) (k : Nat) (hk : k + 1284 ≤ 6000) (x1 : Int64) (x3 : Int32) (x5 : Int32) (o6 : Option ch_V) (m : ch_M) (h : (∃ A_1 : a_G, (∃ Y_2 : ch_B, (∃ R_3 : Int32 × Int32 × Int32, (a_W A_1 Y_2 R_3 m) ∧ (5 = 5) ∧ (l_tx g) ∧ ((2 : Int32) ≤ Y_2 0 8) ∧ ((∀ (M4 : ch_M), (a_W A_1 Y_2 (11, 1, 1) M4) → (M4 (0, 0, 0) 13 = -1) → (∀ m6 : ch_M, m6 = M4 → (∃ A_12 : a_G, (∃ Y_13 : ch_B, (a_W A_12 Y_13 (11, 1, 1) m6) ∧ (¬ 11 = (0 : Int32)) ∧ ((((¬ (m6 (0, 0, 0) 13) = (-1) → Q (.inl (some (.inl (.int 0)))) m6) ∧ ((m6 (0, 0, 0) 13) = (-1) → (∃ A_22 : a_G, (∃ Y_23 : ch_B, (∃ R_24 : Int32 × Int32 × Int32, (a_W A_22 Y_23 R_24 m6) ∧ ((∀ (M25 : ch_M), (a_W A_22 Y_23 R_24 M25) → (∀ m27 : ch_M, m27 = M25 → ((¬ (lg_cmp (a_V (y_can Y_23)) x1) = 0 → Q (.inl (some (.inl (.int 0)))) m27) ∧ ((lg_cmp (a_V (y_can Y_23)) x1) = 0 → Q (.inl (some (.inl (.int 1)))) m27))))))))))))))))))))) : ch_J g m_l_refused (ch_rm m_l_refused) (ch_E g m_l_refused Q) 1369 [some (.inr (0, 0, 0)), some (.inl (.long x1)), none, some (.inl (.int x3)), some (.inl (.int 1)), some (.inl (.int x5)), o6] [] m k := by
  refine ch_aload_n (i := 0) d_l_refused_1369 rfl rfl ?_
  refine ch_ldcS_w (i := 5) d_l_refused_1370 rfl rfl ?_
  obtain ⟨A_1, h⟩ := h
  obtain ⟨Y_2, h⟩ := h
  obtain ⟨R_3, h⟩ := h
  have b8 := h.1
  replace h := h.2
  have b9 := h.1
  replace h := h.2
  have b10 := h.1
  replace h := h.2
  have b11 := h.1
  replace h := h.2
  refine ch_callS (as := [.inr (0, 0, 0), .inr (12, 5, 0)]) d_l_refused_1373 lk_l_248 ms_l_runs rfl rfl ⟨Nat.le_of_ble_eq_true rfl, Nat.le_of_ble_eq_true rfl⟩ (Nat.le_of_ble_eq_true rfl) (ch_rk0 (b := 80) hk (Nat.le_of_ble_eq_true rfl) (Nat.le_of_ble_eq_true rfl)) (ch_mono (ch_Ki (fun r5 m6 q7 => ?_)) (r5_l_runs g (fun (r_ : Int32) (m_ : ch_M) => (∃ (M4 : ch_M), (-1002) = r_ ∧ (a_W A_1 Y_2 (11, 1, 1) M4) ∧ (M4 (0, 0, 0) 13 = -1) ∧ m_ = M4)) (A_1) (Y_2) (R_3) (5) m ⟨b8, b9, b10, b11, (fun M4 f0_ f1_ => ⟨M4, rfl, f0_, f1_, rfl⟩)⟩))
  obtain ⟨M4, rfl, f0_, f1_, hm_⟩ := q7
  replace h := h M4 f0_ f1_ m6 hm_
  refine ch_sipush (v := (-1002)) d_l_refused_1376 (by decide) ?_
  refine ch_icmp_ne (tgt := 1414) d_l_refused_1379 (by decide) (fun c => absurd c (by decide)) (fun _ => ?_)
  refine ch_aload_n (i := 0) d_l_refused_1382 rfl rfl ?_
  refine ch_iconst (v := 1) d_l_refused_1383 (by decide) ?_
  refine ch_bipush (v := 11) d_l_refused_1384 (by decide) ?_
  refine ch_iconst (v := 1) d_l_refused_1386 (by decide) ?_
  obtain ⟨A_12, h⟩ := h
  obtain ⟨Y_13, h⟩ := h
  have b17 := h.1
  replace h := h.2
  have b18 := h.1
  replace h := h.2
  refine ch_callS (as := [.inr (0, 0, 0), .inl (.int 1), .inl (.int 11), .inl (.int 1)]) d_l_refused_1387 lk_l_137 ms_l_isAt rfl rfl ⟨Nat.le_of_ble_eq_true rfl, Nat.le_of_ble_eq_true rfl⟩ (Nat.le_of_ble_eq_true rfl) (ch_rk (a := 80) (b := 4) hk (Nat.le_of_ble_eq_true rfl) (Nat.le_of_ble_eq_true rfl)) (ch_mono (ch_Ki (fun r14 m15 q16 => ?_)) (r_l_isAt g (fun (r_ : Int32) (m_ : ch_M) => (1 = r_ ∧ m6 = m_)) (A_12) (Y_13) (1) (11) (1) m6 ⟨b17, b18, ⟨rfl, rfl⟩⟩))
  obtain ⟨rfl, rfl⟩ := q16
  replace h := h
  refine ch_if_eq (tgt := 1414) d_l_refused_1390 (by decide) (fun c => absurd c (by decide)) (fun _ => ?_)
  refine ch_aload_n (i := 0) d_l_refused_1393 rfl rfl ?_
  refine ch_callV (as := []) d_l_refused_1394 lk_l_271 mi_x_faultPosition me_x_faultPosition rfl rfl rfl ⟨Nat.le_of_ble_eq_true rfl, Nat.le_of_ble_eq_true rfl⟩ (Nat.le_of_ble_eq_true rfl) (ch_rk (a := 84) (b := 0) hk (Nat.le_of_ble_eq_true rfl) (Nat.le_of_ble_eq_true rfl)) (ch_mono (ch_Ki (fun r19 m20 q21 => ?_)) (s_x_faultPosition g (fun (r_ : Int32) (m_ : ch_M) => ((m6 (0, 0, 0) 13) = r_ ∧ m6 = m_))  m6 ⟨rfl, rfl⟩))
  obtain ⟨rfl, rfl⟩ := q21
  replace h := h
  refine ch_iconst (v := (-1)) d_l_refused_1397 (by decide) ?_
  refine ch_icmp_ne (tgt := 1414) d_l_refused_1398 (by decide) (fun c => ?_) (fun c => ?_)
  · replace h := h.1 c
    refine ch_iconst (v := 0) d_l_refused_1414 (by decide) ?_
    exact ch_iret (ty := .boolean) d_l_refused_1415 rfl rfl (show (k + 84) ≤ 6000 by omega) h
  · replace h := h.2 c
    refine ch_aload_n (i := 0) d_l_refused_1401 rfl rfl ?_
    obtain ⟨A_22, h⟩ := h
    obtain ⟨Y_23, h⟩ := h
    obtain ⟨R_24, h⟩ := h
    have b29 := h.1
    replace h := h.2
    refine ch_callS (as := [.inr (0, 0, 0)]) d_l_refused_1402 lk_l_254 ms_l_asks rfl rfl ⟨Nat.le_of_ble_eq_true rfl, Nat.le_of_ble_eq_true rfl⟩ (Nat.le_of_ble_eq_true rfl) (ch_rk (a := 84) (b := 1200) hk (Nat.le_of_ble_eq_true rfl) (Nat.le_of_ble_eq_true rfl)) (ch_mono (ch_Kl (fun r26 m27 q28 => ?_)) (r_l_asks g (fun (r_ : Int64) (m_ : ch_M) => (∃ (M25 : ch_M), (a_V (y_can Y_23)) = r_ ∧ (a_W A_22 Y_23 R_24 M25) ∧ m_ = M25)) (A_22) (Y_23) (R_24) m6 ⟨b29, (fun M25 f0_ => ⟨M25, rfl, f0_, rfl⟩)⟩))
    obtain ⟨M25, rfl, f0_, hm_⟩ := q28
    replace h := h M25 f0_ m27 hm_
    refine ch_lload_n (i := 1) d_l_refused_1405 rfl rfl ?_
    refine ch_lcmp d_l_refused_1406 ?_
    refine ch_if_ne (tgt := 1414) d_l_refused_1407 (by decide) (fun c => ?_) (fun c => ?_)
    · replace h := h.1 c
      refine ch_iconst (v := 0) d_l_refused_1414 (by decide) ?_
      exact ch_iret (ty := .boolean) d_l_refused_1415 rfl rfl (show (k + 1284) ≤ 6000 by omega) h
    · replace h := h.2 c
      refine ch_iconst (v := 1) d_l_refused_1410 (by decide) ?_
      refine ch_goto (tgt := 1415) d_l_refused_1411 (by decide) ?_
      exact ch_iret (ty := .boolean) d_l_refused_1415 rfl rfl (show (k + 1284) ≤ 6000 by omega) h
