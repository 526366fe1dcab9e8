theorem e_x_child (g : ch_G) (Q : ch_O → ch_M → Prop) (p1 : Int32) (m : ch_M) (h : ch_J g m_x_child (ch_rm m_x_child) (ch_E g m_x_child Q) 0 [some (.inr (0, 0, 0)), some (.inl (.int p1))] [] m 0) : ch_C g m_x_child [.inr (0, 0, 0), .inl (.int p1)] m Q :=
  ch_enter mf_x_child (by intro v hv; simp only [List.mem_cons, List.not_mem_nil, or_false] at hv; rcases hv with rfl | rfl <;> rfl) (Nat.le_of_ble_eq_true rfl) h
set_option maxHeartbeats 1600000 in
theorem g_x_child_0 (g : ch_G) (Q : ch_O → ch_M → Prop) (p1 : Int32) (m : ch_M) (h : ((∀ m2 : ch_M, m2 = ch_os m 4 0 (c_setB (ch_ob m 4 0) 110 0 0 p1) → (vp_in (m2 (1, 0, 0) 8) 6) ∧ (vp_in (m2 (5, 0, 0) 1) 13) ∧ (vp_in (m2 (2, 0, 0) 1) 8) ∧ ((x_R m2).1 = 0 → y_carP (ch_ob m2 1 0) (ch_ob m2 4 0) (m2 (5, 0, 0) 1)) ∧ ((((x_R m2).1 = 0) → (∀ m5 : ch_M, m5 = ch_os (p_kM m2 0) 1 0 (x_C m2).2 → Q (.inl (some (.inl (.int ((x_C m2).1))))) m5)) ∧ ((¬ (x_R m2).1 = 0) → (∀ m12 : ch_M, m12 = r_kp m2 (x_R m2).1 (x_R m2).2 → Q (.inr 0) m12)))))) : ch_J g m_x_child (ch_rm m_x_child) (ch_E g m_x_child Q) 0 [some (.inr (0, 0, 0)), some (.inl (.int p1))] [] m 0 := by
  refine ch_aload_n (i := 0) d_x_child_0 rfl rfl ?_
  refine ch_get (v := .inr (4, 0, 0)) d_x_child_1 fl_x_42 rfl ?_
  refine ch_bipush (v := 110) d_x_child_4 (by decide) ?_
  refine ch_iconst (v := 0) d_x_child_6 (by decide) ?_
  refine ch_iconst (v := 0) d_x_child_7 (by decide) ?_
  refine ch_iload_n (i := 1) d_x_child_8 rfl rfl ?_
  refine ch_callV (as := [.inl (.int 110), .inl (.int 0), .inl (.int 0), .inl (.int p1)]) d_x_child_9 lk_x_81 mi_c_set me_c_set rfl rfl rfl ⟨Nat.le_of_ble_eq_true rfl, Nat.le_of_ble_eq_true rfl⟩ (Nat.le_of_ble_eq_true rfl) ⟨Nat.le_of_ble_eq_true rfl, Nat.le_of_ble_eq_true rfl⟩ (ch_mono (ch_Kv (fun m2 q3 => ?_)) (s_c_set g (fun (m_ : ch_M) => (m_ = ch_os m 4 0 (c_setB (ch_ob m 4 0) 110 0 0 p1))) (110) (0) (0) (p1) m rfl))
  have hm_ := q3
  replace h := h m2 hm_
  refine ch_aload_n (i := 0) d_x_child_12 rfl rfl ?_
  have b7 := h.1
  replace h := h.2
  have b8 := h.1
  replace h := h.2
  have b9 := h.1
  replace h := h.2
  have b10 := h.1
  replace h := h.2
  refine ch_callV (as := []) d_x_child_13 lk_x_85 mi_x_change me_x_change rfl rfl rfl ⟨Nat.le_of_ble_eq_true rfl, Nat.le_of_ble_eq_true rfl⟩ (Nat.le_of_ble_eq_true rfl) ⟨Nat.le_of_ble_eq_true rfl, Nat.le_of_ble_eq_true rfl⟩ (ch_mono (ch_Kx (ch_Ki (fun r4 m5 q6 => ?_)) (fun n11 m12 hn_ q6 => ?_)) (s_x_change g (fun (r_ : Int32) (m_ : ch_M) => (((x_R m2).1 = 0) ∧ ((x_C m2).1) = r_ ∧ m_ = ch_os (p_kM m2 0) 1 0 (x_C m2).2)) (fun (n_ : Nat) (m_ : ch_M) => ((¬ (x_R m2).1 = 0) ∧ n_ = 0 ∧ m_ = r_kp m2 (x_R m2).1 (x_R m2).2))  m2 ⟨b7, b8, b9, b10, (fun c_ => ⟨c_, rfl, rfl⟩), (fun c_ => ⟨c_, rfl, rfl⟩)⟩))
  · obtain ⟨c_, rfl, hm_⟩ := q6
    replace h := h.1 c_ m5 hm_
    exact ch_iret (ty := .int) d_x_child_16 rfl rfl (Nat.le_of_ble_eq_true rfl) h
  · obtain ⟨c_, rfl, hm_⟩ := q6
    replace h := h.2 c_ m12 hm_
    exact ch_xout rfl (Nat.le_of_ble_eq_true rfl) h
theorem e_x_chalk (g : ch_G) (Q : ch_O → ch_M → Prop) (p1 : Int32) (p2 : Int32) (m : ch_M) (h : ch_J g m_x_chalk (ch_rm m_x_chalk) (ch_E g m_x_chalk Q) 0 [some (.inr (0, 0, 0)), some (.inl (.int p1)), some (.inl (.int p2))] [] m 0) : ch_C g m_x_chalk [.inr (0, 0, 0), .inl (.int p1), .inl (.int p2)] m Q :=
  ch_enter mf_x_chalk (by intro v hv; simp only [List.mem_cons, List.not_mem_nil, or_false] at hv; rcases hv with rfl | rfl | rfl <;> rfl) (Nat.le_of_ble_eq_true rfl) h
set_option maxHeartbeats 1600000 in
theorem g_x_chalk_0 (g : ch_G) (Q : ch_O → ch_M → Prop) (p1 : Int32) (p2 : Int32) (m : ch_M) (h : ((∀ m2 : ch_M, m2 = ch_os m 4 0 (c_setB (ch_ob m 4 0) 99 p1 0 p2) → (vp_in (m2 (1, 0, 0) 8) 6) ∧ (vp_in (m2 (5, 0, 0) 1) 13) ∧ (vp_in (m2 (2, 0, 0) 1) 8) ∧ ((x_R m2).1 = 0 → y_carP (ch_ob m2 1 0) (ch_ob m2 4 0) (m2 (5, 0, 0) 1)) ∧ ((((x_R m2).1 = 0) → (∀ m5 : ch_M, m5 = ch_os (p_kM m2 0) 1 0 (x_C m2).2 → Q (.inl (some (.inl (.int ((x_C m2).1))))) m5)) ∧ ((¬ (x_R m2).1 = 0) → (∀ m12 : ch_M, m12 = r_kp m2 (x_R m2).1 (x_R m2).2 → Q (.inr 0) m12)))))) : ch_J g m_x_chalk (ch_rm m_x_chalk) (ch_E g m_x_chalk Q) 0 [some (.inr (0, 0, 0)), some (.inl (.int p1)), some (.inl (.int p2))] [] m 0 := by
  refine ch_aload_n (i := 0) d_x_chalk_0 rfl rfl ?_
  refine ch_get (v := .inr (4, 0, 0)) d_x_chalk_1 fl_x_42 rfl ?_
  refine ch_bipush (v := 99) d_x_chalk_4 (by decide) ?_
  refine ch_iload_n (i := 1) d_x_chalk_6 rfl rfl ?_
  refine ch_iconst (v := 0) d_x_chalk_7 (by decide) ?_
  refine ch_iload_n (i := 2) d_x_chalk_8 rfl rfl ?_
  refine ch_callV (as := [.inl (.int 99), .inl (.int p1), .inl (.int 0), .inl (.int p2)]) d_x_chalk_9 lk_x_81 mi_c_set me_c_set rfl rfl rfl ⟨Nat.le_of_ble_eq_true rfl, Nat.le_of_ble_eq_true rfl⟩ (Nat.le_of_ble_eq_true rfl) ⟨Nat.le_of_ble_eq_true rfl, Nat.le_of_ble_eq_true rfl⟩ (ch_mono (ch_Kv (fun m2 q3 => ?_)) (s_c_set g (fun (m_ : ch_M) => (m_ = ch_os m 4 0 (c_setB (ch_ob m 4 0) 99 p1 0 p2))) (99) (p1) (0) (p2) m rfl))
  have hm_ := q3
  replace h := h m2 hm_
  refine ch_aload_n (i := 0) d_x_chalk_12 rfl rfl ?_
  have b7 := h.1
  replace h := h.2
  have b8 := h.1
  replace h := h.2
  have b9 := h.1
  replace h := h.2
  have b10 := h.1
  replace h := h.2
  refine ch_callV (as := []) d_x_chalk_13 lk_x_85 mi_x_change me_x_change rfl rfl rfl ⟨Nat.le_of_ble_eq_true rfl, Nat.le_of_ble_eq_true rfl⟩ (Nat.le_of_ble_eq_true rfl) ⟨Nat.le_of_ble_eq_true rfl, Nat.le_of_ble_eq_true rfl⟩ (ch_mono (ch_Kx (ch_Ki (fun r4 m5 q6 => ?_)) (fun n11 m12 hn_ q6 => ?_)) (s_x_change g (fun (r_ : Int32) (m_ : ch_M) => (((x_R m2).1 = 0) ∧ ((x_C m2).1) = r_ ∧ m_ = ch_os (p_kM m2 0) 1 0 (x_C m2).2)) (fun (n_ : Nat) (m_ : ch_M) => ((¬ (x_R m2).1 = 0) ∧ n_ = 0 ∧ m_ = r_kp m2 (x_R m2).1 (x_R m2).2))  m2 ⟨b7, b8, b9, b10, (fun c_ => ⟨c_, rfl, rfl⟩), (fun c_ => ⟨c_, rfl, rfl⟩)⟩))
  · obtain ⟨c_, rfl, hm_⟩ := q6
    replace h := h.1 c_ m5 hm_
    exact ch_iret (ty := .int) d_x_chalk_16 rfl rfl (Nat.le_of_ble_eq_true rfl) h
  · obtain ⟨c_, rfl, hm_⟩ := q6
    replace h := h.2 c_ m12 hm_
    exact ch_xout rfl (Nat.le_of_ble_eq_true rfl) h
theorem e_x_hop (g : ch_G) (Q : ch_O → ch_M → Prop) (p1 : Int32) (p2 : Int32) (m : ch_M) (h : ch_J g m_x_hop (ch_rm m_x_hop) (ch_E g m_x_hop Q) 0 [some (.inr (0, 0, 0)), some (.inl (.int p1)), some (.inl (.int p2))] [] m 0) : ch_C g m_x_hop [.inr (0, 0, 0), .inl (.int p1), .inl (.int p2)] m Q :=
  ch_enter mf_x_hop (by intro v hv; simp only [List.mem_cons, List.not_mem_nil, or_false] at hv; rcases hv with rfl | rfl | rfl <;> rfl) (Nat.le_of_ble_eq_true rfl) h
set_option maxHeartbeats 1600000 in
theorem g_x_hop_0 (g : ch_G) (Q : ch_O → ch_M → Prop) (p1 : Int32) (p2 : Int32) (m : ch_M) (h : ((∀ m2 : ch_M, m2 = ch_os m 4 0 (c_setB (ch_ob m 4 0) 104 p1 0 0) → ((∀ m5 : ch_M, m5 = ch_os m2 5 0 (s_rfB (ch_ob m2 5 0) p2) → (vp_in (m5 (1, 0, 0) 8) 6) ∧ (vp_in (m5 (5, 0, 0) 1) 13) ∧ (vp_in (m5 (2, 0, 0) 1) 8) ∧ ((x_R m5).1 = 0 → y_carP (ch_ob m5 1 0) (ch_ob m5 4 0) (m5 (5, 0, 0) 1)) ∧ ((((x_R m5).1 = 0) → (∀ m8 : ch_M, m8 = ch_os (p_kM m5 0) 1 0 (x_C m5).2 → Q (.inl (some (.inl (.int ((x_C m5).1))))) m8)) ∧ ((¬ (x_R m5).1 = 0) → (∀ m15 : ch_M, m15 = r_kp m5 (x_R m5).1 (x_R m5).2 → Q (.inr 0) m15)))))))) : ch_J g m_x_hop (ch_rm m_x_hop) (ch_E g m_x_hop Q) 0 [some (.inr (0, 0, 0)), some (.inl (.int p1)), some (.inl (.int p2))] [] m 0 := by
  refine ch_aload_n (i := 0) d_x_hop_0 rfl rfl ?_
  refine ch_get (v := .inr (4, 0, 0)) d_x_hop_1 fl_x_42 rfl ?_
  refine ch_bipush (v := 104) d_x_hop_4 (by decide) ?_
  refine ch_iload_n (i := 1) d_x_hop_6 rfl rfl ?_
  refine ch_iconst (v := 0) d_x_hop_7 (by decide) ?_
  refine ch_iconst (v := 0) d_x_hop_8 (by decide) ?_
  refine ch_callV (as := [.inl (.int 104), .inl (.int p1), .inl (.int 0), .inl (.int 0)]) d_x_hop_9 lk_x_81 mi_c_set me_c_set rfl rfl rfl ⟨Nat.le_of_ble_eq_true rfl, Nat.le_of_ble_eq_true rfl⟩ (Nat.le_of_ble_eq_true rfl) ⟨Nat.le_of_ble_eq_true rfl, Nat.le_of_ble_eq_true rfl⟩ (ch_mono (ch_Kv (fun m2 q3 => ?_)) (s_c_set g (fun (m_ : ch_M) => (m_ = ch_os m 4 0 (c_setB (ch_ob m 4 0) 104 p1 0 0))) (104) (p1) (0) (0) m rfl))
  have hm_ := q3
  replace h := h m2 hm_
  refine ch_aload_n (i := 0) d_x_hop_12 rfl rfl ?_
  refine ch_get (v := .inr (4, 0, 0)) d_x_hop_13 fl_x_42 rfl ?_
  refine ch_get (v := .inr (5, 0, 0)) d_x_hop_16 fl_x_89 rfl ?_
  refine ch_iload_n (i := 2) d_x_hop_19 rfl rfl ?_
  refine ch_callV (as := [.inl (.int p2)]) d_x_hop_20 lk_x_92 mi_s_readFrom me_s_readFrom rfl rfl rfl ⟨Nat.le_of_ble_eq_true rfl, Nat.le_of_ble_eq_true rfl⟩ (Nat.le_of_ble_eq_true rfl) ⟨Nat.le_of_ble_eq_true rfl, Nat.le_of_ble_eq_true rfl⟩ (ch_mono (ch_Kv (fun m5 q6 => ?_)) (s_s_readFrom g (fun (m_ : ch_M) => (m_ = ch_os m2 5 0 (s_rfB (ch_ob m2 5 0) p2))) (0) (p2) m2 rfl))
  have hm_ := q6
  replace h := h m5 hm_
  refine ch_aload_n (i := 0) d_x_hop_23 rfl rfl ?_
  have b10 := h.1
  replace h := h.2
  have b11 := h.1
  replace h := h.2
  have b12 := h.1
  replace h := h.2
  have b13 := h.1
  replace h := h.2
  refine ch_callV (as := []) d_x_hop_24 lk_x_85 mi_x_change me_x_change rfl rfl rfl ⟨Nat.le_of_ble_eq_true rfl, Nat.le_of_ble_eq_true rfl⟩ (Nat.le_of_ble_eq_true rfl) ⟨Nat.le_of_ble_eq_true rfl, Nat.le_of_ble_eq_true rfl⟩ (ch_mono (ch_Kx (ch_Ki (fun r7 m8 q9 => ?_)) (fun n14 m15 hn_ q9 => ?_)) (s_x_change g (fun (r_ : Int32) (m_ : ch_M) => (((x_R m5).1 = 0) ∧ ((x_C m5).1) = r_ ∧ m_ = ch_os (p_kM m5 0) 1 0 (x_C m5).2)) (fun (n_ : Nat) (m_ : ch_M) => ((¬ (x_R m5).1 = 0) ∧ n_ = 0 ∧ m_ = r_kp m5 (x_R m5).1 (x_R m5).2))  m5 ⟨b10, b11, b12, b13, (fun c_ => ⟨c_, rfl, rfl⟩), (fun c_ => ⟨c_, rfl, rfl⟩)⟩))
  · obtain ⟨c_, rfl, hm_⟩ := q9
    replace h := h.1 c_ m8 hm_
    exact ch_iret (ty := .int) d_x_hop_27 rfl rfl (Nat.le_of_ble_eq_true rfl) h
  · obtain ⟨c_, rfl, hm_⟩ := q9
    replace h := h.2 c_ m15 hm_
    exact ch_xout rfl (Nat.le_of_ble_eq_true rfl) h
theorem e_x_warrant (g : ch_G) (Q : ch_O → ch_M → Prop) (p1 : Int32) (m : ch_M) (h : ch_J g m_x_warrant (ch_rm m_x_warrant) (ch_E g m_x_warrant Q) 0 [some (.inr (0, 0, 0)), some (.inl (.int p1))] [] m 0) : ch_C g m_x_warrant [.inr (0, 0, 0), .inl (.int p1)] m Q :=
  ch_enter mf_x_warrant (by intro v hv; simp only [List.mem_cons, List.not_mem_nil, or_false] at hv; rcases hv with rfl | rfl <;> rfl) (Nat.le_of_ble_eq_true rfl) h
set_option maxHeartbeats 1600000 in
theorem g_x_warrant_0 (g : ch_G) (Q : ch_O → ch_M → Prop) (p1 : Int32) (m : ch_M) (h : ((∀ m2 : ch_M, m2 = ch_os m 4 0 (c_setB (ch_ob m 4 0) 119 p1 0 0) → (vp_in (m2 (1, 0, 0) 8) 6) ∧ (vp_in (m2 (5, 0, 0) 1) 13) ∧ (vp_in (m2 (2, 0, 0) 1) 8) ∧ ((x_R m2).1 = 0 → y_carP (ch_ob m2 1 0) (ch_ob m2 4 0) (m2 (5, 0, 0) 1)) ∧ ((((x_R m2).1 = 0) → (∀ m5 : ch_M, m5 = ch_os (p_kM m2 0) 1 0 (x_C m2).2 → Q (.inl (some (.inl (.int ((x_C m2).1))))) m5)) ∧ ((¬ (x_R m2).1 = 0) → (∀ m12 : ch_M, m12 = r_kp m2 (x_R m2).1 (x_R m2).2 → Q (.inr 0) m12)))))) : ch_J g m_x_warrant (ch_rm m_x_warrant) (ch_E g m_x_warrant Q) 0 [some (.inr (0, 0, 0)), some (.inl (.int p1))] [] m 0 := by
  refine ch_aload_n (i := 0) d_x_warrant_0 rfl rfl ?_
  refine ch_get (v := .inr (4, 0, 0)) d_x_warrant_1 fl_x_42 rfl ?_
  refine ch_bipush (v := 119) d_x_warrant_4 (by decide) ?_
  refine ch_iload_n (i := 1) d_x_warrant_6 rfl rfl ?_
  refine ch_iconst (v := 0) d_x_warrant_7 (by decide) ?_
  refine ch_iconst (v := 0) d_x_warrant_8 (by decide) ?_
  refine ch_callV (as := [.inl (.int 119), .inl (.int p1), .inl (.int 0), .inl (.int 0)]) d_x_warrant_9 lk_x_81 mi_c_set me_c_set rfl rfl rfl ⟨Nat.le_of_ble_eq_true rfl, Nat.le_of_ble_eq_true rfl⟩ (Nat.le_of_ble_eq_true rfl) ⟨Nat.le_of_ble_eq_true rfl, Nat.le_of_ble_eq_true rfl⟩ (ch_mono (ch_Kv (fun m2 q3 => ?_)) (s_c_set g (fun (m_ : ch_M) => (m_ = ch_os m 4 0 (c_setB (ch_ob m 4 0) 119 p1 0 0))) (119) (p1) (0) (0) m rfl))
  have hm_ := q3
  replace h := h m2 hm_
  refine ch_aload_n (i := 0) d_x_warrant_12 rfl rfl ?_
  have b7 := h.1
  replace h := h.2
  have b8 := h.1
  replace h := h.2
  have b9 := h.1
  replace h := h.2
  have b10 := h.1
  replace h := h.2
  refine ch_callV (as := []) d_x_warrant_13 lk_x_85 mi_x_change me_x_change rfl rfl rfl ⟨Nat.le_of_ble_eq_true rfl, Nat.le_of_ble_eq_true rfl⟩ (Nat.le_of_ble_eq_true rfl) ⟨Nat.le_of_ble_eq_true rfl, Nat.le_of_ble_eq_true rfl⟩ (ch_mono (ch_Kx (ch_Ki (fun r4 m5 q6 => ?_)) (fun n11 m12 hn_ q6 => ?_)) (s_x_change g (fun (r_ : Int32) (m_ : ch_M) => (((x_R m2).1 = 0) ∧ ((x_C m2).1) = r_ ∧ m_ = ch_os (p_kM m2 0) 1 0 (x_C m2).2)) (fun (n_ : Nat) (m_ : ch_M) => ((¬ (x_R m2).1 = 0) ∧ n_ = 0 ∧ m_ = r_kp m2 (x_R m2).1 (x_R m2).2))  m2 ⟨b7, b8, b9, b10, (fun c_ => ⟨c_, rfl, rfl⟩), (fun c_ => ⟨c_, rfl, rfl⟩)⟩))
  · obtain ⟨c_, rfl, hm_⟩ := q6
    replace h := h.1 c_ m5 hm_
    exact ch_iret (ty := .int) d_x_warrant_16 rfl rfl (Nat.le_of_ble_eq_true rfl) h
  · obtain ⟨c_, rfl, hm_⟩ := q6
    replace h := h.2 c_ m12 hm_
    exact ch_xout rfl (Nat.le_of_ble_eq_true rfl) h
theorem e_x_strike (g : ch_G) (Q : ch_O → ch_M → Prop) (p1 : Int32) (m : ch_M) (h : ch_J g m_x_strike (ch_rm m_x_strike) (ch_E g m_x_strike Q) 0 [some (.inr (0, 0, 0)), some (.inl (.int p1))] [] m 0) : ch_C g m_x_strike [.inr (0, 0, 0), .inl (.int p1)] m Q :=
  ch_enter mf_x_strike (by intro v hv; simp only [List.mem_cons, List.not_mem_nil, or_false] at hv; rcases hv with rfl | rfl <;> rfl) (Nat.le_of_ble_eq_true rfl) h
set_option maxHeartbeats 1600000 in
theorem g_x_strike_0 (g : ch_G) (Q : ch_O → ch_M → Prop) (p1 : Int32) (m : ch_M) (h : ((∀ m2 : ch_M, m2 = ch_os m 4 0 (c_setB (ch_ob m 4 0) 115 p1 0 0) → (vp_in (m2 (1, 0, 0) 8) 6) ∧ (vp_in (m2 (5, 0, 0) 1) 13) ∧ (vp_in (m2 (2, 0, 0) 1) 8) ∧ ((x_R m2).1 = 0 → y_carP (ch_ob m2 1 0) (ch_ob m2 4 0) (m2 (5, 0, 0) 1)) ∧ ((((x_R m2).1 = 0) → (∀ m5 : ch_M, m5 = ch_os (p_kM m2 0) 1 0 (x_C m2).2 → Q (.inl (some (.inl (.int ((x_C m2).1))))) m5)) ∧ ((¬ (x_R m2).1 = 0) → (∀ m12 : ch_M, m12 = r_kp m2 (x_R m2).1 (x_R m2).2 → Q (.inr 0) m12)))))) : ch_J g m_x_strike (ch_rm m_x_strike) (ch_E g m_x_strike Q) 0 [some (.inr (0, 0, 0)), some (.inl (.int p1))] [] m 0 := by
  refine ch_aload_n (i := 0) d_x_strike_0 rfl rfl ?_
  refine ch_get (v := .inr (4, 0, 0)) d_x_strike_1 fl_x_42 rfl ?_
  refine ch_bipush (v := 115) d_x_strike_4 (by decide) ?_
  refine ch_iload_n (i := 1) d_x_strike_6 rfl rfl ?_
  refine ch_iconst (v := 0) d_x_strike_7 (by decide) ?_
  refine ch_iconst (v := 0) d_x_strike_8 (by decide) ?_
  refine ch_callV (as := [.inl (.int 115), .inl (.int p1), .inl (.int 0), .inl (.int 0)]) d_x_strike_9 lk_x_81 mi_c_set me_c_set rfl rfl rfl ⟨Nat.le_of_ble_eq_true rfl, Nat.le_of_ble_eq_true rfl⟩ (Nat.le_of_ble_eq_true rfl) ⟨Nat.le_of_ble_eq_true rfl, Nat.le_of_ble_eq_true rfl⟩ (ch_mono (ch_Kv (fun m2 q3 => ?_)) (s_c_set g (fun (m_ : ch_M) => (m_ = ch_os m 4 0 (c_setB (ch_ob m 4 0) 115 p1 0 0))) (115) (p1) (0) (0) m rfl))
  have hm_ := q3
  replace h := h m2 hm_
  refine ch_aload_n (i := 0) d_x_strike_12 rfl rfl ?_
  have b7 := h.1
  replace h := h.2
  have b8 := h.1
  replace h := h.2
  have b9 := h.1
  replace h := h.2
  have b10 := h.1
  replace h := h.2
  refine ch_callV (as := []) d_x_strike_13 lk_x_85 mi_x_change me_x_change rfl rfl rfl ⟨Nat.le_of_ble_eq_true rfl, Nat.le_of_ble_eq_true rfl⟩ (Nat.le_of_ble_eq_true rfl) ⟨Nat.le_of_ble_eq_true rfl, Nat.le_of_ble_eq_true rfl⟩ (ch_mono (ch_Kx (ch_Ki (fun r4 m5 q6 => ?_)) (fun n11 m12 hn_ q6 => ?_)) (s_x_change g (fun (r_ : Int32) (m_ : ch_M) => (((x_R m2).1 = 0) ∧ ((x_C m2).1) = r_ ∧ m_ = ch_os (p_kM m2 0) 1 0 (x_C m2).2)) (fun (n_ : Nat) (m_ : ch_M) => ((¬ (x_R m2).1 = 0) ∧ n_ = 0 ∧ m_ = r_kp m2 (x_R m2).1 (x_R m2).2))  m2 ⟨b7, b8, b9, b10, (fun c_ => ⟨c_, rfl, rfl⟩), (fun c_ => ⟨c_, rfl, rfl⟩)⟩))
  · obtain ⟨c_, rfl, hm_⟩ := q6
    replace h := h.1 c_ m5 hm_
    exact ch_iret (ty := .int) d_x_strike_16 rfl rfl (Nat.le_of_ble_eq_true rfl) h
  · obtain ⟨c_, rfl, hm_⟩ := q6
    replace h := h.2 c_ m12 hm_
    exact ch_xout rfl (Nat.le_of_ble_eq_true rfl) h
theorem e_x_rain (g : ch_G) (Q : ch_O → ch_M → Prop) (p1 : Int32) (m : ch_M) (h : ch_J g m_x_rain (ch_rm m_x_rain) (ch_E g m_x_rain Q) 0 [some (.inr (0, 0, 0)), some (.inl (.int p1))] [] m 0) : ch_C g m_x_rain [.inr (0, 0, 0), .inl (.int p1)] m Q :=
  ch_enter mf_x_rain (by intro v hv; simp only [List.mem_cons, List.not_mem_nil, or_false] at hv; rcases hv with rfl | rfl <;> rfl) (Nat.le_of_ble_eq_true rfl) h
set_option maxHeartbeats 1600000 in
theorem g_x_rain_0 (g : ch_G) (Q : ch_O → ch_M → Prop) (p1 : Int32) (m : ch_M) (h : ((∀ m2 : ch_M, m2 = ch_os m 4 0 (c_setB (ch_ob m 4 0) 114 0 0 p1) → (vp_in (m2 (1, 0, 0) 8) 6) ∧ (vp_in (m2 (5, 0, 0) 1) 13) ∧ (vp_in (m2 (2, 0, 0) 1) 8) ∧ ((x_R m2).1 = 0 → y_carP (ch_ob m2 1 0) (ch_ob m2 4 0) (m2 (5, 0, 0) 1)) ∧ ((((x_R m2).1 = 0) → (∀ m5 : ch_M, m5 = ch_os (p_kM m2 0) 1 0 (x_C m2).2 → Q (.inl (some (.inl (.int ((x_C m2).1))))) m5)) ∧ ((¬ (x_R m2).1 = 0) → (∀ m12 : ch_M, m12 = r_kp m2 (x_R m2).1 (x_R m2).2 → Q (.inr 0) m12)))))) : ch_J g m_x_rain (ch_rm m_x_rain) (ch_E g m_x_rain Q) 0 [some (.inr (0, 0, 0)), some (.inl (.int p1))] [] m 0 := by
  refine ch_aload_n (i := 0) d_x_rain_0 rfl rfl ?_
  refine ch_get (v := .inr (4, 0, 0)) d_x_rain_1 fl_x_42 rfl ?_
  refine ch_bipush (v := 114) d_x_rain_4 (by decide) ?_
  refine ch_iconst (v := 0) d_x_rain_6 (by decide) ?_
  refine ch_iconst (v := 0) d_x_rain_7 (by decide) ?_
  refine ch_iload_n (i := 1) d_x_rain_8 rfl rfl ?_
  refine ch_callV (as := [.inl (.int 114), .inl (.int 0), .inl (.int 0), .inl (.int p1)]) d_x_rain_9 lk_x_81 mi_c_set me_c_set rfl rfl rfl ⟨Nat.le_of_ble_eq_true rfl, Nat.le_of_ble_eq_true rfl⟩ (Nat.le_of_ble_eq_true rfl) ⟨Nat.le_of_ble_eq_true rfl, Nat.le_of_ble_eq_true rfl⟩ (ch_mono (ch_Kv (fun m2 q3 => ?_)) (s_c_set g (fun (m_ : ch_M) => (m_ = ch_os m 4 0 (c_setB (ch_ob m 4 0) 114 0 0 p1))) (114) (0) (0) (p1) m rfl))
  have hm_ := q3
  replace h := h m2 hm_
  refine ch_aload_n (i := 0) d_x_rain_12 rfl rfl ?_
  have b7 := h.1
  replace h := h.2
  have b8 := h.1
  replace h := h.2
  have b9 := h.1
  replace h := h.2
  have b10 := h.1
  replace h := h.2
  refine ch_callV (as := []) d_x_rain_13 lk_x_85 mi_x_change me_x_change rfl rfl rfl ⟨Nat.le_of_ble_eq_true rfl, Nat.le_of_ble_eq_true rfl⟩ (Nat.le_of_ble_eq_true rfl) ⟨Nat.le_of_ble_eq_true rfl, Nat.le_of_ble_eq_true rfl⟩ (ch_mono (ch_Kx (ch_Ki (fun r4 m5 q6 => ?_)) (fun n11 m12 hn_ q6 => ?_)) (s_x_change g (fun (r_ : Int32) (m_ : ch_M) => (((x_R m2).1 = 0) ∧ ((x_C m2).1) = r_ ∧ m_ = ch_os (p_kM m2 0) 1 0 (x_C m2).2)) (fun (n_ : Nat) (m_ : ch_M) => ((¬ (x_R m2).1 = 0) ∧ n_ = 0 ∧ m_ = r_kp m2 (x_R m2).1 (x_R m2).2))  m2 ⟨b7, b8, b9, b10, (fun c_ => ⟨c_, rfl, rfl⟩), (fun c_ => ⟨c_, rfl, rfl⟩)⟩))
  · obtain ⟨c_, rfl, hm_⟩ := q6
    replace h := h.1 c_ m5 hm_
    exact ch_iret (ty := .int) d_x_rain_16 rfl rfl (Nat.le_of_ble_eq_true rfl) h
  · obtain ⟨c_, rfl, hm_⟩ := q6
    replace h := h.2 c_ m12 hm_
    exact ch_xout rfl (Nat.le_of_ble_eq_true rfl) h
theorem e_x_term (g : ch_G) (Q : ch_O → ch_M → Prop)  (m : ch_M) (h : ch_J g m_x_term (ch_rm m_x_term) (ch_E g m_x_term Q) 0 [some (.inr (0, 0, 0))] [] m 0) : ch_C g m_x_term [.inr (0, 0, 0)] m Q :=
  ch_enter mf_x_term (by intro v hv; simp only [List.mem_cons, List.not_mem_nil, or_false] at hv; rcases hv with rfl <;> rfl) (Nat.le_of_ble_eq_true rfl) h
set_option maxHeartbeats 1600000 in
theorem g_x_term_0 (g : ch_G) (Q : ch_O → ch_M → Prop)  (m : ch_M) (h : ((∀ m2 : ch_M, m2 = ch_os m 4 0 (c_setB (ch_ob m 4 0) 116 0 0 0) → (vp_in (m2 (1, 0, 0) 8) 6) ∧ (vp_in (m2 (5, 0, 0) 1) 13) ∧ (vp_in (m2 (2, 0, 0) 1) 8) ∧ ((x_R m2).1 = 0 → y_carP (ch_ob m2 1 0) (ch_ob m2 4 0) (m2 (5, 0, 0) 1)) ∧ ((((x_R m2).1 = 0) → (∀ m5 : ch_M, m5 = ch_os (p_kM m2 0) 1 0 (x_C m2).2 → Q (.inl (some (.inl (.int ((x_C m2).1))))) m5)) ∧ ((¬ (x_R m2).1 = 0) → (∀ m12 : ch_M, m12 = r_kp m2 (x_R m2).1 (x_R m2).2 → Q (.inr 0) m12)))))) : ch_J g m_x_term (ch_rm m_x_term) (ch_E g m_x_term Q) 0 [some (.inr (0, 0, 0))] [] m 0 := by
  refine ch_aload_n (i := 0) d_x_term_0 rfl rfl ?_
  refine ch_get (v := .inr (4, 0, 0)) d_x_term_1 fl_x_42 rfl ?_
  refine ch_bipush (v := 116) d_x_term_4 (by decide) ?_
  refine ch_iconst (v := 0) d_x_term_6 (by decide) ?_
  refine ch_iconst (v := 0) d_x_term_7 (by decide) ?_
  refine ch_iconst (v := 0) d_x_term_8 (by decide) ?_
  refine ch_callV (as := [.inl (.int 116), .inl (.int 0), .inl (.int 0), .inl (.int 0)]) d_x_term_9 lk_x_81 mi_c_set me_c_set rfl rfl rfl ⟨Nat.le_of_ble_eq_true rfl, Nat.le_of_ble_eq_true rfl⟩ (Nat.le_of_ble_eq_true rfl) ⟨Nat.le_of_ble_eq_true rfl, Nat.le_of_ble_eq_true rfl⟩ (ch_mono (ch_Kv (fun m2 q3 => ?_)) (s_c_set g (fun (m_ : ch_M) => (m_ = ch_os m 4 0 (c_setB (ch_ob m 4 0) 116 0 0 0))) (116) (0) (0) (0) m rfl))
  have hm_ := q3
  replace h := h m2 hm_
  refine ch_aload_n (i := 0) d_x_term_12 rfl rfl ?_
  have b7 := h.1
  replace h := h.2
  have b8 := h.1
  replace h := h.2
  have b9 := h.1
  replace h := h.2
  have b10 := h.1
  replace h := h.2
  refine ch_callV (as := []) d_x_term_13 lk_x_85 mi_x_change me_x_change rfl rfl rfl ⟨Nat.le_of_ble_eq_true rfl, Nat.le_of_ble_eq_true rfl⟩ (Nat.le_of_ble_eq_true rfl) ⟨Nat.le_of_ble_eq_true rfl, Nat.le_of_ble_eq_true rfl⟩ (ch_mono (ch_Kx (ch_Ki (fun r4 m5 q6 => ?_)) (fun n11 m12 hn_ q6 => ?_)) (s_x_change g (fun (r_ : Int32) (m_ : ch_M) => (((x_R m2).1 = 0) ∧ ((x_C m2).1) = r_ ∧ m_ = ch_os (p_kM m2 0) 1 0 (x_C m2).2)) (fun (n_ : Nat) (m_ : ch_M) => ((¬ (x_R m2).1 = 0) ∧ n_ = 0 ∧ m_ = r_kp m2 (x_R m2).1 (x_R m2).2))  m2 ⟨b7, b8, b9, b10, (fun c_ => ⟨c_, rfl, rfl⟩), (fun c_ => ⟨c_, rfl, rfl⟩)⟩))
  · obtain ⟨c_, rfl, hm_⟩ := q6
    replace h := h.1 c_ m5 hm_
    exact ch_iret (ty := .int) d_x_term_16 rfl rfl (Nat.le_of_ble_eq_true rfl) h
  · obtain ⟨c_, rfl, hm_⟩ := q6
    replace h := h.2 c_ m12 hm_
    exact ch_xout rfl (Nat.le_of_ble_eq_true rfl) h
theorem e_x_give (g : ch_G) (Q : ch_O → ch_M → Prop) (p1 : Int32) (p2 : Int32) (p3 : Int32) (m : ch_M) (h : ch_J g m_x_give (ch_rm m_x_give) (ch_E g m_x_give Q) 0 [some (.inr (0, 0, 0)), some (.inl (.int p1)), some (.inl (.int p2)), some (.inl (.int p3))] [] m 0) : ch_C g m_x_give [.inr (0, 0, 0), .inl (.int p1), .inl (.int p2), .inl (.int p3)] m Q :=
  ch_enter mf_x_give (by intro v hv; simp only [List.mem_cons, List.not_mem_nil, or_false] at hv; rcases hv with rfl | rfl | rfl | rfl <;> rfl) (Nat.le_of_ble_eq_true rfl) h
set_option maxHeartbeats 1600000 in
theorem g_x_give_0 (g : ch_G) (Q : ch_O → ch_M → Prop) (p1 : Int32) (p2 : Int32) (p3 : Int32) (m : ch_M) (h : ((∀ m2 : ch_M, m2 = ch_os m 4 0 (c_setB (ch_ob m 4 0) 103 p1 p2 p3) → (vp_in (m2 (1, 0, 0) 8) 6) ∧ (vp_in (m2 (5, 0, 0) 1) 13) ∧ (vp_in (m2 (2, 0, 0) 1) 8) ∧ ((x_R m2).1 = 0 → y_carP (ch_ob m2 1 0) (ch_ob m2 4 0) (m2 (5, 0, 0) 1)) ∧ ((((x_R m2).1 = 0) → (∀ m5 : ch_M, m5 = ch_os (p_kM m2 0) 1 0 (x_C m2).2 → Q (.inl (some (.inl (.int ((x_C m2).1))))) m5)) ∧ ((¬ (x_R m2).1 = 0) → (∀ m12 : ch_M, m12 = r_kp m2 (x_R m2).1 (x_R m2).2 → Q (.inr 0) m12)))))) : ch_J g m_x_give (ch_rm m_x_give) (ch_E g m_x_give Q) 0 [some (.inr (0, 0, 0)), some (.inl (.int p1)), some (.inl (.int p2)), some (.inl (.int p3))] [] m 0 := by
  refine ch_aload_n (i := 0) d_x_give_0 rfl rfl ?_
  refine ch_get (v := .inr (4, 0, 0)) d_x_give_1 fl_x_42 rfl ?_
  refine ch_bipush (v := 103) d_x_give_4 (by decide) ?_
  refine ch_iload_n (i := 1) d_x_give_6 rfl rfl ?_
  refine ch_iload_n (i := 2) d_x_give_7 rfl rfl ?_
  refine ch_iload_n (i := 3) d_x_give_8 rfl rfl ?_
  refine ch_callV (as := [.inl (.int 103), .inl (.int p1), .inl (.int p2), .inl (.int p3)]) d_x_give_9 lk_x_81 mi_c_set me_c_set rfl rfl rfl ⟨Nat.le_of_ble_eq_true rfl, Nat.le_of_ble_eq_true rfl⟩ (Nat.le_of_ble_eq_true rfl) ⟨Nat.le_of_ble_eq_true rfl, Nat.le_of_ble_eq_true rfl⟩ (ch_mono (ch_Kv (fun m2 q3 => ?_)) (s_c_set g (fun (m_ : ch_M) => (m_ = ch_os m 4 0 (c_setB (ch_ob m 4 0) 103 p1 p2 p3))) (103) (p1) (p2) (p3) m rfl))
  have hm_ := q3
  replace h := h m2 hm_
  refine ch_aload_n (i := 0) d_x_give_12 rfl rfl ?_
  have b7 := h.1
  replace h := h.2
  have b8 := h.1
  replace h := h.2
  have b9 := h.1
  replace h := h.2
  have b10 := h.1
  replace h := h.2
  refine ch_callV (as := []) d_x_give_13 lk_x_85 mi_x_change me_x_change rfl rfl rfl ⟨Nat.le_of_ble_eq_true rfl, Nat.le_of_ble_eq_true rfl⟩ (Nat.le_of_ble_eq_true rfl) ⟨Nat.le_of_ble_eq_true rfl, Nat.le_of_ble_eq_true rfl⟩ (ch_mono (ch_Kx (ch_Ki (fun r4 m5 q6 => ?_)) (fun n11 m12 hn_ q6 => ?_)) (s_x_change g (fun (r_ : Int32) (m_ : ch_M) => (((x_R m2).1 = 0) ∧ ((x_C m2).1) = r_ ∧ m_ = ch_os (p_kM m2 0) 1 0 (x_C m2).2)) (fun (n_ : Nat) (m_ : ch_M) => ((¬ (x_R m2).1 = 0) ∧ n_ = 0 ∧ m_ = r_kp m2 (x_R m2).1 (x_R m2).2))  m2 ⟨b7, b8, b9, b10, (fun c_ => ⟨c_, rfl, rfl⟩), (fun c_ => ⟨c_, rfl, rfl⟩)⟩))
  · obtain ⟨c_, rfl, hm_⟩ := q6
    replace h := h.1 c_ m5 hm_
    exact ch_iret (ty := .int) d_x_give_16 rfl rfl (Nat.le_of_ble_eq_true rfl) h
  · obtain ⟨c_, rfl, hm_⟩ := q6
    replace h := h.2 c_ m12 hm_
    exact ch_xout rfl (Nat.le_of_ble_eq_true rfl) h
