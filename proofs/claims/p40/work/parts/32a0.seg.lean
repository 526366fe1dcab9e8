theorem e_l_child (g : ch_G) (Q : ch_O → ch_M → Prop) (p1 : Int32) (m : ch_M) (h : ch_J g m_l_child (ch_rm m_l_child) (ch_E g m_l_child Q) 0 [some (.inr (0, 0, 0)), some (.inl (.int p1)), none] [] m 0) : ch_C g m_l_child [.inr (0, 0, 0), .inl (.int p1)] m Q :=
  ch_enter mf_l_child (by intro v hv; simp only [List.mem_cons, List.not_mem_nil, or_false] at hv; rcases hv with rfl | rfl <;> rfl) (Nat.le_of_ble_eq_true rfl) h
set_option maxHeartbeats 1600000 in
theorem g_l_child_0 (g : ch_G) (Q : ch_O → ch_M → Prop) (p1 : Int32) (m : ch_M) (h : (vp_in ((x_K m 110 0 0 p1) (1, 0, 0) 8) 6) ∧ (vp_in ((x_K m 110 0 0 p1) (5, 0, 0) 1) 13) ∧ (vp_in ((x_K m 110 0 0 p1) (2, 0, 0) 1) 8) ∧ ((x_R (x_K m 110 0 0 p1)).1 = 0 → y_carP (ch_ob (x_K m 110 0 0 p1) 1 0) (ch_ob (x_K m 110 0 0 p1) 4 0) ((x_K m 110 0 0 p1) (5, 0, 0) 1)) ∧ ((((x_R (x_K m 110 0 0 p1)).1 = 0) → (∀ m2 : ch_M, m2 = ch_os (p_kM (x_K m 110 0 0 p1) 0) 1 0 (x_C (x_K m 110 0 0 p1)).2 → Q (.inl (some (.inl (.int ((x_C (x_K m 110 0 0 p1)).1))))) m2)) ∧ ((¬ (x_R (x_K m 110 0 0 p1)).1 = 0) → (∀ m9 : ch_M, m9 = r_kp (x_K m 110 0 0 p1) (x_R (x_K m 110 0 0 p1)).1 (x_R (x_K m 110 0 0 p1)).2 → Q (.inl (some (.inl (.int (-1001))))) m9)))) : ch_J g m_l_child (ch_rm m_l_child) (ch_E g m_l_child Q) 0 [some (.inr (0, 0, 0)), some (.inl (.int p1)), none] [] m 0 := by
  refine ch_aload_n (i := 0) d_l_child_0 rfl rfl ?_
  refine ch_iload_n (i := 1) d_l_child_1 rfl rfl ?_
  have b4 := h.1
  replace h := h.2
  have b5 := h.1
  replace h := h.2
  have b6 := h.1
  replace h := h.2
  have b7 := h.1
  replace h := h.2
  refine ch_callV (as := [.inl (.int p1)]) d_l_child_2 lk_l_7 mi_x_child me_x_child rfl rfl rfl ⟨Nat.le_of_ble_eq_true rfl, Nat.le_of_ble_eq_true rfl⟩ (Nat.le_of_ble_eq_true rfl) ⟨Nat.le_of_ble_eq_true rfl, Nat.le_of_ble_eq_true rfl⟩ (ch_mono (ch_Kx (ch_Ki (fun r1 m2 q3 => ?_)) (fun n8 m9 hn_ q3 => ?_)) (s_x_child g (fun (r_ : Int32) (m_ : ch_M) => (((x_R (x_K m 110 0 0 p1)).1 = 0) ∧ ((x_C (x_K m 110 0 0 p1)).1) = r_ ∧ m_ = ch_os (p_kM (x_K m 110 0 0 p1) 0) 1 0 (x_C (x_K m 110 0 0 p1)).2)) (fun (n_ : Nat) (m_ : ch_M) => ((¬ (x_R (x_K m 110 0 0 p1)).1 = 0) ∧ n_ = 0 ∧ m_ = r_kp (x_K m 110 0 0 p1) (x_R (x_K m 110 0 0 p1)).1 (x_R (x_K m 110 0 0 p1)).2)) (p1) m ⟨b4, b5, b6, b7, (fun c_ => ⟨c_, rfl, rfl⟩), (fun c_ => ⟨c_, rfl, rfl⟩)⟩))
  · obtain ⟨c_, rfl, hm_⟩ := q3
    replace h := h.1 c_ m2 hm_
    exact ch_iret (ty := .int) d_l_child_5 rfl rfl (Nat.le_of_ble_eq_true rfl) h
  · obtain ⟨c_, rfl, hm_⟩ := q3
    replace h := h.2 c_ m9 hm_
    refine ch_caught (i := 2) (ls' := [some (.inr (0, 0, 0)), some (.inl (.int p1)), none]) [] (0, 5, 6, 13) [] rfl (fun z hz => by cases hz) ⟨by decide, by decide⟩ (by decide) ck_l_13 cx_0 (Or.inr ⟨⟨2, rfl, d_l_child_6⟩, ?_⟩) (Nat.le_of_ble_eq_true rfl) rfl
    refine ch_sipush (v := (-1001)) d_l_child_7 (by decide) ?_
    exact ch_iret (ty := .int) d_l_child_10 rfl rfl (Nat.le_of_ble_eq_true rfl) h
theorem e_l_chalk (g : ch_G) (Q : ch_O → ch_M → Prop) (p1 : Int32) (p2 : Int32) (m : ch_M) (h : ch_J g m_l_chalk (ch_rm m_l_chalk) (ch_E g m_l_chalk Q) 0 [some (.inr (0, 0, 0)), some (.inl (.int p1)), some (.inl (.int p2)), none] [] m 0) : ch_C g m_l_chalk [.inr (0, 0, 0), .inl (.int p1), .inl (.int p2)] m Q :=
  ch_enter mf_l_chalk (by intro v hv; simp only [List.mem_cons, List.not_mem_nil, or_false] at hv; rcases hv with rfl | rfl | rfl <;> rfl) (Nat.le_of_ble_eq_true rfl) h
set_option maxHeartbeats 1600000 in
theorem g_l_chalk_0 (g : ch_G) (Q : ch_O → ch_M → Prop) (p1 : Int32) (p2 : Int32) (m : ch_M) (h : (vp_in ((x_K m 99 p1 0 p2) (1, 0, 0) 8) 6) ∧ (vp_in ((x_K m 99 p1 0 p2) (5, 0, 0) 1) 13) ∧ (vp_in ((x_K m 99 p1 0 p2) (2, 0, 0) 1) 8) ∧ ((x_R (x_K m 99 p1 0 p2)).1 = 0 → y_carP (ch_ob (x_K m 99 p1 0 p2) 1 0) (ch_ob (x_K m 99 p1 0 p2) 4 0) ((x_K m 99 p1 0 p2) (5, 0, 0) 1)) ∧ ((((x_R (x_K m 99 p1 0 p2)).1 = 0) → (∀ m2 : ch_M, m2 = ch_os (p_kM (x_K m 99 p1 0 p2) 0) 1 0 (x_C (x_K m 99 p1 0 p2)).2 → Q (.inl (some (.inl (.int ((x_C (x_K m 99 p1 0 p2)).1))))) m2)) ∧ ((¬ (x_R (x_K m 99 p1 0 p2)).1 = 0) → (∀ m9 : ch_M, m9 = r_kp (x_K m 99 p1 0 p2) (x_R (x_K m 99 p1 0 p2)).1 (x_R (x_K m 99 p1 0 p2)).2 → Q (.inl (some (.inl (.int (-1001))))) m9)))) : ch_J g m_l_chalk (ch_rm m_l_chalk) (ch_E g m_l_chalk Q) 0 [some (.inr (0, 0, 0)), some (.inl (.int p1)), some (.inl (.int p2)), none] [] m 0 := by
  refine ch_aload_n (i := 0) d_l_chalk_0 rfl rfl ?_
  refine ch_iload_n (i := 1) d_l_chalk_1 rfl rfl ?_
  refine ch_iload_n (i := 2) d_l_chalk_2 rfl rfl ?_
  have b4 := h.1
  replace h := h.2
  have b5 := h.1
  replace h := h.2
  have b6 := h.1
  replace h := h.2
  have b7 := h.1
  replace h := h.2
  refine ch_callV (as := [.inl (.int p1), .inl (.int p2)]) d_l_chalk_3 lk_l_15 mi_x_chalk me_x_chalk rfl rfl rfl ⟨Nat.le_of_ble_eq_true rfl, Nat.le_of_ble_eq_true rfl⟩ (Nat.le_of_ble_eq_true rfl) ⟨Nat.le_of_ble_eq_true rfl, Nat.le_of_ble_eq_true rfl⟩ (ch_mono (ch_Kx (ch_Ki (fun r1 m2 q3 => ?_)) (fun n8 m9 hn_ q3 => ?_)) (s_x_chalk g (fun (r_ : Int32) (m_ : ch_M) => (((x_R (x_K m 99 p1 0 p2)).1 = 0) ∧ ((x_C (x_K m 99 p1 0 p2)).1) = r_ ∧ m_ = ch_os (p_kM (x_K m 99 p1 0 p2) 0) 1 0 (x_C (x_K m 99 p1 0 p2)).2)) (fun (n_ : Nat) (m_ : ch_M) => ((¬ (x_R (x_K m 99 p1 0 p2)).1 = 0) ∧ n_ = 0 ∧ m_ = r_kp (x_K m 99 p1 0 p2) (x_R (x_K m 99 p1 0 p2)).1 (x_R (x_K m 99 p1 0 p2)).2)) (p1) (p2) m ⟨b4, b5, b6, b7, (fun c_ => ⟨c_, rfl, rfl⟩), (fun c_ => ⟨c_, rfl, rfl⟩)⟩))
  · obtain ⟨c_, rfl, hm_⟩ := q3
    replace h := h.1 c_ m2 hm_
    exact ch_iret (ty := .int) d_l_chalk_6 rfl rfl (Nat.le_of_ble_eq_true rfl) h
  · obtain ⟨c_, rfl, hm_⟩ := q3
    replace h := h.2 c_ m9 hm_
    refine ch_caught (i := 3) (ls' := [some (.inr (0, 0, 0)), some (.inl (.int p1)), some (.inl (.int p2)), none]) [] (0, 6, 7, 13) [] rfl (fun z hz => by cases hz) ⟨by decide, by decide⟩ (by decide) ck_l_13 cx_0 (Or.inr ⟨⟨3, rfl, d_l_chalk_7⟩, ?_⟩) (Nat.le_of_ble_eq_true rfl) rfl
    refine ch_sipush (v := (-1001)) d_l_chalk_8 (by decide) ?_
    exact ch_iret (ty := .int) d_l_chalk_11 rfl rfl (Nat.le_of_ble_eq_true rfl) h
theorem e_l_hop (g : ch_G) (Q : ch_O → ch_M → Prop) (p1 : Int32) (p2 : Int32) (m : ch_M) (h : ch_J g m_l_hop (ch_rm m_l_hop) (ch_E g m_l_hop Q) 0 [some (.inr (0, 0, 0)), some (.inl (.int p1)), some (.inl (.int p2)), none] [] m 0) : ch_C g m_l_hop [.inr (0, 0, 0), .inl (.int p1), .inl (.int p2)] m Q :=
  ch_enter mf_l_hop (by intro v hv; simp only [List.mem_cons, List.not_mem_nil, or_false] at hv; rcases hv with rfl | rfl | rfl <;> rfl) (Nat.le_of_ble_eq_true rfl) h
set_option maxHeartbeats 1600000 in
theorem g_l_hop_0 (g : ch_G) (Q : ch_O → ch_M → Prop) (p1 : Int32) (p2 : Int32) (m : ch_M) (h : (vp_in ((x_S (x_K m 104 p1 0 0) p2) (1, 0, 0) 8) 6) ∧ (vp_in ((x_S (x_K m 104 p1 0 0) p2) (5, 0, 0) 1) 13) ∧ (vp_in ((x_S (x_K m 104 p1 0 0) p2) (2, 0, 0) 1) 8) ∧ ((x_R (x_S (x_K m 104 p1 0 0) p2)).1 = 0 → y_carP (ch_ob (x_S (x_K m 104 p1 0 0) p2) 1 0) (ch_ob (x_S (x_K m 104 p1 0 0) p2) 4 0) ((x_S (x_K m 104 p1 0 0) p2) (5, 0, 0) 1)) ∧ ((((x_R (x_S (x_K m 104 p1 0 0) p2)).1 = 0) → (∀ m2 : ch_M, m2 = ch_os (p_kM (x_S (x_K m 104 p1 0 0) p2) 0) 1 0 (x_C (x_S (x_K m 104 p1 0 0) p2)).2 → Q (.inl (some (.inl (.int ((x_C (x_S (x_K m 104 p1 0 0) p2)).1))))) m2)) ∧ ((¬ (x_R (x_S (x_K m 104 p1 0 0) p2)).1 = 0) → (∀ m9 : ch_M, m9 = r_kp (x_S (x_K m 104 p1 0 0) p2) (x_R (x_S (x_K m 104 p1 0 0) p2)).1 (x_R (x_S (x_K m 104 p1 0 0) p2)).2 → Q (.inl (some (.inl (.int (-1001))))) m9)))) : ch_J g m_l_hop (ch_rm m_l_hop) (ch_E g m_l_hop Q) 0 [some (.inr (0, 0, 0)), some (.inl (.int p1)), some (.inl (.int p2)), none] [] m 0 := by
  refine ch_aload_n (i := 0) d_l_hop_0 rfl rfl ?_
  refine ch_iload_n (i := 1) d_l_hop_1 rfl rfl ?_
  refine ch_iload_n (i := 2) d_l_hop_2 rfl rfl ?_
  have b4 := h.1
  replace h := h.2
  have b5 := h.1
  replace h := h.2
  have b6 := h.1
  replace h := h.2
  have b7 := h.1
  replace h := h.2
  refine ch_callV (as := [.inl (.int p1), .inl (.int p2)]) d_l_hop_3 lk_l_19 mi_x_hop me_x_hop rfl rfl rfl ⟨Nat.le_of_ble_eq_true rfl, Nat.le_of_ble_eq_true rfl⟩ (Nat.le_of_ble_eq_true rfl) ⟨Nat.le_of_ble_eq_true rfl, Nat.le_of_ble_eq_true rfl⟩ (ch_mono (ch_Kx (ch_Ki (fun r1 m2 q3 => ?_)) (fun n8 m9 hn_ q3 => ?_)) (s_x_hop g (fun (r_ : Int32) (m_ : ch_M) => (((x_R (x_S (x_K m 104 p1 0 0) p2)).1 = 0) ∧ ((x_C (x_S (x_K m 104 p1 0 0) p2)).1) = r_ ∧ m_ = ch_os (p_kM (x_S (x_K m 104 p1 0 0) p2) 0) 1 0 (x_C (x_S (x_K m 104 p1 0 0) p2)).2)) (fun (n_ : Nat) (m_ : ch_M) => ((¬ (x_R (x_S (x_K m 104 p1 0 0) p2)).1 = 0) ∧ n_ = 0 ∧ m_ = r_kp (x_S (x_K m 104 p1 0 0) p2) (x_R (x_S (x_K m 104 p1 0 0) p2)).1 (x_R (x_S (x_K m 104 p1 0 0) p2)).2)) (p1) (p2) m ⟨b4, b5, b6, b7, (fun c_ => ⟨c_, rfl, rfl⟩), (fun c_ => ⟨c_, rfl, rfl⟩)⟩))
  · obtain ⟨c_, rfl, hm_⟩ := q3
    replace h := h.1 c_ m2 hm_
    exact ch_iret (ty := .int) d_l_hop_6 rfl rfl (Nat.le_of_ble_eq_true rfl) h
  · obtain ⟨c_, rfl, hm_⟩ := q3
    replace h := h.2 c_ m9 hm_
    refine ch_caught (i := 3) (ls' := [some (.inr (0, 0, 0)), some (.inl (.int p1)), some (.inl (.int p2)), none]) [] (0, 6, 7, 13) [] rfl (fun z hz => by cases hz) ⟨by decide, by decide⟩ (by decide) ck_l_13 cx_0 (Or.inr ⟨⟨3, rfl, d_l_hop_7⟩, ?_⟩) (Nat.le_of_ble_eq_true rfl) rfl
    refine ch_sipush (v := (-1001)) d_l_hop_8 (by decide) ?_
    exact ch_iret (ty := .int) d_l_hop_11 rfl rfl (Nat.le_of_ble_eq_true rfl) h
theorem e_l_warrant (g : ch_G) (Q : ch_O → ch_M → Prop) (p1 : Int32) (m : ch_M) (h : ch_J g m_l_warrant (ch_rm m_l_warrant) (ch_E g m_l_warrant Q) 0 [some (.inr (0, 0, 0)), some (.inl (.int p1)), none] [] m 0) : ch_C g m_l_warrant [.inr (0, 0, 0), .inl (.int p1)] m Q :=
  ch_enter mf_l_warrant (by intro v hv; simp only [List.mem_cons, List.not_mem_nil, or_false] at hv; rcases hv with rfl | rfl <;> rfl) (Nat.le_of_ble_eq_true rfl) h
set_option maxHeartbeats 1600000 in
theorem g_l_warrant_0 (g : ch_G) (Q : ch_O → ch_M → Prop) (p1 : Int32) (m : ch_M) (h : (vp_in ((x_K m 119 p1 0 0) (1, 0, 0) 8) 6) ∧ (vp_in ((x_K m 119 p1 0 0) (5, 0, 0) 1) 13) ∧ (vp_in ((x_K m 119 p1 0 0) (2, 0, 0) 1) 8) ∧ ((x_R (x_K m 119 p1 0 0)).1 = 0 → y_carP (ch_ob (x_K m 119 p1 0 0) 1 0) (ch_ob (x_K m 119 p1 0 0) 4 0) ((x_K m 119 p1 0 0) (5, 0, 0) 1)) ∧ ((((x_R (x_K m 119 p1 0 0)).1 = 0) → (∀ m2 : ch_M, m2 = ch_os (p_kM (x_K m 119 p1 0 0) 0) 1 0 (x_C (x_K m 119 p1 0 0)).2 → Q (.inl (some (.inl (.int ((x_C (x_K m 119 p1 0 0)).1))))) m2)) ∧ ((¬ (x_R (x_K m 119 p1 0 0)).1 = 0) → (∀ m9 : ch_M, m9 = r_kp (x_K m 119 p1 0 0) (x_R (x_K m 119 p1 0 0)).1 (x_R (x_K m 119 p1 0 0)).2 → Q (.inl (some (.inl (.int (-1001))))) m9)))) : ch_J g m_l_warrant (ch_rm m_l_warrant) (ch_E g m_l_warrant Q) 0 [some (.inr (0, 0, 0)), some (.inl (.int p1)), none] [] m 0 := by
  refine ch_aload_n (i := 0) d_l_warrant_0 rfl rfl ?_
  refine ch_iload_n (i := 1) d_l_warrant_1 rfl rfl ?_
  have b4 := h.1
  replace h := h.2
  have b5 := h.1
  replace h := h.2
  have b6 := h.1
  replace h := h.2
  have b7 := h.1
  replace h := h.2
  refine ch_callV (as := [.inl (.int p1)]) d_l_warrant_2 lk_l_22 mi_x_warrant me_x_warrant rfl rfl rfl ⟨Nat.le_of_ble_eq_true rfl, Nat.le_of_ble_eq_true rfl⟩ (Nat.le_of_ble_eq_true rfl) ⟨Nat.le_of_ble_eq_true rfl, Nat.le_of_ble_eq_true rfl⟩ (ch_mono (ch_Kx (ch_Ki (fun r1 m2 q3 => ?_)) (fun n8 m9 hn_ q3 => ?_)) (s_x_warrant g (fun (r_ : Int32) (m_ : ch_M) => (((x_R (x_K m 119 p1 0 0)).1 = 0) ∧ ((x_C (x_K m 119 p1 0 0)).1) = r_ ∧ m_ = ch_os (p_kM (x_K m 119 p1 0 0) 0) 1 0 (x_C (x_K m 119 p1 0 0)).2)) (fun (n_ : Nat) (m_ : ch_M) => ((¬ (x_R (x_K m 119 p1 0 0)).1 = 0) ∧ n_ = 0 ∧ m_ = r_kp (x_K m 119 p1 0 0) (x_R (x_K m 119 p1 0 0)).1 (x_R (x_K m 119 p1 0 0)).2)) (p1) m ⟨b4, b5, b6, b7, (fun c_ => ⟨c_, rfl, rfl⟩), (fun c_ => ⟨c_, rfl, rfl⟩)⟩))
  · obtain ⟨c_, rfl, hm_⟩ := q3
    replace h := h.1 c_ m2 hm_
    exact ch_iret (ty := .int) d_l_warrant_5 rfl rfl (Nat.le_of_ble_eq_true rfl) h
  · obtain ⟨c_, rfl, hm_⟩ := q3
    replace h := h.2 c_ m9 hm_
    refine ch_caught (i := 2) (ls' := [some (.inr (0, 0, 0)), some (.inl (.int p1)), none]) [] (0, 5, 6, 13) [] rfl (fun z hz => by cases hz) ⟨by decide, by decide⟩ (by decide) ck_l_13 cx_0 (Or.inr ⟨⟨2, rfl, d_l_warrant_6⟩, ?_⟩) (Nat.le_of_ble_eq_true rfl) rfl
    refine ch_sipush (v := (-1001)) d_l_warrant_7 (by decide) ?_
    exact ch_iret (ty := .int) d_l_warrant_10 rfl rfl (Nat.le_of_ble_eq_true rfl) h
theorem e_l_strike (g : ch_G) (Q : ch_O → ch_M → Prop) (p1 : Int32) (m : ch_M) (h : ch_J g m_l_strike (ch_rm m_l_strike) (ch_E g m_l_strike Q) 0 [some (.inr (0, 0, 0)), some (.inl (.int p1)), none] [] m 0) : ch_C g m_l_strike [.inr (0, 0, 0), .inl (.int p1)] m Q :=
  ch_enter mf_l_strike (by intro v hv; simp only [List.mem_cons, List.not_mem_nil, or_false] at hv; rcases hv with rfl | rfl <;> rfl) (Nat.le_of_ble_eq_true rfl) h
set_option maxHeartbeats 1600000 in
theorem g_l_strike_0 (g : ch_G) (Q : ch_O → ch_M → Prop) (p1 : Int32) (m : ch_M) (h : (vp_in ((x_K m 115 p1 0 0) (1, 0, 0) 8) 6) ∧ (vp_in ((x_K m 115 p1 0 0) (5, 0, 0) 1) 13) ∧ (vp_in ((x_K m 115 p1 0 0) (2, 0, 0) 1) 8) ∧ ((x_R (x_K m 115 p1 0 0)).1 = 0 → y_carP (ch_ob (x_K m 115 p1 0 0) 1 0) (ch_ob (x_K m 115 p1 0 0) 4 0) ((x_K m 115 p1 0 0) (5, 0, 0) 1)) ∧ ((((x_R (x_K m 115 p1 0 0)).1 = 0) → (∀ m2 : ch_M, m2 = ch_os (p_kM (x_K m 115 p1 0 0) 0) 1 0 (x_C (x_K m 115 p1 0 0)).2 → Q (.inl (some (.inl (.int ((x_C (x_K m 115 p1 0 0)).1))))) m2)) ∧ ((¬ (x_R (x_K m 115 p1 0 0)).1 = 0) → (∀ m9 : ch_M, m9 = r_kp (x_K m 115 p1 0 0) (x_R (x_K m 115 p1 0 0)).1 (x_R (x_K m 115 p1 0 0)).2 → Q (.inl (some (.inl (.int (-1001))))) m9)))) : ch_J g m_l_strike (ch_rm m_l_strike) (ch_E g m_l_strike Q) 0 [some (.inr (0, 0, 0)), some (.inl (.int p1)), none] [] m 0 := by
  refine ch_aload_n (i := 0) d_l_strike_0 rfl rfl ?_
  refine ch_iload_n (i := 1) d_l_strike_1 rfl rfl ?_
  have b4 := h.1
  replace h := h.2
  have b5 := h.1
  replace h := h.2
  have b6 := h.1
  replace h := h.2
  have b7 := h.1
  replace h := h.2
  refine ch_callV (as := [.inl (.int p1)]) d_l_strike_2 lk_l_25 mi_x_strike me_x_strike rfl rfl rfl ⟨Nat.le_of_ble_eq_true rfl, Nat.le_of_ble_eq_true rfl⟩ (Nat.le_of_ble_eq_true rfl) ⟨Nat.le_of_ble_eq_true rfl, Nat.le_of_ble_eq_true rfl⟩ (ch_mono (ch_Kx (ch_Ki (fun r1 m2 q3 => ?_)) (fun n8 m9 hn_ q3 => ?_)) (s_x_strike g (fun (r_ : Int32) (m_ : ch_M) => (((x_R (x_K m 115 p1 0 0)).1 = 0) ∧ ((x_C (x_K m 115 p1 0 0)).1) = r_ ∧ m_ = ch_os (p_kM (x_K m 115 p1 0 0) 0) 1 0 (x_C (x_K m 115 p1 0 0)).2)) (fun (n_ : Nat) (m_ : ch_M) => ((¬ (x_R (x_K m 115 p1 0 0)).1 = 0) ∧ n_ = 0 ∧ m_ = r_kp (x_K m 115 p1 0 0) (x_R (x_K m 115 p1 0 0)).1 (x_R (x_K m 115 p1 0 0)).2)) (p1) m ⟨b4, b5, b6, b7, (fun c_ => ⟨c_, rfl, rfl⟩), (fun c_ => ⟨c_, rfl, rfl⟩)⟩))
  · obtain ⟨c_, rfl, hm_⟩ := q3
    replace h := h.1 c_ m2 hm_
    exact ch_iret (ty := .int) d_l_strike_5 rfl rfl (Nat.le_of_ble_eq_true rfl) h
  · obtain ⟨c_, rfl, hm_⟩ := q3
    replace h := h.2 c_ m9 hm_
    refine ch_caught (i := 2) (ls' := [some (.inr (0, 0, 0)), some (.inl (.int p1)), none]) [] (0, 5, 6, 13) [] rfl (fun z hz => by cases hz) ⟨by decide, by decide⟩ (by decide) ck_l_13 cx_0 (Or.inr ⟨⟨2, rfl, d_l_strike_6⟩, ?_⟩) (Nat.le_of_ble_eq_true rfl) rfl
    refine ch_sipush (v := (-1001)) d_l_strike_7 (by decide) ?_
    exact ch_iret (ty := .int) d_l_strike_10 rfl rfl (Nat.le_of_ble_eq_true rfl) h
theorem e_l_rain (g : ch_G) (Q : ch_O → ch_M → Prop) (p1 : Int32) (m : ch_M) (h : ch_J g m_l_rain (ch_rm m_l_rain) (ch_E g m_l_rain Q) 0 [some (.inr (0, 0, 0)), some (.inl (.int p1)), none] [] m 0) : ch_C g m_l_rain [.inr (0, 0, 0), .inl (.int p1)] m Q :=
  ch_enter mf_l_rain (by intro v hv; simp only [List.mem_cons, List.not_mem_nil, or_false] at hv; rcases hv with rfl | rfl <;> rfl) (Nat.le_of_ble_eq_true rfl) h
set_option maxHeartbeats 1600000 in
theorem g_l_rain_0 (g : ch_G) (Q : ch_O → ch_M → Prop) (p1 : Int32) (m : ch_M) (h : (vp_in ((x_K m 114 0 0 p1) (1, 0, 0) 8) 6) ∧ (vp_in ((x_K m 114 0 0 p1) (5, 0, 0) 1) 13) ∧ (vp_in ((x_K m 114 0 0 p1) (2, 0, 0) 1) 8) ∧ ((x_R (x_K m 114 0 0 p1)).1 = 0 → y_carP (ch_ob (x_K m 114 0 0 p1) 1 0) (ch_ob (x_K m 114 0 0 p1) 4 0) ((x_K m 114 0 0 p1) (5, 0, 0) 1)) ∧ ((((x_R (x_K m 114 0 0 p1)).1 = 0) → (∀ m2 : ch_M, m2 = ch_os (p_kM (x_K m 114 0 0 p1) 0) 1 0 (x_C (x_K m 114 0 0 p1)).2 → Q (.inl (some (.inl (.int ((x_C (x_K m 114 0 0 p1)).1))))) m2)) ∧ ((¬ (x_R (x_K m 114 0 0 p1)).1 = 0) → (∀ m9 : ch_M, m9 = r_kp (x_K m 114 0 0 p1) (x_R (x_K m 114 0 0 p1)).1 (x_R (x_K m 114 0 0 p1)).2 → Q (.inl (some (.inl (.int (-1001))))) m9)))) : ch_J g m_l_rain (ch_rm m_l_rain) (ch_E g m_l_rain Q) 0 [some (.inr (0, 0, 0)), some (.inl (.int p1)), none] [] m 0 := by
  refine ch_aload_n (i := 0) d_l_rain_0 rfl rfl ?_
  refine ch_iload_n (i := 1) d_l_rain_1 rfl rfl ?_
  have b4 := h.1
  replace h := h.2
  have b5 := h.1
  replace h := h.2
  have b6 := h.1
  replace h := h.2
  have b7 := h.1
  replace h := h.2
  refine ch_callV (as := [.inl (.int p1)]) d_l_rain_2 lk_l_28 mi_x_rain me_x_rain rfl rfl rfl ⟨Nat.le_of_ble_eq_true rfl, Nat.le_of_ble_eq_true rfl⟩ (Nat.le_of_ble_eq_true rfl) ⟨Nat.le_of_ble_eq_true rfl, Nat.le_of_ble_eq_true rfl⟩ (ch_mono (ch_Kx (ch_Ki (fun r1 m2 q3 => ?_)) (fun n8 m9 hn_ q3 => ?_)) (s_x_rain g (fun (r_ : Int32) (m_ : ch_M) => (((x_R (x_K m 114 0 0 p1)).1 = 0) ∧ ((x_C (x_K m 114 0 0 p1)).1) = r_ ∧ m_ = ch_os (p_kM (x_K m 114 0 0 p1) 0) 1 0 (x_C (x_K m 114 0 0 p1)).2)) (fun (n_ : Nat) (m_ : ch_M) => ((¬ (x_R (x_K m 114 0 0 p1)).1 = 0) ∧ n_ = 0 ∧ m_ = r_kp (x_K m 114 0 0 p1) (x_R (x_K m 114 0 0 p1)).1 (x_R (x_K m 114 0 0 p1)).2)) (p1) m ⟨b4, b5, b6, b7, (fun c_ => ⟨c_, rfl, rfl⟩), (fun c_ => ⟨c_, rfl, rfl⟩)⟩))
  · obtain ⟨c_, rfl, hm_⟩ := q3
    replace h := h.1 c_ m2 hm_
    exact ch_iret (ty := .int) d_l_rain_5 rfl rfl (Nat.le_of_ble_eq_true rfl) h
  · obtain ⟨c_, rfl, hm_⟩ := q3
    replace h := h.2 c_ m9 hm_
    refine ch_caught (i := 2) (ls' := [some (.inr (0, 0, 0)), some (.inl (.int p1)), none]) [] (0, 5, 6, 13) [] rfl (fun z hz => by cases hz) ⟨by decide, by decide⟩ (by decide) ck_l_13 cx_0 (Or.inr ⟨⟨2, rfl, d_l_rain_6⟩, ?_⟩) (Nat.le_of_ble_eq_true rfl) rfl
    refine ch_sipush (v := (-1001)) d_l_rain_7 (by decide) ?_
    exact ch_iret (ty := .int) d_l_rain_10 rfl rfl (Nat.le_of_ble_eq_true rfl) h
theorem e_l_term (g : ch_G) (Q : ch_O → ch_M → Prop)  (m : ch_M) (h : ch_J g m_l_term (ch_rm m_l_term) (ch_E g m_l_term Q) 0 [some (.inr (0, 0, 0)), none] [] m 0) : ch_C g m_l_term [.inr (0, 0, 0)] m Q :=
  ch_enter mf_l_term (by intro v hv; simp only [List.mem_cons, List.not_mem_nil, or_false] at hv; rcases hv with rfl <;> rfl) (Nat.le_of_ble_eq_true rfl) h
set_option maxHeartbeats 1600000 in
theorem g_l_term_0 (g : ch_G) (Q : ch_O → ch_M → Prop)  (m : ch_M) (h : (vp_in ((x_K m 116 0 0 0) (1, 0, 0) 8) 6) ∧ (vp_in ((x_K m 116 0 0 0) (5, 0, 0) 1) 13) ∧ (vp_in ((x_K m 116 0 0 0) (2, 0, 0) 1) 8) ∧ ((x_R (x_K m 116 0 0 0)).1 = 0 → y_carP (ch_ob (x_K m 116 0 0 0) 1 0) (ch_ob (x_K m 116 0 0 0) 4 0) ((x_K m 116 0 0 0) (5, 0, 0) 1)) ∧ ((((x_R (x_K m 116 0 0 0)).1 = 0) → (∀ m2 : ch_M, m2 = ch_os (p_kM (x_K m 116 0 0 0) 0) 1 0 (x_C (x_K m 116 0 0 0)).2 → Q (.inl (some (.inl (.int ((x_C (x_K m 116 0 0 0)).1))))) m2)) ∧ ((¬ (x_R (x_K m 116 0 0 0)).1 = 0) → (∀ m9 : ch_M, m9 = r_kp (x_K m 116 0 0 0) (x_R (x_K m 116 0 0 0)).1 (x_R (x_K m 116 0 0 0)).2 → Q (.inl (some (.inl (.int (-1001))))) m9)))) : ch_J g m_l_term (ch_rm m_l_term) (ch_E g m_l_term Q) 0 [some (.inr (0, 0, 0)), none] [] m 0 := by
  refine ch_aload_n (i := 0) d_l_term_0 rfl rfl ?_
  have b4 := h.1
  replace h := h.2
  have b5 := h.1
  replace h := h.2
  have b6 := h.1
  replace h := h.2
  have b7 := h.1
  replace h := h.2
  refine ch_callV (as := []) d_l_term_1 lk_l_31 mi_x_term me_x_term rfl rfl rfl ⟨Nat.le_of_ble_eq_true rfl, Nat.le_of_ble_eq_true rfl⟩ (Nat.le_of_ble_eq_true rfl) ⟨Nat.le_of_ble_eq_true rfl, Nat.le_of_ble_eq_true rfl⟩ (ch_mono (ch_Kx (ch_Ki (fun r1 m2 q3 => ?_)) (fun n8 m9 hn_ q3 => ?_)) (s_x_term g (fun (r_ : Int32) (m_ : ch_M) => (((x_R (x_K m 116 0 0 0)).1 = 0) ∧ ((x_C (x_K m 116 0 0 0)).1) = r_ ∧ m_ = ch_os (p_kM (x_K m 116 0 0 0) 0) 1 0 (x_C (x_K m 116 0 0 0)).2)) (fun (n_ : Nat) (m_ : ch_M) => ((¬ (x_R (x_K m 116 0 0 0)).1 = 0) ∧ n_ = 0 ∧ m_ = r_kp (x_K m 116 0 0 0) (x_R (x_K m 116 0 0 0)).1 (x_R (x_K m 116 0 0 0)).2))  m ⟨b4, b5, b6, b7, (fun c_ => ⟨c_, rfl, rfl⟩), (fun c_ => ⟨c_, rfl, rfl⟩)⟩))
  · obtain ⟨c_, rfl, hm_⟩ := q3
    replace h := h.1 c_ m2 hm_
    exact ch_iret (ty := .int) d_l_term_4 rfl rfl (Nat.le_of_ble_eq_true rfl) h
  · obtain ⟨c_, rfl, hm_⟩ := q3
    replace h := h.2 c_ m9 hm_
    refine ch_caught (i := 1) (ls' := [some (.inr (0, 0, 0)), none]) [] (0, 4, 5, 13) [] rfl (fun z hz => by cases hz) ⟨by decide, by decide⟩ (by decide) ck_l_13 cx_0 (Or.inr ⟨⟨1, rfl, d_l_term_5⟩, ?_⟩) (Nat.le_of_ble_eq_true rfl) rfl
    refine ch_sipush (v := (-1001)) d_l_term_6 (by decide) ?_
    exact ch_iret (ty := .int) d_l_term_9 rfl rfl (Nat.le_of_ble_eq_true rfl) h
theorem e_l_give (g : ch_G) (Q : ch_O → ch_M → Prop) (p1 : Int32) (p2 : Int32) (p3 : Int32) (m : ch_M) (h : ch_J g m_l_give (ch_rm m_l_give) (ch_E g m_l_give Q) 0 [some (.inr (0, 0, 0)), some (.inl (.int p1)), some (.inl (.int p2)), some (.inl (.int p3)), none] [] m 0) : ch_C g m_l_give [.inr (0, 0, 0), .inl (.int p1), .inl (.int p2), .inl (.int p3)] m Q :=
  ch_enter mf_l_give (by intro v hv; simp only [List.mem_cons, List.not_mem_nil, or_false] at hv; rcases hv with rfl | rfl | rfl | rfl <;> rfl) (Nat.le_of_ble_eq_true rfl) h
set_option maxHeartbeats 1600000 in
theorem g_l_give_0 (g : ch_G) (Q : ch_O → ch_M → Prop) (p1 : Int32) (p2 : Int32) (p3 : Int32) (m : ch_M) (h : (vp_in ((x_K m 103 p1 p2 p3) (1, 0, 0) 8) 6) ∧ (vp_in ((x_K m 103 p1 p2 p3) (5, 0, 0) 1) 13) ∧ (vp_in ((x_K m 103 p1 p2 p3) (2, 0, 0) 1) 8) ∧ ((x_R (x_K m 103 p1 p2 p3)).1 = 0 → y_carP (ch_ob (x_K m 103 p1 p2 p3) 1 0) (ch_ob (x_K m 103 p1 p2 p3) 4 0) ((x_K m 103 p1 p2 p3) (5, 0, 0) 1)) ∧ ((((x_R (x_K m 103 p1 p2 p3)).1 = 0) → (∀ m2 : ch_M, m2 = ch_os (p_kM (x_K m 103 p1 p2 p3) 0) 1 0 (x_C (x_K m 103 p1 p2 p3)).2 → Q (.inl (some (.inl (.int ((x_C (x_K m 103 p1 p2 p3)).1))))) m2)) ∧ ((¬ (x_R (x_K m 103 p1 p2 p3)).1 = 0) → (∀ m9 : ch_M, m9 = r_kp (x_K m 103 p1 p2 p3) (x_R (x_K m 103 p1 p2 p3)).1 (x_R (x_K m 103 p1 p2 p3)).2 → Q (.inl (some (.inl (.int (-1001))))) m9)))) : ch_J g m_l_give (ch_rm m_l_give) (ch_E g m_l_give Q) 0 [some (.inr (0, 0, 0)), some (.inl (.int p1)), some (.inl (.int p2)), some (.inl (.int p3)), none] [] m 0 := by
  refine ch_aload_n (i := 0) d_l_give_0 rfl rfl ?_
  refine ch_iload_n (i := 1) d_l_give_1 rfl rfl ?_
  refine ch_iload_n (i := 2) d_l_give_2 rfl rfl ?_
  refine ch_iload_n (i := 3) d_l_give_3 rfl rfl ?_
  have b4 := h.1
  replace h := h.2
  have b5 := h.1
  replace h := h.2
  have b6 := h.1
  replace h := h.2
  have b7 := h.1
  replace h := h.2
  refine ch_callV (as := [.inl (.int p1), .inl (.int p2), .inl (.int p3)]) d_l_give_4 lk_l_35 mi_x_give me_x_give rfl rfl rfl ⟨Nat.le_of_ble_eq_true rfl, Nat.le_of_ble_eq_true rfl⟩ (Nat.le_of_ble_eq_true rfl) ⟨Nat.le_of_ble_eq_true rfl, Nat.le_of_ble_eq_true rfl⟩ (ch_mono (ch_Kx (ch_Ki (fun r1 m2 q3 => ?_)) (fun n8 m9 hn_ q3 => ?_)) (s_x_give g (fun (r_ : Int32) (m_ : ch_M) => (((x_R (x_K m 103 p1 p2 p3)).1 = 0) ∧ ((x_C (x_K m 103 p1 p2 p3)).1) = r_ ∧ m_ = ch_os (p_kM (x_K m 103 p1 p2 p3) 0) 1 0 (x_C (x_K m 103 p1 p2 p3)).2)) (fun (n_ : Nat) (m_ : ch_M) => ((¬ (x_R (x_K m 103 p1 p2 p3)).1 = 0) ∧ n_ = 0 ∧ m_ = r_kp (x_K m 103 p1 p2 p3) (x_R (x_K m 103 p1 p2 p3)).1 (x_R (x_K m 103 p1 p2 p3)).2)) (p1) (p2) (p3) m ⟨b4, b5, b6, b7, (fun c_ => ⟨c_, rfl, rfl⟩), (fun c_ => ⟨c_, rfl, rfl⟩)⟩))
  · obtain ⟨c_, rfl, hm_⟩ := q3
    replace h := h.1 c_ m2 hm_
    exact ch_iret (ty := .int) d_l_give_7 rfl rfl (Nat.le_of_ble_eq_true rfl) h
  · obtain ⟨c_, rfl, hm_⟩ := q3
    replace h := h.2 c_ m9 hm_
    refine ch_caught (i := 4) (ls' := [some (.inr (0, 0, 0)), some (.inl (.int p1)), some (.inl (.int p2)), some (.inl (.int p3)), none]) [] (0, 7, 8, 13) [] rfl (fun z hz => by cases hz) ⟨by decide, by decide⟩ (by decide) ck_l_13 cx_0 (Or.inl ⟨d_l_give_8, ?_⟩) (Nat.le_of_ble_eq_true rfl) rfl
    refine ch_sipush (v := (-1001)) d_l_give_10 (by decide) ?_
    exact ch_iret (ty := .int) d_l_give_13 rfl rfl (Nat.le_of_ble_eq_true rfl) h
theorem e_l_squareOf (g : ch_G) (Q : ch_O → ch_M → Prop) (p1 : Int32) (p2 : Int32) (m : ch_M) (h : ch_J g m_l_squareOf (ch_rm m_l_squareOf) (ch_E g m_l_squareOf Q) 0 [some (.inr (0, 0, 0)), some (.inl (.int p1)), some (.inl (.int p2)), none] [] m 0) : ch_C g m_l_squareOf [.inr (0, 0, 0), .inl (.int p1), .inl (.int p2)] m Q :=
  ch_enter mf_l_squareOf (by intro v hv; simp only [List.mem_cons, List.not_mem_nil, or_false] at hv; rcases hv with rfl | rfl | rfl <;> rfl) (Nat.le_of_ble_eq_true rfl) h
set_option maxHeartbeats 1600000 in
theorem g_l_squareOf_0 (g : ch_G) (Q : ch_O → ch_M → Prop) (p1 : Int32) (p2 : Int32) (m : ch_M) (h : (((0 ≤ p1 ∧ p1 < 12) → Q (.inl (some (.inl (.int (if p2 = 0 then m (1, 0, 1) (Int32.toNatClampNeg p1) else m (1, 0, 2) (Int32.toNatClampNeg p1)))))) m) ∧ ((¬ (0 ≤ p1 ∧ p1 < 12)) → Q (.inl (some (.inl (.int (-1001))))) m))) : ch_J g m_l_squareOf (ch_rm m_l_squareOf) (ch_E g m_l_squareOf Q) 0 [some (.inr (0, 0, 0)), some (.inl (.int p1)), some (.inl (.int p2)), none] [] m 0 := by
  refine ch_aload_n (i := 0) d_l_squareOf_0 rfl rfl ?_
  refine ch_iload_n (i := 1) d_l_squareOf_1 rfl rfl ?_
  refine ch_iload_n (i := 2) d_l_squareOf_2 rfl rfl ?_
  refine ch_callV (as := [.inl (.int p1), .inl (.int p2)]) d_l_squareOf_3 lk_l_39 mi_x_squareOf me_x_squareOf rfl rfl rfl ⟨Nat.le_of_ble_eq_true rfl, Nat.le_of_ble_eq_true rfl⟩ (Nat.le_of_ble_eq_true rfl) ⟨Nat.le_of_ble_eq_true rfl, Nat.le_of_ble_eq_true rfl⟩ (ch_mono (ch_Kx (ch_Ki (fun r1 m2 q3 => ?_)) (fun n4 m5 hn_ q3 => ?_)) (s_x_squareOf g (fun (r_ : Int32) (m_ : ch_M) => ((0 ≤ p1 ∧ p1 < 12) ∧ (if p2 = 0 then m (1, 0, 1) (Int32.toNatClampNeg p1) else m (1, 0, 2) (Int32.toNatClampNeg p1)) = r_ ∧ m = m_)) (fun (n_ : Nat) (m_ : ch_M) => ((¬ (0 ≤ p1 ∧ p1 < 12)) ∧ n_ = 1 ∧ m = m_)) (p1) (p2) m ⟨(fun c_ => ⟨c_, rfl, rfl⟩), (fun c_ => ⟨c_, rfl, rfl⟩)⟩))
  · obtain ⟨c_, rfl, rfl⟩ := q3
    replace h := h.1 c_
    exact ch_iret (ty := .int) d_l_squareOf_6 rfl rfl (Nat.le_of_ble_eq_true rfl) h
  · obtain ⟨c_, rfl, rfl⟩ := q3
    replace h := h.2 c_
    refine ch_caught (i := 3) (ls' := [some (.inr (0, 0, 0)), some (.inl (.int p1)), some (.inl (.int p2)), none]) [] (0, 6, 7, 43) [] rfl (fun z hz => by cases hz) ⟨by decide, by decide⟩ (by decide) ck_l_43 cx_1 (Or.inr ⟨⟨3, rfl, d_l_squareOf_7⟩, ?_⟩) (Nat.le_of_ble_eq_true rfl) rfl
    refine ch_sipush (v := (-1001)) d_l_squareOf_8 (by decide) ?_
    exact ch_iret (ty := .int) d_l_squareOf_11 rfl rfl (Nat.le_of_ble_eq_true rfl) h
theorem e_l_of (g : ch_G) (Q : ch_O → ch_M → Prop) (p1 : Int32) (p2 : Int32) (m : ch_M) (h : ch_J g m_l_of (ch_rm m_l_of) (ch_E g m_l_of Q) 0 [some (.inr (0, 0, 0)), some (.inl (.int p1)), some (.inl (.int p2)), none] [] m 0) : ch_C g m_l_of [.inr (0, 0, 0), .inl (.int p1), .inl (.int p2)] m Q :=
  ch_enter mf_l_of (by intro v hv; simp only [List.mem_cons, List.not_mem_nil, or_false] at hv; rcases hv with rfl | rfl | rfl <;> rfl) (Nat.le_of_ble_eq_true rfl) h
set_option maxHeartbeats 1600000 in
theorem g_l_of_0 (g : ch_G) (Q : ch_O → ch_M → Prop) (p1 : Int32) (p2 : Int32) (m : ch_M) (h : (vp_in (m (1, 0, 0) 8) 6) ∧ ((((0 ≤ p1 ∧ p1 < m (1, 0, 0) 8) ∧ 0 ≤ p2 ∧ p2 ≤ 6) → Q (.inl (some (.inl (.int (x_coR (ch_ob m 1 0) p1 p2))))) m) ∧ ((¬ (0 ≤ p1 ∧ p1 < m (1, 0, 0) 8)) → Q (.inl (some (.inl (.int (-1001))))) m) ∧ (((0 ≤ p1 ∧ p1 < m (1, 0, 0) 8) ∧ ¬ (0 ≤ p2 ∧ p2 ≤ 6)) → Q (.inl (some (.inl (.int (-1002))))) m))) : ch_J g m_l_of (ch_rm m_l_of) (ch_E g m_l_of Q) 0 [some (.inr (0, 0, 0)), some (.inl (.int p1)), some (.inl (.int p2)), none] [] m 0 := by
  refine ch_aload_n (i := 0) d_l_of_0 rfl rfl ?_
  refine ch_iload_n (i := 1) d_l_of_1 rfl rfl ?_
  refine ch_iload_n (i := 2) d_l_of_2 rfl rfl ?_
  have b4 := h.1
  replace h := h.2
  refine ch_callV (as := [.inl (.int p1), .inl (.int p2)]) d_l_of_3 lk_l_45 mi_x_childOf me_x_childOf rfl rfl rfl ⟨Nat.le_of_ble_eq_true rfl, Nat.le_of_ble_eq_true rfl⟩ (Nat.le_of_ble_eq_true rfl) ⟨Nat.le_of_ble_eq_true rfl, Nat.le_of_ble_eq_true rfl⟩ (ch_mono (ch_Kx (ch_Ki (fun r1 m2 q3 => ?_)) (fun n5 m6 hn_ q3 => ?_)) (s_x_childOf g (fun (r_ : Int32) (m_ : ch_M) => (((0 ≤ p1 ∧ p1 < m (1, 0, 0) 8) ∧ 0 ≤ p2 ∧ p2 ≤ 6) ∧ (x_coR (ch_ob m 1 0) p1 p2) = r_ ∧ m = m_)) (fun (n_ : Nat) (m_ : ch_M) => ((¬ (0 ≤ p1 ∧ p1 < m (1, 0, 0) 8)) ∧ n_ = 1 ∧ m = m_) ∨ (((0 ≤ p1 ∧ p1 < m (1, 0, 0) 8) ∧ ¬ (0 ≤ p2 ∧ p2 ≤ 6)) ∧ n_ = 2 ∧ m = m_)) (p1) (p2) m ⟨b4, (fun c_ => ⟨c_, rfl, rfl⟩), (fun c_ => (Or.inl ⟨c_, rfl, rfl⟩)), (fun c_ => (Or.inr ⟨c_, rfl, rfl⟩))⟩))
  · obtain ⟨c_, rfl, rfl⟩ := q3
    replace h := h.1 c_
    exact ch_iret (ty := .int) d_l_of_6 rfl rfl (Nat.le_of_ble_eq_true rfl) h
  · rcases q3 with ⟨c_, rfl, rfl⟩ | ⟨c_, rfl, rfl⟩
    · replace h := h.2.1 c_
      refine ch_caught (i := 3) (ls' := [some (.inr (0, 0, 0)), some (.inl (.int p1)), some (.inl (.int p2)), none]) [] (0, 6, 7, 43) [(0, 6, 12, 48)] rfl (fun z hz => by cases hz) ⟨by decide, by decide⟩ (by decide) ck_l_43 cx_1 (Or.inr ⟨⟨3, rfl, d_l_of_7⟩, ?_⟩) (Nat.le_of_ble_eq_true rfl) rfl
      refine ch_sipush (v := (-1001)) d_l_of_8 (by decide) ?_
      exact ch_iret (ty := .int) d_l_of_11 rfl rfl (Nat.le_of_ble_eq_true rfl) h
    · replace h := h.2.2 c_
      refine ch_caught (i := 3) (ls' := [some (.inr (0, 0, 0)), some (.inl (.int p1)), some (.inl (.int p2)), none]) [(0, 6, 7, 43)] (0, 6, 12, 48) [] rfl (fun z hz => by simp only [List.mem_cons, List.not_mem_nil, or_false] at hz; subst hz; exact ⟨by decide, 1, by decide, by decide, ck_l_43⟩) ⟨by decide, by decide⟩ (by decide) ck_l_48 cx_2 (Or.inr ⟨⟨3, rfl, d_l_of_12⟩, ?_⟩) (Nat.le_of_ble_eq_true rfl) rfl
      refine ch_sipush (v := (-1002)) d_l_of_13 (by decide) ?_
      exact ch_iret (ty := .int) d_l_of_16 rfl rfl (Nat.le_of_ble_eq_true rfl) h
