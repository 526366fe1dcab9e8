theorem e_l_child (g : ch_G) (Q : ch_O → ch_M → Prop) (p1 : Int32) (m : ch_M) (h : ch_J g m_l_child (ch_rm m_l_child) (ch_E g m_l_child Q) 0 [some (.inr (0, 0, 0)), some (.inl (.int p1)), some (.inr (10, 0, 1)), none] [] m 0) : ch_C g m_l_child [.inr (0, 0, 0), .inl (.int p1), .inr (10, 0, 1)] m Q :=
  ch_enter mf_l_child (by intro v hv; simp only [List.mem_cons, List.not_mem_nil, or_false] at hv; rcases hv with rfl | rfl | rfl <;> rfl) (Nat.le_of_ble_eq_true rfl) h
set_option maxHeartbeats 1600000 in
theorem g_l_child_0 (g : ch_G) (Q : ch_O → ch_M → Prop) (p1 : Int32) (m : ch_M) (h : (vp_in ((x_K m 110 0 0 p1) (1, 0, 0) 8) 6) ∧ (vp_in ((x_K m 110 0 0 p1) (5, 0, 0) 1) 13) ∧ (vp_in ((x_K m 110 0 0 p1) (2, 0, 0) 1) 8) ∧ ((x_R (x_K m 110 0 0 p1)).1 = 0 → y_carP (ch_ob (x_K m 110 0 0 p1) 1 0) (ch_ob (x_K m 110 0 0 p1) 4 0) ((x_K m 110 0 0 p1) (5, 0, 0) 1)) ∧ ((((x_R (x_K m 110 0 0 p1)).1 = 0) → (∀ m2 : ch_M, m2 = ch_os (p_kM (x_K m 110 0 0 p1) 0) 1 0 (x_C (x_K m 110 0 0 p1)).2 → (∀ m10 : ch_M, m10 = ch_wr m2 (10, 0, 1) (0) ((x_C (x_K m 110 0 0 p1)).1) → Q (.inl (some (.inl (.int 0)))) m10))) ∧ ((¬ (x_R (x_K m 110 0 0 p1)).1 = 0) → (∀ m9 : ch_M, m9 = r_kp (x_K m 110 0 0 p1) (x_R (x_K m 110 0 0 p1)).1 (x_R (x_K m 110 0 0 p1)).2 → Q (.inl (some (.inl (.int 1)))) m9)))) : ch_J g m_l_child (ch_rm m_l_child) (ch_E g m_l_child Q) 0 [some (.inr (0, 0, 0)), some (.inl (.int p1)), some (.inr (10, 0, 1)), none] [] m 0 := by
  refine ch_aload_n (i := 2) d_l_child_0 rfl rfl ?_
  refine ch_iconst (v := 0) d_l_child_1 (by decide) ?_
  refine ch_aload_n (i := 0) d_l_child_2 rfl rfl ?_
  refine ch_iload_n (i := 1) d_l_child_3 rfl rfl ?_
  have b4 := h.1
  replace h := h.2
  have b5 := h.1
  replace h := h.2
  have b6 := h.1
  replace h := h.2
  have b7 := h.1
  replace h := h.2
  refine ch_callV (as := [.inl (.int p1)]) d_l_child_4 lk_l_7 mi_x_child me_x_child rfl rfl rfl ⟨Nat.le_of_ble_eq_true rfl, Nat.le_of_ble_eq_true rfl⟩ (Nat.le_of_ble_eq_true rfl) ⟨Nat.le_of_ble_eq_true rfl, Nat.le_of_ble_eq_true rfl⟩ (ch_mono (ch_Kx (ch_Ki (fun r1 m2 q3 => ?_)) (fun n8 m9 hn_ q3 => ?_)) (s_x_child g (fun (r_ : Int32) (m_ : ch_M) => (((x_R (x_K m 110 0 0 p1)).1 = 0) ∧ ((x_C (x_K m 110 0 0 p1)).1) = r_ ∧ m_ = ch_os (p_kM (x_K m 110 0 0 p1) 0) 1 0 (x_C (x_K m 110 0 0 p1)).2)) (fun (n_ : Nat) (m_ : ch_M) => ((¬ (x_R (x_K m 110 0 0 p1)).1 = 0) ∧ n_ = 0 ∧ m_ = r_kp (x_K m 110 0 0 p1) (x_R (x_K m 110 0 0 p1)).1 (x_R (x_K m 110 0 0 p1)).2)) (p1) m ⟨b4, b5, b6, b7, (fun c_ => ⟨c_, rfl, rfl⟩), (fun c_ => ⟨c_, rfl, rfl⟩)⟩))
  · obtain ⟨c_, rfl, hm_⟩ := q3
    replace h := h.1 c_ m2 hm_
    refine ch_i2l d_l_child_7 ?_
    refine ch_last (n := 1) d_l_child_8 (by decide) rfl (vp_in_nI (n := 0) (by decide) (by decide)) ?_
    show ch_J g _ _ _ _ _ _ (ch_wr m2 (10, 0, 1) (0) ((x_C (x_K m 110 0 0 p1)).1)) _
    generalize hmm10 : ch_wr m2 (10, 0, 1) (0) ((x_C (x_K m 110 0 0 p1)).1) = m10
    replace h := h m10 hmm10.symm
    refine ch_goto (tgt := 15) d_l_child_9 (by decide) ?_
    refine ch_iconst (v := 0) d_l_child_15 (by decide) ?_
    exact ch_iret (ty := .int) d_l_child_16 rfl rfl (Nat.le_of_ble_eq_true rfl) h
  · obtain ⟨c_, rfl, hm_⟩ := q3
    replace h := h.2 c_ m9 hm_
    refine ch_caught (i := 3) (ls' := [some (.inr (0, 0, 0)), some (.inl (.int p1)), some (.inr (10, 0, 1)), none]) [] (0, 9, 12, 13) [] rfl (fun z hz => by cases hz) ⟨by decide, by decide⟩ (by decide) ck_l_13 cx_0 (Or.inr ⟨⟨3, rfl, d_l_child_12⟩, ?_⟩) (Nat.le_of_ble_eq_true rfl) rfl
    refine ch_iconst (v := 1) d_l_child_13 (by decide) ?_
    exact ch_iret (ty := .int) d_l_child_14 rfl rfl (Nat.le_of_ble_eq_true rfl) h
theorem e_l_chalk (g : ch_G) (Q : ch_O → ch_M → Prop) (p1 : Int32) (p2 : Int32) (m : ch_M) (h : ch_J g m_l_chalk (ch_rm m_l_chalk) (ch_E g m_l_chalk Q) 0 [some (.inr (0, 0, 0)), some (.inl (.int p1)), some (.inl (.int p2)), some (.inr (10, 0, 1)), none] [] m 0) : ch_C g m_l_chalk [.inr (0, 0, 0), .inl (.int p1), .inl (.int p2), .inr (10, 0, 1)] m Q :=
  ch_enter mf_l_chalk (by intro v hv; simp only [List.mem_cons, List.not_mem_nil, or_false] at hv; rcases hv with rfl | rfl | rfl | rfl <;> rfl) (Nat.le_of_ble_eq_true rfl) h
set_option maxHeartbeats 1600000 in
theorem g_l_chalk_0 (g : ch_G) (Q : ch_O → ch_M → Prop) (p1 : Int32) (p2 : Int32) (m : ch_M) (h : (vp_in ((x_K m 99 p1 0 p2) (1, 0, 0) 8) 6) ∧ (vp_in ((x_K m 99 p1 0 p2) (5, 0, 0) 1) 13) ∧ (vp_in ((x_K m 99 p1 0 p2) (2, 0, 0) 1) 8) ∧ ((x_R (x_K m 99 p1 0 p2)).1 = 0 → y_carP (ch_ob (x_K m 99 p1 0 p2) 1 0) (ch_ob (x_K m 99 p1 0 p2) 4 0) ((x_K m 99 p1 0 p2) (5, 0, 0) 1)) ∧ ((((x_R (x_K m 99 p1 0 p2)).1 = 0) → (∀ m2 : ch_M, m2 = ch_os (p_kM (x_K m 99 p1 0 p2) 0) 1 0 (x_C (x_K m 99 p1 0 p2)).2 → (∀ m10 : ch_M, m10 = ch_wr m2 (10, 0, 1) (0) ((x_C (x_K m 99 p1 0 p2)).1) → Q (.inl (some (.inl (.int 0)))) m10))) ∧ ((¬ (x_R (x_K m 99 p1 0 p2)).1 = 0) → (∀ m9 : ch_M, m9 = r_kp (x_K m 99 p1 0 p2) (x_R (x_K m 99 p1 0 p2)).1 (x_R (x_K m 99 p1 0 p2)).2 → Q (.inl (some (.inl (.int 1)))) m9)))) : ch_J g m_l_chalk (ch_rm m_l_chalk) (ch_E g m_l_chalk Q) 0 [some (.inr (0, 0, 0)), some (.inl (.int p1)), some (.inl (.int p2)), some (.inr (10, 0, 1)), none] [] m 0 := by
  refine ch_aload_n (i := 3) d_l_chalk_0 rfl rfl ?_
  refine ch_iconst (v := 0) d_l_chalk_1 (by decide) ?_
  refine ch_aload_n (i := 0) d_l_chalk_2 rfl rfl ?_
  refine ch_iload_n (i := 1) d_l_chalk_3 rfl rfl ?_
  refine ch_iload_n (i := 2) d_l_chalk_4 rfl rfl ?_
  have b4 := h.1
  replace h := h.2
  have b5 := h.1
  replace h := h.2
  have b6 := h.1
  replace h := h.2
  have b7 := h.1
  replace h := h.2
  refine ch_callV (as := [.inl (.int p1), .inl (.int p2)]) d_l_chalk_5 lk_l_15 mi_x_chalk me_x_chalk rfl rfl rfl ⟨Nat.le_of_ble_eq_true rfl, Nat.le_of_ble_eq_true rfl⟩ (Nat.le_of_ble_eq_true rfl) ⟨Nat.le_of_ble_eq_true rfl, Nat.le_of_ble_eq_true rfl⟩ (ch_mono (ch_Kx (ch_Ki (fun r1 m2 q3 => ?_)) (fun n8 m9 hn_ q3 => ?_)) (s_x_chalk g (fun (r_ : Int32) (m_ : ch_M) => (((x_R (x_K m 99 p1 0 p2)).1 = 0) ∧ ((x_C (x_K m 99 p1 0 p2)).1) = r_ ∧ m_ = ch_os (p_kM (x_K m 99 p1 0 p2) 0) 1 0 (x_C (x_K m 99 p1 0 p2)).2)) (fun (n_ : Nat) (m_ : ch_M) => ((¬ (x_R (x_K m 99 p1 0 p2)).1 = 0) ∧ n_ = 0 ∧ m_ = r_kp (x_K m 99 p1 0 p2) (x_R (x_K m 99 p1 0 p2)).1 (x_R (x_K m 99 p1 0 p2)).2)) (p1) (p2) m ⟨b4, b5, b6, b7, (fun c_ => ⟨c_, rfl, rfl⟩), (fun c_ => ⟨c_, rfl, rfl⟩)⟩))
  · obtain ⟨c_, rfl, hm_⟩ := q3
    replace h := h.1 c_ m2 hm_
    refine ch_i2l d_l_chalk_8 ?_
    refine ch_last (n := 1) d_l_chalk_9 (by decide) rfl (vp_in_nI (n := 0) (by decide) (by decide)) ?_
    show ch_J g _ _ _ _ _ _ (ch_wr m2 (10, 0, 1) (0) ((x_C (x_K m 99 p1 0 p2)).1)) _
    generalize hmm10 : ch_wr m2 (10, 0, 1) (0) ((x_C (x_K m 99 p1 0 p2)).1) = m10
    replace h := h m10 hmm10.symm
    refine ch_goto (tgt := 17) d_l_chalk_10 (by decide) ?_
    refine ch_iconst (v := 0) d_l_chalk_17 (by decide) ?_
    exact ch_iret (ty := .int) d_l_chalk_18 rfl rfl (Nat.le_of_ble_eq_true rfl) h
  · obtain ⟨c_, rfl, hm_⟩ := q3
    replace h := h.2 c_ m9 hm_
    refine ch_caught (i := 4) (ls' := [some (.inr (0, 0, 0)), some (.inl (.int p1)), some (.inl (.int p2)), some (.inr (10, 0, 1)), none]) [] (0, 10, 13, 13) [] rfl (fun z hz => by cases hz) ⟨by decide, by decide⟩ (by decide) ck_l_13 cx_0 (Or.inl ⟨d_l_chalk_13, ?_⟩) (Nat.le_of_ble_eq_true rfl) rfl
    refine ch_iconst (v := 1) d_l_chalk_15 (by decide) ?_
    exact ch_iret (ty := .int) d_l_chalk_16 rfl rfl (Nat.le_of_ble_eq_true rfl) h
theorem e_l_hop (g : ch_G) (Q : ch_O → ch_M → Prop) (p1 : Int32) (p2 : Int32) (m : ch_M) (h : ch_J g m_l_hop (ch_rm m_l_hop) (ch_E g m_l_hop Q) 0 [some (.inr (0, 0, 0)), some (.inl (.int p1)), some (.inl (.int p2)), some (.inr (10, 0, 1)), none] [] m 0) : ch_C g m_l_hop [.inr (0, 0, 0), .inl (.int p1), .inl (.int p2), .inr (10, 0, 1)] m Q :=
  ch_enter mf_l_hop (by intro v hv; simp only [List.mem_cons, List.not_mem_nil, or_false] at hv; rcases hv with rfl | rfl | rfl | rfl <;> rfl) (Nat.le_of_ble_eq_true rfl) h
set_option maxHeartbeats 1600000 in
theorem g_l_hop_0 (g : ch_G) (Q : ch_O → ch_M → Prop) (p1 : Int32) (p2 : Int32) (m : ch_M) (h : (vp_in ((x_S (x_K m 104 p1 0 0) p2) (1, 0, 0) 8) 6) ∧ (vp_in ((x_S (x_K m 104 p1 0 0) p2) (5, 0, 0) 1) 13) ∧ (vp_in ((x_S (x_K m 104 p1 0 0) p2) (2, 0, 0) 1) 8) ∧ ((x_R (x_S (x_K m 104 p1 0 0) p2)).1 = 0 → y_carP (ch_ob (x_S (x_K m 104 p1 0 0) p2) 1 0) (ch_ob (x_S (x_K m 104 p1 0 0) p2) 4 0) ((x_S (x_K m 104 p1 0 0) p2) (5, 0, 0) 1)) ∧ ((((x_R (x_S (x_K m 104 p1 0 0) p2)).1 = 0) → (∀ m2 : ch_M, m2 = ch_os (p_kM (x_S (x_K m 104 p1 0 0) p2) 0) 1 0 (x_C (x_S (x_K m 104 p1 0 0) p2)).2 → (∀ m10 : ch_M, m10 = ch_wr m2 (10, 0, 1) (0) ((x_C (x_S (x_K m 104 p1 0 0) p2)).1) → Q (.inl (some (.inl (.int 0)))) m10))) ∧ ((¬ (x_R (x_S (x_K m 104 p1 0 0) p2)).1 = 0) → (∀ m9 : ch_M, m9 = r_kp (x_S (x_K m 104 p1 0 0) p2) (x_R (x_S (x_K m 104 p1 0 0) p2)).1 (x_R (x_S (x_K m 104 p1 0 0) p2)).2 → Q (.inl (some (.inl (.int 1)))) m9)))) : ch_J g m_l_hop (ch_rm m_l_hop) (ch_E g m_l_hop Q) 0 [some (.inr (0, 0, 0)), some (.inl (.int p1)), some (.inl (.int p2)), some (.inr (10, 0, 1)), none] [] m 0 := by
  refine ch_aload_n (i := 3) d_l_hop_0 rfl rfl ?_
  refine ch_iconst (v := 0) d_l_hop_1 (by decide) ?_
  refine ch_aload_n (i := 0) d_l_hop_2 rfl rfl ?_
  refine ch_iload_n (i := 1) d_l_hop_3 rfl rfl ?_
  refine ch_iload_n (i := 2) d_l_hop_4 rfl rfl ?_
  have b4 := h.1
  replace h := h.2
  have b5 := h.1
  replace h := h.2
  have b6 := h.1
  replace h := h.2
  have b7 := h.1
  replace h := h.2
  refine ch_callV (as := [.inl (.int p1), .inl (.int p2)]) d_l_hop_5 lk_l_19 mi_x_hop me_x_hop rfl rfl rfl ⟨Nat.le_of_ble_eq_true rfl, Nat.le_of_ble_eq_true rfl⟩ (Nat.le_of_ble_eq_true rfl) ⟨Nat.le_of_ble_eq_true rfl, Nat.le_of_ble_eq_true rfl⟩ (ch_mono (ch_Kx (ch_Ki (fun r1 m2 q3 => ?_)) (fun n8 m9 hn_ q3 => ?_)) (s_x_hop g (fun (r_ : Int32) (m_ : ch_M) => (((x_R (x_S (x_K m 104 p1 0 0) p2)).1 = 0) ∧ ((x_C (x_S (x_K m 104 p1 0 0) p2)).1) = r_ ∧ m_ = ch_os (p_kM (x_S (x_K m 104 p1 0 0) p2) 0) 1 0 (x_C (x_S (x_K m 104 p1 0 0) p2)).2)) (fun (n_ : Nat) (m_ : ch_M) => ((¬ (x_R (x_S (x_K m 104 p1 0 0) p2)).1 = 0) ∧ n_ = 0 ∧ m_ = r_kp (x_S (x_K m 104 p1 0 0) p2) (x_R (x_S (x_K m 104 p1 0 0) p2)).1 (x_R (x_S (x_K m 104 p1 0 0) p2)).2)) (p1) (p2) m ⟨b4, b5, b6, b7, (fun c_ => ⟨c_, rfl, rfl⟩), (fun c_ => ⟨c_, rfl, rfl⟩)⟩))
  · obtain ⟨c_, rfl, hm_⟩ := q3
    replace h := h.1 c_ m2 hm_
    refine ch_i2l d_l_hop_8 ?_
    refine ch_last (n := 1) d_l_hop_9 (by decide) rfl (vp_in_nI (n := 0) (by decide) (by decide)) ?_
    show ch_J g _ _ _ _ _ _ (ch_wr m2 (10, 0, 1) (0) ((x_C (x_S (x_K m 104 p1 0 0) p2)).1)) _
    generalize hmm10 : ch_wr m2 (10, 0, 1) (0) ((x_C (x_S (x_K m 104 p1 0 0) p2)).1) = m10
    replace h := h m10 hmm10.symm
    refine ch_goto (tgt := 17) d_l_hop_10 (by decide) ?_
    refine ch_iconst (v := 0) d_l_hop_17 (by decide) ?_
    exact ch_iret (ty := .int) d_l_hop_18 rfl rfl (Nat.le_of_ble_eq_true rfl) h
  · obtain ⟨c_, rfl, hm_⟩ := q3
    replace h := h.2 c_ m9 hm_
    refine ch_caught (i := 4) (ls' := [some (.inr (0, 0, 0)), some (.inl (.int p1)), some (.inl (.int p2)), some (.inr (10, 0, 1)), none]) [] (0, 10, 13, 13) [] rfl (fun z hz => by cases hz) ⟨by decide, by decide⟩ (by decide) ck_l_13 cx_0 (Or.inl ⟨d_l_hop_13, ?_⟩) (Nat.le_of_ble_eq_true rfl) rfl
    refine ch_iconst (v := 1) d_l_hop_15 (by decide) ?_
    exact ch_iret (ty := .int) d_l_hop_16 rfl rfl (Nat.le_of_ble_eq_true rfl) h
theorem e_l_warrant (g : ch_G) (Q : ch_O → ch_M → Prop) (p1 : Int32) (m : ch_M) (h : ch_J g m_l_warrant (ch_rm m_l_warrant) (ch_E g m_l_warrant Q) 0 [some (.inr (0, 0, 0)), some (.inl (.int p1)), some (.inr (10, 0, 1)), none] [] m 0) : ch_C g m_l_warrant [.inr (0, 0, 0), .inl (.int p1), .inr (10, 0, 1)] m Q :=
  ch_enter mf_l_warrant (by intro v hv; simp only [List.mem_cons, List.not_mem_nil, or_false] at hv; rcases hv with rfl | rfl | rfl <;> rfl) (Nat.le_of_ble_eq_true rfl) h
set_option maxHeartbeats 1600000 in
theorem g_l_warrant_0 (g : ch_G) (Q : ch_O → ch_M → Prop) (p1 : Int32) (m : ch_M) (h : (vp_in ((x_K m 119 p1 0 0) (1, 0, 0) 8) 6) ∧ (vp_in ((x_K m 119 p1 0 0) (5, 0, 0) 1) 13) ∧ (vp_in ((x_K m 119 p1 0 0) (2, 0, 0) 1) 8) ∧ ((x_R (x_K m 119 p1 0 0)).1 = 0 → y_carP (ch_ob (x_K m 119 p1 0 0) 1 0) (ch_ob (x_K m 119 p1 0 0) 4 0) ((x_K m 119 p1 0 0) (5, 0, 0) 1)) ∧ ((((x_R (x_K m 119 p1 0 0)).1 = 0) → (∀ m2 : ch_M, m2 = ch_os (p_kM (x_K m 119 p1 0 0) 0) 1 0 (x_C (x_K m 119 p1 0 0)).2 → (∀ m10 : ch_M, m10 = ch_wr m2 (10, 0, 1) (0) ((x_C (x_K m 119 p1 0 0)).1) → Q (.inl (some (.inl (.int 0)))) m10))) ∧ ((¬ (x_R (x_K m 119 p1 0 0)).1 = 0) → (∀ m9 : ch_M, m9 = r_kp (x_K m 119 p1 0 0) (x_R (x_K m 119 p1 0 0)).1 (x_R (x_K m 119 p1 0 0)).2 → Q (.inl (some (.inl (.int 1)))) m9)))) : ch_J g m_l_warrant (ch_rm m_l_warrant) (ch_E g m_l_warrant Q) 0 [some (.inr (0, 0, 0)), some (.inl (.int p1)), some (.inr (10, 0, 1)), none] [] m 0 := by
  refine ch_aload_n (i := 2) d_l_warrant_0 rfl rfl ?_
  refine ch_iconst (v := 0) d_l_warrant_1 (by decide) ?_
  refine ch_aload_n (i := 0) d_l_warrant_2 rfl rfl ?_
  refine ch_iload_n (i := 1) d_l_warrant_3 rfl rfl ?_
  have b4 := h.1
  replace h := h.2
  have b5 := h.1
  replace h := h.2
  have b6 := h.1
  replace h := h.2
  have b7 := h.1
  replace h := h.2
  refine ch_callV (as := [.inl (.int p1)]) d_l_warrant_4 lk_l_22 mi_x_warrant me_x_warrant rfl rfl rfl ⟨Nat.le_of_ble_eq_true rfl, Nat.le_of_ble_eq_true rfl⟩ (Nat.le_of_ble_eq_true rfl) ⟨Nat.le_of_ble_eq_true rfl, Nat.le_of_ble_eq_true rfl⟩ (ch_mono (ch_Kx (ch_Ki (fun r1 m2 q3 => ?_)) (fun n8 m9 hn_ q3 => ?_)) (s_x_warrant g (fun (r_ : Int32) (m_ : ch_M) => (((x_R (x_K m 119 p1 0 0)).1 = 0) ∧ ((x_C (x_K m 119 p1 0 0)).1) = r_ ∧ m_ = ch_os (p_kM (x_K m 119 p1 0 0) 0) 1 0 (x_C (x_K m 119 p1 0 0)).2)) (fun (n_ : Nat) (m_ : ch_M) => ((¬ (x_R (x_K m 119 p1 0 0)).1 = 0) ∧ n_ = 0 ∧ m_ = r_kp (x_K m 119 p1 0 0) (x_R (x_K m 119 p1 0 0)).1 (x_R (x_K m 119 p1 0 0)).2)) (p1) m ⟨b4, b5, b6, b7, (fun c_ => ⟨c_, rfl, rfl⟩), (fun c_ => ⟨c_, rfl, rfl⟩)⟩))
  · obtain ⟨c_, rfl, hm_⟩ := q3
    replace h := h.1 c_ m2 hm_
    refine ch_i2l d_l_warrant_7 ?_
    refine ch_last (n := 1) d_l_warrant_8 (by decide) rfl (vp_in_nI (n := 0) (by decide) (by decide)) ?_
    show ch_J g _ _ _ _ _ _ (ch_wr m2 (10, 0, 1) (0) ((x_C (x_K m 119 p1 0 0)).1)) _
    generalize hmm10 : ch_wr m2 (10, 0, 1) (0) ((x_C (x_K m 119 p1 0 0)).1) = m10
    replace h := h m10 hmm10.symm
    refine ch_goto (tgt := 15) d_l_warrant_9 (by decide) ?_
    refine ch_iconst (v := 0) d_l_warrant_15 (by decide) ?_
    exact ch_iret (ty := .int) d_l_warrant_16 rfl rfl (Nat.le_of_ble_eq_true rfl) h
  · obtain ⟨c_, rfl, hm_⟩ := q3
    replace h := h.2 c_ m9 hm_
    refine ch_caught (i := 3) (ls' := [some (.inr (0, 0, 0)), some (.inl (.int p1)), some (.inr (10, 0, 1)), none]) [] (0, 9, 12, 13) [] rfl (fun z hz => by cases hz) ⟨by decide, by decide⟩ (by decide) ck_l_13 cx_0 (Or.inr ⟨⟨3, rfl, d_l_warrant_12⟩, ?_⟩) (Nat.le_of_ble_eq_true rfl) rfl
    refine ch_iconst (v := 1) d_l_warrant_13 (by decide) ?_
    exact ch_iret (ty := .int) d_l_warrant_14 rfl rfl (Nat.le_of_ble_eq_true rfl) h
theorem e_l_strike (g : ch_G) (Q : ch_O → ch_M → Prop) (p1 : Int32) (m : ch_M) (h : ch_J g m_l_strike (ch_rm m_l_strike) (ch_E g m_l_strike Q) 0 [some (.inr (0, 0, 0)), some (.inl (.int p1)), some (.inr (10, 0, 1)), none] [] m 0) : ch_C g m_l_strike [.inr (0, 0, 0), .inl (.int p1), .inr (10, 0, 1)] m Q :=
  ch_enter mf_l_strike (by intro v hv; simp only [List.mem_cons, List.not_mem_nil, or_false] at hv; rcases hv with rfl | rfl | rfl <;> rfl) (Nat.le_of_ble_eq_true rfl) h
set_option maxHeartbeats 1600000 in
theorem g_l_strike_0 (g : ch_G) (Q : ch_O → ch_M → Prop) (p1 : Int32) (m : ch_M) (h : (vp_in ((x_K m 115 p1 0 0) (1, 0, 0) 8) 6) ∧ (vp_in ((x_K m 115 p1 0 0) (5, 0, 0) 1) 13) ∧ (vp_in ((x_K m 115 p1 0 0) (2, 0, 0) 1) 8) ∧ ((x_R (x_K m 115 p1 0 0)).1 = 0 → y_carP (ch_ob (x_K m 115 p1 0 0) 1 0) (ch_ob (x_K m 115 p1 0 0) 4 0) ((x_K m 115 p1 0 0) (5, 0, 0) 1)) ∧ ((((x_R (x_K m 115 p1 0 0)).1 = 0) → (∀ m2 : ch_M, m2 = ch_os (p_kM (x_K m 115 p1 0 0) 0) 1 0 (x_C (x_K m 115 p1 0 0)).2 → (∀ m10 : ch_M, m10 = ch_wr m2 (10, 0, 1) (0) ((x_C (x_K m 115 p1 0 0)).1) → Q (.inl (some (.inl (.int 0)))) m10))) ∧ ((¬ (x_R (x_K m 115 p1 0 0)).1 = 0) → (∀ m9 : ch_M, m9 = r_kp (x_K m 115 p1 0 0) (x_R (x_K m 115 p1 0 0)).1 (x_R (x_K m 115 p1 0 0)).2 → Q (.inl (some (.inl (.int 1)))) m9)))) : ch_J g m_l_strike (ch_rm m_l_strike) (ch_E g m_l_strike Q) 0 [some (.inr (0, 0, 0)), some (.inl (.int p1)), some (.inr (10, 0, 1)), none] [] m 0 := by
  refine ch_aload_n (i := 2) d_l_strike_0 rfl rfl ?_
  refine ch_iconst (v := 0) d_l_strike_1 (by decide) ?_
  refine ch_aload_n (i := 0) d_l_strike_2 rfl rfl ?_
  refine ch_iload_n (i := 1) d_l_strike_3 rfl rfl ?_
  have b4 := h.1
  replace h := h.2
  have b5 := h.1
  replace h := h.2
  have b6 := h.1
  replace h := h.2
  have b7 := h.1
  replace h := h.2
  refine ch_callV (as := [.inl (.int p1)]) d_l_strike_4 lk_l_25 mi_x_strike me_x_strike rfl rfl rfl ⟨Nat.le_of_ble_eq_true rfl, Nat.le_of_ble_eq_true rfl⟩ (Nat.le_of_ble_eq_true rfl) ⟨Nat.le_of_ble_eq_true rfl, Nat.le_of_ble_eq_true rfl⟩ (ch_mono (ch_Kx (ch_Ki (fun r1 m2 q3 => ?_)) (fun n8 m9 hn_ q3 => ?_)) (s_x_strike g (fun (r_ : Int32) (m_ : ch_M) => (((x_R (x_K m 115 p1 0 0)).1 = 0) ∧ ((x_C (x_K m 115 p1 0 0)).1) = r_ ∧ m_ = ch_os (p_kM (x_K m 115 p1 0 0) 0) 1 0 (x_C (x_K m 115 p1 0 0)).2)) (fun (n_ : Nat) (m_ : ch_M) => ((¬ (x_R (x_K m 115 p1 0 0)).1 = 0) ∧ n_ = 0 ∧ m_ = r_kp (x_K m 115 p1 0 0) (x_R (x_K m 115 p1 0 0)).1 (x_R (x_K m 115 p1 0 0)).2)) (p1) m ⟨b4, b5, b6, b7, (fun c_ => ⟨c_, rfl, rfl⟩), (fun c_ => ⟨c_, rfl, rfl⟩)⟩))
  · obtain ⟨c_, rfl, hm_⟩ := q3
    replace h := h.1 c_ m2 hm_
    refine ch_i2l d_l_strike_7 ?_
    refine ch_last (n := 1) d_l_strike_8 (by decide) rfl (vp_in_nI (n := 0) (by decide) (by decide)) ?_
    show ch_J g _ _ _ _ _ _ (ch_wr m2 (10, 0, 1) (0) ((x_C (x_K m 115 p1 0 0)).1)) _
    generalize hmm10 : ch_wr m2 (10, 0, 1) (0) ((x_C (x_K m 115 p1 0 0)).1) = m10
    replace h := h m10 hmm10.symm
    refine ch_goto (tgt := 15) d_l_strike_9 (by decide) ?_
    refine ch_iconst (v := 0) d_l_strike_15 (by decide) ?_
    exact ch_iret (ty := .int) d_l_strike_16 rfl rfl (Nat.le_of_ble_eq_true rfl) h
  · obtain ⟨c_, rfl, hm_⟩ := q3
    replace h := h.2 c_ m9 hm_
    refine ch_caught (i := 3) (ls' := [some (.inr (0, 0, 0)), some (.inl (.int p1)), some (.inr (10, 0, 1)), none]) [] (0, 9, 12, 13) [] rfl (fun z hz => by cases hz) ⟨by decide, by decide⟩ (by decide) ck_l_13 cx_0 (Or.inr ⟨⟨3, rfl, d_l_strike_12⟩, ?_⟩) (Nat.le_of_ble_eq_true rfl) rfl
    refine ch_iconst (v := 1) d_l_strike_13 (by decide) ?_
    exact ch_iret (ty := .int) d_l_strike_14 rfl rfl (Nat.le_of_ble_eq_true rfl) h
theorem e_l_rain (g : ch_G) (Q : ch_O → ch_M → Prop) (p1 : Int32) (m : ch_M) (h : ch_J g m_l_rain (ch_rm m_l_rain) (ch_E g m_l_rain Q) 0 [some (.inr (0, 0, 0)), some (.inl (.int p1)), some (.inr (10, 0, 1)), none] [] m 0) : ch_C g m_l_rain [.inr (0, 0, 0), .inl (.int p1), .inr (10, 0, 1)] m Q :=
  ch_enter mf_l_rain (by intro v hv; simp only [List.mem_cons, List.not_mem_nil, or_false] at hv; rcases hv with rfl | rfl | rfl <;> rfl) (Nat.le_of_ble_eq_true rfl) h
set_option maxHeartbeats 1600000 in
theorem g_l_rain_0 (g : ch_G) (Q : ch_O → ch_M → Prop) (p1 : Int32) (m : ch_M) (h : (vp_in ((x_K m 114 0 0 p1) (1, 0, 0) 8) 6) ∧ (vp_in ((x_K m 114 0 0 p1) (5, 0, 0) 1) 13) ∧ (vp_in ((x_K m 114 0 0 p1) (2, 0, 0) 1) 8) ∧ ((x_R (x_K m 114 0 0 p1)).1 = 0 → y_carP (ch_ob (x_K m 114 0 0 p1) 1 0) (ch_ob (x_K m 114 0 0 p1) 4 0) ((x_K m 114 0 0 p1) (5, 0, 0) 1)) ∧ ((((x_R (x_K m 114 0 0 p1)).1 = 0) → (∀ m2 : ch_M, m2 = ch_os (p_kM (x_K m 114 0 0 p1) 0) 1 0 (x_C (x_K m 114 0 0 p1)).2 → (∀ m10 : ch_M, m10 = ch_wr m2 (10, 0, 1) (0) ((x_C (x_K m 114 0 0 p1)).1) → Q (.inl (some (.inl (.int 0)))) m10))) ∧ ((¬ (x_R (x_K m 114 0 0 p1)).1 = 0) → (∀ m9 : ch_M, m9 = r_kp (x_K m 114 0 0 p1) (x_R (x_K m 114 0 0 p1)).1 (x_R (x_K m 114 0 0 p1)).2 → Q (.inl (some (.inl (.int 1)))) m9)))) : ch_J g m_l_rain (ch_rm m_l_rain) (ch_E g m_l_rain Q) 0 [some (.inr (0, 0, 0)), some (.inl (.int p1)), some (.inr (10, 0, 1)), none] [] m 0 := by
  refine ch_aload_n (i := 2) d_l_rain_0 rfl rfl ?_
  refine ch_iconst (v := 0) d_l_rain_1 (by decide) ?_
  refine ch_aload_n (i := 0) d_l_rain_2 rfl rfl ?_
  refine ch_iload_n (i := 1) d_l_rain_3 rfl rfl ?_
  have b4 := h.1
  replace h := h.2
  have b5 := h.1
  replace h := h.2
  have b6 := h.1
  replace h := h.2
  have b7 := h.1
  replace h := h.2
  refine ch_callV (as := [.inl (.int p1)]) d_l_rain_4 lk_l_28 mi_x_rain me_x_rain rfl rfl rfl ⟨Nat.le_of_ble_eq_true rfl, Nat.le_of_ble_eq_true rfl⟩ (Nat.le_of_ble_eq_true rfl) ⟨Nat.le_of_ble_eq_true rfl, Nat.le_of_ble_eq_true rfl⟩ (ch_mono (ch_Kx (ch_Ki (fun r1 m2 q3 => ?_)) (fun n8 m9 hn_ q3 => ?_)) (s_x_rain g (fun (r_ : Int32) (m_ : ch_M) => (((x_R (x_K m 114 0 0 p1)).1 = 0) ∧ ((x_C (x_K m 114 0 0 p1)).1) = r_ ∧ m_ = ch_os (p_kM (x_K m 114 0 0 p1) 0) 1 0 (x_C (x_K m 114 0 0 p1)).2)) (fun (n_ : Nat) (m_ : ch_M) => ((¬ (x_R (x_K m 114 0 0 p1)).1 = 0) ∧ n_ = 0 ∧ m_ = r_kp (x_K m 114 0 0 p1) (x_R (x_K m 114 0 0 p1)).1 (x_R (x_K m 114 0 0 p1)).2)) (p1) m ⟨b4, b5, b6, b7, (fun c_ => ⟨c_, rfl, rfl⟩), (fun c_ => ⟨c_, rfl, rfl⟩)⟩))
  · obtain ⟨c_, rfl, hm_⟩ := q3
    replace h := h.1 c_ m2 hm_
    refine ch_i2l d_l_rain_7 ?_
    refine ch_last (n := 1) d_l_rain_8 (by decide) rfl (vp_in_nI (n := 0) (by decide) (by decide)) ?_
    show ch_J g _ _ _ _ _ _ (ch_wr m2 (10, 0, 1) (0) ((x_C (x_K m 114 0 0 p1)).1)) _
    generalize hmm10 : ch_wr m2 (10, 0, 1) (0) ((x_C (x_K m 114 0 0 p1)).1) = m10
    replace h := h m10 hmm10.symm
    refine ch_goto (tgt := 15) d_l_rain_9 (by decide) ?_
    refine ch_iconst (v := 0) d_l_rain_15 (by decide) ?_
    exact ch_iret (ty := .int) d_l_rain_16 rfl rfl (Nat.le_of_ble_eq_true rfl) h
  · obtain ⟨c_, rfl, hm_⟩ := q3
    replace h := h.2 c_ m9 hm_
    refine ch_caught (i := 3) (ls' := [some (.inr (0, 0, 0)), some (.inl (.int p1)), some (.inr (10, 0, 1)), none]) [] (0, 9, 12, 13) [] rfl (fun z hz => by cases hz) ⟨by decide, by decide⟩ (by decide) ck_l_13 cx_0 (Or.inr ⟨⟨3, rfl, d_l_rain_12⟩, ?_⟩) (Nat.le_of_ble_eq_true rfl) rfl
    refine ch_iconst (v := 1) d_l_rain_13 (by decide) ?_
    exact ch_iret (ty := .int) d_l_rain_14 rfl rfl (Nat.le_of_ble_eq_true rfl) h
theorem e_l_term (g : ch_G) (Q : ch_O → ch_M → Prop)  (m : ch_M) (h : ch_J g m_l_term (ch_rm m_l_term) (ch_E g m_l_term Q) 0 [some (.inr (0, 0, 0)), some (.inr (10, 0, 1)), none] [] m 0) : ch_C g m_l_term [.inr (0, 0, 0), .inr (10, 0, 1)] m Q :=
  ch_enter mf_l_term (by intro v hv; simp only [List.mem_cons, List.not_mem_nil, or_false] at hv; rcases hv with rfl | rfl <;> rfl) (Nat.le_of_ble_eq_true rfl) h
set_option maxHeartbeats 1600000 in
theorem g_l_term_0 (g : ch_G) (Q : ch_O → ch_M → Prop)  (m : ch_M) (h : (vp_in ((x_K m 116 0 0 0) (1, 0, 0) 8) 6) ∧ (vp_in ((x_K m 116 0 0 0) (5, 0, 0) 1) 13) ∧ (vp_in ((x_K m 116 0 0 0) (2, 0, 0) 1) 8) ∧ ((x_R (x_K m 116 0 0 0)).1 = 0 → y_carP (ch_ob (x_K m 116 0 0 0) 1 0) (ch_ob (x_K m 116 0 0 0) 4 0) ((x_K m 116 0 0 0) (5, 0, 0) 1)) ∧ ((((x_R (x_K m 116 0 0 0)).1 = 0) → (∀ m2 : ch_M, m2 = ch_os (p_kM (x_K m 116 0 0 0) 0) 1 0 (x_C (x_K m 116 0 0 0)).2 → (∀ m10 : ch_M, m10 = ch_wr m2 (10, 0, 1) (0) ((x_C (x_K m 116 0 0 0)).1) → Q (.inl (some (.inl (.int 0)))) m10))) ∧ ((¬ (x_R (x_K m 116 0 0 0)).1 = 0) → (∀ m9 : ch_M, m9 = r_kp (x_K m 116 0 0 0) (x_R (x_K m 116 0 0 0)).1 (x_R (x_K m 116 0 0 0)).2 → Q (.inl (some (.inl (.int 1)))) m9)))) : ch_J g m_l_term (ch_rm m_l_term) (ch_E g m_l_term Q) 0 [some (.inr (0, 0, 0)), some (.inr (10, 0, 1)), none] [] m 0 := by
  refine ch_aload_n (i := 1) d_l_term_0 rfl rfl ?_
  refine ch_iconst (v := 0) d_l_term_1 (by decide) ?_
  refine ch_aload_n (i := 0) d_l_term_2 rfl rfl ?_
  have b4 := h.1
  replace h := h.2
  have b5 := h.1
  replace h := h.2
  have b6 := h.1
  replace h := h.2
  have b7 := h.1
  replace h := h.2
  refine ch_callV (as := []) d_l_term_3 lk_l_31 mi_x_term me_x_term rfl rfl rfl ⟨Nat.le_of_ble_eq_true rfl, Nat.le_of_ble_eq_true rfl⟩ (Nat.le_of_ble_eq_true rfl) ⟨Nat.le_of_ble_eq_true rfl, Nat.le_of_ble_eq_true rfl⟩ (ch_mono (ch_Kx (ch_Ki (fun r1 m2 q3 => ?_)) (fun n8 m9 hn_ q3 => ?_)) (s_x_term g (fun (r_ : Int32) (m_ : ch_M) => (((x_R (x_K m 116 0 0 0)).1 = 0) ∧ ((x_C (x_K m 116 0 0 0)).1) = r_ ∧ m_ = ch_os (p_kM (x_K m 116 0 0 0) 0) 1 0 (x_C (x_K m 116 0 0 0)).2)) (fun (n_ : Nat) (m_ : ch_M) => ((¬ (x_R (x_K m 116 0 0 0)).1 = 0) ∧ n_ = 0 ∧ m_ = r_kp (x_K m 116 0 0 0) (x_R (x_K m 116 0 0 0)).1 (x_R (x_K m 116 0 0 0)).2))  m ⟨b4, b5, b6, b7, (fun c_ => ⟨c_, rfl, rfl⟩), (fun c_ => ⟨c_, rfl, rfl⟩)⟩))
  · obtain ⟨c_, rfl, hm_⟩ := q3
    replace h := h.1 c_ m2 hm_
    refine ch_i2l d_l_term_6 ?_
    refine ch_last (n := 1) d_l_term_7 (by decide) rfl (vp_in_nI (n := 0) (by decide) (by decide)) ?_
    show ch_J g _ _ _ _ _ _ (ch_wr m2 (10, 0, 1) (0) ((x_C (x_K m 116 0 0 0)).1)) _
    generalize hmm10 : ch_wr m2 (10, 0, 1) (0) ((x_C (x_K m 116 0 0 0)).1) = m10
    replace h := h m10 hmm10.symm
    refine ch_goto (tgt := 14) d_l_term_8 (by decide) ?_
    refine ch_iconst (v := 0) d_l_term_14 (by decide) ?_
    exact ch_iret (ty := .int) d_l_term_15 rfl rfl (Nat.le_of_ble_eq_true rfl) h
  · obtain ⟨c_, rfl, hm_⟩ := q3
    replace h := h.2 c_ m9 hm_
    refine ch_caught (i := 2) (ls' := [some (.inr (0, 0, 0)), some (.inr (10, 0, 1)), none]) [] (0, 8, 11, 13) [] rfl (fun z hz => by cases hz) ⟨by decide, by decide⟩ (by decide) ck_l_13 cx_0 (Or.inr ⟨⟨2, rfl, d_l_term_11⟩, ?_⟩) (Nat.le_of_ble_eq_true rfl) rfl
    refine ch_iconst (v := 1) d_l_term_12 (by decide) ?_
    exact ch_iret (ty := .int) d_l_term_13 rfl rfl (Nat.le_of_ble_eq_true rfl) h
theorem e_l_give (g : ch_G) (Q : ch_O → ch_M → Prop) (p1 : Int32) (p2 : Int32) (p3 : Int32) (m : ch_M) (h : ch_J g m_l_give (ch_rm m_l_give) (ch_E g m_l_give Q) 0 [some (.inr (0, 0, 0)), some (.inl (.int p1)), some (.inl (.int p2)), some (.inl (.int p3)), some (.inr (10, 0, 1)), none] [] m 0) : ch_C g m_l_give [.inr (0, 0, 0), .inl (.int p1), .inl (.int p2), .inl (.int p3), .inr (10, 0, 1)] m Q :=
  ch_enter mf_l_give (by intro v hv; simp only [List.mem_cons, List.not_mem_nil, or_false] at hv; rcases hv with rfl | rfl | rfl | rfl | rfl <;> rfl) (Nat.le_of_ble_eq_true rfl) h
set_option maxHeartbeats 1600000 in
theorem g_l_give_0 (g : ch_G) (Q : ch_O → ch_M → Prop) (p1 : Int32) (p2 : Int32) (p3 : Int32) (m : ch_M) (h : (vp_in ((x_K m 103 p1 p2 p3) (1, 0, 0) 8) 6) ∧ (vp_in ((x_K m 103 p1 p2 p3) (5, 0, 0) 1) 13) ∧ (vp_in ((x_K m 103 p1 p2 p3) (2, 0, 0) 1) 8) ∧ ((x_R (x_K m 103 p1 p2 p3)).1 = 0 → y_carP (ch_ob (x_K m 103 p1 p2 p3) 1 0) (ch_ob (x_K m 103 p1 p2 p3) 4 0) ((x_K m 103 p1 p2 p3) (5, 0, 0) 1)) ∧ ((((x_R (x_K m 103 p1 p2 p3)).1 = 0) → (∀ m2 : ch_M, m2 = ch_os (p_kM (x_K m 103 p1 p2 p3) 0) 1 0 (x_C (x_K m 103 p1 p2 p3)).2 → (∀ m10 : ch_M, m10 = ch_wr m2 (10, 0, 1) (0) ((x_C (x_K m 103 p1 p2 p3)).1) → Q (.inl (some (.inl (.int 0)))) m10))) ∧ ((¬ (x_R (x_K m 103 p1 p2 p3)).1 = 0) → (∀ m9 : ch_M, m9 = r_kp (x_K m 103 p1 p2 p3) (x_R (x_K m 103 p1 p2 p3)).1 (x_R (x_K m 103 p1 p2 p3)).2 → Q (.inl (some (.inl (.int 1)))) m9)))) : ch_J g m_l_give (ch_rm m_l_give) (ch_E g m_l_give Q) 0 [some (.inr (0, 0, 0)), some (.inl (.int p1)), some (.inl (.int p2)), some (.inl (.int p3)), some (.inr (10, 0, 1)), none] [] m 0 := by
  refine ch_aload d_l_give_0 rfl ?_
  refine ch_iconst (v := 0) d_l_give_2 (by decide) ?_
  refine ch_aload_n (i := 0) d_l_give_3 rfl rfl ?_
  refine ch_iload_n (i := 1) d_l_give_4 rfl rfl ?_
  refine ch_iload_n (i := 2) d_l_give_5 rfl rfl ?_
  refine ch_iload_n (i := 3) d_l_give_6 rfl rfl ?_
  have b4 := h.1
  replace h := h.2
  have b5 := h.1
  replace h := h.2
  have b6 := h.1
  replace h := h.2
  have b7 := h.1
  replace h := h.2
  refine ch_callV (as := [.inl (.int p1), .inl (.int p2), .inl (.int p3)]) d_l_give_7 lk_l_35 mi_x_give me_x_give rfl rfl rfl ⟨Nat.le_of_ble_eq_true rfl, Nat.le_of_ble_eq_true rfl⟩ (Nat.le_of_ble_eq_true rfl) ⟨Nat.le_of_ble_eq_true rfl, Nat.le_of_ble_eq_true rfl⟩ (ch_mono (ch_Kx (ch_Ki (fun r1 m2 q3 => ?_)) (fun n8 m9 hn_ q3 => ?_)) (s_x_give g (fun (r_ : Int32) (m_ : ch_M) => (((x_R (x_K m 103 p1 p2 p3)).1 = 0) ∧ ((x_C (x_K m 103 p1 p2 p3)).1) = r_ ∧ m_ = ch_os (p_kM (x_K m 103 p1 p2 p3) 0) 1 0 (x_C (x_K m 103 p1 p2 p3)).2)) (fun (n_ : Nat) (m_ : ch_M) => ((¬ (x_R (x_K m 103 p1 p2 p3)).1 = 0) ∧ n_ = 0 ∧ m_ = r_kp (x_K m 103 p1 p2 p3) (x_R (x_K m 103 p1 p2 p3)).1 (x_R (x_K m 103 p1 p2 p3)).2)) (p1) (p2) (p3) m ⟨b4, b5, b6, b7, (fun c_ => ⟨c_, rfl, rfl⟩), (fun c_ => ⟨c_, rfl, rfl⟩)⟩))
  · obtain ⟨c_, rfl, hm_⟩ := q3
    replace h := h.1 c_ m2 hm_
    refine ch_i2l d_l_give_10 ?_
    refine ch_last (n := 1) d_l_give_11 (by decide) rfl (vp_in_nI (n := 0) (by decide) (by decide)) ?_
    show ch_J g _ _ _ _ _ _ (ch_wr m2 (10, 0, 1) (0) ((x_C (x_K m 103 p1 p2 p3)).1)) _
    generalize hmm10 : ch_wr m2 (10, 0, 1) (0) ((x_C (x_K m 103 p1 p2 p3)).1) = m10
    replace h := h m10 hmm10.symm
    refine ch_goto (tgt := 19) d_l_give_12 (by decide) ?_
    refine ch_iconst (v := 0) d_l_give_19 (by decide) ?_
    exact ch_iret (ty := .int) d_l_give_20 rfl rfl (Nat.le_of_ble_eq_true rfl) h
  · obtain ⟨c_, rfl, hm_⟩ := q3
    replace h := h.2 c_ m9 hm_
    refine ch_caught (i := 5) (ls' := [some (.inr (0, 0, 0)), some (.inl (.int p1)), some (.inl (.int p2)), some (.inl (.int p3)), some (.inr (10, 0, 1)), none]) [] (0, 12, 15, 13) [] rfl (fun z hz => by cases hz) ⟨by decide, by decide⟩ (by decide) ck_l_13 cx_0 (Or.inl ⟨d_l_give_15, ?_⟩) (Nat.le_of_ble_eq_true rfl) rfl
    refine ch_iconst (v := 1) d_l_give_17 (by decide) ?_
    exact ch_iret (ty := .int) d_l_give_18 rfl rfl (Nat.le_of_ble_eq_true rfl) h
theorem e_l_squareOf (g : ch_G) (Q : ch_O → ch_M → Prop) (p1 : Int32) (p2 : Int32) (m : ch_M) (h : ch_J g m_l_squareOf (ch_rm m_l_squareOf) (ch_E g m_l_squareOf Q) 0 [some (.inr (0, 0, 0)), some (.inl (.int p1)), some (.inl (.int p2)), some (.inr (10, 0, 1)), none] [] m 0) : ch_C g m_l_squareOf [.inr (0, 0, 0), .inl (.int p1), .inl (.int p2), .inr (10, 0, 1)] m Q :=
  ch_enter mf_l_squareOf (by intro v hv; simp only [List.mem_cons, List.not_mem_nil, or_false] at hv; rcases hv with rfl | rfl | rfl | rfl <;> rfl) (Nat.le_of_ble_eq_true rfl) h
set_option maxHeartbeats 1600000 in
theorem g_l_squareOf_0 (g : ch_G) (Q : ch_O → ch_M → Prop) (p1 : Int32) (p2 : Int32) (m : ch_M) (h : (((0 ≤ p1 ∧ p1 < 12) → (∀ m6 : ch_M, m6 = ch_wr m (10, 0, 1) (0) (if p2 = 0 then m (1, 0, 1) (Int32.toNatClampNeg p1) else m (1, 0, 2) (Int32.toNatClampNeg p1)) → Q (.inl (some (.inl (.int 0)))) m6)) ∧ ((¬ (0 ≤ p1 ∧ p1 < 12)) → Q (.inl (some (.inl (.int 1)))) m))) : ch_J g m_l_squareOf (ch_rm m_l_squareOf) (ch_E g m_l_squareOf Q) 0 [some (.inr (0, 0, 0)), some (.inl (.int p1)), some (.inl (.int p2)), some (.inr (10, 0, 1)), none] [] m 0 := by
  refine ch_aload_n (i := 3) d_l_squareOf_0 rfl rfl ?_
  refine ch_iconst (v := 0) d_l_squareOf_1 (by decide) ?_
  refine ch_aload_n (i := 0) d_l_squareOf_2 rfl rfl ?_
  refine ch_iload_n (i := 1) d_l_squareOf_3 rfl rfl ?_
  refine ch_iload_n (i := 2) d_l_squareOf_4 rfl rfl ?_
  refine ch_callV (as := [.inl (.int p1), .inl (.int p2)]) d_l_squareOf_5 lk_l_39 mi_x_squareOf me_x_squareOf rfl rfl rfl ⟨Nat.le_of_ble_eq_true rfl, Nat.le_of_ble_eq_true rfl⟩ (Nat.le_of_ble_eq_true rfl) ⟨Nat.le_of_ble_eq_true rfl, Nat.le_of_ble_eq_true rfl⟩ (ch_mono (ch_Kx (ch_Ki (fun r1 m2 q3 => ?_)) (fun n4 m5 hn_ q3 => ?_)) (s_x_squareOf g (fun (r_ : Int32) (m_ : ch_M) => ((0 ≤ p1 ∧ p1 < 12) ∧ (if p2 = 0 then m (1, 0, 1) (Int32.toNatClampNeg p1) else m (1, 0, 2) (Int32.toNatClampNeg p1)) = r_ ∧ m = m_)) (fun (n_ : Nat) (m_ : ch_M) => ((¬ (0 ≤ p1 ∧ p1 < 12)) ∧ n_ = 1 ∧ m = m_)) (p1) (p2) m ⟨(fun c_ => ⟨c_, rfl, rfl⟩), (fun c_ => ⟨c_, rfl, rfl⟩)⟩))
  · obtain ⟨c_, rfl, rfl⟩ := q3
    replace h := h.1 c_
    refine ch_i2l d_l_squareOf_8 ?_
    refine ch_last (n := 1) d_l_squareOf_9 (by decide) rfl (vp_in_nI (n := 0) (by decide) (by decide)) ?_
    show ch_J g _ _ _ _ _ _ (ch_wr m (10, 0, 1) (0) (if p2 = 0 then m (1, 0, 1) (Int32.toNatClampNeg p1) else m (1, 0, 2) (Int32.toNatClampNeg p1))) _
    generalize hmm6 : ch_wr m (10, 0, 1) (0) (if p2 = 0 then m (1, 0, 1) (Int32.toNatClampNeg p1) else m (1, 0, 2) (Int32.toNatClampNeg p1)) = m6
    replace h := h m6 hmm6.symm
    refine ch_goto (tgt := 17) d_l_squareOf_10 (by decide) ?_
    refine ch_iconst (v := 0) d_l_squareOf_17 (by decide) ?_
    exact ch_iret (ty := .int) d_l_squareOf_18 rfl rfl (Nat.le_of_ble_eq_true rfl) h
  · obtain ⟨c_, rfl, rfl⟩ := q3
    replace h := h.2 c_
    refine ch_caught (i := 4) (ls' := [some (.inr (0, 0, 0)), some (.inl (.int p1)), some (.inl (.int p2)), some (.inr (10, 0, 1)), none]) [] (0, 10, 13, 43) [] rfl (fun z hz => by cases hz) ⟨by decide, by decide⟩ (by decide) ck_l_43 cx_1 (Or.inl ⟨d_l_squareOf_13, ?_⟩) (Nat.le_of_ble_eq_true rfl) rfl
    refine ch_iconst (v := 1) d_l_squareOf_15 (by decide) ?_
    exact ch_iret (ty := .int) d_l_squareOf_16 rfl rfl (Nat.le_of_ble_eq_true rfl) h
theorem e_l_childOf (g : ch_G) (Q : ch_O → ch_M → Prop) (p1 : Int32) (p2 : Int32) (m : ch_M) (h : ch_J g m_l_childOf (ch_rm m_l_childOf) (ch_E g m_l_childOf Q) 0 [some (.inr (0, 0, 0)), some (.inl (.int p1)), some (.inl (.int p2)), some (.inr (10, 0, 1)), none] [] m 0) : ch_C g m_l_childOf [.inr (0, 0, 0), .inl (.int p1), .inl (.int p2), .inr (10, 0, 1)] m Q :=
  ch_enter mf_l_childOf (by intro v hv; simp only [List.mem_cons, List.not_mem_nil, or_false] at hv; rcases hv with rfl | rfl | rfl | rfl <;> rfl) (Nat.le_of_ble_eq_true rfl) h
set_option maxHeartbeats 1600000 in
theorem g_l_childOf_0 (g : ch_G) (Q : ch_O → ch_M → Prop) (p1 : Int32) (p2 : Int32) (m : ch_M) (h : (vp_in (m (1, 0, 0) 8) 6) ∧ ((((0 ≤ p1 ∧ p1 < m (1, 0, 0) 8) ∧ 0 ≤ p2 ∧ p2 ≤ 6) → (∀ m7 : ch_M, m7 = ch_wr m (10, 0, 1) (0) (x_coR (ch_ob m 1 0) p1 p2) → Q (.inl (some (.inl (.int 0)))) m7)) ∧ ((¬ (0 ≤ p1 ∧ p1 < m (1, 0, 0) 8)) → Q (.inl (some (.inl (.int 1)))) m) ∧ (((0 ≤ p1 ∧ p1 < m (1, 0, 0) 8) ∧ ¬ (0 ≤ p2 ∧ p2 ≤ 6)) → Q (.inl (some (.inl (.int 2)))) m))) : ch_J g m_l_childOf (ch_rm m_l_childOf) (ch_E g m_l_childOf Q) 0 [some (.inr (0, 0, 0)), some (.inl (.int p1)), some (.inl (.int p2)), some (.inr (10, 0, 1)), none] [] m 0 := by
  refine ch_aload_n (i := 3) d_l_childOf_0 rfl rfl ?_
  refine ch_iconst (v := 0) d_l_childOf_1 (by decide) ?_
  refine ch_aload_n (i := 0) d_l_childOf_2 rfl rfl ?_
  refine ch_iload_n (i := 1) d_l_childOf_3 rfl rfl ?_
  refine ch_iload_n (i := 2) d_l_childOf_4 rfl rfl ?_
  have b4 := h.1
  replace h := h.2
  refine ch_callV (as := [.inl (.int p1), .inl (.int p2)]) d_l_childOf_5 lk_l_45 mi_x_childOf me_x_childOf rfl rfl rfl ⟨Nat.le_of_ble_eq_true rfl, Nat.le_of_ble_eq_true rfl⟩ (Nat.le_of_ble_eq_true rfl) ⟨Nat.le_of_ble_eq_true rfl, Nat.le_of_ble_eq_true rfl⟩ (ch_mono (ch_Kx (ch_Ki (fun r1 m2 q3 => ?_)) (fun n5 m6 hn_ q3 => ?_)) (s_x_childOf g (fun (r_ : Int32) (m_ : ch_M) => (((0 ≤ p1 ∧ p1 < m (1, 0, 0) 8) ∧ 0 ≤ p2 ∧ p2 ≤ 6) ∧ (x_coR (ch_ob m 1 0) p1 p2) = r_ ∧ m = m_)) (fun (n_ : Nat) (m_ : ch_M) => ((¬ (0 ≤ p1 ∧ p1 < m (1, 0, 0) 8)) ∧ n_ = 1 ∧ m = m_) ∨ (((0 ≤ p1 ∧ p1 < m (1, 0, 0) 8) ∧ ¬ (0 ≤ p2 ∧ p2 ≤ 6)) ∧ n_ = 2 ∧ m = m_)) (p1) (p2) m ⟨b4, (fun c_ => ⟨c_, rfl, rfl⟩), (fun c_ => (Or.inl ⟨c_, rfl, rfl⟩)), (fun c_ => (Or.inr ⟨c_, rfl, rfl⟩))⟩))
  · obtain ⟨c_, rfl, rfl⟩ := q3
    replace h := h.1 c_
    refine ch_i2l d_l_childOf_8 ?_
    refine ch_last (n := 1) d_l_childOf_9 (by decide) rfl (vp_in_nI (n := 0) (by decide) (by decide)) ?_
    show ch_J g _ _ _ _ _ _ (ch_wr m (10, 0, 1) (0) (x_coR (ch_ob m 1 0) p1 p2)) _
    generalize hmm7 : ch_wr m (10, 0, 1) (0) (x_coR (ch_ob m 1 0) p1 p2) = m7
    replace h := h m7 hmm7.symm
    refine ch_goto (tgt := 21) d_l_childOf_10 (by decide) ?_
    refine ch_iconst (v := 0) d_l_childOf_21 (by decide) ?_
    exact ch_iret (ty := .int) d_l_childOf_22 rfl rfl (Nat.le_of_ble_eq_true rfl) h
  · rcases q3 with ⟨c_, rfl, rfl⟩ | ⟨c_, rfl, rfl⟩
    · replace h := h.2.1 c_
      refine ch_caught (i := 4) (ls' := [some (.inr (0, 0, 0)), some (.inl (.int p1)), some (.inl (.int p2)), some (.inr (10, 0, 1)), none]) [] (0, 10, 13, 43) [(0, 10, 17, 48)] rfl (fun z hz => by cases hz) ⟨by decide, by decide⟩ (by decide) ck_l_43 cx_1 (Or.inl ⟨d_l_childOf_13, ?_⟩) (Nat.le_of_ble_eq_true rfl) rfl
      refine ch_iconst (v := 1) d_l_childOf_15 (by decide) ?_
      exact ch_iret (ty := .int) d_l_childOf_16 rfl rfl (Nat.le_of_ble_eq_true rfl) h
    · replace h := h.2.2 c_
      refine ch_caught (i := 4) (ls' := [some (.inr (0, 0, 0)), some (.inl (.int p1)), some (.inl (.int p2)), some (.inr (10, 0, 1)), none]) [(0, 10, 13, 43)] (0, 10, 17, 48) [] rfl (fun z hz => by simp only [List.mem_cons, List.not_mem_nil, or_false] at hz; subst hz; exact ⟨by decide, 1, by decide, by decide, ck_l_43⟩) ⟨by decide, by decide⟩ (by decide) ck_l_48 cx_2 (Or.inl ⟨d_l_childOf_17, ?_⟩) (Nat.le_of_ble_eq_true rfl) rfl
      refine ch_iconst (v := 2) d_l_childOf_19 (by decide) ?_
      exact ch_iret (ty := .int) d_l_childOf_20 rfl rfl (Nat.le_of_ble_eq_true rfl) h
theorem e_l_squares (g : ch_G) (Q : ch_O → ch_M → Prop) (p1 : Int32) (m : ch_M) (h : ch_J g m_l_squares (ch_rm m_l_squares) (ch_E g m_l_squares Q) 0 [some (.inr (0, 0, 0)), some (.inl (.int p1)), some (.inr (10, 0, 1)), none] [] m 0) : ch_C g m_l_squares [.inr (0, 0, 0), .inl (.int p1), .inr (10, 0, 1)] m Q :=
  ch_enter mf_l_squares (by intro v hv; simp only [List.mem_cons, List.not_mem_nil, or_false] at hv; rcases hv with rfl | rfl | rfl <;> rfl) (Nat.le_of_ble_eq_true rfl) h
set_option maxHeartbeats 1600000 in
theorem g_l_squares_0 (g : ch_G) (Q : ch_O → ch_M → Prop) (p1 : Int32) (m : ch_M) (h : (((0 ≤ p1 ∧ p1 < m (1, 0, 0) 8) → (∀ m6 : ch_M, m6 = ch_wr m (10, 0, 1) (0) (y_ofS (m (1, 0, 1)) p1 0 12) → Q (.inl (some (.inl (.int 0)))) m6)) ∧ ((¬ (0 ≤ p1 ∧ p1 < m (1, 0, 0) 8)) → Q (.inl (some (.inl (.int 1)))) m))) : ch_J g m_l_squares (ch_rm m_l_squares) (ch_E g m_l_squares Q) 0 [some (.inr (0, 0, 0)), some (.inl (.int p1)), some (.inr (10, 0, 1)), none] [] m 0 := by
  refine ch_aload_n (i := 2) d_l_squares_0 rfl rfl ?_
  refine ch_iconst (v := 0) d_l_squares_1 (by decide) ?_
  refine ch_aload_n (i := 0) d_l_squares_2 rfl rfl ?_
  refine ch_iload_n (i := 1) d_l_squares_3 rfl rfl ?_
  refine ch_callV (as := [.inl (.int p1)]) d_l_squares_4 lk_l_50 mi_x_squares me_x_squares rfl rfl rfl ⟨Nat.le_of_ble_eq_true rfl, Nat.le_of_ble_eq_true rfl⟩ (Nat.le_of_ble_eq_true rfl) ⟨Nat.le_of_ble_eq_true rfl, Nat.le_of_ble_eq_true rfl⟩ (ch_mono (ch_Kx (ch_Ki (fun r1 m2 q3 => ?_)) (fun n4 m5 hn_ q3 => ?_)) (s_x_squares g (fun (r_ : Int32) (m_ : ch_M) => ((0 ≤ p1 ∧ p1 < m (1, 0, 0) 8) ∧ (y_ofS (m (1, 0, 1)) p1 0 12) = r_ ∧ m = m_)) (fun (n_ : Nat) (m_ : ch_M) => ((¬ (0 ≤ p1 ∧ p1 < m (1, 0, 0) 8)) ∧ n_ = 1 ∧ m = m_)) (p1) m ⟨(fun c_ => ⟨c_, rfl, rfl⟩), (fun c_ => ⟨c_, rfl, rfl⟩)⟩))
  · obtain ⟨c_, rfl, rfl⟩ := q3
    replace h := h.1 c_
    refine ch_i2l d_l_squares_7 ?_
    refine ch_last (n := 1) d_l_squares_8 (by decide) rfl (vp_in_nI (n := 0) (by decide) (by decide)) ?_
    show ch_J g _ _ _ _ _ _ (ch_wr m (10, 0, 1) (0) (y_ofS (m (1, 0, 1)) p1 0 12)) _
    generalize hmm6 : ch_wr m (10, 0, 1) (0) (y_ofS (m (1, 0, 1)) p1 0 12) = m6
    replace h := h m6 hmm6.symm
    refine ch_goto (tgt := 15) d_l_squares_9 (by decide) ?_
    refine ch_iconst (v := 0) d_l_squares_15 (by decide) ?_
    exact ch_iret (ty := .int) d_l_squares_16 rfl rfl (Nat.le_of_ble_eq_true rfl) h
  · obtain ⟨c_, rfl, rfl⟩ := q3
    replace h := h.2 c_
    refine ch_caught (i := 3) (ls' := [some (.inr (0, 0, 0)), some (.inl (.int p1)), some (.inr (10, 0, 1)), none]) [] (0, 9, 12, 43) [] rfl (fun z hz => by cases hz) ⟨by decide, by decide⟩ (by decide) ck_l_43 cx_1 (Or.inr ⟨⟨3, rfl, d_l_squares_12⟩, ?_⟩) (Nat.le_of_ble_eq_true rfl) rfl
    refine ch_iconst (v := 1) d_l_squares_13 (by decide) ?_
    exact ch_iret (ty := .int) d_l_squares_14 rfl rfl (Nat.le_of_ble_eq_true rfl) h
theorem e_l_warrantAt (g : ch_G) (Q : ch_O → ch_M → Prop) (p1 : Int32) (m : ch_M) (h : ch_J g m_l_warrantAt (ch_rm m_l_warrantAt) (ch_E g m_l_warrantAt Q) 0 [some (.inr (0, 0, 0)), some (.inl (.int p1)), some (.inr (10, 0, 1)), none] [] m 0) : ch_C g m_l_warrantAt [.inr (0, 0, 0), .inl (.int p1), .inr (10, 0, 1)] m Q :=
  ch_enter mf_l_warrantAt (by intro v hv; simp only [List.mem_cons, List.not_mem_nil, or_false] at hv; rcases hv with rfl | rfl | rfl <;> rfl) (Nat.le_of_ble_eq_true rfl) h
set_option maxHeartbeats 1600000 in
theorem g_l_warrantAt_0 (g : ch_G) (Q : ch_O → ch_M → Prop) (p1 : Int32) (m : ch_M) (h : (vp_in (m (1, 0, 0) 9) 6) ∧ (((0 ≤ p1 ∧ p1 < m (1, 0, 0) 9) → (∀ m7 : ch_M, m7 = ch_wr m (10, 0, 1) (0) (m (1, 0, 8) (Int32.toNatClampNeg p1)) → Q (.inl (some (.inl (.int 0)))) m7)) ∧ ((¬ (0 ≤ p1 ∧ p1 < m (1, 0, 0) 9)) → Q (.inl (some (.inl (.int 1)))) m))) : ch_J g m_l_warrantAt (ch_rm m_l_warrantAt) (ch_E g m_l_warrantAt Q) 0 [some (.inr (0, 0, 0)), some (.inl (.int p1)), some (.inr (10, 0, 1)), none] [] m 0 := by
  refine ch_aload_n (i := 2) d_l_warrantAt_0 rfl rfl ?_
  refine ch_iconst (v := 0) d_l_warrantAt_1 (by decide) ?_
  refine ch_aload_n (i := 0) d_l_warrantAt_2 rfl rfl ?_
  refine ch_iload_n (i := 1) d_l_warrantAt_3 rfl rfl ?_
  have b4 := h.1
  replace h := h.2
  refine ch_callV (as := [.inl (.int p1)]) d_l_warrantAt_4 lk_l_53 mi_x_warrantAt me_x_warrantAt rfl rfl rfl ⟨Nat.le_of_ble_eq_true rfl, Nat.le_of_ble_eq_true rfl⟩ (Nat.le_of_ble_eq_true rfl) ⟨Nat.le_of_ble_eq_true rfl, Nat.le_of_ble_eq_true rfl⟩ (ch_mono (ch_Kx (ch_Ki (fun r1 m2 q3 => ?_)) (fun n5 m6 hn_ q3 => ?_)) (s_x_warrantAt g (fun (r_ : Int32) (m_ : ch_M) => ((0 ≤ p1 ∧ p1 < m (1, 0, 0) 9) ∧ (m (1, 0, 8) (Int32.toNatClampNeg p1)) = r_ ∧ m = m_)) (fun (n_ : Nat) (m_ : ch_M) => ((¬ (0 ≤ p1 ∧ p1 < m (1, 0, 0) 9)) ∧ n_ = 3 ∧ m = m_)) (p1) m ⟨b4, (fun c_ => ⟨c_, rfl, rfl⟩), (fun c_ => ⟨c_, rfl, rfl⟩)⟩))
  · obtain ⟨c_, rfl, rfl⟩ := q3
    replace h := h.1 c_
    refine ch_i2l d_l_warrantAt_7 ?_
    refine ch_last (n := 1) d_l_warrantAt_8 (by decide) rfl (vp_in_nI (n := 0) (by decide) (by decide)) ?_
    show ch_J g _ _ _ _ _ _ (ch_wr m (10, 0, 1) (0) (m (1, 0, 8) (Int32.toNatClampNeg p1))) _
    generalize hmm7 : ch_wr m (10, 0, 1) (0) (m (1, 0, 8) (Int32.toNatClampNeg p1)) = m7
    replace h := h m7 hmm7.symm
    refine ch_goto (tgt := 15) d_l_warrantAt_9 (by decide) ?_
    refine ch_iconst (v := 0) d_l_warrantAt_15 (by decide) ?_
    exact ch_iret (ty := .int) d_l_warrantAt_16 rfl rfl (Nat.le_of_ble_eq_true rfl) h
  · obtain ⟨c_, rfl, rfl⟩ := q3
    replace h := h.2 c_
    refine ch_caught (i := 3) (ls' := [some (.inr (0, 0, 0)), some (.inl (.int p1)), some (.inr (10, 0, 1)), none]) [] (0, 9, 12, 56) [] rfl (fun z hz => by cases hz) ⟨by decide, by decide⟩ (by decide) ck_l_56 cx_3 (Or.inr ⟨⟨3, rfl, d_l_warrantAt_12⟩, ?_⟩) (Nat.le_of_ble_eq_true rfl) rfl
    refine ch_iconst (v := 1) d_l_warrantAt_13 (by decide) ?_
    exact ch_iret (ty := .int) d_l_warrantAt_14 rfl rfl (Nat.le_of_ble_eq_true rfl) h
theorem e_l_fewest (g : ch_G) (Q : ch_O → ch_M → Prop) (p1 : Int32) (m : ch_M) (h : ch_J g m_l_fewest (ch_rm m_l_fewest) (ch_E g m_l_fewest Q) 0 [some (.inr (0, 0, 0)), some (.inl (.int p1)), some (.inr (10, 0, 1)), none] [] m 0) : ch_C g m_l_fewest [.inr (0, 0, 0), .inl (.int p1), .inr (10, 0, 1)] m Q :=
  ch_enter mf_l_fewest (by intro v hv; simp only [List.mem_cons, List.not_mem_nil, or_false] at hv; rcases hv with rfl | rfl | rfl <;> rfl) (Nat.le_of_ble_eq_true rfl) h
set_option maxHeartbeats 1600000 in
theorem g_l_fewest_0 (g : ch_G) (Q : ch_O → ch_M → Prop) (p1 : Int32) (m : ch_M) (h : (((0 ≤ p1 ∧ p1 < m (1, 0, 0) 8) → (∀ m2 : ch_M, m2 = ch_os m 8 0 (w_fl (ch_ob m 8 0) (w_l (ch_ob m 1 0) p1) 12) → (∀ m6 : ch_M, m6 = ch_wr m2 (10, 0, 1) (0) (w_fl (ch_ob m 8 0) (w_l (ch_ob m 1 0) p1) 12 1 0) → Q (.inl (some (.inl (.int 0)))) m6))) ∧ ((¬ (0 ≤ p1 ∧ p1 < m (1, 0, 0) 8)) → Q (.inl (some (.inl (.int 1)))) m))) : ch_J g m_l_fewest (ch_rm m_l_fewest) (ch_E g m_l_fewest Q) 0 [some (.inr (0, 0, 0)), some (.inl (.int p1)), some (.inr (10, 0, 1)), none] [] m 0 := by
  refine ch_aload_n (i := 2) d_l_fewest_0 rfl rfl ?_
  refine ch_iconst (v := 0) d_l_fewest_1 (by decide) ?_
  refine ch_aload_n (i := 0) d_l_fewest_2 rfl rfl ?_
  refine ch_iload_n (i := 1) d_l_fewest_3 rfl rfl ?_
  refine ch_callV (as := [.inl (.int p1)]) d_l_fewest_4 lk_l_58 mi_x_fewest me_x_fewest rfl rfl rfl ⟨Nat.le_of_ble_eq_true rfl, Nat.le_of_ble_eq_true rfl⟩ (Nat.le_of_ble_eq_true rfl) ⟨Nat.le_of_ble_eq_true rfl, Nat.le_of_ble_eq_true rfl⟩ (ch_mono (ch_Kx (ch_Ki (fun r1 m2 q3 => ?_)) (fun n4 m5 hn_ q3 => ?_)) (s_x_fewest g (fun (r_ : Int32) (m_ : ch_M) => ((0 ≤ p1 ∧ p1 < m (1, 0, 0) 8) ∧ (w_fl (ch_ob m 8 0) (w_l (ch_ob m 1 0) p1) 12 1 0) = r_ ∧ m_ = ch_os m 8 0 (w_fl (ch_ob m 8 0) (w_l (ch_ob m 1 0) p1) 12))) (fun (n_ : Nat) (m_ : ch_M) => ((¬ (0 ≤ p1 ∧ p1 < m (1, 0, 0) 8)) ∧ n_ = 1 ∧ m = m_)) (p1) m ⟨(fun c_ => ⟨c_, rfl, rfl⟩), (fun c_ => ⟨c_, rfl, rfl⟩)⟩))
  · obtain ⟨c_, rfl, hm_⟩ := q3
    replace h := h.1 c_ m2 hm_
    refine ch_i2l d_l_fewest_7 ?_
    refine ch_last (n := 1) d_l_fewest_8 (by decide) rfl (vp_in_nI (n := 0) (by decide) (by decide)) ?_
    show ch_J g _ _ _ _ _ _ (ch_wr m2 (10, 0, 1) (0) (w_fl (ch_ob m 8 0) (w_l (ch_ob m 1 0) p1) 12 1 0)) _
    generalize hmm6 : ch_wr m2 (10, 0, 1) (0) (w_fl (ch_ob m 8 0) (w_l (ch_ob m 1 0) p1) 12 1 0) = m6
    replace h := h m6 hmm6.symm
    refine ch_goto (tgt := 15) d_l_fewest_9 (by decide) ?_
    refine ch_iconst (v := 0) d_l_fewest_15 (by decide) ?_
    exact ch_iret (ty := .int) d_l_fewest_16 rfl rfl (Nat.le_of_ble_eq_true rfl) h
  · obtain ⟨c_, rfl, rfl⟩ := q3
    replace h := h.2 c_
    refine ch_caught (i := 3) (ls' := [some (.inr (0, 0, 0)), some (.inl (.int p1)), some (.inr (10, 0, 1)), none]) [] (0, 9, 12, 43) [] rfl (fun z hz => by cases hz) ⟨by decide, by decide⟩ (by decide) ck_l_43 cx_1 (Or.inr ⟨⟨3, rfl, d_l_fewest_12⟩, ?_⟩) (Nat.le_of_ble_eq_true rfl) rfl
    refine ch_iconst (v := 1) d_l_fewest_13 (by decide) ?_
    exact ch_iret (ty := .int) d_l_fewest_14 rfl rfl (Nat.le_of_ble_eq_true rfl) h
theorem e_l_fewestAgain (g : ch_G) (Q : ch_O → ch_M → Prop) (p1 : Int32) (m : ch_M) (h : ch_J g m_l_fewestAgain (ch_rm m_l_fewestAgain) (ch_E g m_l_fewestAgain Q) 0 [some (.inr (0, 0, 0)), some (.inl (.int p1)), some (.inr (10, 0, 1)), none] [] m 0) : ch_C g m_l_fewestAgain [.inr (0, 0, 0), .inl (.int p1), .inr (10, 0, 1)] m Q :=
  ch_enter mf_l_fewestAgain (by intro v hv; simp only [List.mem_cons, List.not_mem_nil, or_false] at hv; rcases hv with rfl | rfl | rfl <;> rfl) (Nat.le_of_ble_eq_true rfl) h
set_option maxHeartbeats 1600000 in
theorem g_l_fewestAgain_0 (g : ch_G) (Q : ch_O → ch_M → Prop) (p1 : Int32) (m : ch_M) (h : (((0 ≤ p1 ∧ p1 < m (1, 0, 0) 8) → (∀ m2 : ch_M, m2 = ch_os m 8 0 ((w_fo (ch_ob m 8 0) (w_l (ch_ob m 1 0) p1) 14).1) → (∀ m6 : ch_M, m6 = ch_wr m2 (10, 0, 1) (0) ((w_fo (ch_ob m 8 0) (w_l (ch_ob m 1 0) p1) 14).2) → Q (.inl (some (.inl (.int 0)))) m6))) ∧ ((¬ (0 ≤ p1 ∧ p1 < m (1, 0, 0) 8)) → Q (.inl (some (.inl (.int 1)))) m))) : ch_J g m_l_fewestAgain (ch_rm m_l_fewestAgain) (ch_E g m_l_fewestAgain Q) 0 [some (.inr (0, 0, 0)), some (.inl (.int p1)), some (.inr (10, 0, 1)), none] [] m 0 := by
  refine ch_aload_n (i := 2) d_l_fewestAgain_0 rfl rfl ?_
  refine ch_iconst (v := 0) d_l_fewestAgain_1 (by decide) ?_
  refine ch_aload_n (i := 0) d_l_fewestAgain_2 rfl rfl ?_
  refine ch_iload_n (i := 1) d_l_fewestAgain_3 rfl rfl ?_
  refine ch_callV (as := [.inl (.int p1)]) d_l_fewestAgain_4 lk_l_61 mi_x_fewestAgain me_x_fewestAgain rfl rfl rfl ⟨Nat.le_of_ble_eq_true rfl, Nat.le_of_ble_eq_true rfl⟩ (Nat.le_of_ble_eq_true rfl) ⟨Nat.le_of_ble_eq_true rfl, Nat.le_of_ble_eq_true rfl⟩ (ch_mono (ch_Kx (ch_Ki (fun r1 m2 q3 => ?_)) (fun n4 m5 hn_ q3 => ?_)) (s_x_fewestAgain g (fun (r_ : Int32) (m_ : ch_M) => ((0 ≤ p1 ∧ p1 < m (1, 0, 0) 8) ∧ ((w_fo (ch_ob m 8 0) (w_l (ch_ob m 1 0) p1) 14).2) = r_ ∧ m_ = ch_os m 8 0 ((w_fo (ch_ob m 8 0) (w_l (ch_ob m 1 0) p1) 14).1))) (fun (n_ : Nat) (m_ : ch_M) => ((¬ (0 ≤ p1 ∧ p1 < m (1, 0, 0) 8)) ∧ n_ = 1 ∧ m = m_)) (p1) m ⟨(fun c_ => ⟨c_, rfl, rfl⟩), (fun c_ => ⟨c_, rfl, rfl⟩)⟩))
  · obtain ⟨c_, rfl, hm_⟩ := q3
    replace h := h.1 c_ m2 hm_
    refine ch_i2l d_l_fewestAgain_7 ?_
    refine ch_last (n := 1) d_l_fewestAgain_8 (by decide) rfl (vp_in_nI (n := 0) (by decide) (by decide)) ?_
    show ch_J g _ _ _ _ _ _ (ch_wr m2 (10, 0, 1) (0) ((w_fo (ch_ob m 8 0) (w_l (ch_ob m 1 0) p1) 14).2)) _
    generalize hmm6 : ch_wr m2 (10, 0, 1) (0) ((w_fo (ch_ob m 8 0) (w_l (ch_ob m 1 0) p1) 14).2) = m6
    replace h := h m6 hmm6.symm
    refine ch_goto (tgt := 15) d_l_fewestAgain_9 (by decide) ?_
    refine ch_iconst (v := 0) d_l_fewestAgain_15 (by decide) ?_
    exact ch_iret (ty := .int) d_l_fewestAgain_16 rfl rfl (Nat.le_of_ble_eq_true rfl) h
  · obtain ⟨c_, rfl, rfl⟩ := q3
    replace h := h.2 c_
    refine ch_caught (i := 3) (ls' := [some (.inr (0, 0, 0)), some (.inl (.int p1)), some (.inr (10, 0, 1)), none]) [] (0, 9, 12, 43) [] rfl (fun z hz => by cases hz) ⟨by decide, by decide⟩ (by decide) ck_l_43 cx_1 (Or.inr ⟨⟨3, rfl, d_l_fewestAgain_12⟩, ?_⟩) (Nat.le_of_ble_eq_true rfl) rfl
    refine ch_iconst (v := 1) d_l_fewestAgain_13 (by decide) ?_
    exact ch_iret (ty := .int) d_l_fewestAgain_14 rfl rfl (Nat.le_of_ble_eq_true rfl) h
theorem e_l_step (g : ch_G) (Q : ch_O → ch_M → Prop) (p1 : Int32) (p2 : Int32) (m : ch_M) (h : ch_J g m_l_step (ch_rm m_l_step) (ch_E g m_l_step Q) 0 [some (.inr (0, 0, 0)), some (.inl (.int p1)), some (.inl (.int p2)), some (.inr (10, 0, 1)), none] [] m 0) : ch_C g m_l_step [.inr (0, 0, 0), .inl (.int p1), .inl (.int p2), .inr (10, 0, 1)] m Q :=
  ch_enter mf_l_step (by intro v hv; simp only [List.mem_cons, List.not_mem_nil, or_false] at hv; rcases hv with rfl | rfl | rfl | rfl <;> rfl) (Nat.le_of_ble_eq_true rfl) h
set_option maxHeartbeats 1600000 in
theorem g_l_step_0 (g : ch_G) (Q : ch_O → ch_M → Prop) (p1 : Int32) (p2 : Int32) (m : ch_M) (h : ((((0 ≤ p1 ∧ p1 < m (1, 0, 0) 8) ∧ 0 ≤ p2 ∧ p2 < x_sT (ch_ob m 5 1) (x_sW m p1) 0 1) → (∀ m2 : ch_M, m2 = ch_os (ch_os m 8 0 (x_sW m p1)) 5 1 (x_sT (ch_ob m 5 1) (x_sW m p1)) → (∀ m6 : ch_M, m6 = ch_wr m2 (10, 0, 1) (0) (x_sT (ch_ob m 5 1) (x_sW m p1) 1 (Int32.toNatClampNeg p2)) → Q (.inl (some (.inl (.int 0)))) m6))) ∧ ((¬ (0 ≤ p1 ∧ p1 < m (1, 0, 0) 8)) → Q (.inl (some (.inl (.int 1)))) m) ∧ (((0 ≤ p1 ∧ p1 < m (1, 0, 0) 8) ∧ ¬ (0 ≤ p2 ∧ p2 < x_sT (ch_ob m 5 1) (x_sW m p1) 0 1)) → (∀ m5 : ch_M, m5 = ch_os (ch_os m 8 0 (x_sW m p1)) 5 1 (x_sT (ch_ob m 5 1) (x_sW m p1)) → Q (.inl (some (.inl (.int 2)))) m5)))) : ch_J g m_l_step (ch_rm m_l_step) (ch_E g m_l_step Q) 0 [some (.inr (0, 0, 0)), some (.inl (.int p1)), some (.inl (.int p2)), some (.inr (10, 0, 1)), none] [] m 0 := by
  refine ch_aload_n (i := 3) d_l_step_0 rfl rfl ?_
  refine ch_iconst (v := 0) d_l_step_1 (by decide) ?_
  refine ch_aload_n (i := 0) d_l_step_2 rfl rfl ?_
  refine ch_iload_n (i := 1) d_l_step_3 rfl rfl ?_
  refine ch_iload_n (i := 2) d_l_step_4 rfl rfl ?_
  refine ch_callV (as := [.inl (.int p1), .inl (.int p2)]) d_l_step_5 lk_l_64 mi_x_step me_x_step rfl rfl rfl ⟨Nat.le_of_ble_eq_true rfl, Nat.le_of_ble_eq_true rfl⟩ (Nat.le_of_ble_eq_true rfl) ⟨Nat.le_of_ble_eq_true rfl, Nat.le_of_ble_eq_true rfl⟩ (ch_mono (ch_Kx (ch_Ki (fun r1 m2 q3 => ?_)) (fun n4 m5 hn_ q3 => ?_)) (s_x_step g (fun (r_ : Int32) (m_ : ch_M) => (((0 ≤ p1 ∧ p1 < m (1, 0, 0) 8) ∧ 0 ≤ p2 ∧ p2 < x_sT (ch_ob m 5 1) (x_sW m p1) 0 1) ∧ (x_sT (ch_ob m 5 1) (x_sW m p1) 1 (Int32.toNatClampNeg p2)) = r_ ∧ m_ = ch_os (ch_os m 8 0 (x_sW m p1)) 5 1 (x_sT (ch_ob m 5 1) (x_sW m p1)))) (fun (n_ : Nat) (m_ : ch_M) => ((¬ (0 ≤ p1 ∧ p1 < m (1, 0, 0) 8)) ∧ n_ = 1 ∧ m = m_) ∨ (((0 ≤ p1 ∧ p1 < m (1, 0, 0) 8) ∧ ¬ (0 ≤ p2 ∧ p2 < x_sT (ch_ob m 5 1) (x_sW m p1) 0 1)) ∧ n_ = 3 ∧ m_ = ch_os (ch_os m 8 0 (x_sW m p1)) 5 1 (x_sT (ch_ob m 5 1) (x_sW m p1)))) (p1) (p2) m ⟨(fun c_ => ⟨c_, rfl, rfl⟩), (fun c_ => (Or.inl ⟨c_, rfl, rfl⟩)), (fun c_ => (Or.inr ⟨c_, rfl, rfl⟩))⟩))
  · obtain ⟨c_, rfl, hm_⟩ := q3
    replace h := h.1 c_ m2 hm_
    refine ch_i2l d_l_step_8 ?_
    refine ch_last (n := 1) d_l_step_9 (by decide) rfl (vp_in_nI (n := 0) (by decide) (by decide)) ?_
    show ch_J g _ _ _ _ _ _ (ch_wr m2 (10, 0, 1) (0) (x_sT (ch_ob m 5 1) (x_sW m p1) 1 (Int32.toNatClampNeg p2))) _
    generalize hmm6 : ch_wr m2 (10, 0, 1) (0) (x_sT (ch_ob m 5 1) (x_sW m p1) 1 (Int32.toNatClampNeg p2)) = m6
    replace h := h m6 hmm6.symm
    refine ch_goto (tgt := 21) d_l_step_10 (by decide) ?_
    refine ch_iconst (v := 0) d_l_step_21 (by decide) ?_
    exact ch_iret (ty := .int) d_l_step_22 rfl rfl (Nat.le_of_ble_eq_true rfl) h
  · rcases q3 with ⟨c_, rfl, rfl⟩ | ⟨c_, rfl, hm_⟩
    · replace h := h.2.1 c_
      refine ch_caught (i := 4) (ls' := [some (.inr (0, 0, 0)), some (.inl (.int p1)), some (.inl (.int p2)), some (.inr (10, 0, 1)), none]) [] (0, 10, 13, 43) [(0, 10, 17, 56)] rfl (fun z hz => by cases hz) ⟨by decide, by decide⟩ (by decide) ck_l_43 cx_1 (Or.inl ⟨d_l_step_13, ?_⟩) (Nat.le_of_ble_eq_true rfl) rfl
      refine ch_iconst (v := 1) d_l_step_15 (by decide) ?_
      exact ch_iret (ty := .int) d_l_step_16 rfl rfl (Nat.le_of_ble_eq_true rfl) h
    · replace h := h.2.2 c_ m5 hm_
      refine ch_caught (i := 4) (ls' := [some (.inr (0, 0, 0)), some (.inl (.int p1)), some (.inl (.int p2)), some (.inr (10, 0, 1)), none]) [(0, 10, 13, 43)] (0, 10, 17, 56) [] rfl (fun z hz => by simp only [List.mem_cons, List.not_mem_nil, or_false] at hz; subst hz; exact ⟨by decide, 1, by decide, by decide, ck_l_43⟩) ⟨by decide, by decide⟩ (by decide) ck_l_56 cx_3 (Or.inl ⟨d_l_step_17, ?_⟩) (Nat.le_of_ble_eq_true rfl) rfl
      refine ch_iconst (v := 2) d_l_step_19 (by decide) ?_
      exact ch_iret (ty := .int) d_l_step_20 rfl rfl (Nat.le_of_ble_eq_true rfl) h
theorem e_l_wouldTread (g : ch_G) (Q : ch_O → ch_M → Prop) (p1 : Int32) (p2 : Int32) (m : ch_M) (h : ch_J g m_l_wouldTread (ch_rm m_l_wouldTread) (ch_E g m_l_wouldTread Q) 0 [some (.inr (0, 0, 0)), some (.inl (.int p1)), some (.inl (.int p2)), some (.inr (10, 0, 1)), none] [] m 0) : ch_C g m_l_wouldTread [.inr (0, 0, 0), .inl (.int p1), .inl (.int p2), .inr (10, 0, 1)] m Q :=
  ch_enter mf_l_wouldTread (by intro v hv; simp only [List.mem_cons, List.not_mem_nil, or_false] at hv; rcases hv with rfl | rfl | rfl | rfl <;> rfl) (Nat.le_of_ble_eq_true rfl) h
set_option maxHeartbeats 1600000 in
theorem g_l_wouldTread_0 (g : ch_G) (Q : ch_O → ch_M → Prop) (p1 : Int32) (p2 : Int32) (m : ch_M) (h : ((((0 ≤ p1 ∧ p1 < m (1, 0, 0) 8) ∧ x_wtP (s_rfB (ch_ob m 5 1) p2) = true) → (∀ m2 : ch_M, m2 = ch_os m 5 1 (s_rfB (ch_ob m 5 1) p2) → (∀ m6 : ch_M, m6 = ch_wr m2 (10, 0, 1) (0) (y_ct (ch_ob m 1 0) p1 (s_rfB (ch_ob m 5 1) p2 1) (Int32.toNatClampNeg (s_rfB (ch_ob m 5 1) p2 0 1))) → Q (.inl (some (.inl (.int 0)))) m6))) ∧ ((¬ (0 ≤ p1 ∧ p1 < m (1, 0, 0) 8)) → Q (.inl (some (.inl (.int 1)))) m) ∧ (((0 ≤ p1 ∧ p1 < m (1, 0, 0) 8) ∧ ¬ x_wtP (s_rfB (ch_ob m 5 1) p2) = true) → (∀ m5 : ch_M, m5 = ch_os m 5 1 (s_rfB (ch_ob m 5 1) p2) → Q (.inl (some (.inl (.int 2)))) m5)))) : ch_J g m_l_wouldTread (ch_rm m_l_wouldTread) (ch_E g m_l_wouldTread Q) 0 [some (.inr (0, 0, 0)), some (.inl (.int p1)), some (.inl (.int p2)), some (.inr (10, 0, 1)), none] [] m 0 := by
  refine ch_aload_n (i := 3) d_l_wouldTread_0 rfl rfl ?_
  refine ch_iconst (v := 0) d_l_wouldTread_1 (by decide) ?_
  refine ch_aload_n (i := 0) d_l_wouldTread_2 rfl rfl ?_
  refine ch_iload_n (i := 1) d_l_wouldTread_3 rfl rfl ?_
  refine ch_iload_n (i := 2) d_l_wouldTread_4 rfl rfl ?_
  refine ch_callV (as := [.inl (.int p1), .inl (.int p2)]) d_l_wouldTread_5 lk_l_67 mi_x_wouldTread me_x_wouldTread rfl rfl rfl ⟨Nat.le_of_ble_eq_true rfl, Nat.le_of_ble_eq_true rfl⟩ (Nat.le_of_ble_eq_true rfl) ⟨Nat.le_of_ble_eq_true rfl, Nat.le_of_ble_eq_true rfl⟩ (ch_mono (ch_Kx (ch_Ki (fun r1 m2 q3 => ?_)) (fun n4 m5 hn_ q3 => ?_)) (s_x_wouldTread g (fun (r_ : Int32) (m_ : ch_M) => (((0 ≤ p1 ∧ p1 < m (1, 0, 0) 8) ∧ x_wtP (s_rfB (ch_ob m 5 1) p2) = true) ∧ (y_ct (ch_ob m 1 0) p1 (s_rfB (ch_ob m 5 1) p2 1) (Int32.toNatClampNeg (s_rfB (ch_ob m 5 1) p2 0 1))) = r_ ∧ m_ = ch_os m 5 1 (s_rfB (ch_ob m 5 1) p2))) (fun (n_ : Nat) (m_ : ch_M) => ((¬ (0 ≤ p1 ∧ p1 < m (1, 0, 0) 8)) ∧ n_ = 1 ∧ m = m_) ∨ (((0 ≤ p1 ∧ p1 < m (1, 0, 0) 8) ∧ ¬ x_wtP (s_rfB (ch_ob m 5 1) p2) = true) ∧ n_ = 2 ∧ m_ = ch_os m 5 1 (s_rfB (ch_ob m 5 1) p2))) (p1) (p2) m ⟨(fun c_ => ⟨c_, rfl, rfl⟩), (fun c_ => (Or.inl ⟨c_, rfl, rfl⟩)), (fun c_ => (Or.inr ⟨c_, rfl, rfl⟩))⟩))
  · obtain ⟨c_, rfl, hm_⟩ := q3
    replace h := h.1 c_ m2 hm_
    refine ch_i2l d_l_wouldTread_8 ?_
    refine ch_last (n := 1) d_l_wouldTread_9 (by decide) rfl (vp_in_nI (n := 0) (by decide) (by decide)) ?_
    show ch_J g _ _ _ _ _ _ (ch_wr m2 (10, 0, 1) (0) (y_ct (ch_ob m 1 0) p1 (s_rfB (ch_ob m 5 1) p2 1) (Int32.toNatClampNeg (s_rfB (ch_ob m 5 1) p2 0 1)))) _
    generalize hmm6 : ch_wr m2 (10, 0, 1) (0) (y_ct (ch_ob m 1 0) p1 (s_rfB (ch_ob m 5 1) p2 1) (Int32.toNatClampNeg (s_rfB (ch_ob m 5 1) p2 0 1))) = m6
    replace h := h m6 hmm6.symm
    refine ch_goto (tgt := 21) d_l_wouldTread_10 (by decide) ?_
    refine ch_iconst (v := 0) d_l_wouldTread_21 (by decide) ?_
    exact ch_iret (ty := .int) d_l_wouldTread_22 rfl rfl (Nat.le_of_ble_eq_true rfl) h
  · rcases q3 with ⟨c_, rfl, rfl⟩ | ⟨c_, rfl, hm_⟩
    · replace h := h.2.1 c_
      refine ch_caught (i := 4) (ls' := [some (.inr (0, 0, 0)), some (.inl (.int p1)), some (.inl (.int p2)), some (.inr (10, 0, 1)), none]) [] (0, 10, 13, 43) [(0, 10, 17, 48)] rfl (fun z hz => by cases hz) ⟨by decide, by decide⟩ (by decide) ck_l_43 cx_1 (Or.inl ⟨d_l_wouldTread_13, ?_⟩) (Nat.le_of_ble_eq_true rfl) rfl
      refine ch_iconst (v := 1) d_l_wouldTread_15 (by decide) ?_
      exact ch_iret (ty := .int) d_l_wouldTread_16 rfl rfl (Nat.le_of_ble_eq_true rfl) h
    · replace h := h.2.2 c_ m5 hm_
      refine ch_caught (i := 4) (ls' := [some (.inr (0, 0, 0)), some (.inl (.int p1)), some (.inl (.int p2)), some (.inr (10, 0, 1)), none]) [(0, 10, 13, 43)] (0, 10, 17, 48) [] rfl (fun z hz => by simp only [List.mem_cons, List.not_mem_nil, or_false] at hz; subst hz; exact ⟨by decide, 1, by decide, by decide, ck_l_43⟩) ⟨by decide, by decide⟩ (by decide) ck_l_48 cx_2 (Or.inl ⟨d_l_wouldTread_17, ?_⟩) (Nat.le_of_ble_eq_true rfl) rfl
      refine ch_iconst (v := 2) d_l_wouldTread_19 (by decide) ?_
      exact ch_iret (ty := .int) d_l_wouldTread_20 rfl rfl (Nat.le_of_ble_eq_true rfl) h
theorem e_l_longest (g : ch_G) (Q : ch_O → ch_M → Prop) (p1 : Int32) (m : ch_M) (h : ch_J g m_l_longest (ch_rm m_l_longest) (ch_E g m_l_longest Q) 0 [some (.inr (0, 0, 0)), some (.inl (.int p1)), some (.inr (10, 0, 1)), none] [] m 0) : ch_C g m_l_longest [.inr (0, 0, 0), .inl (.int p1), .inr (10, 0, 1)] m Q :=
  ch_enter mf_l_longest (by intro v hv; simp only [List.mem_cons, List.not_mem_nil, or_false] at hv; rcases hv with rfl | rfl | rfl <;> rfl) (Nat.le_of_ble_eq_true rfl) h
set_option maxHeartbeats 1600000 in
theorem g_l_longest_0 (g : ch_G) (Q : ch_O → ch_M → Prop) (p1 : Int32) (m : ch_M) (h : (((0 ≤ p1 ∧ p1 < m (1, 0, 0) 8) → (∀ m6 : ch_M, m6 = ch_wr m (10, 0, 1) (0) ((y_lr (m (1, 0, 1)) p1 12).1) → Q (.inl (some (.inl (.int 0)))) m6)) ∧ ((¬ (0 ≤ p1 ∧ p1 < m (1, 0, 0) 8)) → Q (.inl (some (.inl (.int 1)))) m))) : ch_J g m_l_longest (ch_rm m_l_longest) (ch_E g m_l_longest Q) 0 [some (.inr (0, 0, 0)), some (.inl (.int p1)), some (.inr (10, 0, 1)), none] [] m 0 := by
  refine ch_aload_n (i := 2) d_l_longest_0 rfl rfl ?_
  refine ch_iconst (v := 0) d_l_longest_1 (by decide) ?_
  refine ch_aload_n (i := 0) d_l_longest_2 rfl rfl ?_
  refine ch_iload_n (i := 1) d_l_longest_3 rfl rfl ?_
  refine ch_callV (as := [.inl (.int p1)]) d_l_longest_4 lk_l_70 mi_x_longest me_x_longest rfl rfl rfl ⟨Nat.le_of_ble_eq_true rfl, Nat.le_of_ble_eq_true rfl⟩ (Nat.le_of_ble_eq_true rfl) ⟨Nat.le_of_ble_eq_true rfl, Nat.le_of_ble_eq_true rfl⟩ (ch_mono (ch_Kx (ch_Ki (fun r1 m2 q3 => ?_)) (fun n4 m5 hn_ q3 => ?_)) (s_x_longest g (fun (r_ : Int32) (m_ : ch_M) => ((0 ≤ p1 ∧ p1 < m (1, 0, 0) 8) ∧ ((y_lr (m (1, 0, 1)) p1 12).1) = r_ ∧ m = m_)) (fun (n_ : Nat) (m_ : ch_M) => ((¬ (0 ≤ p1 ∧ p1 < m (1, 0, 0) 8)) ∧ n_ = 1 ∧ m = m_)) (p1) m ⟨(fun c_ => ⟨c_, rfl, rfl⟩), (fun c_ => ⟨c_, rfl, rfl⟩)⟩))
  · obtain ⟨c_, rfl, rfl⟩ := q3
    replace h := h.1 c_
    refine ch_i2l d_l_longest_7 ?_
    refine ch_last (n := 1) d_l_longest_8 (by decide) rfl (vp_in_nI (n := 0) (by decide) (by decide)) ?_
    show ch_J g _ _ _ _ _ _ (ch_wr m (10, 0, 1) (0) ((y_lr (m (1, 0, 1)) p1 12).1)) _
    generalize hmm6 : ch_wr m (10, 0, 1) (0) ((y_lr (m (1, 0, 1)) p1 12).1) = m6
    replace h := h m6 hmm6.symm
    refine ch_goto (tgt := 15) d_l_longest_9 (by decide) ?_
    refine ch_iconst (v := 0) d_l_longest_15 (by decide) ?_
    exact ch_iret (ty := .int) d_l_longest_16 rfl rfl (Nat.le_of_ble_eq_true rfl) h
  · obtain ⟨c_, rfl, rfl⟩ := q3
    replace h := h.2 c_
    refine ch_caught (i := 3) (ls' := [some (.inr (0, 0, 0)), some (.inl (.int p1)), some (.inr (10, 0, 1)), none]) [] (0, 9, 12, 43) [] rfl (fun z hz => by cases hz) ⟨by decide, by decide⟩ (by decide) ck_l_43 cx_1 (Or.inr ⟨⟨3, rfl, d_l_longest_12⟩, ?_⟩) (Nat.le_of_ble_eq_true rfl) rfl
    refine ch_iconst (v := 1) d_l_longest_13 (by decide) ?_
    exact ch_iret (ty := .int) d_l_longest_14 rfl rfl (Nat.le_of_ble_eq_true rfl) h
theorem e_l_wouldEnd (g : ch_G) (Q : ch_O → ch_M → Prop) (p1 : Int32) (m : ch_M) (h : ch_J g m_l_wouldEnd (ch_rm m_l_wouldEnd) (ch_E g m_l_wouldEnd Q) 0 [some (.inr (0, 0, 0)), some (.inl (.int p1)), some (.inr (10, 0, 1)), none] [] m 0) : ch_C g m_l_wouldEnd [.inr (0, 0, 0), .inl (.int p1), .inr (10, 0, 1)] m Q :=
  ch_enter mf_l_wouldEnd (by intro v hv; simp only [List.mem_cons, List.not_mem_nil, or_false] at hv; rcases hv with rfl | rfl | rfl <;> rfl) (Nat.le_of_ble_eq_true rfl) h
set_option maxHeartbeats 1600000 in
theorem g_l_wouldEnd_0 (g : ch_G) (Q : ch_O → ch_M → Prop) (p1 : Int32) (m : ch_M) (h : (vp_in (m (1, 0, 0) 9) 6) ∧ (∀ i_, i_ < 5 → vp_in (m (1, 0, 8) i_) 5) ∧ (((1 ≤ p1 ∧ p1 ≤ 9) → (∀ m2 : ch_M, m2 = ch_os m 1 2 (y_washB (y_cp (ch_ob m 1 0) (ch_ob m 1 2)) p1) → (∀ m8 : ch_M, m8 = ch_wr m2 (10, 0, 1) (0) (y_washR (y_cp (ch_ob m 1 0) (ch_ob m 1 2)) p1) → Q (.inl (some (.inl (.int 0)))) m8))) ∧ ((¬ (1 ≤ p1 ∧ p1 ≤ 9)) → Q (.inl (some (.inl (.int 1)))) m))) : ch_J g m_l_wouldEnd (ch_rm m_l_wouldEnd) (ch_E g m_l_wouldEnd Q) 0 [some (.inr (0, 0, 0)), some (.inl (.int p1)), some (.inr (10, 0, 1)), none] [] m 0 := by
  refine ch_aload_n (i := 2) d_l_wouldEnd_0 rfl rfl ?_
  refine ch_iconst (v := 0) d_l_wouldEnd_1 (by decide) ?_
  refine ch_aload_n (i := 0) d_l_wouldEnd_2 rfl rfl ?_
  refine ch_iload_n (i := 1) d_l_wouldEnd_3 rfl rfl ?_
  have b4 := h.1
  replace h := h.2
  have b5 := h.1
  replace h := h.2
  refine ch_callV (as := [.inl (.int p1)]) d_l_wouldEnd_4 lk_l_73 mi_x_wouldEnd me_x_wouldEnd rfl rfl rfl ⟨Nat.le_of_ble_eq_true rfl, Nat.le_of_ble_eq_true rfl⟩ (Nat.le_of_ble_eq_true rfl) ⟨Nat.le_of_ble_eq_true rfl, Nat.le_of_ble_eq_true rfl⟩ (ch_mono (ch_Kx (ch_Ki (fun r1 m2 q3 => ?_)) (fun n6 m7 hn_ q3 => ?_)) (s_x_wouldEnd g (fun (r_ : Int32) (m_ : ch_M) => ((1 ≤ p1 ∧ p1 ≤ 9) ∧ (y_washR (y_cp (ch_ob m 1 0) (ch_ob m 1 2)) p1) = r_ ∧ m_ = ch_os m 1 2 (y_washB (y_cp (ch_ob m 1 0) (ch_ob m 1 2)) p1))) (fun (n_ : Nat) (m_ : ch_M) => ((¬ (1 ≤ p1 ∧ p1 ≤ 9)) ∧ n_ = 2 ∧ m = m_)) (p1) m ⟨b4, b5, (fun c_ => ⟨c_, rfl, rfl⟩), (fun c_ => ⟨c_, rfl, rfl⟩)⟩))
  · obtain ⟨c_, rfl, hm_⟩ := q3
    replace h := h.1 c_ m2 hm_
    refine ch_i2l d_l_wouldEnd_7 ?_
    refine ch_last (n := 1) d_l_wouldEnd_8 (by decide) rfl (vp_in_nI (n := 0) (by decide) (by decide)) ?_
    show ch_J g _ _ _ _ _ _ (ch_wr m2 (10, 0, 1) (0) (y_washR (y_cp (ch_ob m 1 0) (ch_ob m 1 2)) p1)) _
    generalize hmm8 : ch_wr m2 (10, 0, 1) (0) (y_washR (y_cp (ch_ob m 1 0) (ch_ob m 1 2)) p1) = m8
    replace h := h m8 hmm8.symm
    refine ch_goto (tgt := 15) d_l_wouldEnd_9 (by decide) ?_
    refine ch_iconst (v := 0) d_l_wouldEnd_15 (by decide) ?_
    exact ch_iret (ty := .int) d_l_wouldEnd_16 rfl rfl (Nat.le_of_ble_eq_true rfl) h
  · obtain ⟨c_, rfl, rfl⟩ := q3
    replace h := h.2 c_
    refine ch_caught (i := 3) (ls' := [some (.inr (0, 0, 0)), some (.inl (.int p1)), some (.inr (10, 0, 1)), none]) [] (0, 9, 12, 48) [] rfl (fun z hz => by cases hz) ⟨by decide, by decide⟩ (by decide) ck_l_48 cx_2 (Or.inr ⟨⟨3, rfl, d_l_wouldEnd_12⟩, ?_⟩) (Nat.le_of_ble_eq_true rfl) rfl
    refine ch_iconst (v := 1) d_l_wouldEnd_13 (by decide) ?_
    exact ch_iret (ty := .int) d_l_wouldEnd_14 rfl rfl (Nat.le_of_ble_eq_true rfl) h
theorem e_l_rainFor (g : ch_G) (Q : ch_O → ch_M → Prop) (p1 : Int32) (m : ch_M) (h : ch_J g m_l_rainFor (ch_rm m_l_rainFor) (ch_E g m_l_rainFor Q) 0 [some (.inr (0, 0, 0)), some (.inl (.int p1)), some (.inr (10, 0, 1)), none] [] m 0) : ch_C g m_l_rainFor [.inr (0, 0, 0), .inl (.int p1), .inr (10, 0, 1)] m Q :=
  ch_enter mf_l_rainFor (by intro v hv; simp only [List.mem_cons, List.not_mem_nil, or_false] at hv; rcases hv with rfl | rfl | rfl <;> rfl) (Nat.le_of_ble_eq_true rfl) h
set_option maxHeartbeats 1600000 in
theorem g_l_rainFor_0 (g : ch_G) (Q : ch_O → ch_M → Prop) (p1 : Int32) (m : ch_M) (h : (vp_in (m (1, 0, 0) 8) 6) ∧ ((((0 ≤ p1 ∧ p1 < m (1, 0, 0) 8) ∧ ¬ m (1, 0, 5) (Int32.toNatClampNeg p1) = 0) → (∀ m7 : ch_M, m7 = ch_wr m (10, 0, 1) (0) (m (1, 0, 5) (Int32.toNatClampNeg p1)) → Q (.inl (some (.inl (.int 0)))) m7)) ∧ ((¬ (0 ≤ p1 ∧ p1 < m (1, 0, 0) 8)) → Q (.inl (some (.inl (.int 1)))) m) ∧ (((0 ≤ p1 ∧ p1 < m (1, 0, 0) 8) ∧ m (1, 0, 5) (Int32.toNatClampNeg p1) = 0) → Q (.inl (some (.inl (.int 2)))) m))) : ch_J g m_l_rainFor (ch_rm m_l_rainFor) (ch_E g m_l_rainFor Q) 0 [some (.inr (0, 0, 0)), some (.inl (.int p1)), some (.inr (10, 0, 1)), none] [] m 0 := by
  refine ch_aload_n (i := 2) d_l_rainFor_0 rfl rfl ?_
  refine ch_iconst (v := 0) d_l_rainFor_1 (by decide) ?_
  refine ch_aload_n (i := 0) d_l_rainFor_2 rfl rfl ?_
  refine ch_iload_n (i := 1) d_l_rainFor_3 rfl rfl ?_
  have b4 := h.1
  replace h := h.2
  refine ch_callV (as := [.inl (.int p1)]) d_l_rainFor_4 lk_l_76 mi_x_rainFor me_x_rainFor rfl rfl rfl ⟨Nat.le_of_ble_eq_true rfl, Nat.le_of_ble_eq_true rfl⟩ (Nat.le_of_ble_eq_true rfl) ⟨Nat.le_of_ble_eq_true rfl, Nat.le_of_ble_eq_true rfl⟩ (ch_mono (ch_Kx (ch_Ki (fun r1 m2 q3 => ?_)) (fun n5 m6 hn_ q3 => ?_)) (s_x_rainFor g (fun (r_ : Int32) (m_ : ch_M) => (((0 ≤ p1 ∧ p1 < m (1, 0, 0) 8) ∧ ¬ m (1, 0, 5) (Int32.toNatClampNeg p1) = 0) ∧ (m (1, 0, 5) (Int32.toNatClampNeg p1)) = r_ ∧ m = m_)) (fun (n_ : Nat) (m_ : ch_M) => ((¬ (0 ≤ p1 ∧ p1 < m (1, 0, 0) 8)) ∧ n_ = 1 ∧ m = m_) ∨ (((0 ≤ p1 ∧ p1 < m (1, 0, 0) 8) ∧ m (1, 0, 5) (Int32.toNatClampNeg p1) = 0) ∧ n_ = 3 ∧ m = m_)) (p1) m ⟨b4, (fun c_ => ⟨c_, rfl, rfl⟩), (fun c_ => (Or.inl ⟨c_, rfl, rfl⟩)), (fun c_ => (Or.inr ⟨c_, rfl, rfl⟩))⟩))
  · obtain ⟨c_, rfl, rfl⟩ := q3
    replace h := h.1 c_
    refine ch_i2l d_l_rainFor_7 ?_
    refine ch_last (n := 1) d_l_rainFor_8 (by decide) rfl (vp_in_nI (n := 0) (by decide) (by decide)) ?_
    show ch_J g _ _ _ _ _ _ (ch_wr m (10, 0, 1) (0) (m (1, 0, 5) (Int32.toNatClampNeg p1))) _
    generalize hmm7 : ch_wr m (10, 0, 1) (0) (m (1, 0, 5) (Int32.toNatClampNeg p1)) = m7
    replace h := h m7 hmm7.symm
    refine ch_goto (tgt := 18) d_l_rainFor_9 (by decide) ?_
    refine ch_iconst (v := 0) d_l_rainFor_18 (by decide) ?_
    exact ch_iret (ty := .int) d_l_rainFor_19 rfl rfl (Nat.le_of_ble_eq_true rfl) h
  · rcases q3 with ⟨c_, rfl, rfl⟩ | ⟨c_, rfl, rfl⟩
    · replace h := h.2.1 c_
      refine ch_caught (i := 3) (ls' := [some (.inr (0, 0, 0)), some (.inl (.int p1)), some (.inr (10, 0, 1)), none]) [] (0, 9, 12, 43) [(0, 9, 15, 56)] rfl (fun z hz => by cases hz) ⟨by decide, by decide⟩ (by decide) ck_l_43 cx_1 (Or.inr ⟨⟨3, rfl, d_l_rainFor_12⟩, ?_⟩) (Nat.le_of_ble_eq_true rfl) rfl
      refine ch_iconst (v := 1) d_l_rainFor_13 (by decide) ?_
      exact ch_iret (ty := .int) d_l_rainFor_14 rfl rfl (Nat.le_of_ble_eq_true rfl) h
    · replace h := h.2.2 c_
      refine ch_caught (i := 3) (ls' := [some (.inr (0, 0, 0)), some (.inl (.int p1)), some (.inr (10, 0, 1)), none]) [(0, 9, 12, 43)] (0, 9, 15, 56) [] rfl (fun z hz => by simp only [List.mem_cons, List.not_mem_nil, or_false] at hz; subst hz; exact ⟨by decide, 1, by decide, by decide, ck_l_43⟩) ⟨by decide, by decide⟩ (by decide) ck_l_56 cx_3 (Or.inr ⟨⟨3, rfl, d_l_rainFor_15⟩, ?_⟩) (Nat.le_of_ble_eq_true rfl) rfl
      refine ch_iconst (v := 2) d_l_rainFor_16 (by decide) ?_
      exact ch_iret (ty := .int) d_l_rainFor_17 rfl rfl (Nat.le_of_ble_eq_true rfl) h
theorem e_l_wouldLose (g : ch_G) (Q : ch_O → ch_M → Prop) (p1 : Int32) (m : ch_M) (h : ch_J g m_l_wouldLose (ch_rm m_l_wouldLose) (ch_E g m_l_wouldLose Q) 0 [some (.inr (0, 0, 0)), some (.inl (.int p1)), some (.inr (10, 0, 1)), none] [] m 0) : ch_C g m_l_wouldLose [.inr (0, 0, 0), .inl (.int p1), .inr (10, 0, 1)] m Q :=
  ch_enter mf_l_wouldLose (by intro v hv; simp only [List.mem_cons, List.not_mem_nil, or_false] at hv; rcases hv with rfl | rfl | rfl <;> rfl) (Nat.le_of_ble_eq_true rfl) h
set_option maxHeartbeats 1600000 in
theorem g_l_wouldLose_0 (g : ch_G) (Q : ch_O → ch_M → Prop) (p1 : Int32) (m : ch_M) (h : (vp_in (m (1, 0, 0) 8) 6) ∧ (((0 ≤ p1 ∧ p1 < m (1, 0, 0) 8) → (∀ m7 : ch_M, m7 = ch_wr m (10, 0, 1) (0) (y_ofS (m (1, 0, 1)) p1 (m (1, 0, 3) (Int32.toNatClampNeg p1)) 12) → Q (.inl (some (.inl (.int 0)))) m7)) ∧ ((¬ (0 ≤ p1 ∧ p1 < m (1, 0, 0) 8)) → Q (.inl (some (.inl (.int 1)))) m))) : ch_J g m_l_wouldLose (ch_rm m_l_wouldLose) (ch_E g m_l_wouldLose Q) 0 [some (.inr (0, 0, 0)), some (.inl (.int p1)), some (.inr (10, 0, 1)), none] [] m 0 := by
  refine ch_aload_n (i := 2) d_l_wouldLose_0 rfl rfl ?_
  refine ch_iconst (v := 0) d_l_wouldLose_1 (by decide) ?_
  refine ch_aload_n (i := 0) d_l_wouldLose_2 rfl rfl ?_
  refine ch_iload_n (i := 1) d_l_wouldLose_3 rfl rfl ?_
  have b4 := h.1
  replace h := h.2
  refine ch_callV (as := [.inl (.int p1)]) d_l_wouldLose_4 lk_l_79 mi_x_wouldLose me_x_wouldLose rfl rfl rfl ⟨Nat.le_of_ble_eq_true rfl, Nat.le_of_ble_eq_true rfl⟩ (Nat.le_of_ble_eq_true rfl) ⟨Nat.le_of_ble_eq_true rfl, Nat.le_of_ble_eq_true rfl⟩ (ch_mono (ch_Kx (ch_Ki (fun r1 m2 q3 => ?_)) (fun n5 m6 hn_ q3 => ?_)) (s_x_wouldLose g (fun (r_ : Int32) (m_ : ch_M) => ((0 ≤ p1 ∧ p1 < m (1, 0, 0) 8) ∧ (y_ofS (m (1, 0, 1)) p1 (m (1, 0, 3) (Int32.toNatClampNeg p1)) 12) = r_ ∧ m = m_)) (fun (n_ : Nat) (m_ : ch_M) => ((¬ (0 ≤ p1 ∧ p1 < m (1, 0, 0) 8)) ∧ n_ = 1 ∧ m = m_)) (p1) m ⟨b4, (fun c_ => ⟨c_, rfl, rfl⟩), (fun c_ => ⟨c_, rfl, rfl⟩)⟩))
  · obtain ⟨c_, rfl, rfl⟩ := q3
    replace h := h.1 c_
    refine ch_i2l d_l_wouldLose_7 ?_
    refine ch_last (n := 1) d_l_wouldLose_8 (by decide) rfl (vp_in_nI (n := 0) (by decide) (by decide)) ?_
    show ch_J g _ _ _ _ _ _ (ch_wr m (10, 0, 1) (0) (y_ofS (m (1, 0, 1)) p1 (m (1, 0, 3) (Int32.toNatClampNeg p1)) 12)) _
    generalize hmm7 : ch_wr m (10, 0, 1) (0) (y_ofS (m (1, 0, 1)) p1 (m (1, 0, 3) (Int32.toNatClampNeg p1)) 12) = m7
    replace h := h m7 hmm7.symm
    refine ch_goto (tgt := 15) d_l_wouldLose_9 (by decide) ?_
    refine ch_iconst (v := 0) d_l_wouldLose_15 (by decide) ?_
    exact ch_iret (ty := .int) d_l_wouldLose_16 rfl rfl (Nat.le_of_ble_eq_true rfl) h
  · obtain ⟨c_, rfl, rfl⟩ := q3
    replace h := h.2 c_
    refine ch_caught (i := 3) (ls' := [some (.inr (0, 0, 0)), some (.inl (.int p1)), some (.inr (10, 0, 1)), none]) [] (0, 9, 12, 43) [] rfl (fun z hz => by cases hz) ⟨by decide, by decide⟩ (by decide) ck_l_43 cx_1 (Or.inr ⟨⟨3, rfl, d_l_wouldLose_12⟩, ?_⟩) (Nat.le_of_ble_eq_true rfl) rfl
    refine ch_iconst (v := 1) d_l_wouldLose_13 (by decide) ?_
    exact ch_iret (ty := .int) d_l_wouldLose_14 rfl rfl (Nat.le_of_ble_eq_true rfl) h
theorem e_l_termsFor (g : ch_G) (Q : ch_O → ch_M → Prop) (p1 : Int32) (m : ch_M) (h : ch_J g m_l_termsFor (ch_rm m_l_termsFor) (ch_E g m_l_termsFor Q) 0 [some (.inr (0, 0, 0)), some (.inl (.int p1)), some (.inr (10, 0, 1)), none] [] m 0) : ch_C g m_l_termsFor [.inr (0, 0, 0), .inl (.int p1), .inr (10, 0, 1)] m Q :=
  ch_enter mf_l_termsFor (by intro v hv; simp only [List.mem_cons, List.not_mem_nil, or_false] at hv; rcases hv with rfl | rfl | rfl <;> rfl) (Nat.le_of_ble_eq_true rfl) h
set_option maxHeartbeats 1600000 in
theorem g_l_termsFor_0 (g : ch_G) (Q : ch_O → ch_M → Prop) (p1 : Int32) (m : ch_M) (h : (vp_in (m (1, 0, 0) 8) 6) ∧ ((((0 ≤ p1 ∧ p1 < m (1, 0, 0) 8) ∧ ¬ (x_tt p1 40 1 (y_cp (ch_ob m 1 0) (ch_ob m 1 2))).1 = 0) → (∀ m2 : ch_M, m2 = ch_os m 1 2 ((x_tt p1 40 1 (y_cp (ch_ob m 1 0) (ch_ob m 1 2))).2) → (∀ m7 : ch_M, m7 = ch_wr m2 (10, 0, 1) (0) ((x_tt p1 40 1 (y_cp (ch_ob m 1 0) (ch_ob m 1 2))).1) → Q (.inl (some (.inl (.int 0)))) m7))) ∧ ((¬ (0 ≤ p1 ∧ p1 < m (1, 0, 0) 8)) → Q (.inl (some (.inl (.int 1)))) m) ∧ (((0 ≤ p1 ∧ p1 < m (1, 0, 0) 8) ∧ (x_tt p1 40 1 (y_cp (ch_ob m 1 0) (ch_ob m 1 2))).1 = 0) → (∀ m6 : ch_M, m6 = ch_os m 1 2 ((x_tt p1 40 1 (y_cp (ch_ob m 1 0) (ch_ob m 1 2))).2) → Q (.inl (some (.inl (.int 2)))) m6)))) : ch_J g m_l_termsFor (ch_rm m_l_termsFor) (ch_E g m_l_termsFor Q) 0 [some (.inr (0, 0, 0)), some (.inl (.int p1)), some (.inr (10, 0, 1)), none] [] m 0 := by
  refine ch_aload_n (i := 2) d_l_termsFor_0 rfl rfl ?_
  refine ch_iconst (v := 0) d_l_termsFor_1 (by decide) ?_
  refine ch_aload_n (i := 0) d_l_termsFor_2 rfl rfl ?_
  refine ch_iload_n (i := 1) d_l_termsFor_3 rfl rfl ?_
  have b4 := h.1
  replace h := h.2
  refine ch_callV (as := [.inl (.int p1)]) d_l_termsFor_4 lk_l_82 mi_x_termsFor me_x_termsFor rfl rfl rfl ⟨Nat.le_of_ble_eq_true rfl, Nat.le_of_ble_eq_true rfl⟩ (Nat.le_of_ble_eq_true rfl) ⟨Nat.le_of_ble_eq_true rfl, Nat.le_of_ble_eq_true rfl⟩ (ch_mono (ch_Kx (ch_Ki (fun r1 m2 q3 => ?_)) (fun n5 m6 hn_ q3 => ?_)) (s_x_termsFor g (fun (r_ : Int32) (m_ : ch_M) => (((0 ≤ p1 ∧ p1 < m (1, 0, 0) 8) ∧ ¬ (x_tt p1 40 1 (y_cp (ch_ob m 1 0) (ch_ob m 1 2))).1 = 0) ∧ ((x_tt p1 40 1 (y_cp (ch_ob m 1 0) (ch_ob m 1 2))).1) = r_ ∧ m_ = ch_os m 1 2 ((x_tt p1 40 1 (y_cp (ch_ob m 1 0) (ch_ob m 1 2))).2))) (fun (n_ : Nat) (m_ : ch_M) => ((¬ (0 ≤ p1 ∧ p1 < m (1, 0, 0) 8)) ∧ n_ = 1 ∧ m = m_) ∨ (((0 ≤ p1 ∧ p1 < m (1, 0, 0) 8) ∧ (x_tt p1 40 1 (y_cp (ch_ob m 1 0) (ch_ob m 1 2))).1 = 0) ∧ n_ = 3 ∧ m_ = ch_os m 1 2 ((x_tt p1 40 1 (y_cp (ch_ob m 1 0) (ch_ob m 1 2))).2))) (p1) m ⟨b4, (fun c_ => ⟨c_, rfl, rfl⟩), (fun c_ => (Or.inl ⟨c_, rfl, rfl⟩)), (fun c_ => (Or.inr ⟨c_, rfl, rfl⟩))⟩))
  · obtain ⟨c_, rfl, hm_⟩ := q3
    replace h := h.1 c_ m2 hm_
    refine ch_i2l d_l_termsFor_7 ?_
    refine ch_last (n := 1) d_l_termsFor_8 (by decide) rfl (vp_in_nI (n := 0) (by decide) (by decide)) ?_
    show ch_J g _ _ _ _ _ _ (ch_wr m2 (10, 0, 1) (0) ((x_tt p1 40 1 (y_cp (ch_ob m 1 0) (ch_ob m 1 2))).1)) _
    generalize hmm7 : ch_wr m2 (10, 0, 1) (0) ((x_tt p1 40 1 (y_cp (ch_ob m 1 0) (ch_ob m 1 2))).1) = m7
    replace h := h m7 hmm7.symm
    refine ch_goto (tgt := 18) d_l_termsFor_9 (by decide) ?_
    refine ch_iconst (v := 0) d_l_termsFor_18 (by decide) ?_
    exact ch_iret (ty := .int) d_l_termsFor_19 rfl rfl (Nat.le_of_ble_eq_true rfl) h
  · rcases q3 with ⟨c_, rfl, rfl⟩ | ⟨c_, rfl, hm_⟩
    · replace h := h.2.1 c_
      refine ch_caught (i := 3) (ls' := [some (.inr (0, 0, 0)), some (.inl (.int p1)), some (.inr (10, 0, 1)), none]) [] (0, 9, 12, 43) [(0, 9, 15, 56)] rfl (fun z hz => by cases hz) ⟨by decide, by decide⟩ (by decide) ck_l_43 cx_1 (Or.inr ⟨⟨3, rfl, d_l_termsFor_12⟩, ?_⟩) (Nat.le_of_ble_eq_true rfl) rfl
      refine ch_iconst (v := 1) d_l_termsFor_13 (by decide) ?_
      exact ch_iret (ty := .int) d_l_termsFor_14 rfl rfl (Nat.le_of_ble_eq_true rfl) h
    · replace h := h.2.2 c_ m6 hm_
      refine ch_caught (i := 3) (ls' := [some (.inr (0, 0, 0)), some (.inl (.int p1)), some (.inr (10, 0, 1)), none]) [(0, 9, 12, 43)] (0, 9, 15, 56) [] rfl (fun z hz => by simp only [List.mem_cons, List.not_mem_nil, or_false] at hz; subst hz; exact ⟨by decide, 1, by decide, by decide, ck_l_43⟩) ⟨by decide, by decide⟩ (by decide) ck_l_56 cx_3 (Or.inr ⟨⟨3, rfl, d_l_termsFor_15⟩, ?_⟩) (Nat.le_of_ble_eq_true rfl) rfl
      refine ch_iconst (v := 2) d_l_termsFor_16 (by decide) ?_
      exact ch_iret (ty := .int) d_l_termsFor_17 rfl rfl (Nat.le_of_ble_eq_true rfl) h
theorem e_l_ranked (g : ch_G) (Q : ch_O → ch_M → Prop) (p1 : Int32) (p2 : Int32) (m : ch_M) (h : ch_J g m_l_ranked (ch_rm m_l_ranked) (ch_E g m_l_ranked Q) 0 [some (.inr (0, 0, 0)), some (.inl (.int p1)), some (.inl (.int p2)), some (.inr (10, 0, 1)), none] [] m 0) : ch_C g m_l_ranked [.inr (0, 0, 0), .inl (.int p1), .inl (.int p2), .inr (10, 0, 1)] m Q :=
  ch_enter mf_l_ranked (by intro v hv; simp only [List.mem_cons, List.not_mem_nil, or_false] at hv; rcases hv with rfl | rfl | rfl | rfl <;> rfl) (Nat.le_of_ble_eq_true rfl) h
set_option maxHeartbeats 1600000 in
theorem g_l_ranked_0 (g : ch_G) (Q : ch_O → ch_M → Prop) (p1 : Int32) (p2 : Int32) (m : ch_M) (h : (vp_in (m (1, 0, 0) 8) 6) ∧ ((((0 ≤ p1 ∧ p1 ≤ 3) ∧ 0 ≤ p2 ∧ p2 < m (1, 0, 0) 8) → (∀ m7 : ch_M, m7 = ch_wr m (10, 0, 1) (0) (x_rk (ch_ob m 1 0) p1 p2 (Int32.toNatClampNeg (m (1, 0, 0) 8))) → Q (.inl (some (.inl (.int 0)))) m7)) ∧ ((¬ (0 ≤ p1 ∧ p1 ≤ 3)) → Q (.inl (some (.inl (.int 1)))) m) ∧ (((0 ≤ p1 ∧ p1 ≤ 3) ∧ ¬ (0 ≤ p2 ∧ p2 < m (1, 0, 0) 8)) → Q (.inl (some (.inl (.int 2)))) m))) : ch_J g m_l_ranked (ch_rm m_l_ranked) (ch_E g m_l_ranked Q) 0 [some (.inr (0, 0, 0)), some (.inl (.int p1)), some (.inl (.int p2)), some (.inr (10, 0, 1)), none] [] m 0 := by
  refine ch_aload_n (i := 3) d_l_ranked_0 rfl rfl ?_
  refine ch_iconst (v := 0) d_l_ranked_1 (by decide) ?_
  refine ch_aload_n (i := 0) d_l_ranked_2 rfl rfl ?_
  refine ch_iload_n (i := 1) d_l_ranked_3 rfl rfl ?_
  refine ch_iload_n (i := 2) d_l_ranked_4 rfl rfl ?_
  have b4 := h.1
  replace h := h.2
  refine ch_callV (as := [.inl (.int p1), .inl (.int p2)]) d_l_ranked_5 lk_l_85 mi_x_ranked me_x_ranked rfl rfl rfl ⟨Nat.le_of_ble_eq_true rfl, Nat.le_of_ble_eq_true rfl⟩ (Nat.le_of_ble_eq_true rfl) ⟨Nat.le_of_ble_eq_true rfl, Nat.le_of_ble_eq_true rfl⟩ (ch_mono (ch_Kx (ch_Ki (fun r1 m2 q3 => ?_)) (fun n5 m6 hn_ q3 => ?_)) (s_x_ranked g (fun (r_ : Int32) (m_ : ch_M) => (((0 ≤ p1 ∧ p1 ≤ 3) ∧ 0 ≤ p2 ∧ p2 < m (1, 0, 0) 8) ∧ (x_rk (ch_ob m 1 0) p1 p2 (Int32.toNatClampNeg (m (1, 0, 0) 8))) = r_ ∧ m = m_)) (fun (n_ : Nat) (m_ : ch_M) => ((¬ (0 ≤ p1 ∧ p1 ≤ 3)) ∧ n_ = 2 ∧ m = m_) ∨ (((0 ≤ p1 ∧ p1 ≤ 3) ∧ ¬ (0 ≤ p2 ∧ p2 < m (1, 0, 0) 8)) ∧ n_ = 3 ∧ m = m_)) (p1) (p2) m ⟨b4, (fun c_ => ⟨c_, rfl, rfl⟩), (fun c_ => (Or.inl ⟨c_, rfl, rfl⟩)), (fun c_ => (Or.inr ⟨c_, rfl, rfl⟩))⟩))
  · obtain ⟨c_, rfl, rfl⟩ := q3
    replace h := h.1 c_
    refine ch_i2l d_l_ranked_8 ?_
    refine ch_last (n := 1) d_l_ranked_9 (by decide) rfl (vp_in_nI (n := 0) (by decide) (by decide)) ?_
    show ch_J g _ _ _ _ _ _ (ch_wr m (10, 0, 1) (0) (x_rk (ch_ob m 1 0) p1 p2 (Int32.toNatClampNeg (m (1, 0, 0) 8)))) _
    generalize hmm7 : ch_wr m (10, 0, 1) (0) (x_rk (ch_ob m 1 0) p1 p2 (Int32.toNatClampNeg (m (1, 0, 0) 8))) = m7
    replace h := h m7 hmm7.symm
    refine ch_goto (tgt := 21) d_l_ranked_10 (by decide) ?_
    refine ch_iconst (v := 0) d_l_ranked_21 (by decide) ?_
    exact ch_iret (ty := .int) d_l_ranked_22 rfl rfl (Nat.le_of_ble_eq_true rfl) h
  · rcases q3 with ⟨c_, rfl, rfl⟩ | ⟨c_, rfl, rfl⟩
    · replace h := h.2.1 c_
      refine ch_caught (i := 4) (ls' := [some (.inr (0, 0, 0)), some (.inl (.int p1)), some (.inl (.int p2)), some (.inr (10, 0, 1)), none]) [] (0, 10, 13, 48) [(0, 10, 17, 56)] rfl (fun z hz => by cases hz) ⟨by decide, by decide⟩ (by decide) ck_l_48 cx_2 (Or.inl ⟨d_l_ranked_13, ?_⟩) (Nat.le_of_ble_eq_true rfl) rfl
      refine ch_iconst (v := 1) d_l_ranked_15 (by decide) ?_
      exact ch_iret (ty := .int) d_l_ranked_16 rfl rfl (Nat.le_of_ble_eq_true rfl) h
    · replace h := h.2.2 c_
      refine ch_caught (i := 4) (ls' := [some (.inr (0, 0, 0)), some (.inl (.int p1)), some (.inl (.int p2)), some (.inr (10, 0, 1)), none]) [(0, 10, 13, 48)] (0, 10, 17, 56) [] rfl (fun z hz => by simp only [List.mem_cons, List.not_mem_nil, or_false] at hz; subst hz; exact ⟨by decide, 2, by decide, by decide, ck_l_48⟩) ⟨by decide, by decide⟩ (by decide) ck_l_56 cx_3 (Or.inl ⟨d_l_ranked_17, ?_⟩) (Nat.le_of_ble_eq_true rfl) rfl
      refine ch_iconst (v := 2) d_l_ranked_19 (by decide) ?_
      exact ch_iret (ty := .int) d_l_ranked_20 rfl rfl (Nat.le_of_ble_eq_true rfl) h
theorem e_l_append (g : ch_G) (Q : ch_O → ch_M → Prop) (p1 : Int32) (m : ch_M) (h : ch_J g m_l_append (ch_rm m_l_append) (ch_E g m_l_append Q) 0 [some (.inr (0, 0, 0)), some (.inl (.int p1)), some (.inr (10, 0, 1)), none] [] m 0) : ch_C g m_l_append [.inr (0, 0, 0), .inl (.int p1), .inr (10, 0, 1)] m Q :=
  ch_enter mf_l_append (by intro v hv; simp only [List.mem_cons, List.not_mem_nil, or_false] at hv; rcases hv with rfl | rfl | rfl <;> rfl) (Nat.le_of_ble_eq_true rfl) h
set_option maxHeartbeats 1600000 in
theorem g_l_append_0 (g : ch_G) (Q : ch_O → ch_M → Prop) (p1 : Int32) (m : ch_M) (h : (vp_in (m (6, 0, 0) 1) 61) ∧ (((m (6, 0, 0) 1 < 60) → (∀ m2 : ch_M, m2 = ch_os m 6 0 (t_putB (ch_ob m 6 0) p1) → (∀ m7 : ch_M, m7 = ch_wr m2 (10, 0, 1) (0) (m (6, 0, 0) 1 + 1) → Q (.inl (some (.inl (.int 0)))) m7))) ∧ ((¬ m (6, 0, 0) 1 < 60) → Q (.inl (some (.inl (.int 1)))) m))) : ch_J g m_l_append (ch_rm m_l_append) (ch_E g m_l_append Q) 0 [some (.inr (0, 0, 0)), some (.inl (.int p1)), some (.inr (10, 0, 1)), none] [] m 0 := by
  refine ch_aload_n (i := 2) d_l_append_0 rfl rfl ?_
  refine ch_iconst (v := 0) d_l_append_1 (by decide) ?_
  refine ch_aload_n (i := 0) d_l_append_2 rfl rfl ?_
  refine ch_iload_n (i := 1) d_l_append_3 rfl rfl ?_
  have b4 := h.1
  replace h := h.2
  refine ch_callV (as := [.inl (.int p1)]) d_l_append_4 lk_l_88 mi_x_append me_x_append rfl rfl rfl ⟨Nat.le_of_ble_eq_true rfl, Nat.le_of_ble_eq_true rfl⟩ (Nat.le_of_ble_eq_true rfl) ⟨Nat.le_of_ble_eq_true rfl, Nat.le_of_ble_eq_true rfl⟩ (ch_mono (ch_Kx (ch_Ki (fun r1 m2 q3 => ?_)) (fun n5 m6 hn_ q3 => ?_)) (s_x_append g (fun (r_ : Int32) (m_ : ch_M) => ((m (6, 0, 0) 1 < 60) ∧ (m (6, 0, 0) 1 + 1) = r_ ∧ m_ = ch_os m 6 0 (t_putB (ch_ob m 6 0) p1))) (fun (n_ : Nat) (m_ : ch_M) => ((¬ m (6, 0, 0) 1 < 60) ∧ n_ = 4 ∧ m = m_)) (p1) m ⟨b4, (fun c_ => ⟨c_, rfl, rfl⟩), (fun c_ => ⟨c_, rfl, rfl⟩)⟩))
  · obtain ⟨c_, rfl, hm_⟩ := q3
    replace h := h.1 c_ m2 hm_
    refine ch_i2l d_l_append_7 ?_
    refine ch_last (n := 1) d_l_append_8 (by decide) rfl (vp_in_nI (n := 0) (by decide) (by decide)) ?_
    show ch_J g _ _ _ _ _ _ (ch_wr m2 (10, 0, 1) (0) (m (6, 0, 0) 1 + 1)) _
    generalize hmm7 : ch_wr m2 (10, 0, 1) (0) (m (6, 0, 0) 1 + 1) = m7
    replace h := h m7 hmm7.symm
    refine ch_goto (tgt := 15) d_l_append_9 (by decide) ?_
    refine ch_iconst (v := 0) d_l_append_15 (by decide) ?_
    exact ch_iret (ty := .int) d_l_append_16 rfl rfl (Nat.le_of_ble_eq_true rfl) h
  · obtain ⟨c_, rfl, rfl⟩ := q3
    replace h := h.2 c_
    refine ch_caught (i := 3) (ls' := [some (.inr (0, 0, 0)), some (.inl (.int p1)), some (.inr (10, 0, 1)), none]) [] (0, 9, 12, 92) [] rfl (fun z hz => by cases hz) ⟨by decide, by decide⟩ (by decide) ck_l_92 cx_4 (Or.inr ⟨⟨3, rfl, d_l_append_12⟩, ?_⟩) (Nat.le_of_ble_eq_true rfl) rfl
    refine ch_iconst (v := 1) d_l_append_13 (by decide) ?_
    exact ch_iret (ty := .int) d_l_append_14 rfl rfl (Nat.le_of_ble_eq_true rfl) h
theorem e_l_commands (g : ch_G) (Q : ch_O → ch_M → Prop)  (m : ch_M) (h : ch_J g m_l_commands (ch_rm m_l_commands) (ch_E g m_l_commands Q) 0 [some (.inr (0, 0, 0)), some (.inr (10, 0, 1)), none] [] m 0) : ch_C g m_l_commands [.inr (0, 0, 0), .inr (10, 0, 1)] m Q :=
  ch_enter mf_l_commands (by intro v hv; simp only [List.mem_cons, List.not_mem_nil, or_false] at hv; rcases hv with rfl | rfl <;> rfl) (Nat.le_of_ble_eq_true rfl) h
set_option maxHeartbeats 1600000 in
theorem g_l_commands_0 (g : ch_G) (Q : ch_O → ch_M → Prop)  (m : ch_M) (h : ((x_F m).1 = -1 → x_ok 60 (x_p0 (x_b m)) ∧ (¬ (x_cc m).1 = 0 → vp_in (x_c3 m (2, 0, 0) 1) 8)) ∧ ((((x_F m).1 = -1 ∧ ¬ (x_cc m).1 = 0) → (∀ m2 : ch_M, m2 = p_kM (x_c3 m) 1 → (∀ m7 : ch_M, m7 = ch_wr m2 (10, 0, 1) (0) ((x_cc m).1) → Q (.inl (some (.inl (.int 0)))) m7))) ∧ ((¬ (x_F m).1 = -1) → (∀ m6 : ch_M, m6 = x_cl (x_f1 m) → Q (.inl (some (.inl (.int 1)))) m6)) ∧ (((x_F m).1 = -1 ∧ (x_cc m).1 = 0) → (∀ m6 : ch_M, m6 = ch_os (x_c3 m) 1 0 (y_cp (ch_ob (x_c3 m) 1 1) (ch_ob (x_c3 m) 1 0)) → Q (.inl (some (.inl (.int 2)))) m6)))) : ch_J g m_l_commands (ch_rm m_l_commands) (ch_E g m_l_commands Q) 0 [some (.inr (0, 0, 0)), some (.inr (10, 0, 1)), none] [] m 0 := by
  refine ch_aload_n (i := 1) d_l_commands_0 rfl rfl ?_
  refine ch_iconst (v := 0) d_l_commands_1 (by decide) ?_
  refine ch_aload_n (i := 0) d_l_commands_2 rfl rfl ?_
  have b4 := h.1
  replace h := h.2
  refine ch_callV (as := []) d_l_commands_3 lk_l_94 mi_x_commands me_x_commands rfl rfl rfl ⟨Nat.le_of_ble_eq_true rfl, Nat.le_of_ble_eq_true rfl⟩ (Nat.le_of_ble_eq_true rfl) ⟨Nat.le_of_ble_eq_true rfl, Nat.le_of_ble_eq_true rfl⟩ (ch_mono (ch_Kx (ch_Ki (fun r1 m2 q3 => ?_)) (fun n5 m6 hn_ q3 => ?_)) (s_x_commands g (fun (r_ : Int32) (m_ : ch_M) => (((x_F m).1 = -1 ∧ ¬ (x_cc m).1 = 0) ∧ ((x_cc m).1) = r_ ∧ m_ = p_kM (x_c3 m) 1)) (fun (n_ : Nat) (m_ : ch_M) => ((¬ (x_F m).1 = -1) ∧ n_ = 2 ∧ m_ = x_cl (x_f1 m)) ∨ (((x_F m).1 = -1 ∧ (x_cc m).1 = 0) ∧ n_ = 0 ∧ m_ = ch_os (x_c3 m) 1 0 (y_cp (ch_ob (x_c3 m) 1 1) (ch_ob (x_c3 m) 1 0))))  m ⟨b4, (fun c_ => ⟨c_, rfl, rfl⟩), (fun c_ => (Or.inl ⟨c_, rfl, rfl⟩)), (fun c_ => (Or.inr ⟨c_, rfl, rfl⟩))⟩))
  · obtain ⟨c_, rfl, hm_⟩ := q3
    replace h := h.1 c_ m2 hm_
    refine ch_i2l d_l_commands_6 ?_
    refine ch_last (n := 1) d_l_commands_7 (by decide) rfl (vp_in_nI (n := 0) (by decide) (by decide)) ?_
    show ch_J g _ _ _ _ _ _ (ch_wr m2 (10, 0, 1) (0) ((x_cc m).1)) _
    generalize hmm7 : ch_wr m2 (10, 0, 1) (0) ((x_cc m).1) = m7
    replace h := h m7 hmm7.symm
    refine ch_goto (tgt := 17) d_l_commands_8 (by decide) ?_
    refine ch_iconst (v := 0) d_l_commands_17 (by decide) ?_
    exact ch_iret (ty := .int) d_l_commands_18 rfl rfl (Nat.le_of_ble_eq_true rfl) h
  · rcases q3 with ⟨c_, rfl, hm_⟩ | ⟨c_, rfl, hm_⟩
    · replace h := h.2.1 c_ m6 hm_
      refine ch_caught (i := 2) (ls' := [some (.inr (0, 0, 0)), some (.inr (10, 0, 1)), none]) [] (0, 8, 11, 48) [(0, 8, 14, 13)] rfl (fun z hz => by cases hz) ⟨by decide, by decide⟩ (by decide) ck_l_48 cx_2 (Or.inr ⟨⟨2, rfl, d_l_commands_11⟩, ?_⟩) (Nat.le_of_ble_eq_true rfl) rfl
      refine ch_iconst (v := 1) d_l_commands_12 (by decide) ?_
      exact ch_iret (ty := .int) d_l_commands_13 rfl rfl (Nat.le_of_ble_eq_true rfl) h
    · replace h := h.2.2 c_ m6 hm_
      refine ch_caught (i := 2) (ls' := [some (.inr (0, 0, 0)), some (.inr (10, 0, 1)), none]) [(0, 8, 11, 48)] (0, 8, 14, 13) [] rfl (fun z hz => by simp only [List.mem_cons, List.not_mem_nil, or_false] at hz; subst hz; exact ⟨by decide, 2, by decide, by decide, ck_l_48⟩) ⟨by decide, by decide⟩ (by decide) ck_l_13 cx_0 (Or.inr ⟨⟨2, rfl, d_l_commands_14⟩, ?_⟩) (Nat.le_of_ble_eq_true rfl) rfl
      refine ch_iconst (v := 2) d_l_commands_15 (by decide) ?_
      exact ch_iret (ty := .int) d_l_commands_16 rfl rfl (Nat.le_of_ble_eq_true rfl) h
theorem e_l_reason (g : ch_G) (Q : ch_O → ch_M → Prop) (p1 : Int32) (m : ch_M) (h : ch_J g m_l_reason (ch_rm m_l_reason) (ch_E g m_l_reason Q) 0 [some (.inr (0, 0, 0)), some (.inl (.int p1)), some (.inr (10, 0, 1)), none] [] m 0) : ch_C g m_l_reason [.inr (0, 0, 0), .inl (.int p1), .inr (10, 0, 1)] m Q :=
  ch_enter mf_l_reason (by intro v hv; simp only [List.mem_cons, List.not_mem_nil, or_false] at hv; rcases hv with rfl | rfl | rfl <;> rfl) (Nat.le_of_ble_eq_true rfl) h
set_option maxHeartbeats 1600000 in
theorem g_l_reason_0 (g : ch_G) (Q : ch_O → ch_M → Prop) (p1 : Int32) (m : ch_M) (h : ((((0 ≤ p1 ∧ p1 ≤ 2) ∧ ¬ m (3, 0, 0) 0 = 0) → (∀ m6 : ch_M, m6 = ch_wr m (10, 0, 1) (0) (if p1 = 0 then m (3, 0, 0) 0 else if p1 = 1 then m (3, 0, 0) 1 else m (3, 0, 0) 2) → Q (.inl (some (.inl (.int 0)))) m6)) ∧ ((¬ (0 ≤ p1 ∧ p1 ≤ 2)) → Q (.inl (some (.inl (.int 1)))) m) ∧ (((0 ≤ p1 ∧ p1 ≤ 2) ∧ m (3, 0, 0) 0 = 0) → Q (.inl (some (.inl (.int 2)))) m))) : ch_J g m_l_reason (ch_rm m_l_reason) (ch_E g m_l_reason Q) 0 [some (.inr (0, 0, 0)), some (.inl (.int p1)), some (.inr (10, 0, 1)), none] [] m 0 := by
  refine ch_aload_n (i := 2) d_l_reason_0 rfl rfl ?_
  refine ch_iconst (v := 0) d_l_reason_1 (by decide) ?_
  refine ch_aload_n (i := 0) d_l_reason_2 rfl rfl ?_
  refine ch_iload_n (i := 1) d_l_reason_3 rfl rfl ?_
  refine ch_callV (as := [.inl (.int p1)]) d_l_reason_4 lk_l_97 mi_x_reason me_x_reason rfl rfl rfl ⟨Nat.le_of_ble_eq_true rfl, Nat.le_of_ble_eq_true rfl⟩ (Nat.le_of_ble_eq_true rfl) ⟨Nat.le_of_ble_eq_true rfl, Nat.le_of_ble_eq_true rfl⟩ (ch_mono (ch_Kx (ch_Ki (fun r1 m2 q3 => ?_)) (fun n4 m5 hn_ q3 => ?_)) (s_x_reason g (fun (r_ : Int32) (m_ : ch_M) => (((0 ≤ p1 ∧ p1 ≤ 2) ∧ ¬ m (3, 0, 0) 0 = 0) ∧ (if p1 = 0 then m (3, 0, 0) 0 else if p1 = 1 then m (3, 0, 0) 1 else m (3, 0, 0) 2) = r_ ∧ m = m_)) (fun (n_ : Nat) (m_ : ch_M) => ((¬ (0 ≤ p1 ∧ p1 ≤ 2)) ∧ n_ = 2 ∧ m = m_) ∨ (((0 ≤ p1 ∧ p1 ≤ 2) ∧ m (3, 0, 0) 0 = 0) ∧ n_ = 3 ∧ m = m_)) (p1) m ⟨(fun c_ => ⟨c_, rfl, rfl⟩), (fun c_ => (Or.inl ⟨c_, rfl, rfl⟩)), (fun c_ => (Or.inr ⟨c_, rfl, rfl⟩))⟩))
  · obtain ⟨c_, rfl, rfl⟩ := q3
    replace h := h.1 c_
    refine ch_i2l d_l_reason_7 ?_
    refine ch_last (n := 1) d_l_reason_8 (by decide) rfl (vp_in_nI (n := 0) (by decide) (by decide)) ?_
    show ch_J g _ _ _ _ _ _ (ch_wr m (10, 0, 1) (0) (if p1 = 0 then m (3, 0, 0) 0 else if p1 = 1 then m (3, 0, 0) 1 else m (3, 0, 0) 2)) _
    generalize hmm6 : ch_wr m (10, 0, 1) (0) (if p1 = 0 then m (3, 0, 0) 0 else if p1 = 1 then m (3, 0, 0) 1 else m (3, 0, 0) 2) = m6
    replace h := h m6 hmm6.symm
    refine ch_goto (tgt := 18) d_l_reason_9 (by decide) ?_
    refine ch_iconst (v := 0) d_l_reason_18 (by decide) ?_
    exact ch_iret (ty := .int) d_l_reason_19 rfl rfl (Nat.le_of_ble_eq_true rfl) h
  · rcases q3 with ⟨c_, rfl, rfl⟩ | ⟨c_, rfl, rfl⟩
    · replace h := h.2.1 c_
      refine ch_caught (i := 3) (ls' := [some (.inr (0, 0, 0)), some (.inl (.int p1)), some (.inr (10, 0, 1)), none]) [] (0, 9, 12, 48) [(0, 9, 15, 56)] rfl (fun z hz => by cases hz) ⟨by decide, by decide⟩ (by decide) ck_l_48 cx_2 (Or.inr ⟨⟨3, rfl, d_l_reason_12⟩, ?_⟩) (Nat.le_of_ble_eq_true rfl) rfl
      refine ch_iconst (v := 1) d_l_reason_13 (by decide) ?_
      exact ch_iret (ty := .int) d_l_reason_14 rfl rfl (Nat.le_of_ble_eq_true rfl) h
    · replace h := h.2.2 c_
      refine ch_caught (i := 3) (ls' := [some (.inr (0, 0, 0)), some (.inl (.int p1)), some (.inr (10, 0, 1)), none]) [(0, 9, 12, 48)] (0, 9, 15, 56) [] rfl (fun z hz => by simp only [List.mem_cons, List.not_mem_nil, or_false] at hz; subst hz; exact ⟨by decide, 2, by decide, by decide, ck_l_48⟩) ⟨by decide, by decide⟩ (by decide) ck_l_56 cx_3 (Or.inr ⟨⟨3, rfl, d_l_reason_15⟩, ?_⟩) (Nat.le_of_ble_eq_true rfl) rfl
      refine ch_iconst (v := 2) d_l_reason_16 (by decide) ?_
      exact ch_iret (ty := .int) d_l_reason_17 rfl rfl (Nat.le_of_ble_eq_true rfl) h
theorem e_l_character (g : ch_G) (Q : ch_O → ch_M → Prop) (p1 : Int32) (m : ch_M) (h : ch_J g m_l_character (ch_rm m_l_character) (ch_E g m_l_character Q) 0 [some (.inr (0, 0, 0)), some (.inl (.int p1)), some (.inr (10, 0, 1)), none] [] m 0) : ch_C g m_l_character [.inr (0, 0, 0), .inl (.int p1), .inr (10, 0, 1)] m Q :=
  ch_enter mf_l_character (by intro v hv; simp only [List.mem_cons, List.not_mem_nil, or_false] at hv; rcases hv with rfl | rfl | rfl <;> rfl) (Nat.le_of_ble_eq_true rfl) h
set_option maxHeartbeats 1600000 in
theorem g_l_character_0 (g : ch_G) (Q : ch_O → ch_M → Prop) (p1 : Int32) (m : ch_M) (h : (vp_in (m (6, 1, 0) 1) 61) ∧ (∀ i_, i_ < 60 → narrow .char (.int (m (6, 1, 1) i_)) = .int (m (6, 1, 1) i_)) ∧ (((0 ≤ p1 ∧ p1 < m (6, 1, 0) 1) → (∀ m8 : ch_M, m8 = ch_wr m (10, 0, 1) (0) (m (6, 1, 1) (Int32.toNatClampNeg p1)) → Q (.inl (some (.inl (.int 0)))) m8)) ∧ ((¬ (0 ≤ p1 ∧ p1 < m (6, 1, 0) 1)) → Q (.inl (some (.inl (.int 1)))) m))) : ch_J g m_l_character (ch_rm m_l_character) (ch_E g m_l_character Q) 0 [some (.inr (0, 0, 0)), some (.inl (.int p1)), some (.inr (10, 0, 1)), none] [] m 0 := by
  refine ch_aload_n (i := 2) d_l_character_0 rfl rfl ?_
  refine ch_iconst (v := 0) d_l_character_1 (by decide) ?_
  refine ch_aload_n (i := 0) d_l_character_2 rfl rfl ?_
  refine ch_iload_n (i := 1) d_l_character_3 rfl rfl ?_
  have b4 := h.1
  replace h := h.2
  have b5 := h.1
  replace h := h.2
  refine ch_callV (as := [.inl (.int p1)]) d_l_character_4 lk_l_100 mi_x_character me_x_character rfl rfl rfl ⟨Nat.le_of_ble_eq_true rfl, Nat.le_of_ble_eq_true rfl⟩ (Nat.le_of_ble_eq_true rfl) ⟨Nat.le_of_ble_eq_true rfl, Nat.le_of_ble_eq_true rfl⟩ (ch_mono (ch_Kx (ch_Ki (fun r1 m2 q3 => ?_)) (fun n6 m7 hn_ q3 => ?_)) (s_x_character g (fun (r_ : Int32) (m_ : ch_M) => ((0 ≤ p1 ∧ p1 < m (6, 1, 0) 1) ∧ (m (6, 1, 1) (Int32.toNatClampNeg p1)) = r_ ∧ m = m_)) (fun (n_ : Nat) (m_ : ch_M) => ((¬ (0 ≤ p1 ∧ p1 < m (6, 1, 0) 1)) ∧ n_ = 1 ∧ m = m_)) (p1) m ⟨b4, b5, (fun c_ => ⟨c_, rfl, rfl⟩), (fun c_ => ⟨c_, rfl, rfl⟩)⟩))
  · obtain ⟨c_, rfl, rfl⟩ := q3
    replace h := h.1 c_
    refine ch_i2l d_l_character_7 ?_
    refine ch_last (n := 1) d_l_character_8 (by decide) rfl (vp_in_nI (n := 0) (by decide) (by decide)) ?_
    show ch_J g _ _ _ _ _ _ (ch_wr m (10, 0, 1) (0) (m (6, 1, 1) (Int32.toNatClampNeg p1))) _
    generalize hmm8 : ch_wr m (10, 0, 1) (0) (m (6, 1, 1) (Int32.toNatClampNeg p1)) = m8
    replace h := h m8 hmm8.symm
    refine ch_goto (tgt := 15) d_l_character_9 (by decide) ?_
    refine ch_iconst (v := 0) d_l_character_15 (by decide) ?_
    exact ch_iret (ty := .int) d_l_character_16 rfl rfl (Nat.le_of_ble_eq_true rfl) h
  · obtain ⟨c_, rfl, rfl⟩ := q3
    replace h := h.2 c_
    refine ch_caught (i := 3) (ls' := [some (.inr (0, 0, 0)), some (.inl (.int p1)), some (.inr (10, 0, 1)), none]) [] (0, 9, 12, 43) [] rfl (fun z hz => by cases hz) ⟨by decide, by decide⟩ (by decide) ck_l_43 cx_1 (Or.inr ⟨⟨3, rfl, d_l_character_12⟩, ?_⟩) (Nat.le_of_ble_eq_true rfl) rfl
    refine ch_iconst (v := 1) d_l_character_13 (by decide) ?_
    exact ch_iret (ty := .int) d_l_character_14 rfl rfl (Nat.le_of_ble_eq_true rfl) h
theorem e_l_meanChalk (g : ch_G) (Q : ch_O → ch_M → Prop)  (m : ch_M) (h : ch_J g m_l_meanChalk (ch_rm m_l_meanChalk) (ch_E g m_l_meanChalk Q) 0 [some (.inr (0, 0, 0)), some (.inr (10, 0, 2)), none] [] m 0) : ch_C g m_l_meanChalk [.inr (0, 0, 0), .inr (10, 0, 2)] m Q :=
  ch_enter mf_l_meanChalk (by intro v hv; simp only [List.mem_cons, List.not_mem_nil, or_false] at hv; rcases hv with rfl | rfl <;> rfl) (Nat.le_of_ble_eq_true rfl) h
set_option maxHeartbeats 1600000 in
theorem g_l_meanChalk_0 (g : ch_G) (Q : ch_O → ch_M → Prop)  (m : ch_M) (h : (y_fls (ch_ob m 1 0)) ∧ (((¬ 12 - ch_cnO (ch_ob m 1 0 1) (-1) 12 = 0) → ∃ y8 z9 : Int32, (FP.ddiv (FP.i2d (y_sum (ch_ob m 1 0 2) 12)) (FP.i2d (12 - ch_cnO (ch_ob m 1 0 1) (-1) 12))) = ch_dv y8 z9 ∧ (∀ m7 : ch_M, m7 = ch_wr (ch_wr m (10, 0, 2) 0 y8) (10, 0, 2) 1 z9 → Q (.inl (some (.inl (.int 0)))) m7)) ∧ ((12 - ch_cnO (ch_ob m 1 0 1) (-1) 12 = 0) → Q (.inl (some (.inl (.int 1)))) m))) : ch_J g m_l_meanChalk (ch_rm m_l_meanChalk) (ch_E g m_l_meanChalk Q) 0 [some (.inr (0, 0, 0)), some (.inr (10, 0, 2)), none] [] m 0 := by
  refine ch_aload_n (i := 1) d_l_meanChalk_0 rfl rfl ?_
  refine ch_iconst (v := 0) d_l_meanChalk_1 (by decide) ?_
  refine ch_aload_n (i := 0) d_l_meanChalk_2 rfl rfl ?_
  have b4 := h.1
  replace h := h.2
  refine ch_callV (as := []) d_l_meanChalk_3 lk_l_104 mi_x_meanChalk me_x_meanChalk rfl rfl rfl ⟨Nat.le_of_ble_eq_true rfl, Nat.le_of_ble_eq_true rfl⟩ (Nat.le_of_ble_eq_true rfl) ⟨Nat.le_of_ble_eq_true rfl, Nat.le_of_ble_eq_true rfl⟩ (ch_mono (ch_Kx (ch_Kd (fun r1 m2 q3 => ?_)) (fun n5 m6 hn_ q3 => ?_)) (s_x_meanChalk g (fun (r_ : UInt64) (m_ : ch_M) => ((¬ 12 - ch_cnO (ch_ob m 1 0 1) (-1) 12 = 0) ∧ (FP.ddiv (FP.i2d (y_sum (ch_ob m 1 0 2) 12)) (FP.i2d (12 - ch_cnO (ch_ob m 1 0 1) (-1) 12))) = r_ ∧ m = m_)) (fun (n_ : Nat) (m_ : ch_M) => ((12 - ch_cnO (ch_ob m 1 0 1) (-1) 12 = 0) ∧ n_ = 5 ∧ m = m_))  m ⟨b4, (fun c_ => ⟨c_, rfl, rfl⟩), (fun c_ => ⟨c_, rfl, rfl⟩)⟩))
  · obtain ⟨c_, rfl, rfl⟩ := q3
    replace h := h.1 c_
    obtain ⟨y8, z9, hw, h⟩ := h
    refine ch_dast d_l_meanChalk_6 hw ?_
    show ch_J g _ _ _ _ _ _ (ch_wr (ch_wr m (10, 0, 2) 0 y8) (10, 0, 2) 1 z9) _
    generalize hmm7 : ch_wr (ch_wr m (10, 0, 2) 0 y8) (10, 0, 2) 1 z9 = m7
    replace h := h m7 hmm7.symm
    refine ch_goto (tgt := 13) d_l_meanChalk_7 (by decide) ?_
    refine ch_iconst (v := 0) d_l_meanChalk_13 (by decide) ?_
    exact ch_iret (ty := .int) d_l_meanChalk_14 rfl rfl (Nat.le_of_ble_eq_true rfl) h
  · obtain ⟨c_, rfl, rfl⟩ := q3
    replace h := h.2 c_
    refine ch_caught (i := 2) (ls' := [some (.inr (0, 0, 0)), some (.inr (10, 0, 2)), none]) [] (0, 7, 10, 108) [] rfl (fun z hz => by cases hz) ⟨by decide, by decide⟩ (by decide) ck_l_108 cx_5 (Or.inr ⟨⟨2, rfl, d_l_meanChalk_10⟩, ?_⟩) (Nat.le_of_ble_eq_true rfl) rfl
    refine ch_iconst (v := 1) d_l_meanChalk_11 (by decide) ?_
    exact ch_iret (ty := .int) d_l_meanChalk_12 rfl rfl (Nat.le_of_ble_eq_true rfl) h
theorem e_l_account (g : ch_G) (Q : ch_O → ch_M → Prop) (p1 : Int32) (m : ch_M) (h : ch_J g m_l_account (ch_rm m_l_account) (ch_E g m_l_account Q) 0 [some (.inr (0, 0, 0)), some (.inl (.int p1)), some (.inr (10, 0, 1)), none] [] m 0) : ch_C g m_l_account [.inr (0, 0, 0), .inl (.int p1), .inr (10, 0, 1)] m Q :=
  ch_enter mf_l_account (by intro v hv; simp only [List.mem_cons, List.not_mem_nil, or_false] at hv; rcases hv with rfl | rfl | rfl <;> rfl) (Nat.le_of_ble_eq_true rfl) h
set_option maxHeartbeats 1600000 in
theorem g_l_account_0 (g : ch_G) (Q : ch_O → ch_M → Prop) (p1 : Int32) (m : ch_M) (h : (vp_in (m (1, 0, 0) 8) 6) ∧ (((0 ≤ p1 ∧ p1 ≤ 11) → (∀ m7 : ch_M, m7 = ch_wr m (10, 0, 1) (0) (x_acR (ch_ob m 1 0) (m (2, 0, 0) 2) (m (6, 0, 0) 1) p1) → Q (.inl (some (.inl (.int 0)))) m7)) ∧ ((¬ (0 ≤ p1 ∧ p1 ≤ 11)) → Q (.inl (some (.inl (.int 1)))) m))) : ch_J g m_l_account (ch_rm m_l_account) (ch_E g m_l_account Q) 0 [some (.inr (0, 0, 0)), some (.inl (.int p1)), some (.inr (10, 0, 1)), none] [] m 0 := by
  refine ch_aload_n (i := 2) d_l_account_0 rfl rfl ?_
  refine ch_iconst (v := 0) d_l_account_1 (by decide) ?_
  refine ch_aload_n (i := 0) d_l_account_2 rfl rfl ?_
  refine ch_iload_n (i := 1) d_l_account_3 rfl rfl ?_
  have b4 := h.1
  replace h := h.2
  refine ch_callV (as := [.inl (.int p1)]) d_l_account_4 lk_l_110 mi_x_account me_x_account rfl rfl rfl ⟨Nat.le_of_ble_eq_true rfl, Nat.le_of_ble_eq_true rfl⟩ (Nat.le_of_ble_eq_true rfl) ⟨Nat.le_of_ble_eq_true rfl, Nat.le_of_ble_eq_true rfl⟩ (ch_mono (ch_Kx (ch_Ki (fun r1 m2 q3 => ?_)) (fun n5 m6 hn_ q3 => ?_)) (s_x_account g (fun (r_ : Int32) (m_ : ch_M) => ((0 ≤ p1 ∧ p1 ≤ 11) ∧ (x_acR (ch_ob m 1 0) (m (2, 0, 0) 2) (m (6, 0, 0) 1) p1) = r_ ∧ m = m_)) (fun (n_ : Nat) (m_ : ch_M) => ((¬ (0 ≤ p1 ∧ p1 ≤ 11)) ∧ n_ = 2 ∧ m = m_)) (p1) m ⟨b4, (fun c_ => ⟨c_, rfl, rfl⟩), (fun c_ => ⟨c_, rfl, rfl⟩)⟩))
  · obtain ⟨c_, rfl, rfl⟩ := q3
    replace h := h.1 c_
    refine ch_i2l d_l_account_7 ?_
    refine ch_last (n := 1) d_l_account_8 (by decide) rfl (vp_in_nI (n := 0) (by decide) (by decide)) ?_
    show ch_J g _ _ _ _ _ _ (ch_wr m (10, 0, 1) (0) (x_acR (ch_ob m 1 0) (m (2, 0, 0) 2) (m (6, 0, 0) 1) p1)) _
    generalize hmm7 : ch_wr m (10, 0, 1) (0) (x_acR (ch_ob m 1 0) (m (2, 0, 0) 2) (m (6, 0, 0) 1) p1) = m7
    replace h := h m7 hmm7.symm
    refine ch_goto (tgt := 15) d_l_account_9 (by decide) ?_
    refine ch_iconst (v := 0) d_l_account_15 (by decide) ?_
    exact ch_iret (ty := .int) d_l_account_16 rfl rfl (Nat.le_of_ble_eq_true rfl) h
  · obtain ⟨c_, rfl, rfl⟩ := q3
    replace h := h.2 c_
    refine ch_caught (i := 3) (ls' := [some (.inr (0, 0, 0)), some (.inl (.int p1)), some (.inr (10, 0, 1)), none]) [] (0, 9, 12, 48) [] rfl (fun z hz => by cases hz) ⟨by decide, by decide⟩ (by decide) ck_l_48 cx_2 (Or.inr ⟨⟨3, rfl, d_l_account_12⟩, ?_⟩) (Nat.le_of_ble_eq_true rfl) rfl
    refine ch_iconst (v := 1) d_l_account_13 (by decide) ?_
    exact ch_iret (ty := .int) d_l_account_14 rfl rfl (Nat.le_of_ble_eq_true rfl) h
theorem e_l_undo (g : ch_G) (Q : ch_O → ch_M → Prop)  (m : ch_M) (h : ch_J g m_l_undo (ch_rm m_l_undo) (ch_E g m_l_undo Q) 0 [some (.inr (0, 0, 0)), some (.inr (10, 0, 1)), none] [] m 0) : ch_C g m_l_undo [.inr (0, 0, 0), .inr (10, 0, 1)] m Q :=
  ch_enter mf_l_undo (by intro v hv; simp only [List.mem_cons, List.not_mem_nil, or_false] at hv; rcases hv with rfl | rfl <;> rfl) (Nat.le_of_ble_eq_true rfl) h
set_option maxHeartbeats 1600000 in
theorem g_l_undo_0 (g : ch_G) (Q : ch_O → ch_M → Prop)  (m : ch_M) (h : (vp_in (m (2, 0, 0) 1) 8) ∧ (((¬ m (2, 0, 0) 2 = 0) → (∀ m2 : ch_M, m2 = ch_os (ch_os m 1 0 (y_cp (ch_ob m 1 (4 + Int32.toNatClampNeg (m (2, 0, 0) 1))) (ch_ob m 1 0))) 2 0 (p_gB (ch_ob m 2 0)) → (∀ m7 : ch_M, m7 = ch_wr m2 (10, 0, 1) (0) (m (2, 0, 0) 2 - 1) → Q (.inl (some (.inl (.int 0)))) m7))) ∧ ((m (2, 0, 0) 2 = 0) → Q (.inl (some (.inl (.int 1)))) m))) : ch_J g m_l_undo (ch_rm m_l_undo) (ch_E g m_l_undo Q) 0 [some (.inr (0, 0, 0)), some (.inr (10, 0, 1)), none] [] m 0 := by
  refine ch_aload_n (i := 1) d_l_undo_0 rfl rfl ?_
  refine ch_iconst (v := 0) d_l_undo_1 (by decide) ?_
  refine ch_aload_n (i := 0) d_l_undo_2 rfl rfl ?_
  have b4 := h.1
  replace h := h.2
  refine ch_callV (as := []) d_l_undo_3 lk_l_113 mi_x_undo me_x_undo rfl rfl rfl ⟨Nat.le_of_ble_eq_true rfl, Nat.le_of_ble_eq_true rfl⟩ (Nat.le_of_ble_eq_true rfl) ⟨Nat.le_of_ble_eq_true rfl, Nat.le_of_ble_eq_true rfl⟩ (ch_mono (ch_Kx (ch_Ki (fun r1 m2 q3 => ?_)) (fun n5 m6 hn_ q3 => ?_)) (s_x_undo g (fun (r_ : Int32) (m_ : ch_M) => ((¬ m (2, 0, 0) 2 = 0) ∧ (m (2, 0, 0) 2 - 1) = r_ ∧ m_ = ch_os (ch_os m 1 0 (y_cp (ch_ob m 1 (4 + Int32.toNatClampNeg (m (2, 0, 0) 1))) (ch_ob m 1 0))) 2 0 (p_gB (ch_ob m 2 0)))) (fun (n_ : Nat) (m_ : ch_M) => ((m (2, 0, 0) 2 = 0) ∧ n_ = 4 ∧ m = m_))  m ⟨b4, (fun c_ => ⟨c_, rfl, rfl⟩), (fun c_ => ⟨c_, rfl, rfl⟩)⟩))
  · obtain ⟨c_, rfl, hm_⟩ := q3
    replace h := h.1 c_ m2 hm_
    refine ch_i2l d_l_undo_6 ?_
    refine ch_last (n := 1) d_l_undo_7 (by decide) rfl (vp_in_nI (n := 0) (by decide) (by decide)) ?_
    show ch_J g _ _ _ _ _ _ (ch_wr m2 (10, 0, 1) (0) (m (2, 0, 0) 2 - 1)) _
    generalize hmm7 : ch_wr m2 (10, 0, 1) (0) (m (2, 0, 0) 2 - 1) = m7
    replace h := h m7 hmm7.symm
    refine ch_goto (tgt := 14) d_l_undo_8 (by decide) ?_
    refine ch_iconst (v := 0) d_l_undo_14 (by decide) ?_
    exact ch_iret (ty := .int) d_l_undo_15 rfl rfl (Nat.le_of_ble_eq_true rfl) h
  · obtain ⟨c_, rfl, rfl⟩ := q3
    replace h := h.2 c_
    refine ch_caught (i := 2) (ls' := [some (.inr (0, 0, 0)), some (.inr (10, 0, 1)), none]) [] (0, 8, 11, 92) [] rfl (fun z hz => by cases hz) ⟨by decide, by decide⟩ (by decide) ck_l_92 cx_4 (Or.inr ⟨⟨2, rfl, d_l_undo_11⟩, ?_⟩) (Nat.le_of_ble_eq_true rfl) rfl
    refine ch_iconst (v := 1) d_l_undo_12 (by decide) ?_
    exact ch_iret (ty := .int) d_l_undo_13 rfl rfl (Nat.le_of_ble_eq_true rfl) h
theorem e_l_restore (g : ch_G) (Q : ch_O → ch_M → Prop)  (m : ch_M) (h : ch_J g m_l_restore (ch_rm m_l_restore) (ch_E g m_l_restore Q) 0 [some (.inr (0, 0, 0)), some (.inr (10, 0, 1)), none] [] m 0) : ch_C g m_l_restore [.inr (0, 0, 0), .inr (10, 0, 1)] m Q :=
  ch_enter mf_l_restore (by intro v hv; simp only [List.mem_cons, List.not_mem_nil, or_false] at hv; rcases hv with rfl | rfl <;> rfl) (Nat.le_of_ble_eq_true rfl) h
set_option maxHeartbeats 1600000 in
theorem g_l_restore_0 (g : ch_G) (Q : ch_O → ch_M → Prop)  (m : ch_M) (h : (((¬ m (0, 0, 0) 12 = 0) → (∀ m2 : ch_M, m2 = ch_wr (ch_os m 1 0 (y_cp (ch_ob m 1 3) (ch_ob m 1 0))) (2, 0, 0) 2 0 → (∀ m6 : ch_M, m6 = ch_wr m2 (10, 0, 1) (0) (m (1, 3, 0) 8) → Q (.inl (some (.inl (.int 0)))) m6))) ∧ ((m (0, 0, 0) 12 = 0) → Q (.inl (some (.inl (.int 1)))) m))) : ch_J g m_l_restore (ch_rm m_l_restore) (ch_E g m_l_restore Q) 0 [some (.inr (0, 0, 0)), some (.inr (10, 0, 1)), none] [] m 0 := by
  refine ch_aload_n (i := 1) d_l_restore_0 rfl rfl ?_
  refine ch_iconst (v := 0) d_l_restore_1 (by decide) ?_
  refine ch_aload_n (i := 0) d_l_restore_2 rfl rfl ?_
  refine ch_callV (as := []) d_l_restore_3 lk_l_116 mi_x_restore me_x_restore rfl rfl rfl ⟨Nat.le_of_ble_eq_true rfl, Nat.le_of_ble_eq_true rfl⟩ (Nat.le_of_ble_eq_true rfl) ⟨Nat.le_of_ble_eq_true rfl, Nat.le_of_ble_eq_true rfl⟩ (ch_mono (ch_Kx (ch_Ki (fun r1 m2 q3 => ?_)) (fun n4 m5 hn_ q3 => ?_)) (s_x_restore g (fun (r_ : Int32) (m_ : ch_M) => ((¬ m (0, 0, 0) 12 = 0) ∧ (m (1, 3, 0) 8) = r_ ∧ m_ = ch_wr (ch_os m 1 0 (y_cp (ch_ob m 1 3) (ch_ob m 1 0))) (2, 0, 0) 2 0)) (fun (n_ : Nat) (m_ : ch_M) => ((m (0, 0, 0) 12 = 0) ∧ n_ = 4 ∧ m = m_))  m ⟨(fun c_ => ⟨c_, rfl, rfl⟩), (fun c_ => ⟨c_, rfl, rfl⟩)⟩))
  · obtain ⟨c_, rfl, hm_⟩ := q3
    replace h := h.1 c_ m2 hm_
    refine ch_i2l d_l_restore_6 ?_
    refine ch_last (n := 1) d_l_restore_7 (by decide) rfl (vp_in_nI (n := 0) (by decide) (by decide)) ?_
    show ch_J g _ _ _ _ _ _ (ch_wr m2 (10, 0, 1) (0) (m (1, 3, 0) 8)) _
    generalize hmm6 : ch_wr m2 (10, 0, 1) (0) (m (1, 3, 0) 8) = m6
    replace h := h m6 hmm6.symm
    refine ch_goto (tgt := 14) d_l_restore_8 (by decide) ?_
    refine ch_iconst (v := 0) d_l_restore_14 (by decide) ?_
    exact ch_iret (ty := .int) d_l_restore_15 rfl rfl (Nat.le_of_ble_eq_true rfl) h
  · obtain ⟨c_, rfl, rfl⟩ := q3
    replace h := h.2 c_
    refine ch_caught (i := 2) (ls' := [some (.inr (0, 0, 0)), some (.inr (10, 0, 1)), none]) [] (0, 8, 11, 92) [] rfl (fun z hz => by cases hz) ⟨by decide, by decide⟩ (by decide) ck_l_92 cx_4 (Or.inr ⟨⟨2, rfl, d_l_restore_11⟩, ?_⟩) (Nat.le_of_ble_eq_true rfl) rfl
    refine ch_iconst (v := 1) d_l_restore_12 (by decide) ?_
    exact ch_iret (ty := .int) d_l_restore_13 rfl rfl (Nat.le_of_ble_eq_true rfl) h
