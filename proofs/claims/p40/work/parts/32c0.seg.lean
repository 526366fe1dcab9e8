theorem e_l_termsFor (g : ch_G) (Q : ch_O → ch_M → Prop) (p1 : Int32) (m : ch_M) (h : ch_J g m_l_termsFor (ch_rm m_l_termsFor) (ch_E g m_l_termsFor Q) 0 [some (.inr (0, 0, 0)), some (.inl (.int p1)), none] [] m 0) : ch_C g m_l_termsFor [.inr (0, 0, 0), .inl (.int p1)] m Q :=
  ch_enter mf_l_termsFor (by intro v hv; simp only [List.mem_cons, List.not_mem_nil, or_false] at hv; rcases hv with rfl | rfl <;> rfl) (Nat.le_of_ble_eq_true rfl) h
set_option maxHeartbeats 1600000 in
theorem g_l_termsFor_0 (g : ch_G) (Q : ch_O → ch_M → Prop) (p1 : Int32) (m : ch_M) (h : (vp_in (m (1, 0, 0) 8) 6) ∧ ((((0 ≤ p1 ∧ p1 < m (1, 0, 0) 8) ∧ ¬ (x_tt p1 40 1 (y_cp (ch_ob m 1 0) (ch_ob m 1 2))).1 = 0) → (∀ m2 : ch_M, m2 = ch_os m 1 2 ((x_tt p1 40 1 (y_cp (ch_ob m 1 0) (ch_ob m 1 2))).2) → Q (.inl (some (.inl (.int ((x_tt p1 40 1 (y_cp (ch_ob m 1 0) (ch_ob m 1 2))).1))))) m2)) ∧ ((¬ (0 ≤ p1 ∧ p1 < m (1, 0, 0) 8)) → Q (.inl (some (.inl (.int (-1001))))) m) ∧ (((0 ≤ p1 ∧ p1 < m (1, 0, 0) 8) ∧ (x_tt p1 40 1 (y_cp (ch_ob m 1 0) (ch_ob m 1 2))).1 = 0) → (∀ m6 : ch_M, m6 = ch_os m 1 2 ((x_tt p1 40 1 (y_cp (ch_ob m 1 0) (ch_ob m 1 2))).2) → Q (.inl (some (.inl (.int (-1002))))) m6)))) : ch_J g m_l_termsFor (ch_rm m_l_termsFor) (ch_E g m_l_termsFor Q) 0 [some (.inr (0, 0, 0)), some (.inl (.int p1)), none] [] m 0 := by
  refine ch_aload_n (i := 0) d_l_termsFor_0 rfl rfl ?_
  refine ch_iload_n (i := 1) d_l_termsFor_1 rfl rfl ?_
  have b4 := h.1
  replace h := h.2
  refine ch_callV (as := [.inl (.int p1)]) d_l_termsFor_2 lk_l_82 mi_x_termsFor me_x_termsFor rfl rfl rfl ⟨Nat.le_of_ble_eq_true rfl, Nat.le_of_ble_eq_true rfl⟩ (Nat.le_of_ble_eq_true rfl) ⟨Nat.le_of_ble_eq_true rfl, Nat.le_of_ble_eq_true rfl⟩ (ch_mono (ch_Kx (ch_Ki (fun r1 m2 q3 => ?_)) (fun n5 m6 hn_ q3 => ?_)) (s_x_termsFor g (fun (r_ : Int32) (m_ : ch_M) => (((0 ≤ p1 ∧ p1 < m (1, 0, 0) 8) ∧ ¬ (x_tt p1 40 1 (y_cp (ch_ob m 1 0) (ch_ob m 1 2))).1 = 0) ∧ ((x_tt p1 40 1 (y_cp (ch_ob m 1 0) (ch_ob m 1 2))).1) = r_ ∧ m_ = ch_os m 1 2 ((x_tt p1 40 1 (y_cp (ch_ob m 1 0) (ch_ob m 1 2))).2))) (fun (n_ : Nat) (m_ : ch_M) => ((¬ (0 ≤ p1 ∧ p1 < m (1, 0, 0) 8)) ∧ n_ = 1 ∧ m = m_) ∨ (((0 ≤ p1 ∧ p1 < m (1, 0, 0) 8) ∧ (x_tt p1 40 1 (y_cp (ch_ob m 1 0) (ch_ob m 1 2))).1 = 0) ∧ n_ = 3 ∧ m_ = ch_os m 1 2 ((x_tt p1 40 1 (y_cp (ch_ob m 1 0) (ch_ob m 1 2))).2))) (p1) m ⟨b4, (fun c_ => ⟨c_, rfl, rfl⟩), (fun c_ => (Or.inl ⟨c_, rfl, rfl⟩)), (fun c_ => (Or.inr ⟨c_, rfl, rfl⟩))⟩))
  · obtain ⟨c_, rfl, hm_⟩ := q3
    replace h := h.1 c_ m2 hm_
    exact ch_iret (ty := .int) d_l_termsFor_5 rfl rfl (Nat.le_of_ble_eq_true rfl) h
  · rcases q3 with ⟨c_, rfl, rfl⟩ | ⟨c_, rfl, hm_⟩
    · replace h := h.2.1 c_
      refine ch_caught (i := 2) (ls' := [some (.inr (0, 0, 0)), some (.inl (.int p1)), none]) [] (0, 5, 6, 43) [(0, 5, 11, 56)] rfl (fun z hz => by cases hz) ⟨by decide, by decide⟩ (by decide) ck_l_43 cx_1 (Or.inr ⟨⟨2, rfl, d_l_termsFor_6⟩, ?_⟩) (Nat.le_of_ble_eq_true rfl) rfl
      refine ch_sipush (v := (-1001)) d_l_termsFor_7 (by decide) ?_
      exact ch_iret (ty := .int) d_l_termsFor_10 rfl rfl (Nat.le_of_ble_eq_true rfl) h
    · replace h := h.2.2 c_ m6 hm_
      refine ch_caught (i := 2) (ls' := [some (.inr (0, 0, 0)), some (.inl (.int p1)), none]) [(0, 5, 6, 43)] (0, 5, 11, 56) [] rfl (fun z hz => by simp only [List.mem_cons, List.not_mem_nil, or_false] at hz; subst hz; exact ⟨by decide, 1, by decide, by decide, ck_l_43⟩) ⟨by decide, by decide⟩ (by decide) ck_l_56 cx_3 (Or.inr ⟨⟨2, rfl, d_l_termsFor_11⟩, ?_⟩) (Nat.le_of_ble_eq_true rfl) rfl
      refine ch_sipush (v := (-1002)) d_l_termsFor_12 (by decide) ?_
      exact ch_iret (ty := .int) d_l_termsFor_15 rfl rfl (Nat.le_of_ble_eq_true rfl) h
theorem e_l_ranked (g : ch_G) (Q : ch_O → ch_M → Prop) (p1 : Int32) (p2 : Int32) (m : ch_M) (h : ch_J g m_l_ranked (ch_rm m_l_ranked) (ch_E g m_l_ranked Q) 0 [some (.inr (0, 0, 0)), some (.inl (.int p1)), some (.inl (.int p2)), none] [] m 0) : ch_C g m_l_ranked [.inr (0, 0, 0), .inl (.int p1), .inl (.int p2)] m Q :=
  ch_enter mf_l_ranked (by intro v hv; simp only [List.mem_cons, List.not_mem_nil, or_false] at hv; rcases hv with rfl | rfl | rfl <;> rfl) (Nat.le_of_ble_eq_true rfl) h
set_option maxHeartbeats 1600000 in
theorem g_l_ranked_0 (g : ch_G) (Q : ch_O → ch_M → Prop) (p1 : Int32) (p2 : Int32) (m : ch_M) (h : (vp_in (m (1, 0, 0) 8) 6) ∧ ((((0 ≤ p1 ∧ p1 ≤ 3) ∧ 0 ≤ p2 ∧ p2 < m (1, 0, 0) 8) → Q (.inl (some (.inl (.int (x_rk (ch_ob m 1 0) p1 p2 (Int32.toNatClampNeg (m (1, 0, 0) 8))))))) m) ∧ ((¬ (0 ≤ p1 ∧ p1 ≤ 3)) → Q (.inl (some (.inl (.int (-1001))))) m) ∧ (((0 ≤ p1 ∧ p1 ≤ 3) ∧ ¬ (0 ≤ p2 ∧ p2 < m (1, 0, 0) 8)) → Q (.inl (some (.inl (.int (-1002))))) m))) : ch_J g m_l_ranked (ch_rm m_l_ranked) (ch_E g m_l_ranked Q) 0 [some (.inr (0, 0, 0)), some (.inl (.int p1)), some (.inl (.int p2)), none] [] m 0 := by
  refine ch_aload_n (i := 0) d_l_ranked_0 rfl rfl ?_
  refine ch_iload_n (i := 1) d_l_ranked_1 rfl rfl ?_
  refine ch_iload_n (i := 2) d_l_ranked_2 rfl rfl ?_
  have b4 := h.1
  replace h := h.2
  refine ch_callV (as := [.inl (.int p1), .inl (.int p2)]) d_l_ranked_3 lk_l_85 mi_x_ranked me_x_ranked rfl rfl rfl ⟨Nat.le_of_ble_eq_true rfl, Nat.le_of_ble_eq_true rfl⟩ (Nat.le_of_ble_eq_true rfl) ⟨Nat.le_of_ble_eq_true rfl, Nat.le_of_ble_eq_true rfl⟩ (ch_mono (ch_Kx (ch_Ki (fun r1 m2 q3 => ?_)) (fun n5 m6 hn_ q3 => ?_)) (s_x_ranked g (fun (r_ : Int32) (m_ : ch_M) => (((0 ≤ p1 ∧ p1 ≤ 3) ∧ 0 ≤ p2 ∧ p2 < m (1, 0, 0) 8) ∧ (x_rk (ch_ob m 1 0) p1 p2 (Int32.toNatClampNeg (m (1, 0, 0) 8))) = r_ ∧ m = m_)) (fun (n_ : Nat) (m_ : ch_M) => ((¬ (0 ≤ p1 ∧ p1 ≤ 3)) ∧ n_ = 2 ∧ m = m_) ∨ (((0 ≤ p1 ∧ p1 ≤ 3) ∧ ¬ (0 ≤ p2 ∧ p2 < m (1, 0, 0) 8)) ∧ n_ = 3 ∧ m = m_)) (p1) (p2) m ⟨b4, (fun c_ => ⟨c_, rfl, rfl⟩), (fun c_ => (Or.inl ⟨c_, rfl, rfl⟩)), (fun c_ => (Or.inr ⟨c_, rfl, rfl⟩))⟩))
  · obtain ⟨c_, rfl, rfl⟩ := q3
    replace h := h.1 c_
    exact ch_iret (ty := .int) d_l_ranked_6 rfl rfl (Nat.le_of_ble_eq_true rfl) h
  · rcases q3 with ⟨c_, rfl, rfl⟩ | ⟨c_, rfl, rfl⟩
    · replace h := h.2.1 c_
      refine ch_caught (i := 3) (ls' := [some (.inr (0, 0, 0)), some (.inl (.int p1)), some (.inl (.int p2)), none]) [] (0, 6, 7, 48) [(0, 6, 12, 56)] rfl (fun z hz => by cases hz) ⟨by decide, by decide⟩ (by decide) ck_l_48 cx_2 (Or.inr ⟨⟨3, rfl, d_l_ranked_7⟩, ?_⟩) (Nat.le_of_ble_eq_true rfl) rfl
      refine ch_sipush (v := (-1001)) d_l_ranked_8 (by decide) ?_
      exact ch_iret (ty := .int) d_l_ranked_11 rfl rfl (Nat.le_of_ble_eq_true rfl) h
    · replace h := h.2.2 c_
      refine ch_caught (i := 3) (ls' := [some (.inr (0, 0, 0)), some (.inl (.int p1)), some (.inl (.int p2)), none]) [(0, 6, 7, 48)] (0, 6, 12, 56) [] rfl (fun z hz => by simp only [List.mem_cons, List.not_mem_nil, or_false] at hz; subst hz; exact ⟨by decide, 2, by decide, by decide, ck_l_48⟩) ⟨by decide, by decide⟩ (by decide) ck_l_56 cx_3 (Or.inr ⟨⟨3, rfl, d_l_ranked_12⟩, ?_⟩) (Nat.le_of_ble_eq_true rfl) rfl
      refine ch_sipush (v := (-1002)) d_l_ranked_13 (by decide) ?_
      exact ch_iret (ty := .int) d_l_ranked_16 rfl rfl (Nat.le_of_ble_eq_true rfl) h
theorem e_l_append (g : ch_G) (Q : ch_O → ch_M → Prop) (p1 : Int32) (m : ch_M) (h : ch_J g m_l_append (ch_rm m_l_append) (ch_E g m_l_append Q) 0 [some (.inr (0, 0, 0)), some (.inl (.int p1)), none] [] m 0) : ch_C g m_l_append [.inr (0, 0, 0), .inl (.int p1)] m Q :=
  ch_enter mf_l_append (by intro v hv; simp only [List.mem_cons, List.not_mem_nil, or_false] at hv; rcases hv with rfl | rfl <;> rfl) (Nat.le_of_ble_eq_true rfl) h
set_option maxHeartbeats 1600000 in
theorem g_l_append_0 (g : ch_G) (Q : ch_O → ch_M → Prop) (p1 : Int32) (m : ch_M) (h : (vp_in (m (6, 0, 0) 1) 61) ∧ (((m (6, 0, 0) 1 < 60) → (∀ m2 : ch_M, m2 = ch_os m 6 0 (t_putB (ch_ob m 6 0) p1) → Q (.inl (some (.inl (.int (m (6, 0, 0) 1 + 1))))) m2)) ∧ ((¬ m (6, 0, 0) 1 < 60) → Q (.inl (some (.inl (.int (-1001))))) m))) : ch_J g m_l_append (ch_rm m_l_append) (ch_E g m_l_append Q) 0 [some (.inr (0, 0, 0)), some (.inl (.int p1)), none] [] m 0 := by
  refine ch_aload_n (i := 0) d_l_append_0 rfl rfl ?_
  refine ch_iload_n (i := 1) d_l_append_1 rfl rfl ?_
  have b4 := h.1
  replace h := h.2
  refine ch_callV (as := [.inl (.int p1)]) d_l_append_2 lk_l_88 mi_x_append me_x_append rfl rfl rfl ⟨Nat.le_of_ble_eq_true rfl, Nat.le_of_ble_eq_true rfl⟩ (Nat.le_of_ble_eq_true rfl) ⟨Nat.le_of_ble_eq_true rfl, Nat.le_of_ble_eq_true rfl⟩ (ch_mono (ch_Kx (ch_Ki (fun r1 m2 q3 => ?_)) (fun n5 m6 hn_ q3 => ?_)) (s_x_append g (fun (r_ : Int32) (m_ : ch_M) => ((m (6, 0, 0) 1 < 60) ∧ (m (6, 0, 0) 1 + 1) = r_ ∧ m_ = ch_os m 6 0 (t_putB (ch_ob m 6 0) p1))) (fun (n_ : Nat) (m_ : ch_M) => ((¬ m (6, 0, 0) 1 < 60) ∧ n_ = 4 ∧ m = m_)) (p1) m ⟨b4, (fun c_ => ⟨c_, rfl, rfl⟩), (fun c_ => ⟨c_, rfl, rfl⟩)⟩))
  · obtain ⟨c_, rfl, hm_⟩ := q3
    replace h := h.1 c_ m2 hm_
    exact ch_iret (ty := .int) d_l_append_5 rfl rfl (Nat.le_of_ble_eq_true rfl) h
  · obtain ⟨c_, rfl, rfl⟩ := q3
    replace h := h.2 c_
    refine ch_caught (i := 2) (ls' := [some (.inr (0, 0, 0)), some (.inl (.int p1)), none]) [] (0, 5, 6, 92) [] rfl (fun z hz => by cases hz) ⟨by decide, by decide⟩ (by decide) ck_l_92 cx_4 (Or.inr ⟨⟨2, rfl, d_l_append_6⟩, ?_⟩) (Nat.le_of_ble_eq_true rfl) rfl
    refine ch_sipush (v := (-1001)) d_l_append_7 (by decide) ?_
    exact ch_iret (ty := .int) d_l_append_10 rfl rfl (Nat.le_of_ble_eq_true rfl) h
theorem e_l_commands (g : ch_G) (Q : ch_O → ch_M → Prop)  (m : ch_M) (h : ch_J g m_l_commands (ch_rm m_l_commands) (ch_E g m_l_commands Q) 0 [some (.inr (0, 0, 0)), none] [] m 0) : ch_C g m_l_commands [.inr (0, 0, 0)] m Q :=
  ch_enter mf_l_commands (by intro v hv; simp only [List.mem_cons, List.not_mem_nil, or_false] at hv; rcases hv with rfl <;> rfl) (Nat.le_of_ble_eq_true rfl) h
set_option maxHeartbeats 1600000 in
theorem g_l_commands_0 (g : ch_G) (Q : ch_O → ch_M → Prop)  (m : ch_M) (h : ((x_F m).1 = -1 → x_ok 60 (x_p0 (x_b m)) ∧ (¬ (x_cc m).1 = 0 → vp_in (x_c3 m (2, 0, 0) 1) 8)) ∧ ((((x_F m).1 = -1 ∧ ¬ (x_cc m).1 = 0) → (∀ m2 : ch_M, m2 = p_kM (x_c3 m) 1 → Q (.inl (some (.inl (.int ((x_cc m).1))))) m2)) ∧ ((¬ (x_F m).1 = -1) → (∀ m6 : ch_M, m6 = x_cl (x_f1 m) → Q (.inl (some (.inl (.int (-1001))))) m6)) ∧ (((x_F m).1 = -1 ∧ (x_cc m).1 = 0) → (∀ m6 : ch_M, m6 = ch_os (x_c3 m) 1 0 (y_cp (ch_ob (x_c3 m) 1 1) (ch_ob (x_c3 m) 1 0)) → Q (.inl (some (.inl (.int (-1002))))) m6)))) : ch_J g m_l_commands (ch_rm m_l_commands) (ch_E g m_l_commands Q) 0 [some (.inr (0, 0, 0)), none] [] m 0 := by
  refine ch_aload_n (i := 0) d_l_commands_0 rfl rfl ?_
  have b4 := h.1
  replace h := h.2
  refine ch_callV (as := []) d_l_commands_1 lk_l_94 mi_x_commands me_x_commands rfl rfl rfl ⟨Nat.le_of_ble_eq_true rfl, Nat.le_of_ble_eq_true rfl⟩ (Nat.le_of_ble_eq_true rfl) ⟨Nat.le_of_ble_eq_true rfl, Nat.le_of_ble_eq_true rfl⟩ (ch_mono (ch_Kx (ch_Ki (fun r1 m2 q3 => ?_)) (fun n5 m6 hn_ q3 => ?_)) (s_x_commands g (fun (r_ : Int32) (m_ : ch_M) => (((x_F m).1 = -1 ∧ ¬ (x_cc m).1 = 0) ∧ ((x_cc m).1) = r_ ∧ m_ = p_kM (x_c3 m) 1)) (fun (n_ : Nat) (m_ : ch_M) => ((¬ (x_F m).1 = -1) ∧ n_ = 2 ∧ m_ = x_cl (x_f1 m)) ∨ (((x_F m).1 = -1 ∧ (x_cc m).1 = 0) ∧ n_ = 0 ∧ m_ = ch_os (x_c3 m) 1 0 (y_cp (ch_ob (x_c3 m) 1 1) (ch_ob (x_c3 m) 1 0))))  m ⟨b4, (fun c_ => ⟨c_, rfl, rfl⟩), (fun c_ => (Or.inl ⟨c_, rfl, rfl⟩)), (fun c_ => (Or.inr ⟨c_, rfl, rfl⟩))⟩))
  · obtain ⟨c_, rfl, hm_⟩ := q3
    replace h := h.1 c_ m2 hm_
    exact ch_iret (ty := .int) d_l_commands_4 rfl rfl (Nat.le_of_ble_eq_true rfl) h
  · rcases q3 with ⟨c_, rfl, hm_⟩ | ⟨c_, rfl, hm_⟩
    · replace h := h.2.1 c_ m6 hm_
      refine ch_caught (i := 1) (ls' := [some (.inr (0, 0, 0)), none]) [] (0, 4, 5, 48) [(0, 4, 10, 13)] rfl (fun z hz => by cases hz) ⟨by decide, by decide⟩ (by decide) ck_l_48 cx_2 (Or.inr ⟨⟨1, rfl, d_l_commands_5⟩, ?_⟩) (Nat.le_of_ble_eq_true rfl) rfl
      refine ch_sipush (v := (-1001)) d_l_commands_6 (by decide) ?_
      exact ch_iret (ty := .int) d_l_commands_9 rfl rfl (Nat.le_of_ble_eq_true rfl) h
    · replace h := h.2.2 c_ m6 hm_
      refine ch_caught (i := 1) (ls' := [some (.inr (0, 0, 0)), none]) [(0, 4, 5, 48)] (0, 4, 10, 13) [] rfl (fun z hz => by simp only [List.mem_cons, List.not_mem_nil, or_false] at hz; subst hz; exact ⟨by decide, 2, by decide, by decide, ck_l_48⟩) ⟨by decide, by decide⟩ (by decide) ck_l_13 cx_0 (Or.inr ⟨⟨1, rfl, d_l_commands_10⟩, ?_⟩) (Nat.le_of_ble_eq_true rfl) rfl
      refine ch_sipush (v := (-1002)) d_l_commands_11 (by decide) ?_
      exact ch_iret (ty := .int) d_l_commands_14 rfl rfl (Nat.le_of_ble_eq_true rfl) h
theorem e_l_reason (g : ch_G) (Q : ch_O → ch_M → Prop) (p1 : Int32) (m : ch_M) (h : ch_J g m_l_reason (ch_rm m_l_reason) (ch_E g m_l_reason Q) 0 [some (.inr (0, 0, 0)), some (.inl (.int p1)), none] [] m 0) : ch_C g m_l_reason [.inr (0, 0, 0), .inl (.int p1)] m Q :=
  ch_enter mf_l_reason (by intro v hv; simp only [List.mem_cons, List.not_mem_nil, or_false] at hv; rcases hv with rfl | rfl <;> rfl) (Nat.le_of_ble_eq_true rfl) h
set_option maxHeartbeats 1600000 in
theorem g_l_reason_0 (g : ch_G) (Q : ch_O → ch_M → Prop) (p1 : Int32) (m : ch_M) (h : ((((0 ≤ p1 ∧ p1 ≤ 2) ∧ ¬ m (3, 0, 0) 0 = 0) → Q (.inl (some (.inl (.int (if p1 = 0 then m (3, 0, 0) 0 else if p1 = 1 then m (3, 0, 0) 1 else m (3, 0, 0) 2))))) m) ∧ ((¬ (0 ≤ p1 ∧ p1 ≤ 2)) → Q (.inl (some (.inl (.int (-1001))))) m) ∧ (((0 ≤ p1 ∧ p1 ≤ 2) ∧ m (3, 0, 0) 0 = 0) → Q (.inl (some (.inl (.int (-1002))))) m))) : ch_J g m_l_reason (ch_rm m_l_reason) (ch_E g m_l_reason Q) 0 [some (.inr (0, 0, 0)), some (.inl (.int p1)), none] [] m 0 := by
  refine ch_aload_n (i := 0) d_l_reason_0 rfl rfl ?_
  refine ch_iload_n (i := 1) d_l_reason_1 rfl rfl ?_
  refine ch_callV (as := [.inl (.int p1)]) d_l_reason_2 lk_l_97 mi_x_reason me_x_reason rfl rfl rfl ⟨Nat.le_of_ble_eq_true rfl, Nat.le_of_ble_eq_true rfl⟩ (Nat.le_of_ble_eq_true rfl) ⟨Nat.le_of_ble_eq_true rfl, Nat.le_of_ble_eq_true rfl⟩ (ch_mono (ch_Kx (ch_Ki (fun r1 m2 q3 => ?_)) (fun n4 m5 hn_ q3 => ?_)) (s_x_reason g (fun (r_ : Int32) (m_ : ch_M) => (((0 ≤ p1 ∧ p1 ≤ 2) ∧ ¬ m (3, 0, 0) 0 = 0) ∧ (if p1 = 0 then m (3, 0, 0) 0 else if p1 = 1 then m (3, 0, 0) 1 else m (3, 0, 0) 2) = r_ ∧ m = m_)) (fun (n_ : Nat) (m_ : ch_M) => ((¬ (0 ≤ p1 ∧ p1 ≤ 2)) ∧ n_ = 2 ∧ m = m_) ∨ (((0 ≤ p1 ∧ p1 ≤ 2) ∧ m (3, 0, 0) 0 = 0) ∧ n_ = 3 ∧ m = m_)) (p1) m ⟨(fun c_ => ⟨c_, rfl, rfl⟩), (fun c_ => (Or.inl ⟨c_, rfl, rfl⟩)), (fun c_ => (Or.inr ⟨c_, rfl, rfl⟩))⟩))
  · obtain ⟨c_, rfl, rfl⟩ := q3
    replace h := h.1 c_
    exact ch_iret (ty := .int) d_l_reason_5 rfl rfl (Nat.le_of_ble_eq_true rfl) h
  · rcases q3 with ⟨c_, rfl, rfl⟩ | ⟨c_, rfl, rfl⟩
    · replace h := h.2.1 c_
      refine ch_caught (i := 2) (ls' := [some (.inr (0, 0, 0)), some (.inl (.int p1)), none]) [] (0, 5, 6, 48) [(0, 5, 11, 56)] rfl (fun z hz => by cases hz) ⟨by decide, by decide⟩ (by decide) ck_l_48 cx_2 (Or.inr ⟨⟨2, rfl, d_l_reason_6⟩, ?_⟩) (Nat.le_of_ble_eq_true rfl) rfl
      refine ch_sipush (v := (-1001)) d_l_reason_7 (by decide) ?_
      exact ch_iret (ty := .int) d_l_reason_10 rfl rfl (Nat.le_of_ble_eq_true rfl) h
    · replace h := h.2.2 c_
      refine ch_caught (i := 2) (ls' := [some (.inr (0, 0, 0)), some (.inl (.int p1)), none]) [(0, 5, 6, 48)] (0, 5, 11, 56) [] rfl (fun z hz => by simp only [List.mem_cons, List.not_mem_nil, or_false] at hz; subst hz; exact ⟨by decide, 2, by decide, by decide, ck_l_48⟩) ⟨by decide, by decide⟩ (by decide) ck_l_56 cx_3 (Or.inr ⟨⟨2, rfl, d_l_reason_11⟩, ?_⟩) (Nat.le_of_ble_eq_true rfl) rfl
      refine ch_sipush (v := (-1002)) d_l_reason_12 (by decide) ?_
      exact ch_iret (ty := .int) d_l_reason_15 rfl rfl (Nat.le_of_ble_eq_true rfl) h
theorem e_l_character (g : ch_G) (Q : ch_O → ch_M → Prop) (p1 : Int32) (m : ch_M) (h : ch_J g m_l_character (ch_rm m_l_character) (ch_E g m_l_character Q) 0 [some (.inr (0, 0, 0)), some (.inl (.int p1)), none] [] m 0) : ch_C g m_l_character [.inr (0, 0, 0), .inl (.int p1)] m Q :=
  ch_enter mf_l_character (by intro v hv; simp only [List.mem_cons, List.not_mem_nil, or_false] at hv; rcases hv with rfl | rfl <;> rfl) (Nat.le_of_ble_eq_true rfl) h
set_option maxHeartbeats 1600000 in
theorem g_l_character_0 (g : ch_G) (Q : ch_O → ch_M → Prop) (p1 : Int32) (m : ch_M) (h : (vp_in (m (6, 1, 0) 1) 61) ∧ (∀ i_, i_ < 60 → narrow .char (.int (m (6, 1, 1) i_)) = .int (m (6, 1, 1) i_)) ∧ (((0 ≤ p1 ∧ p1 < m (6, 1, 0) 1) → Q (.inl (some (.inl (.int (m (6, 1, 1) (Int32.toNatClampNeg p1)))))) m) ∧ ((¬ (0 ≤ p1 ∧ p1 < m (6, 1, 0) 1)) → Q (.inl (some (.inl (.int (-1001))))) m))) : ch_J g m_l_character (ch_rm m_l_character) (ch_E g m_l_character Q) 0 [some (.inr (0, 0, 0)), some (.inl (.int p1)), none] [] m 0 := by
  refine ch_aload_n (i := 0) d_l_character_0 rfl rfl ?_
  refine ch_iload_n (i := 1) d_l_character_1 rfl rfl ?_
  have b4 := h.1
  replace h := h.2
  have b5 := h.1
  replace h := h.2
  refine ch_callV (as := [.inl (.int p1)]) d_l_character_2 lk_l_100 mi_x_character me_x_character rfl rfl rfl ⟨Nat.le_of_ble_eq_true rfl, Nat.le_of_ble_eq_true rfl⟩ (Nat.le_of_ble_eq_true rfl) ⟨Nat.le_of_ble_eq_true rfl, Nat.le_of_ble_eq_true rfl⟩ (ch_mono (ch_Kx (ch_Ki (fun r1 m2 q3 => ?_)) (fun n6 m7 hn_ q3 => ?_)) (s_x_character g (fun (r_ : Int32) (m_ : ch_M) => ((0 ≤ p1 ∧ p1 < m (6, 1, 0) 1) ∧ (m (6, 1, 1) (Int32.toNatClampNeg p1)) = r_ ∧ m = m_)) (fun (n_ : Nat) (m_ : ch_M) => ((¬ (0 ≤ p1 ∧ p1 < m (6, 1, 0) 1)) ∧ n_ = 1 ∧ m = m_)) (p1) m ⟨b4, b5, (fun c_ => ⟨c_, rfl, rfl⟩), (fun c_ => ⟨c_, rfl, rfl⟩)⟩))
  · obtain ⟨c_, rfl, rfl⟩ := q3
    replace h := h.1 c_
    exact ch_iret (ty := .int) d_l_character_5 rfl rfl (Nat.le_of_ble_eq_true rfl) h
  · obtain ⟨c_, rfl, rfl⟩ := q3
    replace h := h.2 c_
    refine ch_caught (i := 2) (ls' := [some (.inr (0, 0, 0)), some (.inl (.int p1)), none]) [] (0, 5, 6, 43) [] rfl (fun z hz => by cases hz) ⟨by decide, by decide⟩ (by decide) ck_l_43 cx_1 (Or.inr ⟨⟨2, rfl, d_l_character_6⟩, ?_⟩) (Nat.le_of_ble_eq_true rfl) rfl
    refine ch_sipush (v := (-1001)) d_l_character_7 (by decide) ?_
    exact ch_iret (ty := .int) d_l_character_10 rfl rfl (Nat.le_of_ble_eq_true rfl) h
theorem e_l_meanChalk (g : ch_G) (Q : ch_O → ch_M → Prop)  (m : ch_M) (h : ch_J g m_l_meanChalk (ch_rm m_l_meanChalk) (ch_E g m_l_meanChalk Q) 0 [some (.inr (0, 0, 0)), none] [] m 0) : ch_C g m_l_meanChalk [.inr (0, 0, 0)] m Q :=
  ch_enter mf_l_meanChalk (by intro v hv; simp only [List.mem_cons, List.not_mem_nil, or_false] at hv; rcases hv with rfl <;> rfl) (Nat.le_of_ble_eq_true rfl) h
set_option maxHeartbeats 1600000 in
theorem g_l_meanChalk_0 (g : ch_G) (Q : ch_O → ch_M → Prop)  (m : ch_M) (h : (y_fls (ch_ob m 1 0)) ∧ (((¬ 12 - ch_cnO (ch_ob m 1 0 1) (-1) 12 = 0) → Q (.inl (some (.inl (.double (FP.ddiv (FP.i2d (y_sum (ch_ob m 1 0 2) 12)) (FP.i2d (12 - ch_cnO (ch_ob m 1 0 1) (-1) 12))))))) m) ∧ ((12 - ch_cnO (ch_ob m 1 0 1) (-1) 12 = 0) → Q (.inl (some (.inl (.double 13875388141788987392)))) m))) : ch_J g m_l_meanChalk (ch_rm m_l_meanChalk) (ch_E g m_l_meanChalk Q) 0 [some (.inr (0, 0, 0)), none] [] m 0 := by
  refine ch_aload_n (i := 0) d_l_meanChalk_0 rfl rfl ?_
  have b4 := h.1
  replace h := h.2
  refine ch_callV (as := []) d_l_meanChalk_1 lk_l_104 mi_x_meanChalk me_x_meanChalk rfl rfl rfl ⟨Nat.le_of_ble_eq_true rfl, Nat.le_of_ble_eq_true rfl⟩ (Nat.le_of_ble_eq_true rfl) ⟨Nat.le_of_ble_eq_true rfl, Nat.le_of_ble_eq_true rfl⟩ (ch_mono (ch_Kx (ch_Kd (fun r1 m2 q3 => ?_)) (fun n5 m6 hn_ q3 => ?_)) (s_x_meanChalk g (fun (r_ : UInt64) (m_ : ch_M) => ((¬ 12 - ch_cnO (ch_ob m 1 0 1) (-1) 12 = 0) ∧ (FP.ddiv (FP.i2d (y_sum (ch_ob m 1 0 2) 12)) (FP.i2d (12 - ch_cnO (ch_ob m 1 0 1) (-1) 12))) = r_ ∧ m = m_)) (fun (n_ : Nat) (m_ : ch_M) => ((12 - ch_cnO (ch_ob m 1 0 1) (-1) 12 = 0) ∧ n_ = 5 ∧ m = m_))  m ⟨b4, (fun c_ => ⟨c_, rfl, rfl⟩), (fun c_ => ⟨c_, rfl, rfl⟩)⟩))
  · obtain ⟨c_, rfl, rfl⟩ := q3
    replace h := h.1 c_
    exact ch_dret d_l_meanChalk_4 rfl (Nat.le_of_ble_eq_true rfl) h
  · obtain ⟨c_, rfl, rfl⟩ := q3
    replace h := h.2 c_
    refine ch_caught (i := 1) (ls' := [some (.inr (0, 0, 0)), none]) [] (0, 4, 5, 108) [] rfl (fun z hz => by cases hz) ⟨by decide, by decide⟩ (by decide) ck_l_108 cx_5 (Or.inr ⟨⟨1, rfl, d_l_meanChalk_5⟩, ?_⟩) (Nat.le_of_ble_eq_true rfl) rfl
    refine ch_ldc2d (v := 13875388141788987392) d_l_meanChalk_6 lc_l_110 ?_
    exact ch_dret d_l_meanChalk_9 rfl (Nat.le_of_ble_eq_true rfl) h
theorem e_l_account (g : ch_G) (Q : ch_O → ch_M → Prop) (p1 : Int32) (m : ch_M) (h : ch_J g m_l_account (ch_rm m_l_account) (ch_E g m_l_account Q) 0 [some (.inr (0, 0, 0)), some (.inl (.int p1)), none] [] m 0) : ch_C g m_l_account [.inr (0, 0, 0), .inl (.int p1)] m Q :=
  ch_enter mf_l_account (by intro v hv; simp only [List.mem_cons, List.not_mem_nil, or_false] at hv; rcases hv with rfl | rfl <;> rfl) (Nat.le_of_ble_eq_true rfl) h
set_option maxHeartbeats 1600000 in
theorem g_l_account_0 (g : ch_G) (Q : ch_O → ch_M → Prop) (p1 : Int32) (m : ch_M) (h : (vp_in (m (1, 0, 0) 8) 6) ∧ (((0 ≤ p1 ∧ p1 ≤ 11) → Q (.inl (some (.inl (.int (x_acR (ch_ob m 1 0) (m (2, 0, 0) 2) (m (6, 0, 0) 1) p1))))) m) ∧ ((¬ (0 ≤ p1 ∧ p1 ≤ 11)) → Q (.inl (some (.inl (.int (-1001))))) m))) : ch_J g m_l_account (ch_rm m_l_account) (ch_E g m_l_account Q) 0 [some (.inr (0, 0, 0)), some (.inl (.int p1)), none] [] m 0 := by
  refine ch_aload_n (i := 0) d_l_account_0 rfl rfl ?_
  refine ch_iload_n (i := 1) d_l_account_1 rfl rfl ?_
  have b4 := h.1
  replace h := h.2
  refine ch_callV (as := [.inl (.int p1)]) d_l_account_2 lk_l_112 mi_x_account me_x_account rfl rfl rfl ⟨Nat.le_of_ble_eq_true rfl, Nat.le_of_ble_eq_true rfl⟩ (Nat.le_of_ble_eq_true rfl) ⟨Nat.le_of_ble_eq_true rfl, Nat.le_of_ble_eq_true rfl⟩ (ch_mono (ch_Kx (ch_Ki (fun r1 m2 q3 => ?_)) (fun n5 m6 hn_ q3 => ?_)) (s_x_account g (fun (r_ : Int32) (m_ : ch_M) => ((0 ≤ p1 ∧ p1 ≤ 11) ∧ (x_acR (ch_ob m 1 0) (m (2, 0, 0) 2) (m (6, 0, 0) 1) p1) = r_ ∧ m = m_)) (fun (n_ : Nat) (m_ : ch_M) => ((¬ (0 ≤ p1 ∧ p1 ≤ 11)) ∧ n_ = 2 ∧ m = m_)) (p1) m ⟨b4, (fun c_ => ⟨c_, rfl, rfl⟩), (fun c_ => ⟨c_, rfl, rfl⟩)⟩))
  · obtain ⟨c_, rfl, rfl⟩ := q3
    replace h := h.1 c_
    exact ch_iret (ty := .int) d_l_account_5 rfl rfl (Nat.le_of_ble_eq_true rfl) h
  · obtain ⟨c_, rfl, rfl⟩ := q3
    replace h := h.2 c_
    refine ch_caught (i := 2) (ls' := [some (.inr (0, 0, 0)), some (.inl (.int p1)), none]) [] (0, 5, 6, 48) [] rfl (fun z hz => by cases hz) ⟨by decide, by decide⟩ (by decide) ck_l_48 cx_2 (Or.inr ⟨⟨2, rfl, d_l_account_6⟩, ?_⟩) (Nat.le_of_ble_eq_true rfl) rfl
    refine ch_sipush (v := (-1001)) d_l_account_7 (by decide) ?_
    exact ch_iret (ty := .int) d_l_account_10 rfl rfl (Nat.le_of_ble_eq_true rfl) h
theorem e_l_undo (g : ch_G) (Q : ch_O → ch_M → Prop)  (m : ch_M) (h : ch_J g m_l_undo (ch_rm m_l_undo) (ch_E g m_l_undo Q) 0 [some (.inr (0, 0, 0)), none] [] m 0) : ch_C g m_l_undo [.inr (0, 0, 0)] m Q :=
  ch_enter mf_l_undo (by intro v hv; simp only [List.mem_cons, List.not_mem_nil, or_false] at hv; rcases hv with rfl <;> rfl) (Nat.le_of_ble_eq_true rfl) h
set_option maxHeartbeats 1600000 in
theorem g_l_undo_0 (g : ch_G) (Q : ch_O → ch_M → Prop)  (m : ch_M) (h : (vp_in (m (2, 0, 0) 1) 8) ∧ (((¬ m (2, 0, 0) 2 = 0) → (∀ m2 : ch_M, m2 = ch_os (ch_os m 1 0 (y_cp (ch_ob m 1 (4 + Int32.toNatClampNeg (m (2, 0, 0) 1))) (ch_ob m 1 0))) 2 0 (p_gB (ch_ob m 2 0)) → Q (.inl (some (.inl (.int (m (2, 0, 0) 2 - 1))))) m2)) ∧ ((m (2, 0, 0) 2 = 0) → Q (.inl (some (.inl (.int (-1001))))) m))) : ch_J g m_l_undo (ch_rm m_l_undo) (ch_E g m_l_undo Q) 0 [some (.inr (0, 0, 0)), none] [] m 0 := by
  refine ch_aload_n (i := 0) d_l_undo_0 rfl rfl ?_
  have b4 := h.1
  replace h := h.2
  refine ch_callV (as := []) d_l_undo_1 lk_l_115 mi_x_undo me_x_undo rfl rfl rfl ⟨Nat.le_of_ble_eq_true rfl, Nat.le_of_ble_eq_true rfl⟩ (Nat.le_of_ble_eq_true rfl) ⟨Nat.le_of_ble_eq_true rfl, Nat.le_of_ble_eq_true rfl⟩ (ch_mono (ch_Kx (ch_Ki (fun r1 m2 q3 => ?_)) (fun n5 m6 hn_ q3 => ?_)) (s_x_undo g (fun (r_ : Int32) (m_ : ch_M) => ((¬ m (2, 0, 0) 2 = 0) ∧ (m (2, 0, 0) 2 - 1) = r_ ∧ m_ = ch_os (ch_os m 1 0 (y_cp (ch_ob m 1 (4 + Int32.toNatClampNeg (m (2, 0, 0) 1))) (ch_ob m 1 0))) 2 0 (p_gB (ch_ob m 2 0)))) (fun (n_ : Nat) (m_ : ch_M) => ((m (2, 0, 0) 2 = 0) ∧ n_ = 4 ∧ m = m_))  m ⟨b4, (fun c_ => ⟨c_, rfl, rfl⟩), (fun c_ => ⟨c_, rfl, rfl⟩)⟩))
  · obtain ⟨c_, rfl, hm_⟩ := q3
    replace h := h.1 c_ m2 hm_
    exact ch_iret (ty := .int) d_l_undo_4 rfl rfl (Nat.le_of_ble_eq_true rfl) h
  · obtain ⟨c_, rfl, rfl⟩ := q3
    replace h := h.2 c_
    refine ch_caught (i := 1) (ls' := [some (.inr (0, 0, 0)), none]) [] (0, 4, 5, 92) [] rfl (fun z hz => by cases hz) ⟨by decide, by decide⟩ (by decide) ck_l_92 cx_4 (Or.inr ⟨⟨1, rfl, d_l_undo_5⟩, ?_⟩) (Nat.le_of_ble_eq_true rfl) rfl
    refine ch_sipush (v := (-1001)) d_l_undo_6 (by decide) ?_
    exact ch_iret (ty := .int) d_l_undo_9 rfl rfl (Nat.le_of_ble_eq_true rfl) h
theorem e_l_restore (g : ch_G) (Q : ch_O → ch_M → Prop)  (m : ch_M) (h : ch_J g m_l_restore (ch_rm m_l_restore) (ch_E g m_l_restore Q) 0 [some (.inr (0, 0, 0)), none] [] m 0) : ch_C g m_l_restore [.inr (0, 0, 0)] m Q :=
  ch_enter mf_l_restore (by intro v hv; simp only [List.mem_cons, List.not_mem_nil, or_false] at hv; rcases hv with rfl <;> rfl) (Nat.le_of_ble_eq_true rfl) h
set_option maxHeartbeats 1600000 in
theorem g_l_restore_0 (g : ch_G) (Q : ch_O → ch_M → Prop)  (m : ch_M) (h : (((¬ m (0, 0, 0) 12 = 0) → (∀ m2 : ch_M, m2 = ch_wr (ch_os m 1 0 (y_cp (ch_ob m 1 3) (ch_ob m 1 0))) (2, 0, 0) 2 0 → Q (.inl (some (.inl (.int (m (1, 3, 0) 8))))) m2)) ∧ ((m (0, 0, 0) 12 = 0) → Q (.inl (some (.inl (.int (-1001))))) m))) : ch_J g m_l_restore (ch_rm m_l_restore) (ch_E g m_l_restore Q) 0 [some (.inr (0, 0, 0)), none] [] m 0 := by
  refine ch_aload_n (i := 0) d_l_restore_0 rfl rfl ?_
  refine ch_callV (as := []) d_l_restore_1 lk_l_118 mi_x_restore me_x_restore rfl rfl rfl ⟨Nat.le_of_ble_eq_true rfl, Nat.le_of_ble_eq_true rfl⟩ (Nat.le_of_ble_eq_true rfl) ⟨Nat.le_of_ble_eq_true rfl, Nat.le_of_ble_eq_true rfl⟩ (ch_mono (ch_Kx (ch_Ki (fun r1 m2 q3 => ?_)) (fun n4 m5 hn_ q3 => ?_)) (s_x_restore g (fun (r_ : Int32) (m_ : ch_M) => ((¬ m (0, 0, 0) 12 = 0) ∧ (m (1, 3, 0) 8) = r_ ∧ m_ = ch_wr (ch_os m 1 0 (y_cp (ch_ob m 1 3) (ch_ob m 1 0))) (2, 0, 0) 2 0)) (fun (n_ : Nat) (m_ : ch_M) => ((m (0, 0, 0) 12 = 0) ∧ n_ = 4 ∧ m = m_))  m ⟨(fun c_ => ⟨c_, rfl, rfl⟩), (fun c_ => ⟨c_, rfl, rfl⟩)⟩))
  · obtain ⟨c_, rfl, hm_⟩ := q3
    replace h := h.1 c_ m2 hm_
    exact ch_iret (ty := .int) d_l_restore_4 rfl rfl (Nat.le_of_ble_eq_true rfl) h
  · obtain ⟨c_, rfl, rfl⟩ := q3
    replace h := h.2 c_
    refine ch_caught (i := 1) (ls' := [some (.inr (0, 0, 0)), none]) [] (0, 4, 5, 92) [] rfl (fun z hz => by cases hz) ⟨by decide, by decide⟩ (by decide) ck_l_92 cx_4 (Or.inr ⟨⟨1, rfl, d_l_restore_5⟩, ?_⟩) (Nat.le_of_ble_eq_true rfl) rfl
    refine ch_sipush (v := (-1001)) d_l_restore_6 (by decide) ?_
    exact ch_iret (ty := .int) d_l_restore_9 rfl rfl (Nat.le_of_ble_eq_true rfl) h
