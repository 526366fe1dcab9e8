theorem e_l_squares (g : ch_G) (Q : ch_O → ch_M → Prop) (p1 : Int32) (m : ch_M) (h : ch_J g m_l_squares (ch_rm m_l_squares) (ch_E g m_l_squares Q) 0 [some (.inr (0, 0, 0)), some (.inl (.int p1)), none] [] m 0) : ch_C g m_l_squares [.inr (0, 0, 0), .inl (.int p1)] m Q :=
  ch_enter mf_l_squares (by intro v hv; simp only [List.mem_cons, List.not_mem_nil, or_false] at hv; rcases hv with rfl | rfl <;> rfl) (Nat.le_of_ble_eq_true rfl) h
set_option maxHeartbeats 1600000 in
theorem g_l_squares_0 (g : ch_G) (Q : ch_O → ch_M → Prop) (p1 : Int32) (m : ch_M) (h : (((0 ≤ p1 ∧ p1 < m (1, 0, 0) 8) → Q (.inl (some (.inl (.int (y_ofS (m (1, 0, 1)) p1 0 12))))) m) ∧ ((¬ (0 ≤ p1 ∧ p1 < m (1, 0, 0) 8)) → Q (.inl (some (.inl (.int (-1001))))) m))) : ch_J g m_l_squares (ch_rm m_l_squares) (ch_E g m_l_squares Q) 0 [some (.inr (0, 0, 0)), some (.inl (.int p1)), none] [] m 0 := by
  refine ch_aload_n (i := 0) d_l_squares_0 rfl rfl ?_
  refine ch_iload_n (i := 1) d_l_squares_1 rfl rfl ?_
  refine ch_callV (as := [.inl (.int p1)]) d_l_squares_2 lk_l_50 mi_x_squares me_x_squares rfl rfl rfl ⟨Nat.le_of_ble_eq_true rfl, Nat.le_of_ble_eq_true rfl⟩ (Nat.le_of_ble_eq_true rfl) ⟨Nat.le_of_ble_eq_true rfl, Nat.le_of_ble_eq_true rfl⟩ (ch_mono (ch_Kx (ch_Ki (fun r1 m2 q3 => ?_)) (fun n4 m5 hn_ q3 => ?_)) (s_x_squares g (fun (r_ : Int32) (m_ : ch_M) => ((0 ≤ p1 ∧ p1 < m (1, 0, 0) 8) ∧ (y_ofS (m (1, 0, 1)) p1 0 12) = r_ ∧ m = m_)) (fun (n_ : Nat) (m_ : ch_M) => ((¬ (0 ≤ p1 ∧ p1 < m (1, 0, 0) 8)) ∧ n_ = 1 ∧ m = m_)) (p1) m ⟨(fun c_ => ⟨c_, rfl, rfl⟩), (fun c_ => ⟨c_, rfl, rfl⟩)⟩))
  · obtain ⟨c_, rfl, rfl⟩ := q3
    replace h := h.1 c_
    exact ch_iret (ty := .int) d_l_squares_5 rfl rfl (Nat.le_of_ble_eq_true rfl) h
  · obtain ⟨c_, rfl, rfl⟩ := q3
    replace h := h.2 c_
    refine ch_caught (i := 2) (ls' := [some (.inr (0, 0, 0)), some (.inl (.int p1)), none]) [] (0, 5, 6, 43) [] rfl (fun z hz => by cases hz) ⟨by decide, by decide⟩ (by decide) ck_l_43 cx_1 (Or.inr ⟨⟨2, rfl, d_l_squares_6⟩, ?_⟩) (Nat.le_of_ble_eq_true rfl) rfl
    refine ch_sipush (v := (-1001)) d_l_squares_7 (by decide) ?_
    exact ch_iret (ty := .int) d_l_squares_10 rfl rfl (Nat.le_of_ble_eq_true rfl) h
theorem e_l_warrantAt (g : ch_G) (Q : ch_O → ch_M → Prop) (p1 : Int32) (m : ch_M) (h : ch_J g m_l_warrantAt (ch_rm m_l_warrantAt) (ch_E g m_l_warrantAt Q) 0 [some (.inr (0, 0, 0)), some (.inl (.int p1)), none] [] m 0) : ch_C g m_l_warrantAt [.inr (0, 0, 0), .inl (.int p1)] m Q :=
  ch_enter mf_l_warrantAt (by intro v hv; simp only [List.mem_cons, List.not_mem_nil, or_false] at hv; rcases hv with rfl | rfl <;> rfl) (Nat.le_of_ble_eq_true rfl) h
set_option maxHeartbeats 1600000 in
theorem g_l_warrantAt_0 (g : ch_G) (Q : ch_O → ch_M → Prop) (p1 : Int32) (m : ch_M) (h : (vp_in (m (1, 0, 0) 9) 6) ∧ (((0 ≤ p1 ∧ p1 < m (1, 0, 0) 9) → Q (.inl (some (.inl (.int (m (1, 0, 8) (Int32.toNatClampNeg p1)))))) m) ∧ ((¬ (0 ≤ p1 ∧ p1 < m (1, 0, 0) 9)) → Q (.inl (some (.inl (.int (-1001))))) m))) : ch_J g m_l_warrantAt (ch_rm m_l_warrantAt) (ch_E g m_l_warrantAt Q) 0 [some (.inr (0, 0, 0)), some (.inl (.int p1)), none] [] m 0 := by
  refine ch_aload_n (i := 0) d_l_warrantAt_0 rfl rfl ?_
  refine ch_iload_n (i := 1) d_l_warrantAt_1 rfl rfl ?_
  have b4 := h.1
  replace h := h.2
  refine ch_callV (as := [.inl (.int p1)]) d_l_warrantAt_2 lk_l_53 mi_x_warrantAt me_x_warrantAt rfl rfl rfl ⟨Nat.le_of_ble_eq_true rfl, Nat.le_of_ble_eq_true rfl⟩ (Nat.le_of_ble_eq_true rfl) ⟨Nat.le_of_ble_eq_true rfl, Nat.le_of_ble_eq_true rfl⟩ (ch_mono (ch_Kx (ch_Ki (fun r1 m2 q3 => ?_)) (fun n5 m6 hn_ q3 => ?_)) (s_x_warrantAt g (fun (r_ : Int32) (m_ : ch_M) => ((0 ≤ p1 ∧ p1 < m (1, 0, 0) 9) ∧ (m (1, 0, 8) (Int32.toNatClampNeg p1)) = r_ ∧ m = m_)) (fun (n_ : Nat) (m_ : ch_M) => ((¬ (0 ≤ p1 ∧ p1 < m (1, 0, 0) 9)) ∧ n_ = 3 ∧ m = m_)) (p1) m ⟨b4, (fun c_ => ⟨c_, rfl, rfl⟩), (fun c_ => ⟨c_, rfl, rfl⟩)⟩))
  · obtain ⟨c_, rfl, rfl⟩ := q3
    replace h := h.1 c_
    exact ch_iret (ty := .int) d_l_warrantAt_5 rfl rfl (Nat.le_of_ble_eq_true rfl) h
  · obtain ⟨c_, rfl, rfl⟩ := q3
    replace h := h.2 c_
    refine ch_caught (i := 2) (ls' := [some (.inr (0, 0, 0)), some (.inl (.int p1)), none]) [] (0, 5, 6, 56) [] rfl (fun z hz => by cases hz) ⟨by decide, by decide⟩ (by decide) ck_l_56 cx_3 (Or.inr ⟨⟨2, rfl, d_l_warrantAt_6⟩, ?_⟩) (Nat.le_of_ble_eq_true rfl) rfl
    refine ch_sipush (v := (-1001)) d_l_warrantAt_7 (by decide) ?_
    exact ch_iret (ty := .int) d_l_warrantAt_10 rfl rfl (Nat.le_of_ble_eq_true rfl) h
theorem e_l_fewest (g : ch_G) (Q : ch_O → ch_M → Prop) (p1 : Int32) (m : ch_M) (h : ch_J g m_l_fewest (ch_rm m_l_fewest) (ch_E g m_l_fewest Q) 0 [some (.inr (0, 0, 0)), some (.inl (.int p1)), none] [] m 0) : ch_C g m_l_fewest [.inr (0, 0, 0), .inl (.int p1)] m Q :=
  ch_enter mf_l_fewest (by intro v hv; simp only [List.mem_cons, List.not_mem_nil, or_false] at hv; rcases hv with rfl | rfl <;> rfl) (Nat.le_of_ble_eq_true rfl) h
set_option maxHeartbeats 1600000 in
theorem g_l_fewest_0 (g : ch_G) (Q : ch_O → ch_M → Prop) (p1 : Int32) (m : ch_M) (h : (((0 ≤ p1 ∧ p1 < m (1, 0, 0) 8) → (∀ m2 : ch_M, m2 = ch_os m 8 0 (w_fl (ch_ob m 8 0) (w_l (ch_ob m 1 0) p1) 12) → Q (.inl (some (.inl (.int (w_fl (ch_ob m 8 0) (w_l (ch_ob m 1 0) p1) 12 1 0))))) m2)) ∧ ((¬ (0 ≤ p1 ∧ p1 < m (1, 0, 0) 8)) → Q (.inl (some (.inl (.int (-1001))))) m))) : ch_J g m_l_fewest (ch_rm m_l_fewest) (ch_E g m_l_fewest Q) 0 [some (.inr (0, 0, 0)), some (.inl (.int p1)), none] [] m 0 := by
  refine ch_aload_n (i := 0) d_l_fewest_0 rfl rfl ?_
  refine ch_iload_n (i := 1) d_l_fewest_1 rfl rfl ?_
  refine ch_callV (as := [.inl (.int p1)]) d_l_fewest_2 lk_l_58 mi_x_fewest me_x_fewest rfl rfl rfl ⟨Nat.le_of_ble_eq_true rfl, Nat.le_of_ble_eq_true rfl⟩ (Nat.le_of_ble_eq_true rfl) ⟨Nat.le_of_ble_eq_true rfl, Nat.le_of_ble_eq_true rfl⟩ (ch_mono (ch_Kx (ch_Ki (fun r1 m2 q3 => ?_)) (fun n4 m5 hn_ q3 => ?_)) (s_x_fewest g (fun (r_ : Int32) (m_ : ch_M) => ((0 ≤ p1 ∧ p1 < m (1, 0, 0) 8) ∧ (w_fl (ch_ob m 8 0) (w_l (ch_ob m 1 0) p1) 12 1 0) = r_ ∧ m_ = ch_os m 8 0 (w_fl (ch_ob m 8 0) (w_l (ch_ob m 1 0) p1) 12))) (fun (n_ : Nat) (m_ : ch_M) => ((¬ (0 ≤ p1 ∧ p1 < m (1, 0, 0) 8)) ∧ n_ = 1 ∧ m = m_)) (p1) m ⟨(fun c_ => ⟨c_, rfl, rfl⟩), (fun c_ => ⟨c_, rfl, rfl⟩)⟩))
  · obtain ⟨c_, rfl, hm_⟩ := q3
    replace h := h.1 c_ m2 hm_
    exact ch_iret (ty := .int) d_l_fewest_5 rfl rfl (Nat.le_of_ble_eq_true rfl) h
  · obtain ⟨c_, rfl, rfl⟩ := q3
    replace h := h.2 c_
    refine ch_caught (i := 2) (ls' := [some (.inr (0, 0, 0)), some (.inl (.int p1)), none]) [] (0, 5, 6, 43) [] rfl (fun z hz => by cases hz) ⟨by decide, by decide⟩ (by decide) ck_l_43 cx_1 (Or.inr ⟨⟨2, rfl, d_l_fewest_6⟩, ?_⟩) (Nat.le_of_ble_eq_true rfl) rfl
    refine ch_sipush (v := (-1001)) d_l_fewest_7 (by decide) ?_
    exact ch_iret (ty := .int) d_l_fewest_10 rfl rfl (Nat.le_of_ble_eq_true rfl) h
theorem e_l_fewestAgain (g : ch_G) (Q : ch_O → ch_M → Prop) (p1 : Int32) (m : ch_M) (h : ch_J g m_l_fewestAgain (ch_rm m_l_fewestAgain) (ch_E g m_l_fewestAgain Q) 0 [some (.inr (0, 0, 0)), some (.inl (.int p1)), none] [] m 0) : ch_C g m_l_fewestAgain [.inr (0, 0, 0), .inl (.int p1)] m Q :=
  ch_enter mf_l_fewestAgain (by intro v hv; simp only [List.mem_cons, List.not_mem_nil, or_false] at hv; rcases hv with rfl | rfl <;> rfl) (Nat.le_of_ble_eq_true rfl) h
set_option maxHeartbeats 1600000 in
theorem g_l_fewestAgain_0 (g : ch_G) (Q : ch_O → ch_M → Prop) (p1 : Int32) (m : ch_M) (h : (((0 ≤ p1 ∧ p1 < m (1, 0, 0) 8) → (∀ m2 : ch_M, m2 = ch_os m 8 0 ((w_fo (ch_ob m 8 0) (w_l (ch_ob m 1 0) p1) 14).1) → Q (.inl (some (.inl (.int ((w_fo (ch_ob m 8 0) (w_l (ch_ob m 1 0) p1) 14).2))))) m2)) ∧ ((¬ (0 ≤ p1 ∧ p1 < m (1, 0, 0) 8)) → Q (.inl (some (.inl (.int (-1001))))) m))) : ch_J g m_l_fewestAgain (ch_rm m_l_fewestAgain) (ch_E g m_l_fewestAgain Q) 0 [some (.inr (0, 0, 0)), some (.inl (.int p1)), none] [] m 0 := by
  refine ch_aload_n (i := 0) d_l_fewestAgain_0 rfl rfl ?_
  refine ch_iload_n (i := 1) d_l_fewestAgain_1 rfl rfl ?_
  refine ch_callV (as := [.inl (.int p1)]) d_l_fewestAgain_2 lk_l_61 mi_x_fewestAgain me_x_fewestAgain rfl rfl rfl ⟨Nat.le_of_ble_eq_true rfl, Nat.le_of_ble_eq_true rfl⟩ (Nat.le_of_ble_eq_true rfl) ⟨Nat.le_of_ble_eq_true rfl, Nat.le_of_ble_eq_true rfl⟩ (ch_mono (ch_Kx (ch_Ki (fun r1 m2 q3 => ?_)) (fun n4 m5 hn_ q3 => ?_)) (s_x_fewestAgain g (fun (r_ : Int32) (m_ : ch_M) => ((0 ≤ p1 ∧ p1 < m (1, 0, 0) 8) ∧ ((w_fo (ch_ob m 8 0) (w_l (ch_ob m 1 0) p1) 14).2) = r_ ∧ m_ = ch_os m 8 0 ((w_fo (ch_ob m 8 0) (w_l (ch_ob m 1 0) p1) 14).1))) (fun (n_ : Nat) (m_ : ch_M) => ((¬ (0 ≤ p1 ∧ p1 < m (1, 0, 0) 8)) ∧ n_ = 1 ∧ m = m_)) (p1) m ⟨(fun c_ => ⟨c_, rfl, rfl⟩), (fun c_ => ⟨c_, rfl, rfl⟩)⟩))
  · obtain ⟨c_, rfl, hm_⟩ := q3
    replace h := h.1 c_ m2 hm_
    exact ch_iret (ty := .int) d_l_fewestAgain_5 rfl rfl (Nat.le_of_ble_eq_true rfl) h
  · obtain ⟨c_, rfl, rfl⟩ := q3
    replace h := h.2 c_
    refine ch_caught (i := 2) (ls' := [some (.inr (0, 0, 0)), some (.inl (.int p1)), none]) [] (0, 5, 6, 43) [] rfl (fun z hz => by cases hz) ⟨by decide, by decide⟩ (by decide) ck_l_43 cx_1 (Or.inr ⟨⟨2, rfl, d_l_fewestAgain_6⟩, ?_⟩) (Nat.le_of_ble_eq_true rfl) rfl
    refine ch_sipush (v := (-1001)) d_l_fewestAgain_7 (by decide) ?_
    exact ch_iret (ty := .int) d_l_fewestAgain_10 rfl rfl (Nat.le_of_ble_eq_true rfl) h
theorem e_l_step (g : ch_G) (Q : ch_O → ch_M → Prop) (p1 : Int32) (p2 : Int32) (m : ch_M) (h : ch_J g m_l_step (ch_rm m_l_step) (ch_E g m_l_step Q) 0 [some (.inr (0, 0, 0)), some (.inl (.int p1)), some (.inl (.int p2)), none] [] m 0) : ch_C g m_l_step [.inr (0, 0, 0), .inl (.int p1), .inl (.int p2)] m Q :=
  ch_enter mf_l_step (by intro v hv; simp only [List.mem_cons, List.not_mem_nil, or_false] at hv; rcases hv with rfl | rfl | rfl <;> rfl) (Nat.le_of_ble_eq_true rfl) h
set_option maxHeartbeats 1600000 in
theorem g_l_step_0 (g : ch_G) (Q : ch_O → ch_M → Prop) (p1 : Int32) (p2 : Int32) (m : ch_M) (h : ((((0 ≤ p1 ∧ p1 < m (1, 0, 0) 8) ∧ 0 ≤ p2 ∧ p2 < x_sT (ch_ob m 5 1) (x_sW m p1) 0 1) → (∀ m2 : ch_M, m2 = ch_os (ch_os m 8 0 (x_sW m p1)) 5 1 (x_sT (ch_ob m 5 1) (x_sW m p1)) → Q (.inl (some (.inl (.int (x_sT (ch_ob m 5 1) (x_sW m p1) 1 (Int32.toNatClampNeg p2)))))) m2)) ∧ ((¬ (0 ≤ p1 ∧ p1 < m (1, 0, 0) 8)) → Q (.inl (some (.inl (.int (-1001))))) m) ∧ (((0 ≤ p1 ∧ p1 < m (1, 0, 0) 8) ∧ ¬ (0 ≤ p2 ∧ p2 < x_sT (ch_ob m 5 1) (x_sW m p1) 0 1)) → (∀ m5 : ch_M, m5 = ch_os (ch_os m 8 0 (x_sW m p1)) 5 1 (x_sT (ch_ob m 5 1) (x_sW m p1)) → Q (.inl (some (.inl (.int (-1002))))) m5)))) : ch_J g m_l_step (ch_rm m_l_step) (ch_E g m_l_step Q) 0 [some (.inr (0, 0, 0)), some (.inl (.int p1)), some (.inl (.int p2)), none] [] m 0 := by
  refine ch_aload_n (i := 0) d_l_step_0 rfl rfl ?_
  refine ch_iload_n (i := 1) d_l_step_1 rfl rfl ?_
  refine ch_iload_n (i := 2) d_l_step_2 rfl rfl ?_
  refine ch_callV (as := [.inl (.int p1), .inl (.int p2)]) d_l_step_3 lk_l_64 mi_x_step me_x_step rfl rfl rfl ⟨Nat.le_of_ble_eq_true rfl, Nat.le_of_ble_eq_true rfl⟩ (Nat.le_of_ble_eq_true rfl) ⟨Nat.le_of_ble_eq_true rfl, Nat.le_of_ble_eq_true rfl⟩ (ch_mono (ch_Kx (ch_Ki (fun r1 m2 q3 => ?_)) (fun n4 m5 hn_ q3 => ?_)) (s_x_step g (fun (r_ : Int32) (m_ : ch_M) => (((0 ≤ p1 ∧ p1 < m (1, 0, 0) 8) ∧ 0 ≤ p2 ∧ p2 < x_sT (ch_ob m 5 1) (x_sW m p1) 0 1) ∧ (x_sT (ch_ob m 5 1) (x_sW m p1) 1 (Int32.toNatClampNeg p2)) = r_ ∧ m_ = ch_os (ch_os m 8 0 (x_sW m p1)) 5 1 (x_sT (ch_ob m 5 1) (x_sW m p1)))) (fun (n_ : Nat) (m_ : ch_M) => ((¬ (0 ≤ p1 ∧ p1 < m (1, 0, 0) 8)) ∧ n_ = 1 ∧ m = m_) ∨ (((0 ≤ p1 ∧ p1 < m (1, 0, 0) 8) ∧ ¬ (0 ≤ p2 ∧ p2 < x_sT (ch_ob m 5 1) (x_sW m p1) 0 1)) ∧ n_ = 3 ∧ m_ = ch_os (ch_os m 8 0 (x_sW m p1)) 5 1 (x_sT (ch_ob m 5 1) (x_sW m p1)))) (p1) (p2) m ⟨(fun c_ => ⟨c_, rfl, rfl⟩), (fun c_ => (Or.inl ⟨c_, rfl, rfl⟩)), (fun c_ => (Or.inr ⟨c_, rfl, rfl⟩))⟩))
  · obtain ⟨c_, rfl, hm_⟩ := q3
    replace h := h.1 c_ m2 hm_
    exact ch_iret (ty := .int) d_l_step_6 rfl rfl (Nat.le_of_ble_eq_true rfl) h
  · rcases q3 with ⟨c_, rfl, rfl⟩ | ⟨c_, rfl, hm_⟩
    · replace h := h.2.1 c_
      refine ch_caught (i := 3) (ls' := [some (.inr (0, 0, 0)), some (.inl (.int p1)), some (.inl (.int p2)), none]) [] (0, 6, 7, 43) [(0, 6, 12, 56)] rfl (fun z hz => by cases hz) ⟨by decide, by decide⟩ (by decide) ck_l_43 cx_1 (Or.inr ⟨⟨3, rfl, d_l_step_7⟩, ?_⟩) (Nat.le_of_ble_eq_true rfl) rfl
      refine ch_sipush (v := (-1001)) d_l_step_8 (by decide) ?_
      exact ch_iret (ty := .int) d_l_step_11 rfl rfl (Nat.le_of_ble_eq_true rfl) h
    · replace h := h.2.2 c_ m5 hm_
      refine ch_caught (i := 3) (ls' := [some (.inr (0, 0, 0)), some (.inl (.int p1)), some (.inl (.int p2)), none]) [(0, 6, 7, 43)] (0, 6, 12, 56) [] rfl (fun z hz => by simp only [List.mem_cons, List.not_mem_nil, or_false] at hz; subst hz; exact ⟨by decide, 1, by decide, by decide, ck_l_43⟩) ⟨by decide, by decide⟩ (by decide) ck_l_56 cx_3 (Or.inr ⟨⟨3, rfl, d_l_step_12⟩, ?_⟩) (Nat.le_of_ble_eq_true rfl) rfl
      refine ch_sipush (v := (-1002)) d_l_step_13 (by decide) ?_
      exact ch_iret (ty := .int) d_l_step_16 rfl rfl (Nat.le_of_ble_eq_true rfl) h
theorem e_l_wouldTread (g : ch_G) (Q : ch_O → ch_M → Prop) (p1 : Int32) (p2 : Int32) (m : ch_M) (h : ch_J g m_l_wouldTread (ch_rm m_l_wouldTread) (ch_E g m_l_wouldTread Q) 0 [some (.inr (0, 0, 0)), some (.inl (.int p1)), some (.inl (.int p2)), none] [] m 0) : ch_C g m_l_wouldTread [.inr (0, 0, 0), .inl (.int p1), .inl (.int p2)] m Q :=
  ch_enter mf_l_wouldTread (by intro v hv; simp only [List.mem_cons, List.not_mem_nil, or_false] at hv; rcases hv with rfl | rfl | rfl <;> rfl) (Nat.le_of_ble_eq_true rfl) h
set_option maxHeartbeats 1600000 in
theorem g_l_wouldTread_0 (g : ch_G) (Q : ch_O → ch_M → Prop) (p1 : Int32) (p2 : Int32) (m : ch_M) (h : ((((0 ≤ p1 ∧ p1 < m (1, 0, 0) 8) ∧ x_wtP (s_rfB (ch_ob m 5 1) p2) = true) → (∀ m2 : ch_M, m2 = ch_os m 5 1 (s_rfB (ch_ob m 5 1) p2) → Q (.inl (some (.inl (.int (y_ct (ch_ob m 1 0) p1 (s_rfB (ch_ob m 5 1) p2 1) (Int32.toNatClampNeg (s_rfB (ch_ob m 5 1) p2 0 1))))))) m2)) ∧ ((¬ (0 ≤ p1 ∧ p1 < m (1, 0, 0) 8)) → Q (.inl (some (.inl (.int (-1001))))) m) ∧ (((0 ≤ p1 ∧ p1 < m (1, 0, 0) 8) ∧ ¬ x_wtP (s_rfB (ch_ob m 5 1) p2) = true) → (∀ m5 : ch_M, m5 = ch_os m 5 1 (s_rfB (ch_ob m 5 1) p2) → Q (.inl (some (.inl (.int (-1002))))) m5)))) : ch_J g m_l_wouldTread (ch_rm m_l_wouldTread) (ch_E g m_l_wouldTread Q) 0 [some (.inr (0, 0, 0)), some (.inl (.int p1)), some (.inl (.int p2)), none] [] m 0 := by
  refine ch_aload_n (i := 0) d_l_wouldTread_0 rfl rfl ?_
  refine ch_iload_n (i := 1) d_l_wouldTread_1 rfl rfl ?_
  refine ch_iload_n (i := 2) d_l_wouldTread_2 rfl rfl ?_
  refine ch_callV (as := [.inl (.int p1), .inl (.int p2)]) d_l_wouldTread_3 lk_l_67 mi_x_wouldTread me_x_wouldTread rfl rfl rfl ⟨Nat.le_of_ble_eq_true rfl, Nat.le_of_ble_eq_true rfl⟩ (Nat.le_of_ble_eq_true rfl) ⟨Nat.le_of_ble_eq_true rfl, Nat.le_of_ble_eq_true rfl⟩ (ch_mono (ch_Kx (ch_Ki (fun r1 m2 q3 => ?_)) (fun n4 m5 hn_ q3 => ?_)) (s_x_wouldTread g (fun (r_ : Int32) (m_ : ch_M) => (((0 ≤ p1 ∧ p1 < m (1, 0, 0) 8) ∧ x_wtP (s_rfB (ch_ob m 5 1) p2) = true) ∧ (y_ct (ch_ob m 1 0) p1 (s_rfB (ch_ob m 5 1) p2 1) (Int32.toNatClampNeg (s_rfB (ch_ob m 5 1) p2 0 1))) = r_ ∧ m_ = ch_os m 5 1 (s_rfB (ch_ob m 5 1) p2))) (fun (n_ : Nat) (m_ : ch_M) => ((¬ (0 ≤ p1 ∧ p1 < m (1, 0, 0) 8)) ∧ n_ = 1 ∧ m = m_) ∨ (((0 ≤ p1 ∧ p1 < m (1, 0, 0) 8) ∧ ¬ x_wtP (s_rfB (ch_ob m 5 1) p2) = true) ∧ n_ = 2 ∧ m_ = ch_os m 5 1 (s_rfB (ch_ob m 5 1) p2))) (p1) (p2) m ⟨(fun c_ => ⟨c_, rfl, rfl⟩), (fun c_ => (Or.inl ⟨c_, rfl, rfl⟩)), (fun c_ => (Or.inr ⟨c_, rfl, rfl⟩))⟩))
  · obtain ⟨c_, rfl, hm_⟩ := q3
    replace h := h.1 c_ m2 hm_
    exact ch_iret (ty := .int) d_l_wouldTread_6 rfl rfl (Nat.le_of_ble_eq_true rfl) h
  · rcases q3 with ⟨c_, rfl, rfl⟩ | ⟨c_, rfl, hm_⟩
    · replace h := h.2.1 c_
      refine ch_caught (i := 3) (ls' := [some (.inr (0, 0, 0)), some (.inl (.int p1)), some (.inl (.int p2)), none]) [] (0, 6, 7, 43) [(0, 6, 12, 48)] rfl (fun z hz => by cases hz) ⟨by decide, by decide⟩ (by decide) ck_l_43 cx_1 (Or.inr ⟨⟨3, rfl, d_l_wouldTread_7⟩, ?_⟩) (Nat.le_of_ble_eq_true rfl) rfl
      refine ch_sipush (v := (-1001)) d_l_wouldTread_8 (by decide) ?_
      exact ch_iret (ty := .int) d_l_wouldTread_11 rfl rfl (Nat.le_of_ble_eq_true rfl) h
    · replace h := h.2.2 c_ m5 hm_
      refine ch_caught (i := 3) (ls' := [some (.inr (0, 0, 0)), some (.inl (.int p1)), some (.inl (.int p2)), none]) [(0, 6, 7, 43)] (0, 6, 12, 48) [] rfl (fun z hz => by simp only [List.mem_cons, List.not_mem_nil, or_false] at hz; subst hz; exact ⟨by decide, 1, by decide, by decide, ck_l_43⟩) ⟨by decide, by decide⟩ (by decide) ck_l_48 cx_2 (Or.inr ⟨⟨3, rfl, d_l_wouldTread_12⟩, ?_⟩) (Nat.le_of_ble_eq_true rfl) rfl
      refine ch_sipush (v := (-1002)) d_l_wouldTread_13 (by decide) ?_
      exact ch_iret (ty := .int) d_l_wouldTread_16 rfl rfl (Nat.le_of_ble_eq_true rfl) h
theorem e_l_longest (g : ch_G) (Q : ch_O → ch_M → Prop) (p1 : Int32) (m : ch_M) (h : ch_J g m_l_longest (ch_rm m_l_longest) (ch_E g m_l_longest Q) 0 [some (.inr (0, 0, 0)), some (.inl (.int p1)), none] [] m 0) : ch_C g m_l_longest [.inr (0, 0, 0), .inl (.int p1)] m Q :=
  ch_enter mf_l_longest (by intro v hv; simp only [List.mem_cons, List.not_mem_nil, or_false] at hv; rcases hv with rfl | rfl <;> rfl) (Nat.le_of_ble_eq_true rfl) h
set_option maxHeartbeats 1600000 in
theorem g_l_longest_0 (g : ch_G) (Q : ch_O → ch_M → Prop) (p1 : Int32) (m : ch_M) (h : (((0 ≤ p1 ∧ p1 < m (1, 0, 0) 8) → Q (.inl (some (.inl (.int ((y_lr (m (1, 0, 1)) p1 12).1))))) m) ∧ ((¬ (0 ≤ p1 ∧ p1 < m (1, 0, 0) 8)) → Q (.inl (some (.inl (.int (-1001))))) m))) : ch_J g m_l_longest (ch_rm m_l_longest) (ch_E g m_l_longest Q) 0 [some (.inr (0, 0, 0)), some (.inl (.int p1)), none] [] m 0 := by
  refine ch_aload_n (i := 0) d_l_longest_0 rfl rfl ?_
  refine ch_iload_n (i := 1) d_l_longest_1 rfl rfl ?_
  refine ch_callV (as := [.inl (.int p1)]) d_l_longest_2 lk_l_70 mi_x_longest me_x_longest rfl rfl rfl ⟨Nat.le_of_ble_eq_true rfl, Nat.le_of_ble_eq_true rfl⟩ (Nat.le_of_ble_eq_true rfl) ⟨Nat.le_of_ble_eq_true rfl, Nat.le_of_ble_eq_true rfl⟩ (ch_mono (ch_Kx (ch_Ki (fun r1 m2 q3 => ?_)) (fun n4 m5 hn_ q3 => ?_)) (s_x_longest g (fun (r_ : Int32) (m_ : ch_M) => ((0 ≤ p1 ∧ p1 < m (1, 0, 0) 8) ∧ ((y_lr (m (1, 0, 1)) p1 12).1) = r_ ∧ m = m_)) (fun (n_ : Nat) (m_ : ch_M) => ((¬ (0 ≤ p1 ∧ p1 < m (1, 0, 0) 8)) ∧ n_ = 1 ∧ m = m_)) (p1) m ⟨(fun c_ => ⟨c_, rfl, rfl⟩), (fun c_ => ⟨c_, rfl, rfl⟩)⟩))
  · obtain ⟨c_, rfl, rfl⟩ := q3
    replace h := h.1 c_
    exact ch_iret (ty := .int) d_l_longest_5 rfl rfl (Nat.le_of_ble_eq_true rfl) h
  · obtain ⟨c_, rfl, rfl⟩ := q3
    replace h := h.2 c_
    refine ch_caught (i := 2) (ls' := [some (.inr (0, 0, 0)), some (.inl (.int p1)), none]) [] (0, 5, 6, 43) [] rfl (fun z hz => by cases hz) ⟨by decide, by decide⟩ (by decide) ck_l_43 cx_1 (Or.inr ⟨⟨2, rfl, d_l_longest_6⟩, ?_⟩) (Nat.le_of_ble_eq_true rfl) rfl
    refine ch_sipush (v := (-1001)) d_l_longest_7 (by decide) ?_
    exact ch_iret (ty := .int) d_l_longest_10 rfl rfl (Nat.le_of_ble_eq_true rfl) h
theorem e_l_wouldEnd (g : ch_G) (Q : ch_O → ch_M → Prop) (p1 : Int32) (m : ch_M) (h : ch_J g m_l_wouldEnd (ch_rm m_l_wouldEnd) (ch_E g m_l_wouldEnd Q) 0 [some (.inr (0, 0, 0)), some (.inl (.int p1)), none] [] m 0) : ch_C g m_l_wouldEnd [.inr (0, 0, 0), .inl (.int p1)] m Q :=
  ch_enter mf_l_wouldEnd (by intro v hv; simp only [List.mem_cons, List.not_mem_nil, or_false] at hv; rcases hv with rfl | rfl <;> rfl) (Nat.le_of_ble_eq_true rfl) h
set_option maxHeartbeats 1600000 in
theorem g_l_wouldEnd_0 (g : ch_G) (Q : ch_O → ch_M → Prop) (p1 : Int32) (m : ch_M) (h : (vp_in (m (1, 0, 0) 9) 6) ∧ (∀ i_, i_ < 5 → vp_in (m (1, 0, 8) i_) 5) ∧ (((1 ≤ p1 ∧ p1 ≤ 9) → (∀ m2 : ch_M, m2 = ch_os m 1 2 (y_washB (y_cp (ch_ob m 1 0) (ch_ob m 1 2)) p1) → Q (.inl (some (.inl (.int (y_washR (y_cp (ch_ob m 1 0) (ch_ob m 1 2)) p1))))) m2)) ∧ ((¬ (1 ≤ p1 ∧ p1 ≤ 9)) → Q (.inl (some (.inl (.int (-1001))))) m))) : ch_J g m_l_wouldEnd (ch_rm m_l_wouldEnd) (ch_E g m_l_wouldEnd Q) 0 [some (.inr (0, 0, 0)), some (.inl (.int p1)), none] [] m 0 := by
  refine ch_aload_n (i := 0) d_l_wouldEnd_0 rfl rfl ?_
  refine ch_iload_n (i := 1) d_l_wouldEnd_1 rfl rfl ?_
  have b4 := h.1
  replace h := h.2
  have b5 := h.1
  replace h := h.2
  refine ch_callV (as := [.inl (.int p1)]) d_l_wouldEnd_2 lk_l_73 mi_x_wouldEnd me_x_wouldEnd rfl rfl rfl ⟨Nat.le_of_ble_eq_true rfl, Nat.le_of_ble_eq_true rfl⟩ (Nat.le_of_ble_eq_true rfl) ⟨Nat.le_of_ble_eq_true rfl, Nat.le_of_ble_eq_true rfl⟩ (ch_mono (ch_Kx (ch_Ki (fun r1 m2 q3 => ?_)) (fun n6 m7 hn_ q3 => ?_)) (s_x_wouldEnd g (fun (r_ : Int32) (m_ : ch_M) => ((1 ≤ p1 ∧ p1 ≤ 9) ∧ (y_washR (y_cp (ch_ob m 1 0) (ch_ob m 1 2)) p1) = r_ ∧ m_ = ch_os m 1 2 (y_washB (y_cp (ch_ob m 1 0) (ch_ob m 1 2)) p1))) (fun (n_ : Nat) (m_ : ch_M) => ((¬ (1 ≤ p1 ∧ p1 ≤ 9)) ∧ n_ = 2 ∧ m = m_)) (p1) m ⟨b4, b5, (fun c_ => ⟨c_, rfl, rfl⟩), (fun c_ => ⟨c_, rfl, rfl⟩)⟩))
  · obtain ⟨c_, rfl, hm_⟩ := q3
    replace h := h.1 c_ m2 hm_
    exact ch_iret (ty := .int) d_l_wouldEnd_5 rfl rfl (Nat.le_of_ble_eq_true rfl) h
  · obtain ⟨c_, rfl, rfl⟩ := q3
    replace h := h.2 c_
    refine ch_caught (i := 2) (ls' := [some (.inr (0, 0, 0)), some (.inl (.int p1)), none]) [] (0, 5, 6, 48) [] rfl (fun z hz => by cases hz) ⟨by decide, by decide⟩ (by decide) ck_l_48 cx_2 (Or.inr ⟨⟨2, rfl, d_l_wouldEnd_6⟩, ?_⟩) (Nat.le_of_ble_eq_true rfl) rfl
    refine ch_sipush (v := (-1001)) d_l_wouldEnd_7 (by decide) ?_
    exact ch_iret (ty := .int) d_l_wouldEnd_10 rfl rfl (Nat.le_of_ble_eq_true rfl) h
theorem e_l_rainFor (g : ch_G) (Q : ch_O → ch_M → Prop) (p1 : Int32) (m : ch_M) (h : ch_J g m_l_rainFor (ch_rm m_l_rainFor) (ch_E g m_l_rainFor Q) 0 [some (.inr (0, 0, 0)), some (.inl (.int p1)), none] [] m 0) : ch_C g m_l_rainFor [.inr (0, 0, 0), .inl (.int p1)] m Q :=
  ch_enter mf_l_rainFor (by intro v hv; simp only [List.mem_cons, List.not_mem_nil, or_false] at hv; rcases hv with rfl | rfl <;> rfl) (Nat.le_of_ble_eq_true rfl) h
set_option maxHeartbeats 1600000 in
theorem g_l_rainFor_0 (g : ch_G) (Q : ch_O → ch_M → Prop) (p1 : Int32) (m : ch_M) (h : (vp_in (m (1, 0, 0) 8) 6) ∧ ((((0 ≤ p1 ∧ p1 < m (1, 0, 0) 8) ∧ ¬ m (1, 0, 5) (Int32.toNatClampNeg p1) = 0) → Q (.inl (some (.inl (.int (m (1, 0, 5) (Int32.toNatClampNeg p1)))))) m) ∧ ((¬ (0 ≤ p1 ∧ p1 < m (1, 0, 0) 8)) → Q (.inl (some (.inl (.int (-1001))))) m) ∧ (((0 ≤ p1 ∧ p1 < m (1, 0, 0) 8) ∧ m (1, 0, 5) (Int32.toNatClampNeg p1) = 0) → Q (.inl (some (.inl (.int (-1002))))) m))) : ch_J g m_l_rainFor (ch_rm m_l_rainFor) (ch_E g m_l_rainFor Q) 0 [some (.inr (0, 0, 0)), some (.inl (.int p1)), none] [] m 0 := by
  refine ch_aload_n (i := 0) d_l_rainFor_0 rfl rfl ?_
  refine ch_iload_n (i := 1) d_l_rainFor_1 rfl rfl ?_
  have b4 := h.1
  replace h := h.2
  refine ch_callV (as := [.inl (.int p1)]) d_l_rainFor_2 lk_l_76 mi_x_rainFor me_x_rainFor rfl rfl rfl ⟨Nat.le_of_ble_eq_true rfl, Nat.le_of_ble_eq_true rfl⟩ (Nat.le_of_ble_eq_true rfl) ⟨Nat.le_of_ble_eq_true rfl, Nat.le_of_ble_eq_true rfl⟩ (ch_mono (ch_Kx (ch_Ki (fun r1 m2 q3 => ?_)) (fun n5 m6 hn_ q3 => ?_)) (s_x_rainFor g (fun (r_ : Int32) (m_ : ch_M) => (((0 ≤ p1 ∧ p1 < m (1, 0, 0) 8) ∧ ¬ m (1, 0, 5) (Int32.toNatClampNeg p1) = 0) ∧ (m (1, 0, 5) (Int32.toNatClampNeg p1)) = r_ ∧ m = m_)) (fun (n_ : Nat) (m_ : ch_M) => ((¬ (0 ≤ p1 ∧ p1 < m (1, 0, 0) 8)) ∧ n_ = 1 ∧ m = m_) ∨ (((0 ≤ p1 ∧ p1 < m (1, 0, 0) 8) ∧ m (1, 0, 5) (Int32.toNatClampNeg p1) = 0) ∧ n_ = 3 ∧ m = m_)) (p1) m ⟨b4, (fun c_ => ⟨c_, rfl, rfl⟩), (fun c_ => (Or.inl ⟨c_, rfl, rfl⟩)), (fun c_ => (Or.inr ⟨c_, rfl, rfl⟩))⟩))
  · obtain ⟨c_, rfl, rfl⟩ := q3
    replace h := h.1 c_
    exact ch_iret (ty := .int) d_l_rainFor_5 rfl rfl (Nat.le_of_ble_eq_true rfl) h
  · rcases q3 with ⟨c_, rfl, rfl⟩ | ⟨c_, rfl, rfl⟩
    · replace h := h.2.1 c_
      refine ch_caught (i := 2) (ls' := [some (.inr (0, 0, 0)), some (.inl (.int p1)), none]) [] (0, 5, 6, 43) [(0, 5, 11, 56)] rfl (fun z hz => by cases hz) ⟨by decide, by decide⟩ (by decide) ck_l_43 cx_1 (Or.inr ⟨⟨2, rfl, d_l_rainFor_6⟩, ?_⟩) (Nat.le_of_ble_eq_true rfl) rfl
      refine ch_sipush (v := (-1001)) d_l_rainFor_7 (by decide) ?_
      exact ch_iret (ty := .int) d_l_rainFor_10 rfl rfl (Nat.le_of_ble_eq_true rfl) h
    · replace h := h.2.2 c_
      refine ch_caught (i := 2) (ls' := [some (.inr (0, 0, 0)), some (.inl (.int p1)), none]) [(0, 5, 6, 43)] (0, 5, 11, 56) [] rfl (fun z hz => by simp only [List.mem_cons, List.not_mem_nil, or_false] at hz; subst hz; exact ⟨by decide, 1, by decide, by decide, ck_l_43⟩) ⟨by decide, by decide⟩ (by decide) ck_l_56 cx_3 (Or.inr ⟨⟨2, rfl, d_l_rainFor_11⟩, ?_⟩) (Nat.le_of_ble_eq_true rfl) rfl
      refine ch_sipush (v := (-1002)) d_l_rainFor_12 (by decide) ?_
      exact ch_iret (ty := .int) d_l_rainFor_15 rfl rfl (Nat.le_of_ble_eq_true rfl) h
theorem e_l_wouldLose (g : ch_G) (Q : ch_O → ch_M → Prop) (p1 : Int32) (m : ch_M) (h : ch_J g m_l_wouldLose (ch_rm m_l_wouldLose) (ch_E g m_l_wouldLose Q) 0 [some (.inr (0, 0, 0)), some (.inl (.int p1)), none] [] m 0) : ch_C g m_l_wouldLose [.inr (0, 0, 0), .inl (.int p1)] m Q :=
  ch_enter mf_l_wouldLose (by intro v hv; simp only [List.mem_cons, List.not_mem_nil, or_false] at hv; rcases hv with rfl | rfl <;> rfl) (Nat.le_of_ble_eq_true rfl) h
set_option maxHeartbeats 1600000 in
theorem g_l_wouldLose_0 (g : ch_G) (Q : ch_O → ch_M → Prop) (p1 : Int32) (m : ch_M) (h : (vp_in (m (1, 0, 0) 8) 6) ∧ (((0 ≤ p1 ∧ p1 < m (1, 0, 0) 8) → Q (.inl (some (.inl (.int (y_ofS (m (1, 0, 1)) p1 (m (1, 0, 3) (Int32.toNatClampNeg p1)) 12))))) m) ∧ ((¬ (0 ≤ p1 ∧ p1 < m (1, 0, 0) 8)) → Q (.inl (some (.inl (.int (-1001))))) m))) : ch_J g m_l_wouldLose (ch_rm m_l_wouldLose) (ch_E g m_l_wouldLose Q) 0 [some (.inr (0, 0, 0)), some (.inl (.int p1)), none] [] m 0 := by
  refine ch_aload_n (i := 0) d_l_wouldLose_0 rfl rfl ?_
  refine ch_iload_n (i := 1) d_l_wouldLose_1 rfl rfl ?_
  have b4 := h.1
  replace h := h.2
  refine ch_callV (as := [.inl (.int p1)]) d_l_wouldLose_2 lk_l_79 mi_x_wouldLose me_x_wouldLose rfl rfl rfl ⟨Nat.le_of_ble_eq_true rfl, Nat.le_of_ble_eq_true rfl⟩ (Nat.le_of_ble_eq_true rfl) ⟨Nat.le_of_ble_eq_true rfl, Nat.le_of_ble_eq_true rfl⟩ (ch_mono (ch_Kx (ch_Ki (fun r1 m2 q3 => ?_)) (fun n5 m6 hn_ q3 => ?_)) (s_x_wouldLose g (fun (r_ : Int32) (m_ : ch_M) => ((0 ≤ p1 ∧ p1 < m (1, 0, 0) 8) ∧ (y_ofS (m (1, 0, 1)) p1 (m (1, 0, 3) (Int32.toNatClampNeg p1)) 12) = r_ ∧ m = m_)) (fun (n_ : Nat) (m_ : ch_M) => ((¬ (0 ≤ p1 ∧ p1 < m (1, 0, 0) 8)) ∧ n_ = 1 ∧ m = m_)) (p1) m ⟨b4, (fun c_ => ⟨c_, rfl, rfl⟩), (fun c_ => ⟨c_, rfl, rfl⟩)⟩))
  · obtain ⟨c_, rfl, rfl⟩ := q3
    replace h := h.1 c_
    exact ch_iret (ty := .int) d_l_wouldLose_5 rfl rfl (Nat.le_of_ble_eq_true rfl) h
  · obtain ⟨c_, rfl, rfl⟩ := q3
    replace h := h.2 c_
    refine ch_caught (i := 2) (ls' := [some (.inr (0, 0, 0)), some (.inl (.int p1)), none]) [] (0, 5, 6, 43) [] rfl (fun z hz => by cases hz) ⟨by decide, by decide⟩ (by decide) ck_l_43 cx_1 (Or.inr ⟨⟨2, rfl, d_l_wouldLose_6⟩, ?_⟩) (Nat.le_of_ble_eq_true rfl) rfl
    refine ch_sipush (v := (-1001)) d_l_wouldLose_7 (by decide) ?_
    exact ch_iret (ty := .int) d_l_wouldLose_10 rfl rfl (Nat.le_of_ble_eq_true rfl) h
