theorem e_d_takeChild (g : ch_G) (Q : ch_O → ch_M → Prop) (j1 : Nat) (m : ch_M) (h : ch_J g m_d_takeChild (ch_rm m_d_takeChild) (ch_E g m_d_takeChild Q) 0 [some (.inr (7, 0, 0)), some (.inr (6, j1, 0)), some (.inr (4, 0, 0))] [] m 0) : ch_C g m_d_takeChild [.inr (7, 0, 0), .inr (6, j1, 0), .inr (4, 0, 0)] m Q :=
  ch_enter mf_d_takeChild (by intro v hv; simp only [List.mem_cons, List.not_mem_nil, or_false] at hv; rcases hv with rfl | rfl | rfl <;> rfl) (Nat.le_of_ble_eq_true rfl) h
set_option maxHeartbeats 1600000 in
theorem g_d_takeChild_0 (g : ch_G) (Q : ch_O → ch_M → Prop) (j1 : Nat) (m : ch_M) (h : ((∀ m4 : ch_M, m4 = ch_wr m (4, 0, 0) 2 (d_dg (ch_ob m 6 j1) (m (7, 0, 0) 0)) → ((((d_pd m4 j1).1 = true) → (∀ m6 : ch_M, m6 = ((d_pd m4 j1).2) → Q (.inl (some (.inl (.int 1)))) m6)) ∧ ((¬ (d_pd m4 j1).1 = true) → (∀ m6 : ch_M, m6 = ((d_pd m4 j1).2) → Q (.inl (some (.inl (.int 0)))) m6)))))) : ch_J g m_d_takeChild (ch_rm m_d_takeChild) (ch_E g m_d_takeChild Q) 0 [some (.inr (7, 0, 0)), some (.inr (6, j1, 0)), some (.inr (4, 0, 0))] [] m 0 := by
  refine ch_aload_n (i := 2) d_d_takeChild_0 rfl rfl ?_
  refine ch_aload_n (i := 0) d_d_takeChild_1 rfl rfl ?_
  refine ch_aload_n (i := 1) d_d_takeChild_2 rfl rfl ?_
  refine ch_callV (as := [.inr (6, j1, 0)]) d_d_takeChild_3 lk_d_62 mi_d_digitAt me_d_digitAt rfl rfl rfl ⟨Nat.le_of_ble_eq_true rfl, Nat.le_of_ble_eq_true rfl⟩ (Nat.le_of_ble_eq_true rfl) ⟨Nat.le_of_ble_eq_true rfl, Nat.le_of_ble_eq_true rfl⟩ (ch_mono (ch_Ki (fun r1 m2 q3 => ?_)) (s_d_digitAt g (fun (r_ : Int32) (m_ : ch_M) => ((d_dg (ch_ob m 6 j1) (m (7, 0, 0) 0)) = r_ ∧ m = m_)) (j1) m ⟨rfl, rfl⟩))
  obtain ⟨rfl, rfl⟩ := q3
  replace h := h
  refine ch_put d_d_takeChild_6 fp_d_65 rfl rfl rfl ?_
  generalize hmm4 : ch_wr m (4, 0, 0) 2 (d_dg (ch_ob m 6 j1) (m (7, 0, 0) 0)) = m4
  replace h := h m4 hmm4.symm
  refine ch_aload_n (i := 0) d_d_takeChild_9 rfl rfl ?_
  refine ch_aload_n (i := 1) d_d_takeChild_10 rfl rfl ?_
  refine ch_callV (as := [.inr (6, j1, 0)]) d_d_takeChild_11 lk_d_68 mi_d_passDigit me_d_passDigit rfl rfl rfl ⟨Nat.le_of_ble_eq_true rfl, Nat.le_of_ble_eq_true rfl⟩ (Nat.le_of_ble_eq_true rfl) ⟨Nat.le_of_ble_eq_true rfl, Nat.le_of_ble_eq_true rfl⟩ (ch_mono (ch_Ki (fun r5 m6 q7 => ?_)) (s_d_passDigit g (fun (r_ : Int32) (m_ : ch_M) => (((d_pd m4 j1).1 = true) ∧ 1 = r_ ∧ m_ = ((d_pd m4 j1).2)) ∨ ((¬ (d_pd m4 j1).1 = true) ∧ 0 = r_ ∧ m_ = ((d_pd m4 j1).2))) (j1) m4 ⟨(fun c_ => (Or.inl ⟨c_, rfl, rfl⟩)), (fun c_ => (Or.inr ⟨c_, rfl, rfl⟩))⟩))
  rcases q7 with ⟨c_, rfl, hm_⟩ | ⟨c_, rfl, hm_⟩
  · replace h := h.1 c_ m6 hm_
    exact ch_iret (ty := .boolean) d_d_takeChild_14 rfl rfl (Nat.le_of_ble_eq_true rfl) h
  · replace h := h.2 c_ m6 hm_
    exact ch_iret (ty := .boolean) d_d_takeChild_14 rfl rfl (Nat.le_of_ble_eq_true rfl) h
theorem e_d_takeOther (g : ch_G) (Q : ch_O → ch_M → Prop) (j1 : Nat) (m : ch_M) (h : ch_J g m_d_takeOther (ch_rm m_d_takeOther) (ch_E g m_d_takeOther Q) 0 [some (.inr (7, 0, 0)), some (.inr (6, j1, 0)), some (.inr (4, 0, 0))] [] m 0) : ch_C g m_d_takeOther [.inr (7, 0, 0), .inr (6, j1, 0), .inr (4, 0, 0)] m Q :=
  ch_enter mf_d_takeOther (by intro v hv; simp only [List.mem_cons, List.not_mem_nil, or_false] at hv; rcases hv with rfl | rfl | rfl <;> rfl) (Nat.le_of_ble_eq_true rfl) h
set_option maxHeartbeats 1600000 in
theorem g_d_takeOther_0 (g : ch_G) (Q : ch_O → ch_M → Prop) (j1 : Nat) (m : ch_M) (h : ((∀ m4 : ch_M, m4 = ch_wr m (4, 0, 0) 3 (d_dg (ch_ob m 6 j1) (m (7, 0, 0) 0)) → ((((d_pd m4 j1).1 = true) → (∀ m6 : ch_M, m6 = ((d_pd m4 j1).2) → Q (.inl (some (.inl (.int 1)))) m6)) ∧ ((¬ (d_pd m4 j1).1 = true) → (∀ m6 : ch_M, m6 = ((d_pd m4 j1).2) → Q (.inl (some (.inl (.int 0)))) m6)))))) : ch_J g m_d_takeOther (ch_rm m_d_takeOther) (ch_E g m_d_takeOther Q) 0 [some (.inr (7, 0, 0)), some (.inr (6, j1, 0)), some (.inr (4, 0, 0))] [] m 0 := by
  refine ch_aload_n (i := 2) d_d_takeOther_0 rfl rfl ?_
  refine ch_aload_n (i := 0) d_d_takeOther_1 rfl rfl ?_
  refine ch_aload_n (i := 1) d_d_takeOther_2 rfl rfl ?_
  refine ch_callV (as := [.inr (6, j1, 0)]) d_d_takeOther_3 lk_d_62 mi_d_digitAt me_d_digitAt rfl rfl rfl ⟨Nat.le_of_ble_eq_true rfl, Nat.le_of_ble_eq_true rfl⟩ (Nat.le_of_ble_eq_true rfl) ⟨Nat.le_of_ble_eq_true rfl, Nat.le_of_ble_eq_true rfl⟩ (ch_mono (ch_Ki (fun r1 m2 q3 => ?_)) (s_d_digitAt g (fun (r_ : Int32) (m_ : ch_M) => ((d_dg (ch_ob m 6 j1) (m (7, 0, 0) 0)) = r_ ∧ m = m_)) (j1) m ⟨rfl, rfl⟩))
  obtain ⟨rfl, rfl⟩ := q3
  replace h := h
  refine ch_put d_d_takeOther_6 fp_d_72 rfl rfl rfl ?_
  generalize hmm4 : ch_wr m (4, 0, 0) 3 (d_dg (ch_ob m 6 j1) (m (7, 0, 0) 0)) = m4
  replace h := h m4 hmm4.symm
  refine ch_aload_n (i := 0) d_d_takeOther_9 rfl rfl ?_
  refine ch_aload_n (i := 1) d_d_takeOther_10 rfl rfl ?_
  refine ch_callV (as := [.inr (6, j1, 0)]) d_d_takeOther_11 lk_d_68 mi_d_passDigit me_d_passDigit rfl rfl rfl ⟨Nat.le_of_ble_eq_true rfl, Nat.le_of_ble_eq_true rfl⟩ (Nat.le_of_ble_eq_true rfl) ⟨Nat.le_of_ble_eq_true rfl, Nat.le_of_ble_eq_true rfl⟩ (ch_mono (ch_Ki (fun r5 m6 q7 => ?_)) (s_d_passDigit g (fun (r_ : Int32) (m_ : ch_M) => (((d_pd m4 j1).1 = true) ∧ 1 = r_ ∧ m_ = ((d_pd m4 j1).2)) ∨ ((¬ (d_pd m4 j1).1 = true) ∧ 0 = r_ ∧ m_ = ((d_pd m4 j1).2))) (j1) m4 ⟨(fun c_ => (Or.inl ⟨c_, rfl, rfl⟩)), (fun c_ => (Or.inr ⟨c_, rfl, rfl⟩))⟩))
  rcases q7 with ⟨c_, rfl, hm_⟩ | ⟨c_, rfl, hm_⟩
  · replace h := h.1 c_ m6 hm_
    exact ch_iret (ty := .boolean) d_d_takeOther_14 rfl rfl (Nat.le_of_ble_eq_true rfl) h
  · replace h := h.2 c_ m6 hm_
    exact ch_iret (ty := .boolean) d_d_takeOther_14 rfl rfl (Nat.le_of_ble_eq_true rfl) h
theorem e_d_takeDigit (g : ch_G) (Q : ch_O → ch_M → Prop) (j1 : Nat) (m : ch_M) (h : ch_J g m_d_takeDigit (ch_rm m_d_takeDigit) (ch_E g m_d_takeDigit Q) 0 [some (.inr (7, 0, 0)), some (.inr (6, j1, 0)), some (.inr (4, 0, 0))] [] m 0) : ch_C g m_d_takeDigit [.inr (7, 0, 0), .inr (6, j1, 0), .inr (4, 0, 0)] m Q :=
  ch_enter mf_d_takeDigit (by intro v hv; simp only [List.mem_cons, List.not_mem_nil, or_false] at hv; rcases hv with rfl | rfl | rfl <;> rfl) (Nat.le_of_ble_eq_true rfl) h
set_option maxHeartbeats 1600000 in
theorem g_d_takeDigit_0 (g : ch_G) (Q : ch_O → ch_M → Prop) (j1 : Nat) (m : ch_M) (h : ((∀ m4 : ch_M, m4 = ch_wr m (4, 0, 0) 4 (d_dg (ch_ob m 6 j1) (m (7, 0, 0) 0)) → ((((d_pd m4 j1).1 = true) → (∀ m6 : ch_M, m6 = ((d_pd m4 j1).2) → Q (.inl (some (.inl (.int 1)))) m6)) ∧ ((¬ (d_pd m4 j1).1 = true) → (∀ m6 : ch_M, m6 = ((d_pd m4 j1).2) → Q (.inl (some (.inl (.int 0)))) m6)))))) : ch_J g m_d_takeDigit (ch_rm m_d_takeDigit) (ch_E g m_d_takeDigit Q) 0 [some (.inr (7, 0, 0)), some (.inr (6, j1, 0)), some (.inr (4, 0, 0))] [] m 0 := by
  refine ch_aload_n (i := 2) d_d_takeDigit_0 rfl rfl ?_
  refine ch_aload_n (i := 0) d_d_takeDigit_1 rfl rfl ?_
  refine ch_aload_n (i := 1) d_d_takeDigit_2 rfl rfl ?_
  refine ch_callV (as := [.inr (6, j1, 0)]) d_d_takeDigit_3 lk_d_62 mi_d_digitAt me_d_digitAt rfl rfl rfl ⟨Nat.le_of_ble_eq_true rfl, Nat.le_of_ble_eq_true rfl⟩ (Nat.le_of_ble_eq_true rfl) ⟨Nat.le_of_ble_eq_true rfl, Nat.le_of_ble_eq_true rfl⟩ (ch_mono (ch_Ki (fun r1 m2 q3 => ?_)) (s_d_digitAt g (fun (r_ : Int32) (m_ : ch_M) => ((d_dg (ch_ob m 6 j1) (m (7, 0, 0) 0)) = r_ ∧ m = m_)) (j1) m ⟨rfl, rfl⟩))
  obtain ⟨rfl, rfl⟩ := q3
  replace h := h
  refine ch_put d_d_takeDigit_6 fp_d_75 rfl rfl rfl ?_
  generalize hmm4 : ch_wr m (4, 0, 0) 4 (d_dg (ch_ob m 6 j1) (m (7, 0, 0) 0)) = m4
  replace h := h m4 hmm4.symm
  refine ch_aload_n (i := 0) d_d_takeDigit_9 rfl rfl ?_
  refine ch_aload_n (i := 1) d_d_takeDigit_10 rfl rfl ?_
  refine ch_callV (as := [.inr (6, j1, 0)]) d_d_takeDigit_11 lk_d_68 mi_d_passDigit me_d_passDigit rfl rfl rfl ⟨Nat.le_of_ble_eq_true rfl, Nat.le_of_ble_eq_true rfl⟩ (Nat.le_of_ble_eq_true rfl) ⟨Nat.le_of_ble_eq_true rfl, Nat.le_of_ble_eq_true rfl⟩ (ch_mono (ch_Ki (fun r5 m6 q7 => ?_)) (s_d_passDigit g (fun (r_ : Int32) (m_ : ch_M) => (((d_pd m4 j1).1 = true) ∧ 1 = r_ ∧ m_ = ((d_pd m4 j1).2)) ∨ ((¬ (d_pd m4 j1).1 = true) ∧ 0 = r_ ∧ m_ = ((d_pd m4 j1).2))) (j1) m4 ⟨(fun c_ => (Or.inl ⟨c_, rfl, rfl⟩)), (fun c_ => (Or.inr ⟨c_, rfl, rfl⟩))⟩))
  rcases q7 with ⟨c_, rfl, hm_⟩ | ⟨c_, rfl, hm_⟩
  · replace h := h.1 c_ m6 hm_
    exact ch_iret (ty := .boolean) d_d_takeDigit_14 rfl rfl (Nat.le_of_ble_eq_true rfl) h
  · replace h := h.2 c_ m6 hm_
    exact ch_iret (ty := .boolean) d_d_takeDigit_14 rfl rfl (Nat.le_of_ble_eq_true rfl) h
