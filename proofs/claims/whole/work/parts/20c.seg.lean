theorem e_m_isChild (g : ch_G) (Q : ch_O → ch_M → Prop) (p1 : Int32) (m : ch_M) (h : ch_J g m_m_isChild (ch_rm m_m_isChild) (ch_E g m_m_isChild Q) 0 [some (.inr (9, 0, 0)), some (.inl (.int p1))] [] m 0) : ch_C g m_m_isChild [.inr (9, 0, 0), .inl (.int p1)] m Q :=
  ch_enter mf_m_isChild (by intro v hv; simp only [List.mem_cons, List.not_mem_nil, or_false] at hv; rcases hv with rfl | rfl <;> rfl) (Nat.le_of_ble_eq_true rfl) h
set_option maxHeartbeats 1600000 in
theorem g_m_isChild_0 (g : ch_G) (Q : ch_O → ch_M → Prop) (p1 : Int32) (m : ch_M) (h : (((0 ≤ p1 ∧ p1 ≤ ((m (9, 0, 1) (0)) - 1)) → Q (.inl (some (.inl (.int 1)))) m) ∧ ((¬ (0 ≤ p1 ∧ p1 ≤ ((m (9, 0, 1) (0)) - 1))) → Q (.inl (some (.inl (.int 0)))) m))) : ch_J g m_m_isChild (ch_rm m_m_isChild) (ch_E g m_m_isChild Q) 0 [some (.inr (9, 0, 0)), some (.inl (.int p1))] [] m 0 := by
  refine ch_iload_n (i := 1) d_m_isChild_0 rfl rfl ?_
  refine ch_iconst (v := 0) d_m_isChild_1 (by decide) ?_
  refine ch_aload_n (i := 0) d_m_isChild_2 rfl rfl ?_
  refine ch_get (v := .inr (9, 0, 1)) d_m_isChild_3 fl_m_9 rfl ?_
  refine ch_iconst (v := 0) d_m_isChild_6 (by decide) ?_
  refine ch_iald (n := 63) d_m_isChild_7 (by decide) rfl (vp_in_nI (n := 0) (by decide) (by decide)) ?_
  refine ch_iconst (v := 1) d_m_isChild_8 (by decide) ?_
  refine ch_isub d_m_isChild_9 ?_
  refine ch_callS (as := [.inl (.int p1), .inl (.int 0), .inl (.int ((m (9, 0, 1) (0)) - 1))]) d_m_isChild_10 lk_m_73 ms_m_in rfl rfl ⟨Nat.le_of_ble_eq_true rfl, Nat.le_of_ble_eq_true rfl⟩ (Nat.le_of_ble_eq_true rfl) ⟨Nat.le_of_ble_eq_true rfl, Nat.le_of_ble_eq_true rfl⟩ (ch_mono (ch_Ki (fun r1 m2 q3 => ?_)) (s_m_in g (fun (r_ : Int32) (m_ : ch_M) => ((0 ≤ p1 ∧ p1 ≤ ((m (9, 0, 1) (0)) - 1)) ∧ r_ = 1 ∧ m = m_) ∨ ((¬ (0 ≤ p1 ∧ p1 ≤ ((m (9, 0, 1) (0)) - 1))) ∧ r_ = 0 ∧ m = m_)) (p1) (0) (((m (9, 0, 1) (0)) - 1)) m ⟨(fun c_ => (Or.inl ⟨c_, rfl, rfl⟩)), (fun c_ => (Or.inr ⟨c_, rfl, rfl⟩))⟩))
  rcases q3 with ⟨c_, rfl, rfl⟩ | ⟨c_, rfl, rfl⟩
  · replace h := h.1 c_
    exact ch_iret (ty := .boolean) d_m_isChild_13 rfl rfl (Nat.le_of_ble_eq_true rfl) h
  · replace h := h.2 c_
    exact ch_iret (ty := .boolean) d_m_isChild_13 rfl rfl (Nat.le_of_ble_eq_true rfl) h
