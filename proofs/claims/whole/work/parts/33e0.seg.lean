theorem e_m_fewestAgain (g : ch_G) (Q : ch_O → ch_M → Prop) (p1 : Int32) (m : ch_M) (h : ch_J g m_m_fewestAgain (ch_rm m_m_fewestAgain) (ch_E g m_m_fewestAgain Q) 0 [some (.inr (9, 0, 0)), some (.inl (.int p1))] [] m 0) : ch_C g m_m_fewestAgain [.inr (9, 0, 0), .inl (.int p1)] m Q :=
  ch_enter mf_m_fewestAgain (by intro v hv; simp only [List.mem_cons, List.not_mem_nil, or_false] at hv; rcases hv with rfl | rfl <;> rfl) (Nat.le_of_ble_eq_true rfl) h
set_option maxHeartbeats 1600000 in
theorem g_m_fewestAgain_0 (g : ch_G) (Q : ch_O → ch_M → Prop) (p1 : Int32) (m : ch_M) (h : (∃ Y_1 : ch_B, (m_rel Y_1 (m (9, 0, 1))) ∧ (vp_in (Y_1 0 8) 6) ∧ (∀ i_, i_ < 12 → Y_1 1 i_ = -1 ∨ vp_in (Y_1 1 i_) 5) ∧ (((0 ≤ p1 ∧ p1 < Y_1 0 8) → (∀ (B2 : ch_B) (A3 : Nat → Nat) (C4 : Nat → Nat) (S5 : Nat → Nat), (w_sp (w_e Y_1 p1) A3 C4 S5) → (∀ a_ i_, a_ ≠ 10 → a_ ≠ 11 → ¬ (a_ = 0 ∧ i_ = 19) → B2 a_ i_ = ch_ob m 9 0 a_ i_) → (B2 0 19 = 0) → (∀ k_, k_ < 13 → B2 10 k_ = nI (A3 k_) ∧ B2 11 k_ = nI (C4 k_)) → (∀ m7 : ch_M, m7 = ch_os m 9 0 B2 → Q (.inl (some (.inl (.int (nI (A3 0)))))) m7))) ∧ ((¬ (0 ≤ p1 ∧ p1 < Y_1 0 8)) → (∀ m7 : ch_M, m7 = ch_wr m (9, 0, 0) 19 1 → Q (.inl (some (.inl (.int 0)))) m7))))) : ch_J g m_m_fewestAgain (ch_rm m_m_fewestAgain) (ch_E g m_m_fewestAgain Q) 0 [some (.inr (9, 0, 0)), some (.inl (.int p1))] [] m 0 := by
  refine ch_aload_n (i := 0) d_m_fewestAgain_0 rfl rfl ?_
  refine ch_iload_n (i := 1) d_m_fewestAgain_1 rfl rfl ?_
  obtain ⟨Y_1, h⟩ := h
  have b9 := h.1
  replace h := h.2
  have b10 := h.1
  replace h := h.2
  have b11 := h.1
  replace h := h.2
  refine ch_callV (as := [.inl (.int p1)]) d_m_fewestAgain_2 lk_m_188 mi_m_fewest me_m_fewest rfl rfl rfl ⟨Nat.le_of_ble_eq_true rfl, Nat.le_of_ble_eq_true rfl⟩ (Nat.le_of_ble_eq_true rfl) ⟨Nat.le_of_ble_eq_true rfl, Nat.le_of_ble_eq_true rfl⟩ (ch_mono (ch_Ki (fun r6 m7 q8 => ?_)) (s_m_fewest g (fun (r_ : Int32) (m_ : ch_M) => (∃ (B2 : ch_B) (A3 : Nat → Nat) (C4 : Nat → Nat) (S5 : Nat → Nat), (0 ≤ p1 ∧ p1 < Y_1 0 8) ∧ (nI (A3 0)) = r_ ∧ (w_sp (w_e Y_1 p1) A3 C4 S5) ∧ (∀ a_ i_, a_ ≠ 10 → a_ ≠ 11 → ¬ (a_ = 0 ∧ i_ = 19) → B2 a_ i_ = ch_ob m 9 0 a_ i_) ∧ (B2 0 19 = 0) ∧ (∀ k_, k_ < 13 → B2 10 k_ = nI (A3 k_) ∧ B2 11 k_ = nI (C4 k_)) ∧ m_ = ch_os m 9 0 B2) ∨ ((¬ (0 ≤ p1 ∧ p1 < Y_1 0 8)) ∧ 0 = r_ ∧ m_ = ch_wr m (9, 0, 0) 19 1)) (Y_1) (p1) m ⟨b9, b10, b11, (fun c_ B2 A3 C4 S5 f0_ f1_ f2_ f3_ => (Or.inl ⟨B2, A3, C4, S5, c_, rfl, f0_, f1_, f2_, f3_, rfl⟩)), (fun c_ => (Or.inr ⟨c_, rfl, rfl⟩))⟩))
  rcases q8 with ⟨B2, A3, C4, S5, c_, rfl, f0_, f1_, f2_, f3_, hm_⟩ | ⟨c_, rfl, hm_⟩
  · replace h := h.1 c_ B2 A3 C4 S5 f0_ f1_ f2_ f3_ m7 hm_
    exact ch_iret (ty := .int) d_m_fewestAgain_5 rfl rfl (Nat.le_of_ble_eq_true rfl) h
  · replace h := h.2 c_ m7 hm_
    exact ch_iret (ty := .int) d_m_fewestAgain_5 rfl rfl (Nat.le_of_ble_eq_true rfl) h
