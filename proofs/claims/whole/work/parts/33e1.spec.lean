set_option maxHeartbeats 1600000 in
theorem s_m_fewestAgain (g : ch_G) (q : Int32 → ch_M → Prop) (Y_ : ch_B) (p1 : Int32) (m : ch_M) (h : (m_rel Y_ (m (9, 0, 1))) ∧ (vp_in (Y_ 0 8) 6) ∧ (∀ i_, i_ < 12 → Y_ 1 i_ = -1 ∨ vp_in (Y_ 1 i_) 5) ∧ ((0 ≤ p1 ∧ p1 < Y_ 0 8) → (∀ (B_ : ch_B) (A_ : Nat → Nat) (C_ : Nat → Nat) (S_ : Nat → Nat), (w_sp (w_e Y_ p1) A_ C_ S_) → (∀ a_ i_, a_ ≠ 10 → a_ ≠ 11 → ¬ (a_ = 0 ∧ i_ = 19) → B_ a_ i_ = ch_ob m 9 0 a_ i_) → (B_ 0 19 = 0) → (∀ k_, k_ < 13 → B_ 10 k_ = nI (A_ k_) ∧ B_ 11 k_ = nI (C_ k_)) → q (nI (A_ 0)) (ch_os m 9 0 B_))) ∧ ((¬ (0 ≤ p1 ∧ p1 < Y_ 0 8)) → q 0 (ch_wr m (9, 0, 0) 19 1))) : ch_C g m_m_fewestAgain [.inr (9, 0, 0), .inl (.int p1)] m (ch_oi q) := by
  refine e_m_fewestAgain g _ p1 m ?_
  obtain ⟨hr, h8, ho, ha, hb⟩ := h
  refine g_m_fewestAgain_0 g _ _ _ ?_
  simp only [forall_eq, ch_oi_iff]
  refine ⟨Y_, hr, h8, ho, fun c B A C S h1 h2 h3 h4 => ha c B A C S h1 h2 h3 h4, fun c => hb c⟩
