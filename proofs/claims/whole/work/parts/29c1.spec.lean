set_option maxHeartbeats 1600000 in
theorem s_m_ends (g : ch_G) (q : Int32 → ch_M → Prop) (p1 : Int32) (m : ch_M) (h : (¬ p1 = 0 → vp_in (m (9, 0, 0) 4) 9) ∧ ((p1 = 0) → q 0 (ch_os m 9 0 (ch_bw (ch_ob m 9 0) 0 19 1))) ∧ ((¬ p1 = 0) → q (m (9, 0, 0) 18) (ch_os m 9 0 (m_kB (ch_ob m 9 0))))) : ch_C g m_m_ends [.inr (9, 0, 0), .inl (.int p1)] m (ch_oi q) := by
  refine e_m_ends g _ p1 m ?_
  obtain ⟨h1, ha, hb⟩ := h
  refine g_m_ends_0 g _ _ _ ?_
  simp only [ch_oi_iff, forall_eq, ch_wr_os]
  exact ⟨ha, fun c => ⟨h1 c, hb c⟩⟩
def m_payB (B : ch_B) (c : Nat) (p : Int32) : ch_B := ch_bw (ch_bw B 1 (38 + 5 * c + 0) (B 1 (38 + 5 * c + 0) - p)) 1 1 (B 1 1 + p)
def m_refB (B : ch_B) (w d : Int32) : ch_B := ch_bw (ch_bw (ch_bw B 0 15 w) 0 16 d) 0 17 0
set_option maxHeartbeats 1600000 in
theorem s_m_pays (g : ch_G) (q : Int32 → ch_M → Prop) (p1 : Int32) (p2 : Int32) (m : ch_M) (h : (vp_in p1 5) ∧ ((p2 ≤ m (9, 0, 1) (38 + 5 * Int32.toNatClampNeg p1 + 0)) → q 1 (ch_os m 9 0 (m_payB (ch_ob m 9 0) (Int32.toNatClampNeg p1) p2))) ∧ ((¬ p2 ≤ m (9, 0, 1) (38 + 5 * Int32.toNatClampNeg p1 + 0)) → q 0 (ch_os m 9 0 (m_refB (ch_ob m 9 0) 5 (p2 - m (9, 0, 1) (38 + 5 * Int32.toNatClampNeg p1 + 0)))))) : ch_C g m_m_pays [.inr (9, 0, 0), .inl (.int p1), .inl (.int p2)] m (ch_oi q) := by
  refine e_m_pays g _ p1 p2 m ?_
  obtain ⟨h1, ha, hb⟩ := h
  refine g_m_pays_0 g _ _ _ _ ?_
  have e : ∀ v : Int32, ch_bw (ch_ob m 9 0) 1 (38 + 5 * p1.toNatClampNeg + 0) v 1 1 = ch_ob m 9 0 1 1 := fun v => ch_bw_k (by omega)
  simp only [ch_oi_iff, forall_eq, ch_wr_os, ch_ob_os, ch_os_os, ch_os_at, e]
  exact ⟨h1, ha, hb⟩
