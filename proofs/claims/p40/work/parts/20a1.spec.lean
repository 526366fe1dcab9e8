set_option maxHeartbeats 1600000 in
theorem s_y_hasChild (g : ch_G) (q : Int32 → ch_M → Prop) (j : Nat) (p1 : Int32) (m : ch_M) (h : ((0 ≤ p1 ∧ p1 < m (1, j, 0) 8) → q 1 m) ∧ ((¬ (0 ≤ p1 ∧ p1 < m (1, j, 0) 8)) → q 0 m)) : ch_C g m_y_hasChild [.inr (1, j, 0), .inl (.int p1)] m (ch_oi q) := by
  refine e_y_hasChild g _ j p1 m ?_
  refine g_y_hasChild_0 g _ _ _ _ ?_
  simp only [ch_oi_iff]
  grind
def ch_line (Y : ch_B) (c p : Int32) : Prop := ¬ p < 0 ∧ ¬ 12 ≤ p ∧ ¬ Y 1 p.toNatClampNeg = -1 ∧ ¬ Y 1 p.toNatClampNeg = c
theorem ch_vp {x : Int32} {n : Nat} (hn : n < 2 ^ 31) (h1 : ¬ x < 0) (h2 : ¬ nI n ≤ x) : vp_in x n := by
  rcases pk_ix x hn with h | h | ⟨j, hj, rfl⟩
  · exact absurd h h1
  · exact absurd h h2
  · exact vp_in_nI hj hn
set_option maxHeartbeats 1600000 in
theorem s_y_isLineFor (g : ch_G) (q : Int32 → ch_M → Prop) (j : Nat) (p1 : Int32) (p2 : Int32) (m : ch_M) (h : ((ch_line (ch_ob m 1 j) p1 p2) → q 1 m) ∧ ((¬ ch_line (ch_ob m 1 j) p1 p2) → q 0 m)) : ch_C g m_y_isLineFor [.inr (1, j, 0), .inl (.int p1), .inl (.int p2)] m (ch_oi q) := by
  refine e_y_isLineFor g _ j p1 p2 m ?_
  refine g_y_isLineFor_0 g _ _ _ _ _ ?_
  simp only [ch_oi_iff]
  have hb : ¬ p2 < 0 → ¬ 12 ≤ p2 → vp_in p2 12 := fun a b => ch_vp (n := 12) (by decide) a b
  unfold ch_line ch_ob at h
  grind
set_option maxHeartbeats 1600000 in
theorem s_y_countOwned (g : ch_G) (q : Int32 → ch_M → Prop) (j : Nat) (p1 : Int32) (m : ch_M) (h : q (ch_cnO (m (1, j, 1)) p1 12) m) : ch_C g m_y_countOwned [.inr (1, j, 0), .inl (.int p1)] m (ch_oi q) := by
  refine e_y_countOwned g _ j p1 m ?_
  refine g_y_countOwned_0 g _ _ _ _ ?_
  refine ch_down (fun k => ch_J g m_y_countOwned (ch_rm m_y_countOwned) (ch_E g m_y_countOwned (ch_oi q)) 4 [some (.inr (1, j, 0)), some (.inl (.int p1)), some (.inl (.int (ch_cnO (m (1, j, 1)) p1 k))), some (.inl (.int (nI k)))] [] m 0) 12 ?_ ?_ 0 (by decide)
  · refine g_y_countOwned_4 g _ j _ _ _ m ?_
    simp only [ch_oi_iff]
    exact ⟨fun _ => h, fun c => absurd (by decide) c⟩
  · intro k hk ih
    refine g_y_countOwned_4 g _ j _ _ _ m ?_
    have h1 : ¬ (12 : Int32) ≤ nI k := nI_ge (b := 12) hk (by decide)
    refine ⟨fun c => absurd c h1, fun _ => ⟨vp_in_nI hk (by decide), fun c => ?_, fun c => ?_⟩⟩
    all_goals
      rw [nI_clamp (by omega)] at c
      simpa [ch_cnO, c, nI_succ] using ih
