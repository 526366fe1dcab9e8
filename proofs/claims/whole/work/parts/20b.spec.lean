set_option maxHeartbeats 1600000 in
theorem s_m_in (g : ch_G) (q : Int32 → ch_M → Prop) (p0 : Int32) (p1 : Int32) (p2 : Int32) (m : ch_M) (h : ((p1 ≤ p0 ∧ p0 ≤ p2) → q 1 m) ∧ ((¬ (p1 ≤ p0 ∧ p0 ≤ p2)) → q 0 m)) : ch_C g m_m_in [.inl (.int p0), .inl (.int p1), .inl (.int p2)] m (ch_oi q) := by
  refine e_m_in g _ p0 p1 p2 m ?_
  refine g_m_in_0 g _ _ _ _ _ ?_
  simp only [ch_oi_iff]
  grind
set_option maxHeartbeats 1600000 in
theorem s_m_raises (g : ch_G) (q : Int32 → ch_M → Prop) (p1 : Int32) (m : ch_M) (h : q 0 (ch_wr m (9, 0, 0) 19 p1)) : ch_C g m_m_raises [.inr (9, 0, 0), .inl (.int p1)] m (ch_oi q) := by
  refine e_m_raises g _ p1 m ?_
  refine g_m_raises_0 g _ _ _ ?_
  simp only [ch_oi_iff]
  intro m2 hm
  subst hm
  exact h
set_option maxHeartbeats 1600000 in
theorem s_m_does (g : ch_G) (q : Int32 → ch_M → Prop) (p1 : Int32) (m : ch_M) (h : q 1 (ch_wr m (9, 0, 0) 18 p1)) : ch_C g m_m_does [.inr (9, 0, 0), .inl (.int p1)] m (ch_oi q) := by
  refine e_m_does g _ p1 m ?_
  refine g_m_does_0 g _ _ _ ?_
  simp only [ch_oi_iff]
  intro m2 hm
  subst hm
  exact h
set_option maxHeartbeats 1600000 in
theorem s_m_refuses (g : ch_G) (q : Int32 → ch_M → Prop) (p1 : Int32) (p2 : Int32) (m : ch_M) (h : q 0 (ch_wr (ch_wr (ch_wr m (9, 0, 0) 15 p1) (9, 0, 0) 16 p2) (9, 0, 0) 17 0)) : ch_C g m_m_refuses [.inr (9, 0, 0), .inl (.int p1), .inl (.int p2)] m (ch_oi q) := by
  refine e_m_refuses g _ p1 p2 m ?_
  refine g_m_refuses_0 g _ _ _ _ ?_
  simp only [ch_oi_iff]
  intro m2 h2 m3 h3 m4 h4
  subst h2 h3 h4
  exact h
set_option maxHeartbeats 1600000 in
theorem s_m_owner (g : ch_G) (q : Int32 → ch_M → Prop) (p1 : Int32) (m : ch_M) (h : (vp_in p1 12) ∧ q (m (9, 0, 1) (14 + 2 * Int32.toNatClampNeg p1) - 1) m) : ch_C g m_m_owner [.inr (9, 0, 0), .inl (.int p1)] m (ch_oi q) := by
  refine e_m_owner g _ p1 m ?_
  obtain ⟨k, hk, rfl⟩ := vp_in_of h.1 (by decide)
  refine g_m_owner_0 g _ _ _ ?_
  simp only [ch_oi_iff]
  have e : (14 : Int32) + 2 * nI k = nI (14 + 2 * k) := by rw [← nI_add, ← pk_mul]; rfl
  have h2 := h.2
  rw [nI_clamp (by omega)] at h2
  rw [e, nI_clamp (by omega)]
  exact ⟨vp_in_nI (by omega) (by decide), h2⟩
set_option maxHeartbeats 1600000 in
theorem s_m_chalkOf (g : ch_G) (q : Int32 → ch_M → Prop) (p1 : Int32) (m : ch_M) (h : (vp_in p1 12) ∧ q (m (9, 0, 1) (15 + 2 * Int32.toNatClampNeg p1)) m) : ch_C g m_m_chalkOf [.inr (9, 0, 0), .inl (.int p1)] m (ch_oi q) := by
  refine e_m_chalkOf g _ p1 m ?_
  obtain ⟨k, hk, rfl⟩ := vp_in_of h.1 (by decide)
  refine g_m_chalkOf_0 g _ _ _ ?_
  simp only [ch_oi_iff]
  have e : (14 : Int32) + 2 * nI k + 1 = nI (15 + 2 * k) := by
    rw [show 15 + 2 * k = 14 + 2 * k + 1 by omega, ← nI_1, ← nI_add, ← pk_mul]; rfl
  have h2 := h.2
  rw [nI_clamp (by omega)] at h2
  rw [e, nI_clamp (by omega)]
  exact ⟨vp_in_nI (by omega) (by decide), h2⟩
set_option maxHeartbeats 1600000 in
theorem s_m_frees (g : ch_G) (q : ch_M → Prop) (p1 : Int32) (m : ch_M) (h : (vp_in p1 12) ∧ q (ch_wr (ch_wr m (9, 0, 1) (14 + 2 * Int32.toNatClampNeg p1) 0) (9, 0, 1) (15 + 2 * Int32.toNatClampNeg p1) 0)) : ch_C g m_m_frees [.inr (9, 0, 0), .inl (.int p1)] m (ch_ov q) := by
  refine e_m_frees g _ p1 m ?_
  obtain ⟨k, hk, rfl⟩ := vp_in_of h.1 (by decide)
  refine g_m_frees_0 g _ _ _ ?_
  simp only [ch_ov_iff]
  have e1 : (14 : Int32) + 2 * nI k = nI (14 + 2 * k) := by rw [← nI_add, ← pk_mul]; rfl
  have e : (14 : Int32) + 2 * nI k + 1 = nI (15 + 2 * k) := by
    rw [show 15 + 2 * k = 14 + 2 * k + 1 by omega, ← nI_1, ← nI_add, ← pk_mul]; rfl
  have h2 := h.2
  rw [nI_clamp (by omega)] at h2
  rw [e, e1, nI_clamp (by omega), nI_clamp (by omega)]
  refine ⟨vp_in_nI (by omega) (by decide), fun m2 hm2 => ⟨vp_in_nI (by omega) (by decide), fun m3 hm3 => ?_⟩⟩
  subst hm2 hm3
  exact h2
set_option maxHeartbeats 1600000 in
theorem s_m_of (g : ch_G) (q : Int32 → ch_M → Prop) (p1 : Int32) (p2 : Int32) (m : ch_M) (h : (vp_in p1 5) ∧ (vp_in p2 5) ∧ q (m (9, 0, 1) (38 + 5 * Int32.toNatClampNeg p1 + Int32.toNatClampNeg p2)) m) : ch_C g m_m_of [.inr (9, 0, 0), .inl (.int p1), .inl (.int p2)] m (ch_oi q) := by
  refine e_m_of g _ p1 p2 m ?_
  obtain ⟨k, hk, rfl⟩ := vp_in_of h.1 (by decide)
  obtain ⟨w, hw, rfl⟩ := vp_in_of h.2.1 (by decide)
  refine g_m_of_0 g _ _ _ _ ?_
  simp only [ch_oi_iff]
  have e : (38 : Int32) + 5 * nI k + nI w = nI (38 + 5 * k + w) := by rw [← nI_add, ← nI_add, ← pk_mul]; rfl
  have h2 := h.2.2
  rw [nI_clamp (by omega), nI_clamp (by omega)] at h2
  rw [e, nI_clamp (by omega)]
  exact ⟨vp_in_nI (by omega) (by decide), h2⟩
set_option maxHeartbeats 1600000 in
theorem s_m_sets (g : ch_G) (q : ch_M → Prop) (p1 : Int32) (p2 : Int32) (p3 : Int32) (m : ch_M) (h : (vp_in p1 5) ∧ (vp_in p2 5) ∧ q (ch_wr m (9, 0, 1) (38 + 5 * Int32.toNatClampNeg p1 + Int32.toNatClampNeg p2) p3)) : ch_C g m_m_sets [.inr (9, 0, 0), .inl (.int p1), .inl (.int p2), .inl (.int p3)] m (ch_ov q) := by
  refine e_m_sets g _ p1 p2 p3 m ?_
  obtain ⟨k, hk, rfl⟩ := vp_in_of h.1 (by decide)
  obtain ⟨w, hw, rfl⟩ := vp_in_of h.2.1 (by decide)
  refine g_m_sets_0 g _ _ _ _ _ ?_
  simp only [ch_ov_iff]
  have e : (38 : Int32) + 5 * nI k + nI w = nI (38 + 5 * k + w) := by rw [← nI_add, ← nI_add, ← pk_mul]; rfl
  have h2 := h.2.2
  rw [nI_clamp (by omega), nI_clamp (by omega)] at h2
  rw [e, nI_clamp (by omega)]
  refine ⟨vp_in_nI (by omega) (by decide), fun m2 hm2 => ?_⟩
  subst hm2
  exact h2
set_option maxHeartbeats 1600000 in
theorem s_y_hasChild (g : ch_G) (q : Int32 → ch_M → Prop) (j : Nat) (p1 : Int32) (m : ch_M) (h : ((0 ≤ p1 ∧ p1 < m (1, j, 0) 8) → q 1 m) ∧ ((¬ (0 ≤ p1 ∧ p1 < m (1, j, 0) 8)) → q 0 m)) : ch_C g m_y_hasChild [.inr (1, j, 0), .inl (.int p1)] m (ch_oi q) := by
  refine e_y_hasChild g _ j p1 m ?_
  refine g_y_hasChild_0 g _ _ _ _ ?_
  simp only [ch_oi_iff]
  grind
def ch_line (Y : ch_B) (c p : Int32) : Prop := ¬ p < 0 ∧ ¬ 12 ≤ p ∧ ¬ Y 1 p.toNatClampNeg = -1 ∧ ¬ Y 1 p.toNatClampNeg = c
theorem ch_vp {x : Int32} {n : Nat} (hn : n < 2 ^ 31) (h1 : ¬ x < 0) (h2 : ¬ nI n ≤ x) : vp_in x n := by
  rcases pk_ix x hn with h | h | ⟨j, hj, rfl⟩
  · exact absurd h h1
  · exact absurd h h2
  · exact vp_in_nI hj hn
set_option maxHeartbeats 1600000 in
theorem s_y_isLineFor (g : ch_G) (q : Int32 → ch_M → Prop) (j : Nat) (p1 : Int32) (p2 : Int32) (m : ch_M) (h : ((ch_line (ch_ob m 1 j) p1 p2) → q 1 m) ∧ ((¬ ch_line (ch_ob m 1 j) p1 p2) → q 0 m)) : ch_C g m_y_isLineFor [.inr (1, j, 0), .inl (.int p1), .inl (.int p2)] m (ch_oi q) := by
  refine e_y_isLineFor g _ j p1 p2 m ?_
  refine g_y_isLineFor_0 g _ _ _ _ _ ?_
  simp only [ch_oi_iff]
  have hb : ¬ p2 < 0 → ¬ 12 ≤ p2 → vp_in p2 12 := fun a b => ch_vp (n := 12) (by decide) a b
  unfold ch_line ch_ob at h
  grind
set_option maxHeartbeats 1600000 in
theorem s_y_countOwned (g : ch_G) (q : Int32 → ch_M → Prop) (j : Nat) (p1 : Int32) (m : ch_M) (h : q (ch_cnO (m (1, j, 1)) p1 12) m) : ch_C g m_y_countOwned [.inr (1, j, 0), .inl (.int p1)] m (ch_oi q) := by
  refine e_y_countOwned g _ j p1 m ?_
  refine g_y_countOwned_0 g _ _ _ _ ?_
  refine ch_down (fun k => ch_J g m_y_countOwned (ch_rm m_y_countOwned) (ch_E g m_y_countOwned (ch_oi q)) 4 [some (.inr (1, j, 0)), some (.inl (.int p1)), some (.inl (.int (ch_cnO (m (1, j, 1)) p1 k))), some (.inl (.int (nI k)))] [] m 0) 12 ?_ ?_ 0 (by decide)
  · refine g_y_countOwned_4 g _ j _ _ _ m ?_
    simp only [ch_oi_iff]
    exact ⟨fun _ => h, fun c => absurd (by decide) c⟩
  · intro k hk ih
    refine g_y_countOwned_4 g _ j _ _ _ m ?_
    have h1 : ¬ (12 : Int32) ≤ nI k := nI_ge (b := 12) hk (by decide)
    refine ⟨fun c => absurd c h1, fun _ => ⟨vp_in_nI hk (by decide), fun c => ?_, fun c => ?_⟩⟩
    all_goals
      rw [nI_clamp (by omega)] at c
      simpa [ch_cnO, c, nI_succ] using ih
