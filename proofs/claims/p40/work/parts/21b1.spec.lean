set_option maxHeartbeats 1600000 in
theorem s_y_countAhead (g : ch_G) (q : Int32 → ch_M → Prop) (j : Nat) (p1 : Int32) (p2 : Int32) (m : ch_M) (h : (vp_in p1 5) ∧ (vp_in (m (1, j, 0) 8) 6) ∧ q (y_ca (ch_ob m 1 j) p1 p2 (Int32.toNatClampNeg (m (1, j, 0) 8))) m) : ch_C g m_y_countAhead [.inr (1, j, 0), .inl (.int p1), .inl (.int p2)] m (ch_oi q) := by
  refine e_y_countAhead g _ j p1 p2 m ?_
  obtain ⟨n, hn, he⟩ := vp_in_of h.2.1 (by decide)
  have h2 := h.2.2
  rw [he, nI_clamp (by omega)] at h2
  refine g_y_countAhead_0 g _ _ _ _ _ ⟨h.1, ?_⟩
  have key : ∀ k, k ≤ n → ∀ o6, ch_J g m_y_countAhead (ch_rm m_y_countAhead) (ch_E g m_y_countAhead (ch_oi q)) 13 [some (.inr (1, j, 0)), some (.inl (.int p1)), some (.inl (.int p2)), some (.inl (.int (y_ms (ch_ob m 1 j) p1 p2))), some (.inl (.int (y_ca (ch_ob m 1 j) p1 p2 k))), some (.inl (.int (nI k))), o6] [] m 0 := by
    refine ch_down (fun k => ∀ o6, ch_J g m_y_countAhead (ch_rm m_y_countAhead) (ch_E g m_y_countAhead (ch_oi q)) 13 [some (.inr (1, j, 0)), some (.inl (.int p1)), some (.inl (.int p2)), some (.inl (.int (y_ms (ch_ob m 1 j) p1 p2))), some (.inl (.int (y_ca (ch_ob m 1 j) p1 p2 k))), some (.inl (.int (nI k))), o6] [] m 0) n ?_ ?_
    · intro o6
      refine g_y_countAhead_13 g _ j _ _ _ _ _ _ m ?_
      simp only [ch_oi_iff]
      exact ⟨fun _ => h2, fun c => absurd (by rw [he]; exact nI_le (Nat.le_refl n) (by omega)) c⟩
    · intro k hk ih o6
      obtain ⟨a1, a2, a3, a4⟩ := ch_kn hk (by omega)
      refine g_y_countAhead_13 g _ j _ _ _ _ _ _ m ?_
      simp only [ch_oi_iff, a4]
      rw [he]
      refine ⟨fun c => absurd c a1, fun _ => ⟨vp_in_nI (by omega) (by decide), ?_⟩⟩
      have ih := ih (some (.inl (.int (y_ms (ch_ob m 1 j) (nI k) p2))))
      simp only [y_ca] at ih
      grind
  exact key 0 (by omega) _
