def m_trK (B : ch_B) (n : Nat) : ch_B := fun c k => if c = 0 ∧ k = 19 then 0 else if c = 2 ∧ k < n then B 1 k else B c k
def m_trB (B : ch_B) : ch_B := m_trK B 63
set_option maxHeartbeats 1600000 in
theorem s_m_tries (g : ch_G) (q : ch_M → Prop)  (m : ch_M) (h : q (ch_os m 9 0 (m_trB (ch_ob m 9 0)))) : ch_C g m_m_tries [.inr (9, 0, 0)] m (ch_ov q) := by
  refine e_m_tries g _  m ?_
  have key : ∀ k, k ≤ 63 → ch_J g m_m_tries (ch_rm m_m_tries) (ch_E g m_m_tries (ch_ov q)) 7 [some (.inr (9, 0, 0)), some (.inl (.int (nI k)))] [] (ch_os m 9 0 (m_trK (ch_ob m 9 0) k)) 0 := by
    refine ch_down _ 63 ?_ ?_
    · refine g_m_tries_7 g _ _ _ ?_
      exact ⟨fun _ => ch_ov_iff.mpr h, fun c => absurd (by decide) c⟩
    · intro k hk ih
      refine g_m_tries_7 g _ _ _ ?_
      have a1 : ¬ (63 : Int32) ≤ nI k := nI_ge (b := 63) hk (by decide)
      refine ⟨fun c => absurd c a1, fun _ => ⟨vp_in_nI hk (by decide), fun m2 e2 => ?_⟩⟩
      rw [ch_os_wr, nI_clamp (by omega), ch_os_at] at e2
      have e3 : ch_bw (m_trK (ch_ob m 9 0) k) 2 k (m_trK (ch_ob m 9 0) k 1 k) = m_trK (ch_ob m 9 0) (k + 1) := by
        funext c i
        unfold ch_bw m_trK
        by_cases h1 : c = 2
        · subst h1
          by_cases h2 : i = k
          · subst h2
            simp
          · by_cases h3 : i < k
            · simp [h2, h3, show i < k + 1 by omega]
            · simp [h2, h3, show ¬ i < k + 1 by omega]
        · simp [h1]
      rw [e3] at e2
      subst e2
      rw [nI_1]
      exact ih
  refine g_m_tries_0 g _ _ ?_
  intro m1 e1
  rw [ch_wr_os] at e1
  have e3 : ch_bw (ch_ob m 9 0) 0 19 0 = m_trK (ch_ob m 9 0) 0 := by
    funext c i
    unfold ch_bw m_trK
    by_cases h1 : c = 0 ∧ i = 19
    · simp [h1]
    · simp [h1]
  rw [e3] at e1
  subst e1
  exact key 0 (by decide)
set_option maxHeartbeats 1600000 in
theorem s_m_isThere (g : ch_G) (q : Int32 → ch_M → Prop) (p1 : Int32) (m : ch_M) (h : ((0 ≤ p1 ∧ p1 ≤ m (9, 0, 1) 0 - 1) → q 1 m) ∧ ((¬ (0 ≤ p1 ∧ p1 ≤ m (9, 0, 1) 0 - 1)) → q 0 (ch_wr (ch_wr (ch_wr m (9, 0, 0) 15 3) (9, 0, 0) 16 (m (9, 0, 1) (0))) (9, 0, 0) 17 0))) : ch_C g m_m_isThere [.inr (9, 0, 0), .inl (.int p1)] m (ch_oi q) := by
  refine e_m_isThere g _ p1 m ?_
  obtain ⟨ha, hb⟩ := h
  refine g_m_isThere_0 g _ _ _ ?_
  simp only [ch_oi_iff, forall_eq]
  exact ⟨ha, hb⟩
