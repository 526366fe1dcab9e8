def w_tl (st : Nat → Int32) : Nat → Int32 → ch_B → ch_B
  | 0, _, B => B
  | n + 1, s, B => if 12 ≤ s then B else w_tl st n (s + st s.toNatClampNeg) (s_addB B (st s.toNatClampNeg))
theorem s_addB_n {B : ch_B} {p : Int32} {k : Nat} (h : B 0 1 = nI k) (hk : k < 12) : s_addB B p 0 1 = nI (k + 1) := by
  unfold s_addB
  obtain ⟨a1, a2, a3, a4⟩ := ch_k12 hk
  rw [h, if_neg a1, ch_bw_at, a4]
set_option maxHeartbeats 1600000 in
theorem s_w_tellBest (g : ch_G) (q : ch_M → Prop) (j1 : Nat) (m : ch_M) (h : (∀ i_, i_ < 12 → m (8, 0, 3) i_ = 1 ∨ m (8, 0, 3) i_ = 2 ∨ m (8, 0, 3) i_ = 3) ∧ q (ch_os m 5 j1 (w_tl (m (8, 0, 3)) 12 0 (ch_bw (ch_ob m 5 j1) 0 1 0)))) : ch_C g m_w_tellBest [.inr (8, 0, 0), .inr (5, j1, 0)] m (ch_ov q) := by
  refine e_w_tellBest g _ j1 m ?_
  obtain ⟨hs, hq⟩ := h
  have e8 : ∀ B : ch_B, ch_os m 5 j1 B (8, 0, 3) = m (8, 0, 3) := fun B => ch_os_ne (fun q => absurd (show (8 : Nat) = 5 from q.1) (by decide))
  have key : ∀ n, n ≤ 12 → ∀ (a : Nat) (B : ch_B), a < 15 → B 0 1 = nI (12 - n) → q (ch_os m 5 j1 (w_tl (m (8, 0, 3)) n (nI a) B)) → ch_J g m_w_tellBest (ch_rm m_w_tellBest) (ch_E g m_w_tellBest (ch_ov q)) 9 [some (.inr (8, 0, 0)), some (.inr (5, j1, 0)), some (.inl (.int (nI a))), some (.inl (.int (nI (12 - n))))] [] (ch_os m 5 j1 B) 0 := by
    intro n
    induction n with
    | zero =>
      intro _ a B ha hB hq
      refine g_w_tellBest_9 g _ _ _ _ _ ?_
      exact ⟨fun _ => ch_ov_iff.mpr hq, fun c => absurd (by decide) c⟩
    | succ n ih =>
      intro hn a B ha hB hq
      refine g_w_tellBest_9 g _ _ _ _ _ ?_
      obtain ⟨a1, a2, a3, a4⟩ := ch_k12 (show 12 - (n + 1) < 12 by omega)
      rw [w_tl] at hq
      rw [show 12 - (n + 1) + 1 = 12 - n by omega] at a4
      refine ⟨fun c => absurd c a1, fun _ => ⟨fun c => ?_, fun c => ⟨vp_in_nI ha (by decide), ?_, fun m3 e3 => ?_⟩⟩⟩
      · rw [if_pos c] at hq
        exact ch_ov_iff.mpr hq
      · rw [ch_os_at, hB]
        exact vp_in_nI (by omega) (by decide)
      · rw [if_neg c] at hq
        have ha2 : a < 12 := by
          by_cases h : a < 12
          · exact h
          · exact absurd (nI_le (a := 12) (b := a) (by omega) (by omega)) c
        rw [ch_ob_os, ch_os_os] at e3
        subst e3
        rw [nI_clamp (by omega)] at hq ⊢
        simp only [e8, a4]
        have hB2 := s_addB_n (p := m (8, 0, 3) a) hB (show 12 - (n + 1) < 12 by omega)
        rw [show 12 - (n + 1) + 1 = 12 - n by omega] at hB2
        rcases hs a ha2 with h | h | h
        · rw [h] at hq hB2 ⊢
          have e : nI a + 1 = nI (a + 1) := nI_1 a
          rw [e] at hq ⊢
          exact ih (by omega) (a + 1) _ (by omega) hB2 hq
        · rw [h] at hq hB2 ⊢
          have e : nI a + 2 = nI (a + 2) := nI_add a 2
          rw [e] at hq ⊢
          exact ih (by omega) (a + 2) _ (by omega) hB2 hq
        · rw [h] at hq hB2 ⊢
          have e : nI a + 3 = nI (a + 3) := nI_add a 3
          rw [e] at hq ⊢
          exact ih (by omega) (a + 3) _ (by omega) hB2 hq
  refine g_w_tellBest_0 g _ _ _ ?_
  intro m1 e1
  rw [ch_wr_os] at e1
  subst e1
  exact key 12 (Nat.le_refl _) 0 _ (by decide) (ch_bw_at _ _ _ _) hq
