def m_czK (B : ch_B) (c n : Nat) : ch_B := fun a k => if a = 1 ∧ 38 + 5 * c ≤ k ∧ k < 38 + 5 * c + n then 0 else B a k
def m_comB (B : ch_B) (p : Int32) : ch_B := ch_bw (ch_bw (ch_bw (m_czK (ch_bw B 1 0 (B 1 0 + 1)) (B 1 0).toNatClampNeg 5) 1 (38 + 5 * (B 1 0).toNatClampNeg + 0) p) 1 2 (B 1 2 + p)) 0 18 (B 1 0)
set_option maxHeartbeats 1600000 in
theorem s_m_comes (g : ch_G) (q : Int32 → ch_M → Prop) (p1 : Int32) (m : ch_M) (h : (vp_in (m (9, 0, 1) 0) 6) ∧ (((0 ≤ p1 ∧ p1 ≤ 99) ∧ ¬ m (9, 0, 1) 0 = 5) → q 1 (ch_os m 9 0 (m_comB (ch_ob m 9 0) p1))) ∧ (((0 ≤ p1 ∧ p1 ≤ 99) ∧ m (9, 0, 1) 0 = 5) → q 0 (ch_os m 9 0 (m_refB (ch_ob m 9 0) 2 5))) ∧ ((¬ (0 ≤ p1 ∧ p1 ≤ 99)) → q 0 (ch_os m 9 0 (m_refB (ch_ob m 9 0) 1 0)))) : ch_C g m_m_comes [.inr (9, 0, 0), .inl (.int p1)] m (ch_oi q) := by
  refine e_m_comes g _ p1 m ?_
  obtain ⟨h1, ha, hb, hc⟩ := h
  obtain ⟨u, hu, he⟩ := vp_in_of h1 (by decide)
  refine g_m_comes_0 g _ _ _ ?_
  simp only [ch_oi_iff, forall_eq, ch_wr_os, ch_ob_os, ch_os_os]
  refine ⟨fun c => ⟨fun d => ?_, fun d => hb ⟨c, d⟩⟩, fun c => hc c⟩
  have hu5 : u < 5 := by
    by_cases h : u < 5
    · exact h
    · exact absurd (by rw [he, show u = 5 by omega]; decide) d
  have hq := ha ⟨c, d⟩
  have e5 : ch_ob m 9 0 1 0 = nI u := he
  unfold m_comB at hq
  rw [e5, nI_clamp (by omega)] at hq
  rw [he]
  have key : ∀ k, k ≤ 5 → ch_J g m_m_comes (ch_rm m_m_comes) (ch_E g m_m_comes (ch_oi q)) 48 [some (.inr (9, 0, 0)), some (.inl (.int p1)), some (.inl (.int (nI u))), some (.inl (.int (nI k)))] [] (ch_os m 9 0 (m_czK (ch_bw (ch_ob m 9 0) 1 0 (nI u + 1)) u k)) 0 := by
    refine ch_down _ 5 ?_ ?_
    · refine g_m_comes_48 g _ _ _ _ _ ?_
      have e2 : ∀ v : Int32, ch_bw (m_czK (ch_bw (ch_ob m 9 0) 1 0 (nI u + 1)) u 5) 1 (38 + 5 * u + 0) v 1 2 = ch_ob m 9 0 1 2 := by
        intro v
        rw [ch_bw_k (by omega)]
        unfold m_czK
        rw [if_neg (by omega), ch_bw_k (by decide)]
      rw [nI_clamp (by omega)]
      simp only [ch_oi_iff, forall_eq, ch_wr_os, ch_ob_os, ch_os_os, ch_os_at, e2]
      exact ⟨fun _ => ⟨vp_in_nI hu5 (by decide), hq⟩, fun c => absurd (by decide) c⟩
    · intro k hk ih
      refine g_m_comes_48 g _ _ _ _ _ ?_
      have a1 : ¬ (5 : Int32) ≤ nI k := nI_ge (b := 5) hk (by decide)
      rw [nI_clamp (by omega), nI_clamp (by omega)]
      refine ⟨fun c => absurd c a1, fun _ => ⟨vp_in_nI hu5 (by decide), vp_in_nI hk (by decide), fun m4 e4 => ?_⟩⟩
      rw [ch_os_wr] at e4
      have e3 : ch_bw (m_czK (ch_bw (ch_ob m 9 0) 1 0 (nI u + 1)) u k) 1 (38 + 5 * u + k) 0 = m_czK (ch_bw (ch_ob m 9 0) 1 0 (nI u + 1)) u (k + 1) := by
        funext a i
        unfold m_czK
        by_cases h1 : a = 1 ∧ i = 38 + 5 * u + k
        · obtain ⟨rfl, rfl⟩ := h1
          rw [ch_bw_at, if_pos ⟨rfl, by omega, by omega⟩]
        · have e : ∀ B : ch_B, ch_bw B 1 (38 + 5 * u + k) 0 a i = B a i := fun B => if_neg h1
          rw [e]
          by_cases h2 : a = 1 ∧ 38 + 5 * u ≤ i ∧ i < 38 + 5 * u + k
          · rw [if_pos h2, if_pos ⟨h2.1, h2.2.1, by omega⟩]
          · rw [if_neg h2, if_neg (fun z => h2 ⟨z.1, z.2.1, by have : i ≠ 38 + 5 * u + k := fun y => h1 ⟨z.1, y⟩; omega⟩)]
      rw [e3] at e4
      subst e4
      rw [nI_1]
      exact ih
  have h0 := key 0 (by decide)
  have e0 : m_czK (ch_bw (ch_ob m 9 0) 1 0 (nI u + 1)) u 0 = ch_bw (ch_ob m 9 0) 1 0 (nI u + 1) := by
    funext a i
    exact if_neg (fun z => by omega)
  rw [e0] at h0
  exact h0
