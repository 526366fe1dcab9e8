/-- the states that are kept, the oldest gone for so many cells -/
def m_kK (B : ch_B) (n : Nat) : ch_B := fun c k => if c = 4 ∧ k < n then B 4 (63 + k) else B c k
def m_kS (B : ch_B) : ch_B := if B 0 4 = 8 then ch_bw (m_kK B 441) 0 4 7 else B
def m_kP (S : ch_B) (u n : Nat) : ch_B := fun c k => if c = 4 ∧ 63 * u ≤ k ∧ k < 63 * u + n then S 2 (k - 63 * u) else S c k
def m_kB (B : ch_B) : ch_B := ch_bw (m_kP (m_kS B) (m_kS B 0 4).toNatClampNeg 63) 0 4 (m_kS B 0 4 + 1)
set_option maxHeartbeats 1600000 in
theorem s_m_keeps (g : ch_G) (q : Int32 → ch_M → Prop) (p1 : Int32) (m : ch_M) (h : (vp_in (m (9, 0, 0) 4) 9) ∧ q p1 (ch_os m 9 0 (m_kB (ch_ob m 9 0)))) : ch_C g m_m_keeps [.inr (9, 0, 0), .inl (.int p1)] m (ch_oi q) := by
  refine e_m_keeps g _ p1 m ?_
  obtain ⟨h1, hq⟩ := h
  obtain ⟨u, hu, he⟩ := vp_in_of h1 (by decide)
  have put : ∀ S : ch_B, ∀ v, v < 8 → S 0 4 = nI v → q p1 (ch_os m 9 0 (ch_bw (m_kP S v 63) 0 4 (S 0 4 + 1))) → ch_J g m_m_keeps (ch_rm m_m_keeps) (ch_E g m_m_keeps (ch_oi q)) 51 [some (.inr (9, 0, 0)), some (.inl (.int p1)), some (.inl (.int 0))] [] (ch_os m 9 0 S) 0 := by
    intro S v hv hS hq
    have key : ∀ k, k ≤ 63 → ch_J g m_m_keeps (ch_rm m_m_keeps) (ch_E g m_m_keeps (ch_oi q)) 51 [some (.inr (9, 0, 0)), some (.inl (.int p1)), some (.inl (.int (nI k)))] [] (ch_os m 9 0 (m_kP S v k)) 0 := by
      have h04 : ∀ k, m_kP S v k 0 4 = S 0 4 := fun k => if_neg (fun z => absurd z.1 (by decide))
      refine ch_down _ 63 ?_ ?_
      · refine g_m_keeps_51 g _ _ _ _ ?_
        refine ⟨fun _ m1 e1 => ?_, fun c => absurd (by decide) c⟩
        rw [ch_os_wr, ch_os_at, h04] at e1
        rw [e1]
        exact ch_oi_iff.mpr hq
      · intro k hk ih
        refine g_m_keeps_51 g _ _ _ _ ?_
        have a1 : ¬ (63 : Int32) ≤ nI k := nI_ge (b := 63) hk (by decide)
        have a2 : (63 : Int32) * nI v + nI k = nI (63 * v + k) := by
          have : (63 : Int32) * nI v = nI (63 * v) := pk_mul 63 v
          rw [this, nI_add]
        rw [ch_os_at, h04, hS, a2]
        refine ⟨fun c => absurd c a1, fun _ => ⟨vp_in_nI hk (by decide), vp_in_nI (by omega) (by decide), fun m4 e4 => ?_⟩⟩
        rw [ch_os_wr, nI_clamp (by omega), nI_clamp (by omega), ch_os_at] at e4
        have e3 : ch_bw (m_kP S v k) 4 (63 * v + k) (m_kP S v k 2 k) = m_kP S v (k + 1) := by
          funext c i
          unfold ch_bw m_kP
          by_cases h1 : c = 4
          · subst h1
            by_cases h2 : i = 63 * v + k
            · subst h2
              simp
            · by_cases h3 : 63 * v ≤ i ∧ i < 63 * v + k
              · simp [h2, h3, show i < 63 * v + (k + 1) by omega]
              · have h4 : ¬ (63 * v ≤ i ∧ i < 63 * v + (k + 1)) := by omega
                simp only [h2, h3, h4, and_false, if_false]
          · simp [h1]
        rw [e3] at e4
        subst e4
        rw [nI_1]
        exact ih
    have h0 := key 0 (by decide)
    have e0 : m_kP S v 0 = S := by
      funext c i
      exact if_neg (fun z => by omega)
    rw [e0] at h0
    exact h0
  refine g_m_keeps_0 g _ _ _ ⟨fun c => ?_, fun c => ?_⟩
  · have eS : m_kS (ch_ob m 9 0) = ch_ob m 9 0 := if_neg c
    unfold m_kB at hq
    rw [eS] at hq
    have e5 : ch_ob m 9 0 0 4 = nI u := he
    rw [show (ch_ob m 9 0 0 4).toNatClampNeg = u by rw [e5, nI_clamp (by omega)]] at hq
    have hu8 : u < 8 := by
      by_cases h : u < 8
      · exact h
      · exact absurd (by rw [he, show u = 8 by omega]; decide) c
    have := put (ch_ob m 9 0) u hu8 e5 hq
    rw [ch_os_self] at this
    exact this
  · have eS : m_kS (ch_ob m 9 0) = ch_bw (m_kK (ch_ob m 9 0) 441) 0 4 7 := if_pos c
    unfold m_kB at hq
    rw [eS] at hq
    have key : ∀ k, k ≤ 441 → ch_J g m_m_keeps (ch_rm m_m_keeps) (ch_E g m_m_keeps (ch_oi q)) 11 [some (.inr (9, 0, 0)), some (.inl (.int p1)), some (.inl (.int (nI k)))] [] (ch_os m 9 0 (m_kK (ch_ob m 9 0) k)) 0 := by
      have h04 : ∀ k, m_kK (ch_ob m 9 0) k 0 4 = 8 := fun k => (if_neg (fun z => absurd z.1 (by decide))).trans c
      refine ch_down _ 441 ?_ ?_
      · refine g_m_keeps_11 g _ _ _ _ ?_
        refine ⟨fun _ m1 e1 => ?_, fun c => absurd (by decide) c⟩
        rw [ch_os_wr, ch_os_at, h04] at e1
        subst e1
        refine put _ 7 (by decide) ?_ ?_
        · rw [ch_bw_at]
          decide
        · exact hq
      · intro k hk ih
        refine g_m_keeps_11 g _ _ _ _ ?_
        have a1 : ¬ (441 : Int32) ≤ nI k := nI_ge (b := 441) hk (by decide)
        have a2 : (63 : Int32) + nI k = nI (63 + k) := nI_add 63 k
        rw [a2]
        refine ⟨fun c => absurd c a1, fun _ => ⟨vp_in_nI (by omega) (by decide), vp_in_nI (by omega) (by decide), fun m4 e4 => ?_⟩⟩
        rw [ch_os_wr, nI_clamp (by omega), nI_clamp (by omega), ch_os_at] at e4
        have e3 : ch_bw (m_kK (ch_ob m 9 0) k) 4 k (m_kK (ch_ob m 9 0) k 4 (63 + k)) = m_kK (ch_ob m 9 0) (k + 1) := by
          funext c i
          unfold ch_bw m_kK
          by_cases h1 : c = 4
          · subst h1
            by_cases h2 : i = k
            · subst h2
              simp
              omega
            · by_cases h3 : i < k
              · simp [h2, h3, show i < k + 1 by omega]
              · simp [h2, h3, show ¬ i < k + 1 by omega]
          · simp [h1]
        rw [e3] at e4
        subst e4
        rw [nI_1]
        exact ih
    have h0 := key 0 (by decide)
    have e0 : m_kK (ch_ob m 9 0) 0 = ch_ob m 9 0 := by
      funext c i
      exact if_neg (fun z => by omega)
    rw [e0, ch_os_self] at h0
    exact h0
