/-! told from the beginning on: the same number -/
def w_gv (B : ch_B) (l : Int32 → Int32) (k : Nat) : Int32 := (w_fo B l k).1 1 k
theorem w_fo_keep (B : ch_B) (l : Int32 → Int32) (n : Nat) : ∀ k, k ≤ n → (w_fo B l n).1 1 k = w_gv B l k := by
  induction n with
  | zero => intro k hk; rw [show k = 0 by omega]; rfl
  | succ n ih =>
    intro k hk
    by_cases e : k = n + 1
    · rw [e]; rfl
    · rw [w_fo]
      dsimp only
      rw [ch_bw_k e]
      exact ih k (by omega)
/-- the least of some cells -/
theorem w_lm_n {B : ch_B} {G : Nat → Nat} {a : Nat} (n : Nat) (h : ∀ i, i < n → B 1 (a + i) = nI (G (a + i)) ∧ G (a + i) < 100) : ∃ v, v ≤ 12 ∧ w_lm B a n = nI v ∧ (∀ i, i < n → v ≤ G (a + i)) ∧ (v = 12 ∨ ∃ i, i < n ∧ v = G (a + i)) := by
  induction n with
  | zero => exact ⟨12, Nat.le_refl _, rfl, fun i hi => absurd hi (by omega), Or.inl rfl⟩
  | succ n ih =>
    obtain ⟨v, h1, h2, h3, h4⟩ := ih (fun i hi => h i (by omega))
    obtain ⟨g1, g2⟩ := h n (by omega)
    rw [w_lm, g1, h2]
    by_cases l : G (a + n) < v
    · rw [if_pos (nI_lt l (by omega))]
      refine ⟨_, by omega, rfl, fun i hi => ?_, Or.inr ⟨n, by omega, rfl⟩⟩
      by_cases e : i = n
      · rw [e]; omega
      · have := h3 i (by omega)
        omega
    · rw [if_neg (nI_nlt (by omega) (by omega))]
      refine ⟨v, h1, rfl, fun i hi => ?_, ?_⟩
      · by_cases e : i = n
        · rw [e]; omega
        · exact h3 i (by omega)
      · rcases h4 with h4 | ⟨i, hi, e⟩
        · exact Or.inl h4
        · exact Or.inr ⟨i, by omega, e⟩
theorem w_fo_G (B : ch_B) {l : Int32 → Int32} {e : Nat → Nat} (he : ∀ k, e k ≤ 1 ∧ l (nI k) = nI (e k)) (n : Nat) : n ≤ 14 → ∃ G : Nat → Nat, G 0 = 0 ∧ (∀ k, k ≤ n → w_gv B l k = nI (G k)) ∧ ∀ k, k < n → G (k + 1) ≤ k + 1 ∧ (∀ f, f < 12 → f ≤ k → k + 1 ≤ f + 3 → G (k + 1) ≤ G f + e (k + 1)) ∧ ∃ f, f < 12 ∧ f ≤ k ∧ k + 1 ≤ f + 3 ∧ G (k + 1) = G f + e (k + 1) := by
  induction n with
  | zero =>
    intro _
    refine ⟨fun _ => 0, rfl, fun k hk => ?_, fun k hk => absurd hk (by omega)⟩
    rw [show k = 0 by omega]
    show ch_bw B 1 0 0 1 0 = _
    rw [ch_bw_at]
    rfl
  | succ n ih =>
    intro hn
    obtain ⟨G, g0, g1, g2⟩ := ih (by omega)
    have gle : ∀ k, k ≤ n → G k ≤ k := fun k hk => by
      cases k with
      | zero => omega
      | succ k => exact (g2 k (by omega)).1
    have hnb : n + 1 - 3 + w_nb (n + 1) ≤ n + 1 ∧ n + 1 - 3 + w_nb (n + 1) ≤ 12 ∧ (∀ f, f < 12 → f ≤ n → n + 1 ≤ f + 3 → f < n + 1 - 3 + w_nb (n + 1)) ∧ 0 < w_nb (n + 1) := by
      unfold w_nb
      split <;> refine ⟨by omega, by omega, fun f h1 h2 h3 => by omega, by omega⟩
    obtain ⟨n1, n2, n3, n4⟩ := hnb
    obtain ⟨v, v1, v2, v3, v4⟩ := w_lm_n (B := (w_fo B l n).1) (G := G) (a := n + 1 - 3) (w_nb (n + 1)) (fun i hi => by
      refine ⟨(w_fo_keep B l n _ (by omega)).trans (g1 _ (by omega)), ?_⟩
      have := gle (n + 1 - 3 + i) (by omega)
      omega)
    have hv : w_gv B l (n + 1) = nI (v + e (n + 1)) := by
      show (w_fo B l (n + 1)).1 1 (n + 1) = _
      rw [w_fo]
      dsimp only
      rw [ch_bw_at, v2, (he (n + 1)).2, nI_add]
    have b0 := v3 0 n4
    have bg := gle (n + 1 - 3 + 0) (by omega)
    have v4' : ∃ i, i < w_nb (n + 1) ∧ v = G (n + 1 - 3 + i) := by
      rcases v4 with v4 | v4
      · exact ⟨0, n4, by omega⟩
      · exact v4
    have e1 := (he (n + 1)).1
    have bl := v3 (w_nb (n + 1) - 1) (by omega)
    have up : ∀ k, k ≤ n → f_up G (n + 1) (v + e (n + 1)) k = G k := fun k hk => f_up_ne (by omega)
    refine ⟨f_up G (n + 1) (v + e (n + 1)), (up 0 (by omega)).trans g0, fun k hk => ?_, fun k hk => ?_⟩
    · by_cases ek : k = n + 1
      · rw [ek, f_up_at]
        exact hv
      · rw [f_up_ne ek]
        exact g1 k (by omega)
    · by_cases ek : k = n
      · subst ek
        rw [f_up_at]
        refine ⟨by omega, fun f h1 h2 h3 => ?_, ?_⟩
        · rw [up f h2]
          have := v3 (f - (k + 1 - 3)) (by have := n3 f h1 h2 h3; omega)
          rw [show k + 1 - 3 + (f - (k + 1 - 3)) = f by omega] at this
          omega
        · obtain ⟨i, hi, ei⟩ := v4'
          refine ⟨k + 1 - 3 + i, by omega, by omega, by omega, ?_⟩
          rw [up _ (by omega), ei]
      · obtain ⟨m1, m2, f, m3, m4, m5, m6⟩ := g2 k (by omega)
        rw [up (k + 1) (by omega)]
        refine ⟨m1, fun f' h1 h2 h3 => ?_, f, m3, m4, m5, ?_⟩
        · rw [up f' (by omega)]
          exact m2 f' h1 h2 h3
        · rw [up f (by omega)]
          exact m6
theorem w_fo_min (B : ch_B) {l : Int32 → Int32} {G : Nat → Nat} (h : ∀ k, k ≤ 14 → w_gv B l k = nI (G k)) (h12 : ∀ k, k ≤ 14 → G k < 100) (n : Nat) : n ≤ 14 → ∃ v, v ≤ 12 ∧ (w_fo B l n).2 = nI v ∧ (∀ k, 12 ≤ k → k ≤ n → v ≤ G k) ∧ (v = 12 ∨ ∃ k, 12 ≤ k ∧ k ≤ n ∧ v = G k) := by
  induction n with
  | zero => exact fun _ => ⟨12, Nat.le_refl _, rfl, fun k h1 h2 => absurd h2 (by omega), Or.inl rfl⟩
  | succ n ih =>
    intro hn
    obtain ⟨v, h1, h2, h3, h4⟩ := ih (by omega)
    have hg : w_lm (w_fo B l n).1 (n + 1 - 3) (w_nb (n + 1)) + l (nI (n + 1)) = nI (G (n + 1)) := by
      rw [← h (n + 1) hn]
      show _ = (w_fo B l (n + 1)).1 1 (n + 1)
      rw [w_fo]
      dsimp only
      rw [ch_bw_at]
    have hb := h12 (n + 1) hn
    rw [w_fo]
    dsimp only
    rw [hg]
    by_cases l12 : n + 1 < 12
    · rw [if_pos l12]
      refine ⟨v, h1, h2, fun k a b => absurd b (by omega), ?_⟩
      rcases h4 with h4 | ⟨k, a, b, c⟩
      · exact Or.inl h4
      · omega
    · rw [if_neg l12, h2]
      by_cases lg : G (n + 1) < v
      · rw [if_pos (nI_lt lg (by omega))]
        refine ⟨_, by omega, rfl, fun k a b => ?_, Or.inr ⟨n + 1, by omega, by omega, rfl⟩⟩
        by_cases e : k = n + 1
        · rw [e]; omega
        · have := h3 k a (by omega)
          omega
      · rw [if_neg (nI_nlt (by omega) (by omega))]
        refine ⟨v, h1, rfl, fun k a b => ?_, ?_⟩
        · by_cases e : k = n + 1
          · rw [e]; omega
          · exact h3 k a (by omega)
        · rcases h4 with h4 | ⟨k, a, b, c⟩
          · exact Or.inl h4
          · exact Or.inr ⟨k, a, by omega, c⟩
theorem w_fo_sp (B Y : ch_B) (c : Int32) {A C S : Nat → Nat} (h : w_sp (w_e Y c) A C S) : (w_fo B (w_l Y c) 14).2 = nI (A 0) := by
  obtain ⟨G, g0, g1, g2⟩ := w_fo_G B (l := w_l Y c) (e := w_e Y c) (fun k => ⟨w_e_le Y c k, w_l_n Y c k⟩) 14 (by omega)
  obtain ⟨h0, h1⟩ := h
  have gle : ∀ k, k ≤ 14 → G k ≤ k := fun k hk => by
    cases k with
    | zero => omega
    | succ k => exact (g2 k (by omega)).1
  obtain ⟨v, v1, v2, v3, v4⟩ := w_fo_min B g1 (fun k hk => by have := gle k hk; omega) 14 (by omega)
  have lo : ∀ n k, k ≤ n → k ≤ 14 → A 0 ≤ G k + A k := by
    intro n
    induction n with
    | zero => intro k hk _; rw [show k = 0 by omega, g0]; omega
    | succ n ih =>
      intro k hk h14
      cases k with
      | zero => rw [g0]; omega
      | succ k =>
        obtain ⟨-, -, f, f1, f2, f3, f4⟩ := g2 k (by omega)
        have i1 := ih f (by omega) (by omega)
        have a1 := ((h1 f f1).2.2.2.2.2 (k + 1 - f) (by omega) (by omega)).1
        rw [show f + (k + 1 - f) = k + 1 by omega] at a1
        omega
  have hi : ∀ n k, k + n ≥ 12 → k ≤ 14 → G k + A k ≤ A 0 → ∃ j, 12 ≤ j ∧ j ≤ 14 ∧ G j ≤ A 0 := by
    intro n
    induction n with
    | zero => exact fun k h2 h3 h4 => ⟨k, by omega, h3, by omega⟩
    | succ n ih =>
      intro k h2 h3 h4
      by_cases l : 12 ≤ k
      · exact ⟨k, l, h3, by omega⟩
      · obtain ⟨⟨s1, s2⟩, -, -, e1, -, -⟩ := h1 k (by omega)
        have b := (g2 (k + S k - 1) (by omega)).2.1 k (by omega) (by omega) (by omega)
        rw [show k + S k - 1 + 1 = k + S k by omega] at b
        exact ih (k + S k) (by omega) (by omega) (by omega)
  obtain ⟨j, j1, j2, j3⟩ := hi 12 0 (by omega) (by omega) (by omega)
  have b := v3 j j1 j2
  have b0 := (h1 0 (by omega)).2.1
  have : v = A 0 := by
    rcases v4 with v4 | ⟨k, k1, k2, k3⟩
    · have := lo 14 j j2 j2
      have z := (h0 j j1).1
      omega
    · have := lo 14 k k2 k2
      have z := (h0 k k1).1
      omega
  rw [v2, this]
