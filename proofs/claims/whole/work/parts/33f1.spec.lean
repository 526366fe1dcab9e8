/-- owned before and behind: so many fewer only where one is lost -/
theorem ch_cn_cmp {f f' : Nat → Int32} {c : Int32} (n : Nat) (h : ∀ q, q < n → f' q = c → f q = c) : ∃ a a', a ≤ n ∧ a' ≤ a ∧ ch_cnO f c n = nI a ∧ ch_cnO f' c n = nI a' ∧ (a ≤ a' ↔ ∀ q, q < n → f q = c → f' q = c) := by
  induction n with
  | zero => exact ⟨0, 0, Nat.le_refl _, Nat.le_refl _, rfl, rfl, ⟨fun _ q hq => absurd hq (by omega), fun _ => Nat.le_refl _⟩⟩
  | succ n ih =>
    obtain ⟨a, a', h1, h2, h3, h4, h5⟩ := ih (fun q hq => h q (by omega))
    unfold ch_cnO
    rw [h3, h4]
    by_cases e : f n = c
    · rw [if_pos e]
      by_cases e' : f' n = c
      · rw [if_pos e']
        refine ⟨a + 1, a' + 1, by omega, by omega, nI_1 _, nI_1 _, ⟨fun z q hq hf => ?_, fun z => ?_⟩⟩
        · by_cases l : q = n
          · rw [l]; exact e'
          · exact h5.mp (by omega) q (by omega) hf
        · have := h5.mpr (fun q hq hf => z q (by omega) hf)
          omega
      · rw [if_neg e']
        refine ⟨a + 1, a', by omega, by omega, nI_1 _, rfl, ⟨fun z => absurd z (by omega), fun z => absurd (z n (by omega) e) e'⟩⟩
    · rw [if_neg e, if_neg (fun z => e (h n (by omega) z))]
      refine ⟨a, a', by omega, h2, rfl, rfl, ⟨fun z q hq hf => ?_, fun z => h5.mpr (fun q hq hf => z q (by omega) hf)⟩⟩
      by_cases l : q = n
      · rw [l] at hf
        exact absurd hf e
      · exact h5.mp z q (by omega) hf
theorem y_term_1 {T : Nat} {Y : ch_B} (hi : y_inv T Y) : ∀ q, q < 12 → y_termB Y 1 q = Y 1 q ∨ y_termB Y 1 q = -1 := by
  intro q hq
  obtain ⟨n, hn, en⟩ := vp_in_of (y_i8 hi) (by decide)
  have cn : (Y 0 8).toNatClampNeg = n := by rw [en, nI_clamp (by omega)]
  have e : y_termB Y 1 q = (y_tc Y n).1 1 q := by
    unfold y_termB y_tZ
    rw [ch_bw_c (by decide), ch_bw_c (by decide), cn, y_tg_o _ _ _ _ (by decide) (fun z => absurd z (by decide))]
  rw [e]
  exact (m_F_tc hi n (by omega)).1 q hq
theorem b_and0 (b b' : Nat → Bool) : b_st b 12 &&& b_st b' 12 = 0 ↔ ∀ q, q < 12 → ¬ (b q = true ∧ b' q = true) := by
  rw [← Int32.toBitVec_inj, Int32.toBitVec_and]
  refine ⟨fun h q hq hb => ?_, fun h => ?_⟩
  · have := congrArg (fun v => BitVec.getLsbD v q) h
    rw [BitVec.getLsbD_and, b_st_bit _ _ _ (by omega), b_st_bit _ _ _ (by omega), hb.1, hb.2] at this
    simp [hq] at this
  · apply BitVec.eq_of_getLsbD_eq
    intro i hi
    rw [BitVec.getLsbD_and, b_st_bit _ _ _ (by omega), b_st_bit _ _ _ (by omega)]
    show _ = (0 : BitVec 32).getLsbD i
    by_cases l : i < 12
    · have := h i l
      simp [l]
      intro hb
      by_cases hb' : b' i = true
      · exact absurd ⟨hb, hb'⟩ this
      · simpa using hb'
    · simp [l]
theorem m_lost {T : Nat} {Y : ch_B} (hi : y_inv T Y) {c : Int32} (hc : ¬ c = -1) : (b_st (m_lb Y (y_termB Y)) 12 &&& y_ofS (Y 1) c 0 12 = 0) ↔ ch_cnO (Y 1) c 12 ≤ ch_cnO (y_termB Y 1) c 12 := by
  have h1 := y_term_1 hi
  obtain ⟨a, a', l1, l2, e1, e2, e3⟩ := ch_cn_cmp (f := Y 1) (f' := y_termB Y 1) (c := c) 12 (fun q hq z => by
    rcases h1 q hq with h | h
    · rw [← h]; exact z
    · exact absurd (z.symm.trans h) hc)
  rw [e1, e2, nI_leI (by omega) (by omega), e3, y_ofS_b _ _ _ (by omega), b_and0]
  refine ⟨fun h q hq hf => ?_, fun h q hq hb => ?_⟩
  · rcases h1 q hq with z | z
    · rw [z]; exact hf
    · refine absurd ⟨?_, by simp [hf]⟩ (h q hq)
      unfold m_lb
      have : ¬ Y 1 q = -1 := fun y => hc (hf.symm.trans y)
      simp [this, z]
  · obtain ⟨b1, b2⟩ := hb
    have hf : Y 1 q = c := by simpa using b2
    have := h q hq hf
    unfold m_lb at b1
    rw [this] at b1
    simp [hc] at b1
theorem m_rel_63 {Y : ch_B} {N N' : Nat → Int32} (h : m_rel Y N) (e : ∀ i, i < 63 → N' i = N i) : m_rel Y N' := by
  obtain ⟨⟨a0, a1, a2, a3, a4, a5, a6, a7, a8⟩, h2, h3, h4⟩ := h
  refine ⟨⟨by rw [e 0 (by decide)]; exact a0, by rw [e 1 (by decide)]; exact a1, by rw [e 2 (by decide)]; exact a2, by rw [e 3 (by decide)]; exact a3, by rw [e 4 (by decide)]; exact a4, by rw [e 5 (by decide)]; exact a5, by rw [e 6 (by decide)]; exact a6, by rw [e 7 (by decide)]; exact a7, by rw [e 8 (by decide)]; exact a8⟩, fun k h5 hk => by rw [e (9 + k) (by omega)]; exact h2 k h5 hk, fun k hk => by rw [e (14 + 2 * k) (by omega), e (15 + 2 * k) (by omega)]; exact h3 k hk, fun c hc => ?_⟩
  rw [e (38 + 5 * c + 0) (by omega), e (38 + 5 * c + 1) (by omega), e (38 + 5 * c + 2) (by omega), e (38 + 5 * c + 3) (by omega), e (38 + 5 * c + 4) (by omega)]
  exact h4 c hc
def m_thK (B : ch_B) (n : Nat) : ch_B := fun a i => if a = 3 ∧ i < n then B 1 i else B a i
def m_bkK (B B' : ch_B) (n : Nat) : ch_B := fun a i => if a = 1 ∧ i < n then B 1 i else B' a i
theorem nI_41 : (41 : Int32) = nI 41 := rfl
set_option maxHeartbeats 1600000 in
theorem s_m_termsFor (g : ch_G) (q : Int32 → ch_M → Prop) (T_ : Nat) (Y_ : ch_B) (p1 : Int32) (m : ch_M) (h : (m_rel Y_ (m (9, 0, 1))) ∧ (y_inv T_ Y_) ∧ (T_ < 2 ^ 31) ∧ (((0 ≤ p1 ∧ p1 < Y_ 0 8) ∧ ¬ (x_tt p1 40 1 Y_).1 = 0) → (∀ (B_ : ch_B), (∀ i_, i_ < 63 → B_ 1 i_ = ch_ob m 9 0 1 i_) → (∀ a_ i_, a_ ≠ 1 → a_ ≠ 3 → ¬ (a_ = 0 ∧ i_ = 19) → B_ a_ i_ = ch_ob m 9 0 a_ i_) → (B_ 0 19 = 0) → q ((x_tt p1 40 1 Y_).1) (ch_os m 9 0 B_))) ∧ ((¬ (0 ≤ p1 ∧ p1 < Y_ 0 8)) → q 0 (ch_wr m (9, 0, 0) 19 1)) ∧ (((0 ≤ p1 ∧ p1 < Y_ 0 8) ∧ (x_tt p1 40 1 Y_).1 = 0) → (∀ (B_ : ch_B), (∀ i_, i_ < 63 → B_ 1 i_ = ch_ob m 9 0 1 i_) → (∀ a_ i_, a_ ≠ 1 → a_ ≠ 3 → ¬ (a_ = 0 ∧ i_ = 19) → B_ a_ i_ = ch_ob m 9 0 a_ i_) → (B_ 0 19 = 2) → q 0 (ch_os m 9 0 B_)))) : ch_C g m_m_termsFor [.inr (9, 0, 0), .inl (.int p1)] m (ch_oi q) := by
  refine e_m_termsFor g _ p1 m ?_
  obtain ⟨hr, hi, hT, ha, hb, hc⟩ := h
  have h8 := y_i8 hi
  refine g_m_termsFor_0 g _ _ _ ?_
  simp only [forall_eq, ch_oi_iff, m_w1, m_co hr, ch_wr_wr]
  refine ⟨fun c => ?_, fun c => hb (fun z => c ((m_chi h8).mpr z))⟩
  have c2 := (m_chi h8).mp c
  have hneg : ¬ p1 = -1 := fun z => by
    rw [z] at c2
    exact absurd c2.1 (by decide)
  obtain ⟨D, eD⟩ : ∃ D, D = ch_bw (ch_ob m 9 0) 0 19 0 := ⟨_, rfl⟩
  have eD1 : D 1 = ch_ob m 9 0 1 := by rw [eD]; exact ch_bw1 (by decide)
  have eDo : ∀ a i, ¬ (a = 0 ∧ i = 19) → D a i = ch_ob m 9 0 a i := fun a i h => by
    rw [eD]
    unfold ch_bw
    rw [if_neg h]
  have eD19 : D 0 19 = 0 := by rw [eD, ch_bw_at]
  obtain ⟨X, eX⟩ : ∃ X, X = x_tt p1 40 1 Y_ := ⟨_, rfl⟩
  rw [← eX] at ha hc
  -- back to the old numbers
  have key3 : ∀ r : Int32, r = X.1 → ∀ k, k ≤ 63 → ∀ (B' : ch_B) o4, (∀ a i, a ≠ 1 → B' a i = m_thK D 63 a i) → ch_J g m_m_termsFor (ch_rm m_m_termsFor) (ch_E g m_m_termsFor (ch_oi q)) 86 [some (.inr (9, 0, 0)), some (.inl (.int p1)), some (.inl (.int r)), some (.inl (.int (nI k))), o4] [] (ch_os m 9 0 (m_bkK D B' k)) 0 := by
    intro r er
    refine ch_down (fun k => ∀ (B' : ch_B) o4, (∀ a i, a ≠ 1 → B' a i = m_thK D 63 a i) → ch_J g m_m_termsFor (ch_rm m_m_termsFor) (ch_E g m_m_termsFor (ch_oi q)) 86 [some (.inr (9, 0, 0)), some (.inl (.int p1)), some (.inl (.int r)), some (.inl (.int (nI k))), o4] [] (ch_os m 9 0 (m_bkK D B' k)) 0) 63 ?_ ?_
    · intro B' o4 f0
      refine g_m_termsFor_86 g _ _ _ _ _ _ ?_
      have q1 : ∀ i, i < 63 → m_bkK D B' 63 1 i = ch_ob m 9 0 1 i := fun i h => by
        unfold m_bkK
        rw [if_pos ⟨rfl, h⟩, eD1]
      have q2 : ∀ a i, a ≠ 1 → a ≠ 3 → ¬ (a = 0 ∧ i = 19) → m_bkK D B' 63 a i = ch_ob m 9 0 a i := fun a i h1 h2 h3 => by
        unfold m_bkK
        rw [if_neg (fun z => h1 z.1), f0 a i h1]
        unfold m_thK
        rw [if_neg (fun z => h2 z.1)]
        exact eDo a i h3
      refine ⟨fun _ => ⟨fun z => ?_, fun z m2 e2 => ?_⟩, fun z => absurd (by decide) z⟩
      · refine ch_oi_iff.mpr ?_
        rw [er] at z ⊢
        refine ha ⟨c2, z⟩ _ q1 q2 ?_
        unfold m_bkK
        rw [if_neg (by omega), f0 0 19 (by decide)]
        unfold m_thK
        rw [if_neg (by omega)]
        exact eD19
      · rw [ch_os_wr] at e2
        subst e2
        rw [er] at z
        refine ch_oi_iff.mpr (hc ⟨c2, z⟩ _ (fun i h => ?_) (fun a i h1 h2 h3 => ?_) (ch_bw_at _ _ _ _))
        · rw [ch_bw_c (by decide)]
          exact q1 i h
        · unfold ch_bw
          rw [if_neg h3]
          exact q2 a i h1 h2 h3
    · intro k hk ih B' o4 f0
      refine g_m_termsFor_86 g _ _ _ _ _ _ ?_
      have a1 : ¬ (63 : Int32) ≤ nI k := nI_ge (b := 63) hk (by decide)
      refine ⟨fun z => absurd z a1, fun _ => ⟨vp_in_nI hk (by decide), fun m4 e4 => ?_⟩⟩
      have e3 : m_bkK D B' k 3 k = D 1 k := by
        unfold m_bkK
        rw [if_neg (by omega), f0 3 k (by decide)]
        unfold m_thK
        rw [if_pos ⟨rfl, hk⟩]
      rw [ch_os_wr, nI_clamp (by omega), ch_os_at, e3] at e4
      have e5 : ch_bw (m_bkK D B' k) 1 k (D 1 k) = m_bkK D B' (k + 1) := by
        funext a i
        unfold ch_bw m_bkK
        grind
      rw [e5] at e4
      subst e4
      rw [nI_1]
      exact ih B' o4 f0
  have e86 : ∀ B' : ch_B, m_bkK D B' 0 = B' := fun B' => by
    funext a i
    unfold m_bkK
    rw [if_neg (by omega)]
  -- the terms
  have key2 : ∀ d, d ≤ 40 → ∀ (Z B' : ch_B) o4, y_inv T_ Z → m_rel Z (B' 1) → (∀ a i, a ≠ 1 → B' a i = m_thK D 63 a i) → X = x_tt p1 d (nI (41 - d)) Z → ch_J g m_m_termsFor (ch_rm m_m_termsFor) (ch_E g m_m_termsFor (ch_oi q)) 49 [some (.inr (9, 0, 0)), some (.inl (.int p1)), some (.inl (.int 0)), some (.inl (.int (nI (41 - d)))), o4] [] (ch_os m 9 0 B') 0 := by
    intro d
    induction d with
    | zero =>
      intro _ Z B' o4 iz r f0 hX
      refine g_m_termsFor_49 g _ _ _ _ _ _ ?_
      refine ⟨fun _ => ?_, fun z => absurd (by decide) z⟩
      have := key3 0 (by rw [hX]; rfl) 0 (by omega) B' o4 f0
      rw [e86] at this
      exact this
    | succ d ih =>
      intro hd Z B' o4 iz r f0 hX
      refine g_m_termsFor_49 g _ _ _ _ _ _ ?_
      refine ⟨fun z => absurd z (by rw [nI_41]; exact nI_ge (by omega) (by decide)), fun _ => ⟨fun z => absurd rfl z, fun _ => ⟨Z, r, T_, Z, r, iz, fun B8 h1 h2 m10 e10 => ?_⟩⟩⟩
      rw [ch_os_os] at e10
      have f8 : ∀ a i, a ≠ 1 → B8 a i = m_thK D 63 a i := fun a i h => by
        rw [h2 a i h, ch_ob_os]
        exact f0 a i h
      subst e10
      have hl := m_lost iz hneg
      rw [x_tt] at hX
      have e41 : nI (41 - (d + 1)) + 1 = nI (41 - d) := by rw [nI_1, show 41 - (d + 1) + 1 = 41 - d by omega]
      rw [e41]
      refine ⟨fun z => ?_, fun z => ?_⟩
      · rw [if_pos (hl.mp z), e41] at hX
        exact ih (by omega) _ B8 _ (y_term_inv hT iz) h1 f8 hX
      · rw [if_neg (fun y => z (hl.mpr y))] at hX
        have hr1 : nI (41 - (d + 1)) = X.1 := by rw [hX]
        have hne : ¬ nI (41 - (d + 1)) = 0 := nI_ne0 (by omega) (by omega)
        have h3 := key3 _ hr1 0 (by omega) B8 (some (.inl (.int (y_ofS (Z 1) p1 0 12)))) f8
        rw [e86] at h3
        refine g_m_termsFor_49 g _ _ _ _ _ _ ?_
        exact ⟨fun _ => h3, fun _ => ⟨fun _ => h3, fun y => absurd y hne⟩⟩
  have key1 : ∀ k, k ≤ 63 → ∀ o3 o4, ch_J g m_m_termsFor (ch_rm m_m_termsFor) (ch_E g m_m_termsFor (ch_oi q)) 21 [some (.inr (9, 0, 0)), some (.inl (.int p1)), some (.inl (.int (nI k))), o3, o4] [] (ch_os m 9 0 (m_thK D k)) 0 := by
    refine ch_down (fun k => ∀ o3 o4, ch_J g m_m_termsFor (ch_rm m_m_termsFor) (ch_E g m_m_termsFor (ch_oi q)) 21 [some (.inr (9, 0, 0)), some (.inl (.int p1)), some (.inl (.int (nI k))), o3, o4] [] (ch_os m 9 0 (m_thK D k)) 0) 63 ?_ ?_
    · intro o3 o4
      refine g_m_termsFor_21 g _ _ _ _ _ _ ?_
      refine ⟨fun _ => ?_, fun z => absurd (by decide) z⟩
      refine key2 40 (Nat.le_refl _) Y_ _ o4 hi ?_ (fun a i h => rfl) eX
      have : m_thK D 63 1 = ch_ob m 9 0 1 := by
        funext i
        unfold m_thK
        rw [if_neg (by omega), eD1]
      rw [this]
      exact hr
    · intro k hk ih o3 o4
      refine g_m_termsFor_21 g _ _ _ _ _ _ ?_
      have a1 : ¬ (63 : Int32) ≤ nI k := nI_ge (b := 63) hk (by decide)
      refine ⟨fun z => absurd z a1, fun _ => ⟨vp_in_nI hk (by decide), fun m4 e4 => ?_⟩⟩
      have e3 : m_thK D k 1 k = D 1 k := by
        unfold m_thK
        rw [if_neg (by omega)]
      rw [ch_os_wr, nI_clamp (by omega), ch_os_at, e3] at e4
      have e5 : ch_bw (m_thK D k) 3 k (D 1 k) = m_thK D (k + 1) := by
        funext a i
        unfold ch_bw m_thK
        grind
      rw [e5] at e4
      subst e4
      rw [nI_1]
      exact ih o3 o4
  have h0 := key1 0 (by omega) none none
  have e0 : ch_os m 9 0 (m_thK D 0) = ch_wr m (9, 0, 0) 19 0 := by
    rw [ch_wr_os, ← eD]
    congr 1
    funext a i
    unfold m_thK
    rw [if_neg (by omega)]
  rw [e0] at h0
  exact h0
