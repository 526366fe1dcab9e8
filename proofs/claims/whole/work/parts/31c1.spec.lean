/-- the line as the class has written it, and as the reference has: so long -/
def m_lr (T B : ch_B) (l : Nat) : Prop := T 0 1 = nI l ∧ B 0 8 = nI l ∧ ∀ k, k < l → B 6 k = T 1 k
theorem m_lr_put {T B : ch_B} {l : Nat} {p : Int32} (h : m_lr T B l) (hl : l < 60) : m_lr (t_putB T p) (m_sgB B p) (l + 1) := by
  obtain ⟨h1, h2, h3⟩ := h
  have e : t_putB T p = ch_bw (ch_bw T 1 l (vp_nar .char p)) 0 1 (nI l + 1) := by
    unfold t_putB
    rw [h1, if_neg (show ¬ (60 : Int32) ≤ nI l from nI_ge (b := 60) hl (by decide)), nI_clamp (by omega)]
  have e2 : m_sgB B p = ch_bw (ch_bw B 0 8 (nI l + 1)) 6 l (vp_nar .char p) := by
    unfold m_sgB
    rw [h2, nI_clamp (by omega)]
  rw [e, e2]
  refine ⟨?_, ?_, fun k hk => ?_⟩
  · rw [ch_bw_at, nI_1]
  · rw [ch_bw_c (by decide), ch_bw_at, nI_1]
  · by_cases ek : k = l
    · subst ek
      rw [ch_bw_at, ch_bw_c (by decide), ch_bw_at]
    · rw [ch_bw_k ek, ch_bw_c (by decide), ch_bw_c (by decide), ch_bw_k ek]
      exact h3 k (by omega)
theorem m_lr_pair {T B : ch_B} {l : Nat} {a b c : Int32} (h : m_lr T B l) (hl : l + 2 < 60) : m_lr (x_pB T a b c) (m_sgB (m_sgB (m_sgB B (x_c48 a)) b) (x_c48 c)) (l + 3) :=
  m_lr_put (m_lr_put (m_lr_put h (by omega)) (by omega)) (by omega)
theorem m_sgB_o {B : ch_B} {p : Int32} {a i : Nat} (h1 : a ≠ 6) (h2 : ¬ (a = 0 ∧ i = 8)) : m_sgB B p a i = B a i := by
  unfold m_sgB
  rw [ch_bw_c h1]
  unfold ch_bw
  rw [if_neg h2]
theorem m_sgB_8 (B : ch_B) (p : Int32) : m_sgB B p 0 8 = B 0 8 + 1 := by
  unfold m_sgB
  rw [ch_bw_c (by decide), ch_bw_at]
set_option maxHeartbeats 1600000 in
theorem s_m_line (g : ch_G) (q : Int32 → ch_M → Prop) (Y_ : ch_B) (A_ : ch_B) (m : ch_M) (h : (m_rel Y_ (m (9, 0, 1))) ∧ (∀ i_, i_ < 12 → Y_ 1 i_ = -1 ∨ vp_in (Y_ 1 i_) 5) ∧ (∀ (B_ : ch_B), (∀ a_ i_, a_ ≠ 6 → ¬ (a_ = 0 ∧ (i_ = 8 ∨ i_ = 19)) → B_ a_ i_ = ch_ob m 9 0 a_ i_) → (B_ 0 19 = 0) → (B_ 0 8 = x_ln Y_ A_ 12 0 1) → (∀ k_, k_ < Int32.toNatClampNeg (x_ln Y_ A_ 12 0 1) → B_ 6 k_ = x_ln Y_ A_ 12 1 k_) → q (x_ln Y_ A_ 12 0 1) (ch_os m 9 0 B_))) : ch_C g m_m_line [.inr (9, 0, 0)] m (ch_oi q) := by
  refine e_m_line g _  m ?_
  obtain ⟨hr, ho, hq⟩ := h
  refine g_m_line_0 g _ _ ?_
  simp only [forall_eq]
  have key : ∀ k, k ≤ 12 → ∀ (B' : ch_B) (l : Nat), m_lr (x_ln Y_ A_ k) B' l → l ≤ 4 * k → (l = 0 ↔ k = 0) → (∀ a i, a ≠ 6 → ¬ (a = 0 ∧ (i = 8 ∨ i = 19)) → B' a i = ch_ob m 9 0 a i) → B' 0 19 = 0 → ch_J g m_m_line (ch_rm m_m_line) (ch_E g m_m_line (ch_oi q)) 12 [some (.inr (9, 0, 0)), some (.inl (.int (nI k)))] [] (ch_os m 9 0 B') 0 := by
    refine ch_down _ 12 ?_ ?_
    · intro B' l hl h4 hz f0 h19
      refine g_m_line_12 g _ _ _ ?_
      refine ⟨fun _ => ?_, fun z => absurd (by decide) z⟩
      rw [ch_os_at]
      refine ch_oi_iff.mpr ?_
      rw [hl.2.1, ← hl.1]
      exact hq B' f0 h19 (hl.2.1.trans hl.1.symm) (fun k hk => hl.2.2 k (by rw [hl.1, nI_clamp (by omega)] at hk; exact hk))
    · intro k hk ih B' l hl h4 hz f0 h19
      obtain ⟨a1, a2, a3, a4⟩ := ch_k12 hk
      have r : m_rel Y_ (B' 1) := by
        have : B' 1 = ch_ob m 9 0 1 := by
          funext i
          exact f0 1 i (by decide) (by omega)
        rw [this]
        exact hr
      have eo := m_ow r hk
      have ec := m_ck r hk
      have hneg : 0 ≤ Y_ 1 k ↔ ¬ Y_ 1 k = -1 := by
        rcases ho k hk with h | h
        · rw [h]
          exact ⟨fun z => absurd z (by decide), fun z => absurd rfl z⟩
        · obtain ⟨j, hj, ej⟩ := vp_in_of h (by decide)
          rw [ej]
          exact ⟨fun _ => m_nc hj, fun _ => nI_pos' (by omega)⟩
      have fo : ∀ (B'' : ch_B), (∀ a i, a ≠ 6 → ¬ (a = 0 ∧ i = 8) → B'' a i = B' a i) → (∀ a i, a ≠ 6 → ¬ (a = 0 ∧ (i = 8 ∨ i = 19)) → B'' a i = ch_ob m 9 0 a i) ∧ B'' 0 19 = 0 := fun B'' h => ⟨fun a i h1 h2 => (h a i h1 (by omega)).trans (f0 a i h1 h2), (h 0 19 (by decide) (by omega)).trans h19⟩
      refine g_m_line_12 g _ _ _ ?_
      simp only [forall_eq, ch_os_at, ch_ob_os, ch_os_os, a3, a4, eo, ec, hl.2.1, m_sgB_8, nI_1, m_sgB_o (show (1 : Nat) ≠ 6 by decide) (show ¬ ((1 : Nat) = 0 ∧ 14 + 2 * k = 8) by omega), m_sgB_o (show (1 : Nat) ≠ 6 by decide) (show ¬ ((1 : Nat) = 0 ∧ 15 + 2 * k = 8) by omega)]
      rw [x_ln] at ih
      refine ⟨fun z => absurd z a1, fun _ => ⟨fun d => ⟨a2, fun e => ⟨vp_in_nI (by omega) (by decide), ?_⟩, fun e => ⟨vp_in_nI (by omega) (by decide), ?_⟩⟩, fun d => ⟨vp_in_nI (by omega) (by decide), a2, fun e => ⟨vp_in_nI (by omega) (by decide), ?_⟩, fun e => ⟨vp_in_nI (by omega) (by decide), ?_⟩⟩⟩⟩
      · have k0 : k = 0 := by
          by_cases h : k = 0
          · exact h
          · exact absurd d (nI_nle (by omega) (by omega))
        have eb : x_bB (x_ln Y_ A_ k) = x_ln Y_ A_ k := if_pos (by rw [hl.1, hz.mpr k0]; decide)
        rw [if_neg (hneg.mp e), eb] at ih
        obtain ⟨f1, f2⟩ := fo (m_sgB (m_sgB (m_sgB B' (x_c48 (Y_ 1 k))) 47) (x_c48 (Y_ 2 k))) (fun a i h1 h2 => by rw [m_sgB_o h1 h2, m_sgB_o h1 h2, m_sgB_o h1 h2])
        exact ih _ (l + 3) (m_lr_pair hl (by omega)) (by omega) (by omega) f1 f2
      · have k0 : k = 0 := by
          by_cases h : k = 0
          · exact h
          · exact absurd d (nI_nle (by omega) (by omega))
        have eb : x_bB (x_ln Y_ A_ k) = x_ln Y_ A_ k := if_pos (by rw [hl.1, hz.mpr k0]; decide)
        have en : Y_ 1 k = -1 := by
          by_cases h : Y_ 1 k = -1
          · exact h
          · exact absurd (hneg.mpr h) e
        rw [if_pos en, eb] at ih
        obtain ⟨f1, f2⟩ := fo (m_sgB B' 46) (fun a i h1 h2 => m_sgB_o h1 h2)
        exact ih _ (l + 1) (m_lr_put hl (by omega)) (by omega) (by omega) f1 f2
      · have k0 : k ≠ 0 := fun z => d (by rw [z]; decide)
        have l0 : l ≠ 0 := fun z => k0 (hz.mp z)
        have eb : x_bB (x_ln Y_ A_ k) = t_putB (x_ln Y_ A_ k) 32 := if_neg (by rw [hl.1]; exact nI_nle (by omega) (by omega))
        rw [if_neg (hneg.mp e), eb] at ih
        obtain ⟨f1, f2⟩ := fo (m_sgB (m_sgB (m_sgB (m_sgB B' 32) (x_c48 (Y_ 1 k))) 47) (x_c48 (Y_ 2 k))) (fun a i h1 h2 => by rw [m_sgB_o h1 h2, m_sgB_o h1 h2, m_sgB_o h1 h2, m_sgB_o h1 h2])
        exact ih _ (l + 1 + 3) (m_lr_pair (m_lr_put hl (by omega)) (by omega)) (by omega) (by omega) f1 f2
      · have k0 : k ≠ 0 := fun z => d (by rw [z]; decide)
        have l0 : l ≠ 0 := fun z => k0 (hz.mp z)
        have eb : x_bB (x_ln Y_ A_ k) = t_putB (x_ln Y_ A_ k) 32 := if_neg (by rw [hl.1]; exact nI_nle (by omega) (by omega))
        have en : Y_ 1 k = -1 := by
          by_cases h : Y_ 1 k = -1
          · exact h
          · exact absurd (hneg.mpr h) e
        rw [if_pos en, eb] at ih
        obtain ⟨f1, f2⟩ := fo (m_sgB (m_sgB B' 32) 46) (fun a i h1 h2 => by rw [m_sgB_o h1 h2, m_sgB_o h1 h2])
        exact ih _ (l + 1 + 1) (m_lr_put (m_lr_put hl (by omega)) (by omega)) (by omega) (by omega) f1 f2
  simp only [ch_wr_os, ch_os_os, ch_ob_os]
  refine key 0 (by omega) _ 0 ⟨?_, ch_bw_at _ _ _ _, fun k hk => absurd hk (by omega)⟩ (by omega) (by omega) ?_ ?_
  · rw [x_ln, ch_bw_at]
    rfl
  · intro a i h1 h2
    unfold ch_bw
    rw [if_neg (by omega), if_neg (by omega)]
  · rw [ch_bw_k (by decide), ch_bw_at]
set_option maxHeartbeats 1600000 in
theorem s_m_warrants (g : ch_G) (q : Int32 → ch_M → Prop) (Y_ : ch_B) (A_ : ch_B) (m : ch_M) (h : (m_rel Y_ (m (9, 0, 1))) ∧ (vp_in (Y_ 0 9) 6) ∧ (∀ i_, i_ < 5 → vp_in (Y_ 8 i_) 5) ∧ (∀ (B_ : ch_B), (∀ a_ i_, a_ ≠ 6 → ¬ (a_ = 0 ∧ (i_ = 8 ∨ i_ = 19)) → B_ a_ i_ = ch_ob m 9 0 a_ i_) → (B_ 0 19 = 0) → (B_ 0 8 = x_wn Y_ A_ (Int32.toNatClampNeg (Y_ 0 9)) 0 1) → (∀ k_, k_ < Int32.toNatClampNeg (x_wn Y_ A_ (Int32.toNatClampNeg (Y_ 0 9)) 0 1) → B_ 6 k_ = x_wn Y_ A_ (Int32.toNatClampNeg (Y_ 0 9)) 1 k_) → q (x_wn Y_ A_ (Int32.toNatClampNeg (Y_ 0 9)) 0 1) (ch_os m 9 0 B_))) : ch_C g m_m_warrants [.inr (9, 0, 0)] m (ch_oi q) := by
  refine e_m_warrants g _  m ?_
  obtain ⟨hr, h9, h8k, hq⟩ := h
  obtain ⟨n, hn, en⟩ := vp_in_of h9 (by decide)
  have cn : (Y_ 0 9).toNatClampNeg = n := by rw [en, nI_clamp (by omega)]
  rw [cn] at hq
  refine g_m_warrants_0 g _ _ ?_
  simp only [forall_eq]
  have key : ∀ k, k ≤ n → ∀ (B' : ch_B) (l : Nat), m_lr (x_wn Y_ A_ k) B' l → l ≤ 4 * k → (l = 0 ↔ k = 0) → (∀ a i, a ≠ 6 → ¬ (a = 0 ∧ (i = 8 ∨ i = 19)) → B' a i = ch_ob m 9 0 a i) → B' 0 19 = 0 → ch_J g m_m_warrants (ch_rm m_m_warrants) (ch_E g m_m_warrants (ch_oi q)) 12 [some (.inr (9, 0, 0)), some (.inl (.int (nI k)))] [] (ch_os m 9 0 B') 0 := by
    have r8 : ∀ B' : ch_B, (∀ a i, a ≠ 6 → ¬ (a = 0 ∧ (i = 8 ∨ i = 19)) → B' a i = ch_ob m 9 0 a i) → m_rel Y_ (B' 1) := fun B' f0 => by
      have : B' 1 = ch_ob m 9 0 1 := by
        funext i
        exact f0 1 i (by decide) (by omega)
      rw [this]
      exact hr
    refine ch_down _ n ?_ ?_
    · intro B' l hl h4 hz f0 h19
      refine g_m_warrants_12 g _ _ _ ?_
      rw [ch_os_at, ch_os_at, (m_st (r8 B' f0)).trans en]
      refine ⟨fun _ => ?_, fun z => absurd (nI_le (Nat.le_refl _) (by omega)) z⟩
      refine ch_oi_iff.mpr ?_
      rw [hl.2.1, ← hl.1]
      exact hq B' f0 h19 (hl.2.1.trans hl.1.symm) (fun k hk => hl.2.2 k (by rw [hl.1, nI_clamp (by omega)] at hk; exact hk))
    · intro k hk ih B' l hl h4 hz f0 h19
      obtain ⟨a1, a2, a3, a4⟩ := ch_kn hk (by omega)
      have r := r8 B' f0
      have e9 : (9 : Int32) + nI k = nI (9 + k) := nI_add 9 k
      have eo : B' 1 (9 + k) = Y_ 8 k := r.2.1 k (by omega) (by rw [cn]; exact hk)
      obtain ⟨c, hc, ec⟩ := vp_in_of (h8k k (by omega)) (by decide)
      rw [ec] at eo
      have cc : (nI c).toNatClampNeg = c := nI_clamp (by omega)
      have ew := m_wa r hc
      have fo : ∀ (B'' : ch_B), (∀ a i, a ≠ 6 → ¬ (a = 0 ∧ i = 8) → B'' a i = B' a i) → (∀ a i, a ≠ 6 → ¬ (a = 0 ∧ (i = 8 ∨ i = 19)) → B'' a i = ch_ob m 9 0 a i) ∧ B'' 0 19 = 0 := fun B'' h => ⟨fun a i h1 h2 => (h a i h1 (by omega)).trans (f0 a i h1 h2), (h 0 19 (by decide) (by omega)).trans h19⟩
      refine g_m_warrants_12 g _ _ _ ?_
      simp only [forall_eq, ch_os_at, ch_ob_os, ch_os_os, (m_st r).trans en, e9, nI_clamp (show 9 + k < 2 ^ 31 by omega), a4, eo, hl.2.1, m_sgB_8, nI_1, m_sgB_o (show (1 : Nat) ≠ 6 by decide) (show ¬ ((1 : Nat) = 0 ∧ 9 + k = 8) by omega), m_sgB_o (show (1 : Nat) ≠ 6 by decide) (show ¬ ((1 : Nat) = 0 ∧ 38 + 5 * c + 2 = 8) by omega), cc, ew]
      rw [x_wn, ec, cc] at ih
      refine ⟨fun z => absurd z a1, fun _ => ⟨fun d => ⟨vp_in_nI (by omega) (by decide), vp_in_nI hc (by decide), vp_in_nI (by omega) (by decide), ?_⟩, fun d => ⟨vp_in_nI (by omega) (by decide), vp_in_nI (by omega) (by decide), vp_in_nI hc (by decide), vp_in_nI (by omega) (by decide), ?_⟩⟩⟩
      · have k0 : k = 0 := by
          by_cases h : k = 0
          · exact h
          · exact absurd d (nI_nle (by omega) (by omega))
        have eb : x_bB (x_wn Y_ A_ k) = x_wn Y_ A_ k := if_pos (by rw [hl.1, hz.mpr k0]; decide)
        rw [eb] at ih
        obtain ⟨f1, f2⟩ := fo (m_sgB (m_sgB (m_sgB B' (x_c48 (nI c))) 33) (x_c48 (Y_ 5 c))) (fun a i h1 h2 => by rw [m_sgB_o h1 h2, m_sgB_o h1 h2, m_sgB_o h1 h2])
        exact ih _ (l + 3) (m_lr_pair hl (by omega)) (by omega) (by omega) f1 f2
      · have k0 : k ≠ 0 := fun z => d (by rw [z]; decide)
        have l0 : l ≠ 0 := fun z => k0 (hz.mp z)
        have eb : x_bB (x_wn Y_ A_ k) = t_putB (x_wn Y_ A_ k) 32 := if_neg (by rw [hl.1]; exact nI_nle (by omega) (by omega))
        rw [eb] at ih
        obtain ⟨f1, f2⟩ := fo (m_sgB (m_sgB (m_sgB (m_sgB B' 32) (x_c48 (nI c))) 33) (x_c48 (Y_ 5 c))) (fun a i h1 h2 => by rw [m_sgB_o h1 h2, m_sgB_o h1 h2, m_sgB_o h1 h2, m_sgB_o h1 h2])
        exact ih _ (l + 1 + 3) (m_lr_pair (m_lr_put hl (by omega)) (by omega)) (by omega) (by omega) f1 f2
  simp only [ch_wr_os, ch_os_os, ch_ob_os]
  refine key 0 (by omega) _ 0 ⟨?_, ch_bw_at _ _ _ _, fun k hk => absurd hk (by omega)⟩ (by omega) (by omega) ?_ ?_
  · rw [x_wn, ch_bw_at]
    rfl
  · intro a i h1 h2
    unfold ch_bw
    rw [if_neg (by omega), if_neg (by omega)]
  · rw [ch_bw_k (by decide), ch_bw_at]
