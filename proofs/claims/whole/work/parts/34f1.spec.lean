/-- how many steps stand from p on, at most so many -/
def d_ns (T : ch_B) : Nat → Nat → Nat
  | _, 0 => 0
  | p, n + 1 => if 1 ≤ d_dg T (nI p) ∧ d_dg T (nI p) ≤ 3 then d_ns T (p + 1) n + 1 else 0
theorem d_ns_le (T : ch_B) (n : Nat) : ∀ p, d_ns T p n ≤ n := by
  induction n with
  | zero => exact fun p => Nat.le_refl _
  | succ n ih =>
    intro p
    rw [d_ns]
    split
    · have := ih (p + 1)
      omega
    · omega
theorem d_st_iff {T : ch_B} {p : Nat} (h1 : vp_in (T 0 1) 61) (hp : p < (T 0 1).toNatClampNeg) : (49 ≤ T 1 p ∧ T 1 p ≤ 51 ↔ 1 ≤ d_dg T (nI p) ∧ d_dg T (nI p) ≤ 3) ∧ (49 ≤ T 1 p ∧ T 1 p ≤ 51 → d_dg T (nI p) = T 1 p - 48) := by
  obtain ⟨a, b⟩ := d_dg_in h1 hp
  by_cases h : 48 ≤ T 1 p ∧ T 1 p ≤ 57
  · obtain ⟨-, e⟩ := a h
    obtain ⟨v, hv, ev⟩ := vp_in_of (ch_vp (x := T 1 p) (n := 58) (by decide) (fun z => absurd (Int32.lt_of_le_of_lt h.1 z) (by decide)) (fun z => absurd (Int32.le_trans z h.2) (by decide))) (by decide)
    have hl : 48 ≤ v := by
      have := h.1
      rw [ev] at this
      exact (nI_leI (a := 48) (by decide) (by omega)).mp this
    rw [e, ev, show (nI v - 48 : Int32) = nI (v - 48) from pk_sub (b := 48) hl]
    refine ⟨?_, fun _ => rfl⟩
    have e1 : (49 : Int32) ≤ nI v ↔ 49 ≤ v := nI_leI (a := 49) (by decide) (by omega)
    have e2 : nI v ≤ (51 : Int32) ↔ v ≤ 51 := nI_leI (b := 51) (by omega) (by decide)
    have e3 : (1 : Int32) ≤ nI (v - 48) ↔ 1 ≤ v - 48 := nI_leI (a := 1) (by decide) (by omega)
    have e4 : nI (v - 48) ≤ (3 : Int32) ↔ v - 48 ≤ 3 := nI_leI (b := 3) (by omega) (by decide)
    rw [e1, e2, e3, e4]
    omega
  · have hn := b h
    have n49 : ¬ (49 ≤ T 1 p ∧ T 1 p ≤ 51) := fun z => h ⟨Int32.le_trans (by decide) z.1, Int32.le_trans z.2 (by decide)⟩
    have n1 : ¬ (1 ≤ d_dg T (nI p) ∧ d_dg T (nI p) ≤ 3) := fun z => hn (Int32.le_trans (by decide) z.1)
    exact ⟨⟨fun z => absurd z n49, fun z => absurd z n1⟩, fun z => absurd z n49⟩
set_option maxHeartbeats 1600000 in
theorem s_m_hasSteps (g : ch_G) (q : Int32 → ch_M → Prop) (T_ : ch_B) (p_ : Nat) (m : ch_M) (h : (m_tx T_ (ch_ob m 9 0) p_) ∧ ((¬ d_ns T_ p_ 12 = 0) → (∀ (B_ : ch_B), (∀ a_ i_, a_ ≠ 9 → ¬ (a_ = 0 ∧ (i_ = 11 ∨ i_ = 21)) → B_ a_ i_ = ch_ob m 9 0 a_ i_) → (B_ 0 11 = nI (p_ + d_ns T_ p_ 12)) → (B_ 0 21 = nI (d_ns T_ p_ 12)) → (∀ k_, k_ < d_ns T_ p_ 12 → B_ 9 k_ = d_dg T_ (nI (p_ + k_))) → q 1 (ch_os m 9 0 B_))) ∧ ((d_ns T_ p_ 12 = 0) → (∀ (B_ : ch_B), (∀ a_ i_, a_ ≠ 9 → ¬ (a_ = 0 ∧ (i_ = 11 ∨ i_ = 21)) → B_ a_ i_ = ch_ob m 9 0 a_ i_) → (B_ 0 11 = nI p_) → q 0 (ch_os m 9 0 B_)))) : ch_C g m_m_hasSteps [.inr (9, 0, 0)] m (ch_oi q) := by
  refine e_m_hasSteps g _  m ?_
  obtain ⟨ht, ha, hb⟩ := h
  obtain ⟨L, hL, eL, cL, e10, e11, hp, h7⟩ := m_txL ht
  refine g_m_hasSteps_0 g _ _ ?_
  simp only [forall_eq, ch_wr_os]
  have key : ∀ n s (B : ch_B), s + n = 12 → p_ + s ≤ L → d_ns T_ p_ 12 = s + d_ns T_ (p_ + s) n → B 0 21 = nI s → B 0 11 = nI (p_ + s) → (∀ a i, a ≠ 9 → ¬ (a = 0 ∧ (i = 11 ∨ i = 21)) → B a i = ch_ob m 9 0 a i) → (∀ k, k < s → B 9 k = d_dg T_ (nI (p_ + k))) → ch_J g m_m_hasSteps (ch_rm m_m_hasSteps) (ch_E g m_m_hasSteps (ch_oi q)) 5 [some (.inr (9, 0, 0))] [] (ch_os m 9 0 B) 0 := by
    intro n
    induction n with
    | zero =>
      intro s B hs hl hd b21 b11 f0 b9
      have hd : d_ns T_ p_ 12 = s := hd
      have h12 : s = 12 := by omega
      refine g_m_hasSteps_5 g _ _ ?_
      simp only [ch_os_at, b21]
      refine ⟨fun _ => ⟨fun z => absurd z (nI_nle (by omega) (by omega)), fun _ => ch_oi_iff.mpr (ha (by omega) B f0 (by rw [hd]; exact b11) (by rw [hd]; exact b21) (fun k hk => b9 k (by omega)))⟩, fun z => absurd (by rw [h12]; decide) z⟩
    | succ n ih =>
      intro s B hs hl hd b21 b11 f0 b9
      have b10 : B 0 10 = nI L := (f0 0 10 (by decide) (by omega)).trans e10
      have b7 : ∀ i, i < L → B 7 i = T_ 1 i := fun i hi => (f0 7 i (by decide) (by omega)).trans (h7 i hi)
      have fin : ¬ (p_ + s < L ∧ 1 ≤ d_dg T_ (nI (p_ + s)) ∧ d_dg T_ (nI (p_ + s)) ≤ 3) → (nI s ≤ 0 → q 0 (ch_os m 9 0 B)) ∧ (¬ nI s ≤ 0 → q 1 (ch_os m 9 0 B)) := by
        intro hno
        have h0 : d_ns T_ (p_ + s) (n + 1) = 0 := by
          rw [d_ns]
          refine if_neg (fun z => ?_)
          by_cases l : p_ + s < L
          · exact hno ⟨l, z⟩
          · exact d_dg_out ht.1 (by omega) (by rw [cL]; exact l) (Int32.le_trans (by decide) z.1)
        have hds : d_ns T_ p_ 12 = s := by omega
        refine ⟨fun z => hb ?_ B f0 ?_, fun z => ha ?_ B f0 (by rw [hds]; exact b11) (by rw [hds]; exact b21) (fun k hk => b9 k (by omega))⟩
        · by_cases l : s = 0
          · omega
          · exact absurd z (nI_nle (by omega) (by omega))
        · by_cases l : s = 0
          · rw [b11, l, Nat.add_zero]
          · exact absurd z (nI_nle (by omega) (by omega))
        · intro y
          exact z (by rw [show s = 0 by omega]; decide)
      refine g_m_hasSteps_5 g _ _ ?_
      simp only [ch_oi_iff, forall_eq, ch_os_at, ch_os_wr, b21, b11, b10, nI_1, nI_clamp (show p_ + s < 2 ^ 31 by omega), nI_clamp (show s < 2 ^ 31 by omega), ch_bw_c (show (7 : Nat) ≠ 0 by decide), ch_bw_k (show (11 : Nat) ≠ 21 by decide)]
      refine ⟨fun z => absurd z (show ¬ (12 : Int32) ≤ nI s from nI_ge (b := 12) (by omega) (by decide)), fun _ => ⟨fun z => fin (fun y => absurd z (nI_ge y.1 (by omega))), fun z => ?_⟩⟩
      have hlt : p_ + s < L := by
        have hw : ¬ L ≤ p_ + s := fun w => z (nI_le w (by omega))
        omega
      obtain ⟨i1, i2⟩ := d_st_iff ht.1 (show p_ + s < (T_ 0 1).toNatClampNeg by rw [cL]; exact hlt)
      rw [b7 _ hlt]
      refine ⟨vp_in_nI (by omega) (by decide), fun w => ⟨vp_in_nI (by omega) (by decide), vp_in_nI (by omega) (by decide), ?_⟩, fun w => fin (fun y => w (i1.mpr y.2))⟩
      rw [← i2 w]
      refine ih (s + 1) _ (by omega) (by omega) ?_ ?_ ?_ (fun a i h1 h2 => ?_) (fun k hk => ?_)
      · rw [hd, d_ns, if_pos (i1.mp w), show p_ + (s + 1) = p_ + s + 1 by omega]
        omega
      · rw [ch_bw_c (by decide), ch_bw_k (by decide), ch_bw_at]
      · rw [ch_bw_c (by decide), ch_bw_at, show p_ + (s + 1) = p_ + s + 1 by omega]
      · rw [ch_bw_c h1]
        unfold ch_bw
        rw [if_neg (by omega), if_neg (by omega)]
        exact f0 a i h1 h2
      · by_cases e : k = s
        · rw [e, ch_bw_at]
        · rw [ch_bw_k e, ch_bw_c (by decide), ch_bw_c (by decide)]
          exact b9 k (by omega)
  refine key 12 0 _ rfl (by omega) ?_ (ch_bw_at _ _ _ _) ?_ (fun a i h1 h2 => ?_) (fun k hk => absurd hk (by omega))
  · rw [Nat.add_zero]
    omega
  · rw [ch_bw_k (by decide)]
    exact e11
  · unfold ch_bw
    rw [if_neg (by omega)]
