set_option maxHeartbeats 1600000 in
theorem s_q_indexOf (g : ch_G) (q : Int32 → ch_M → Prop) (p1 : Int32) (m : ch_M) (h : ((d_kd p1) → (∀ (r1_ : Int32), (0 ≤ r1_) → q r1_ m)) ∧ ((¬ d_kd p1) → q (-1) m)) : ch_C g m_q_indexOf [.inr (12, 0, 0), .inl (.int p1)] m (ch_oi q) := by
  refine e_q_indexOf g _ p1 m ?_
  obtain ⟨ha, hb⟩ := h
  refine g_q_indexOf_0 g _ _ _ ?_
  exact ⟨rfl, fun d r hr => ch_oi_iff.mpr (ha d r hr), fun d => ch_oi_iff.mpr (hb d)⟩
theorem d_sg_in {T : ch_B} {p : Nat} (h1 : vp_in (T 0 1) 61) (hp : p < (T 0 1).toNatClampNeg) : d_sg T (nI p) = T 1 p := by
  obtain ⟨L, hL, eL⟩ := vp_in_of h1 (by decide)
  rw [eL, nI_clamp (by omega)] at hp
  unfold d_sg
  rw [eL, if_pos ⟨nI_pos' (by omega), nI_lt hp (by omega), nI_lt (b := 60) (by omega) (by decide)⟩, nI_clamp (by omega)]
theorem d_sg_out {T : ch_B} {p : Nat} (h1 : vp_in (T 0 1) 61) (hp : p < 2 ^ 31) (h : ¬ p < (T 0 1).toNatClampNeg) : d_sg T (nI p) = -1 := by
  obtain ⟨L, hL, eL⟩ := vp_in_of h1 (by decide)
  rw [eL, nI_clamp (by omega)] at h
  unfold d_sg
  rw [eL, if_neg (fun z => h ((nI_ltI (by omega) (by omega)).mp z.2.1))]
theorem m_txL {T B : ch_B} {p : Nat} (h : m_tx T B p) : ∃ L, L ≤ 60 ∧ T 0 1 = nI L ∧ (T 0 1).toNatClampNeg = L ∧ B 0 10 = nI L ∧ B 0 11 = nI p ∧ p ≤ L ∧ ∀ k, k < L → B 7 k = T 1 k := by
  obtain ⟨h1, h2, h3, h4, h5⟩ := h
  obtain ⟨L, hL, eL⟩ := vp_in_of h1 (by decide)
  have cL : (T 0 1).toNatClampNeg = L := by rw [eL, nI_clamp (by omega)]
  rw [cL] at h3 h5
  exact ⟨L, by omega, eL, cL, h2.trans eL, h4, h5, h3⟩
set_option maxHeartbeats 1600000 in
theorem s_m_takes (g : ch_G) (q : Int32 → ch_M → Prop) (T_ : ch_B) (p_ : Nat) (p1 : Int32) (m : ch_M) (h : (m_tx T_ (ch_ob m 9 0) p_) ∧ (¬ (p1 : Int32) = -1) ∧ ((d_sg T_ (nI p_) = p1) → q 1 (ch_wr m (9, 0, 0) 11 (nI (p_ + 1)))) ∧ ((¬ d_sg T_ (nI p_) = p1) → q 0 m)) : ch_C g m_m_takes [.inr (9, 0, 0), .inl (.int p1)] m (ch_oi q) := by
  refine e_m_takes g _ p1 m ?_
  obtain ⟨ht, hc, ha, hb⟩ := h
  obtain ⟨L, hL, eL, cL, e10, e11, hp, h7⟩ := m_txL ht
  have f10 : m (9, 0, 0) 10 = nI L := e10
  have f11 : m (9, 0, 0) 11 = nI p_ := e11
  refine g_m_takes_0 g _ _ _ ?_
  simp only [ch_oi_iff, forall_eq]
  rw [f10, f11, nI_clamp (by omega), nI_1, nI_eq (by omega) (by omega)]
  refine ⟨fun z => hb ?_, fun z => ⟨vp_in_nI (by omega) (by decide), ?_⟩⟩
  · rw [d_sg_out ht.1 (by omega) (by omega)]
    exact fun y => hc y.symm
  · have es : d_sg T_ (nI p_) = m (9, 0, 7) p_ := by
      rw [d_sg_in ht.1 (by omega)]
      exact (h7 p_ (by omega)).symm
    rw [es] at ha hb
    exact ⟨fun y => ha y, fun y => hb y⟩
theorem d_dg_in {T : ch_B} {p : Nat} (h1 : vp_in (T 0 1) 61) (hp : p < (T 0 1).toNatClampNeg) : (48 ≤ T 1 p ∧ T 1 p ≤ 57 → 0 ≤ d_dg T (nI p) ∧ d_dg T (nI p) = T 1 p - 48) ∧ (¬ (48 ≤ T 1 p ∧ T 1 p ≤ 57) → ¬ 0 ≤ d_dg T (nI p)) := by
  unfold d_dg
  rw [d_sg_in h1 hp]
  refine ⟨fun h => ?_, fun h => ?_⟩
  · rw [if_pos h]
    refine ⟨?_, rfl⟩
    obtain ⟨v, hv, ev⟩ := vp_in_of (ch_vp (x := T 1 p) (n := 58) (by decide) (fun z => absurd (Int32.lt_of_le_of_lt h.1 z) (by decide)) (fun z => absurd (Int32.le_trans z h.2) (by decide))) (by decide)
    have hl : 48 ≤ v := by
      have := h.1
      rw [ev] at this
      exact (nI_leI (a := 48) (by decide) (by omega)).mp this
    rw [ev, show (nI v - 48 : Int32) = nI (v - 48) from pk_sub (b := 48) hl]
    exact nI_pos' (by omega)
  · rw [if_neg h]
    decide
theorem d_dg_out {T : ch_B} {p : Nat} (h1 : vp_in (T 0 1) 61) (hp : p < 2 ^ 31) (h : ¬ p < (T 0 1).toNatClampNeg) : ¬ 0 ≤ d_dg T (nI p) := by
  unfold d_dg
  rw [d_sg_out h1 hp h]
  decide
set_option maxHeartbeats 1600000 in
theorem s_m_digits (g : ch_G) (q : Int32 → ch_M → Prop) (T_ : ch_B) (p_ : Nat) (p1 : Int32) (p2 : Int32) (m : ch_M) (h : (m_tx T_ (ch_ob m 9 0) p_) ∧ (vp_in p1 3) ∧ ((p2 : Int32) = 1 ∨ (p2 : Int32) = 2) ∧ ((¬ 0 ≤ d_dg T_ (nI p_)) → q 0 (ch_os m 9 0 (ch_bw (ch_ob m 9 0) 8 (Int32.toNatClampNeg p1) 0))) ∧ ((0 ≤ d_dg T_ (nI p_) ∧ (p2 = 1 ∨ ¬ 0 ≤ d_dg T_ (nI (p_ + 1)))) → q 1 (ch_os m 9 0 (ch_bw (ch_bw (ch_ob m 9 0) 0 11 (nI (p_ + 1))) 8 (Int32.toNatClampNeg p1) (d_dg T_ (nI p_))))) ∧ ((0 ≤ d_dg T_ (nI p_) ∧ p2 = 2 ∧ 0 ≤ d_dg T_ (nI (p_ + 1))) → q 1 (ch_os m 9 0 (ch_bw (ch_bw (ch_ob m 9 0) 0 11 (nI (p_ + 2))) 8 (Int32.toNatClampNeg p1) (d_dg T_ (nI p_) * 10 + d_dg T_ (nI (p_ + 1))))))) : ch_C g m_m_digits [.inr (9, 0, 0), .inl (.int p1), .inl (.int p2)] m (ch_oi q) := by
  refine e_m_digits g _ p1 p2 m ?_
  obtain ⟨ht, hk, hm, ha, hb, hc⟩ := h
  obtain ⟨L, hL, eL, cL, e10, e11, hp, h7⟩ := m_txL ht
  obtain ⟨k, hk3, rfl⟩ := vp_in_of hk (by decide)
  have ck : (nI k).toNatClampNeg = k := nI_clamp (by omega)
  rw [ck] at ha hb hc
  refine g_m_digits_0 g _ _ _ _ ⟨hk, ?_⟩
  rw [ck]
  simp only [forall_eq, ch_wr_os]
  -- behind so many digits
  have stop : ∀ (n : Nat) (B : ch_B), B 0 10 = nI L → B 0 11 = nI (p_ + n) → (∀ i, i < L → B 7 i = T_ 1 i) → p_ + n ≤ L → n ≤ 2 → (nI n = p2 ∨ ¬ 0 ≤ d_dg T_ (nI (p_ + n))) → (n = 0 → q 0 (ch_os m 9 0 B)) → (¬ n = 0 → q 1 (ch_os m 9 0 B)) → ch_J g m_m_digits (ch_rm m_m_digits) (ch_E g m_m_digits (ch_oi q)) 9 [some (.inr (9, 0, 0)), some (.inl (.int (nI k))), some (.inl (.int p2)), some (.inl (.int (nI n)))] [] (ch_os m 9 0 B) 0 := by
    intro n B b10 b11 b7 hl hn2 hs h0 h1
    refine g_m_digits_9 g _ _ _ _ _ ?_
    have fin : (nI n ≤ 0 → q 0 (ch_os m 9 0 B)) ∧ (¬ nI n ≤ 0 → q 1 (ch_os m 9 0 B)) := by
      by_cases e : n = 0
      · subst e
        exact ⟨fun _ => h0 rfl, fun z => absurd (by decide) z⟩
      · exact ⟨fun z => absurd z (nI_nle (by omega) (by omega)), fun _ => h1 e⟩
    simp only [ch_oi_iff, ch_os_at, b10, b11, nI_clamp (show p_ + n < 2 ^ 31 by omega)]
    refine ⟨fun _ => fin, fun z => ⟨fun _ => fin, fun y => ⟨vp_in_nI (by
      have hw : ¬ L ≤ p_ + n := fun w => y (nI_le w (by omega))
      omega) (by decide), fun w => ?_, fun _ => fin⟩⟩⟩
    exfalso
    have hlt : p_ + n < L := by
      have hw : ¬ L ≤ p_ + n := fun w => y (nI_le w (by omega))
      omega
    rw [b7 _ hlt] at w
    rcases hs with hs | hs
    · exact z (by rw [hs]; exact Int32.le_refl _)
    · exact hs ((d_dg_in ht.1 (by rw [cL]; exact hlt)).1 w).1
  have next : ∀ (n : Nat) (B : ch_B), B 0 10 = nI L → B 0 11 = nI (p_ + n) → (∀ i, i < L → B 7 i = T_ 1 i) → n < 2 → ¬ p2 ≤ nI n → 0 ≤ d_dg T_ (nI (p_ + n)) → ch_J g m_m_digits (ch_rm m_m_digits) (ch_E g m_m_digits (ch_oi q)) 9 [some (.inr (9, 0, 0)), some (.inl (.int (nI k))), some (.inl (.int p2)), some (.inl (.int (nI (n + 1))))] [] (ch_os m 9 0 (ch_bw (ch_bw B 0 11 (nI (p_ + n + 1))) 8 k (10 * B 8 k + d_dg T_ (nI (p_ + n))))) 0 → ch_J g m_m_digits (ch_rm m_m_digits) (ch_E g m_m_digits (ch_oi q)) 9 [some (.inr (9, 0, 0)), some (.inl (.int (nI k))), some (.inl (.int p2)), some (.inl (.int (nI n)))] [] (ch_os m 9 0 B) 0 := by
    intro n B b10 b11 b7 hn2 hs hd hJ
    have hlt : p_ + n < L := by
      by_cases l : p_ + n < L
      · exact l
      · exact absurd hd (d_dg_out ht.1 (by omega) (by rw [cL]; exact l))
    have hdg := d_dg_in ht.1 (by rw [cL]; exact hlt)
    have hd2 : 48 ≤ T_ 1 (p_ + n) ∧ T_ 1 (p_ + n) ≤ 57 := by
      by_cases l : 48 ≤ T_ 1 (p_ + n) ∧ T_ 1 (p_ + n) ≤ 57
      · exact l
      · exact absurd hd (hdg.2 l)
    refine g_m_digits_9 g _ _ _ _ _ ?_
    simp only [ch_oi_iff, forall_eq, ch_os_at, ch_os_wr, b10, b11, nI_clamp (show p_ + n < 2 ^ 31 by omega), ck, nI_1, b7 _ hlt, ch_bw_c (show (7 : Nat) ≠ 0 by decide)]
    have e : (10 * B 8 k + T_ 1 (p_ + n) - 48 : Int32) = 10 * B 8 k + d_dg T_ (nI (p_ + n)) := by
      rw [(hdg.1 hd2).2]
      grind
    rw [e]
    exact ⟨fun z => absurd z hs, fun _ => ⟨fun z => absurd z (nI_ge hlt (by omega)), fun _ => ⟨vp_in_nI (by omega) (by decide), fun _ => ⟨hk, hJ⟩, fun z => absurd hd2 z⟩⟩⟩
  obtain ⟨B0, eB0⟩ : ∃ B0, B0 = ch_bw (ch_ob m 9 0) 8 k 0 := ⟨_, rfl⟩
  have g10 : B0 0 10 = nI L := by rw [eB0, ch_bw_c (by decide)]; exact e10
  have g11 : B0 0 11 = nI p_ := by rw [eB0, ch_bw_c (by decide)]; exact e11
  have g7 : ∀ i, i < L → B0 7 i = T_ 1 i := fun i hi => by rw [eB0, ch_bw_c (by decide)]; exact h7 i hi
  have g8 : B0 8 k = 0 := by rw [eB0, ch_bw_at]
  rw [← eB0]
  have hm0 : ¬ p2 ≤ nI 0 := by
    rcases hm with hm | hm <;> rw [hm] <;> decide
  by_cases d1 : 0 ≤ d_dg T_ (nI p_)
  · have ed : (10 * B0 8 k + d_dg T_ (nI (p_ + 0)) : Int32) = d_dg T_ (nI p_) := by
      rw [g8, Nat.add_zero]
      grind
    have hlt : p_ < L := by
      by_cases l : p_ < L
      · exact l
      · exact absurd d1 (d_dg_out ht.1 (by omega) (by rw [cL]; exact l))
    refine next 0 B0 g10 g11 g7 (by omega) hm0 d1 ?_
    rw [ed]
    obtain ⟨B1, eB1⟩ : ∃ B1, B1 = ch_bw (ch_bw B0 0 11 (nI (p_ + 0 + 1))) 8 k (d_dg T_ (nI p_)) := ⟨_, rfl⟩
    have i10 : B1 0 10 = nI L := by rw [eB1, ch_bw_c (by decide), ch_bw_k (by decide)]; exact g10
    have i11 : B1 0 11 = nI (p_ + 1) := by rw [eB1, ch_bw_c (by decide), ch_bw_at]
    have i7 : ∀ i, i < L → B1 7 i = T_ 1 i := fun i hi => by rw [eB1, ch_bw_c (by decide), ch_bw_c (by decide)]; exact g7 i hi
    have i8 : B1 8 k = d_dg T_ (nI p_) := by rw [eB1, ch_bw_at]
    have f1 : B1 = ch_bw (ch_bw (ch_ob m 9 0) 0 11 (nI (p_ + 1))) 8 k (d_dg T_ (nI p_)) := by
      rw [eB1, eB0]
      funext a i
      unfold ch_bw
      grind
    rw [← eB1]
    rcases hm with hm | hm
    · refine stop 1 B1 i10 i11 i7 (by omega) (by omega) (Or.inl hm.symm) (fun z => absurd z (by decide)) (fun _ => ?_)
      rw [f1]
      exact hb ⟨d1, Or.inl hm⟩
    · by_cases d2 : 0 ≤ d_dg T_ (nI (p_ + 1))
      · have hlt2 : p_ + 1 < L := by
          by_cases l : p_ + 1 < L
          · exact l
          · exact absurd d2 (d_dg_out ht.1 (by omega) (by rw [cL]; exact l))
        refine next 1 B1 i10 i11 i7 (by omega) (by rw [hm]; decide) d2 ?_
        have ed2 : (10 * B1 8 k + d_dg T_ (nI (p_ + 1)) : Int32) = d_dg T_ (nI p_) * 10 + d_dg T_ (nI (p_ + 1)) := by
          rw [i8]
          grind
        rw [ed2]
        have f2 : ch_bw (ch_bw B1 0 11 (nI (p_ + 1 + 1))) 8 k (d_dg T_ (nI p_) * 10 + d_dg T_ (nI (p_ + 1))) = ch_bw (ch_bw (ch_ob m 9 0) 0 11 (nI (p_ + 2))) 8 k (d_dg T_ (nI p_) * 10 + d_dg T_ (nI (p_ + 1))) := by
          rw [f1]
          funext a i
          unfold ch_bw
          grind
        rw [f2]
        refine stop 2 _ ?_ ?_ (fun i hi => ?_) (by omega) (by omega) (Or.inl hm.symm) (fun z => absurd z (by decide)) (fun _ => hc ⟨d1, hm, d2⟩)
        · rw [ch_bw_c (by decide), ch_bw_k (by decide)]; exact e10
        · rw [ch_bw_c (by decide), ch_bw_at]
        · rw [ch_bw_c (by decide), ch_bw_c (by decide)]; exact h7 i hi
      · refine stop 1 B1 i10 i11 i7 (by omega) (by omega) (Or.inr d2) (fun z => absurd z (by decide)) (fun _ => ?_)
        rw [f1]
        exact hb ⟨d1, Or.inr d2⟩
  · refine stop 0 B0 g10 g11 g7 (by omega) (by omega) (Or.inr d1) (fun _ => ?_) (fun z => absurd rfl z)
    rw [eB0]
    exact ha d1
