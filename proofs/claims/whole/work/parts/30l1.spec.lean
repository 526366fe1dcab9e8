set_option maxHeartbeats 1600000 in
theorem s_m_rains (g : ch_G) (q : Int32 → ch_M → Prop) (T_ : Nat) (Y_ : ch_B) (p1 : Int32) (m : ch_M) (h : (m_rel Y_ (m (9, 0, 1))) ∧ (y_inv T_ Y_) ∧ (((r_wr Y_ p1).1 = 0) → (∀ (B_ : ch_B), (m_did (ch_ob m 9 0) B_ (y_washB Y_ p1) (y_washR Y_ p1)) → q 1 (ch_os m 9 0 B_))) ∧ ((¬ (r_wr Y_ p1).1 = 0) → q 0 (ch_os m 9 0 (m_refB (ch_ob m 9 0) (r_wr Y_ p1).1 (r_wr Y_ p1).2)))) : ch_C g m_m_rains [.inr (9, 0, 0), .inl (.int p1)] m (ch_oi q) := by
  refine e_m_rains g _ p1 m ?_
  obtain ⟨hr, hi, ha, hb⟩ := h
  have hB : m_rel Y_ (ch_ob m 9 0 1) := hr
  unfold r_wr at ha hb
  refine g_m_rains_0 g _ _ _ ⟨fun c => ?_, fun c => ?_⟩
  · rw [if_pos c] at ha hb
    obtain ⟨ρ, hρ, rfl⟩ := vp_in_of (ch_vp (x := p1) (n := 10) (by decide) (by have := c.1; grind) (by
      have h1 := c.2
      intro z
      exact absurd (Int32.le_trans z h1) (by decide))) (by decide)
    obtain ⟨n, hn, en⟩ := vp_in_of (y_i8 hi) (by decide)
    obtain ⟨s, hs, es⟩ := vp_in_of (y_i9 hi) (by decide)
    obtain ⟨a, hA, eA⟩ := ch_cnO_nn (Y_ 1) (-1) 12
    have cn : (Y_ 0 8).toNatClampNeg = n := by rw [en, nI_clamp (by omega)]
    have e8 : m (9, 0, 1) 8 = nI s := (m_st hr).trans es
    have e12 : (12 - nI a + nI s : Int32) = nI (12 - a + s) := by
      rw [show (12 : Int32) = nI 12 from rfl, pk_sub hA, nI_add]
    have hz : (Y_ 0 9 = 0 ∧ ch_cnO (Y_ 1) (-1) 12 = 12) ↔ nI (12 - a + s) = 0 := by
      rw [es, eA]
      refine ⟨fun z => ?_, fun z => ?_⟩
      · have h1 : s = 0 := (nI_eq (b := 0) (by omega) (by decide)).mp z.1
        have h2 : a = 12 := (nI_eq (b := 12) (by omega) (by decide)).mp z.2
        rw [h1, h2]
        decide
      · have h0 : 12 - a + s = 0 := by
          by_cases e : 12 - a + s = 0
          · exact e
          · exact absurd z (nI_ne0 (by omega) (by omega))
        have h1 : s = 0 := by omega
        have h2 : a = 12 := by omega
        rw [h1, h2]
        exact ⟨by decide, by decide⟩
    obtain ⟨eqv, eW⟩ := m_wash hi hρ hn en
    refine ⟨Y_, hr, y_iow hi, ?_⟩
    rw [eA, e8, e12]
    refine ⟨fun d => ⟨Y_, hr, y_i8 hi, ?_⟩, fun d => ?_⟩
    · rw [if_neg (fun z => d (hz.mp z))] at ha
      have ha := ha rfl
      rw [cn, ← eW]
      rw [show y_washR Y_ (nI ρ) = y_washR Y_ (nI ρ) from rfl]
      have key2 : ∀ k, k ≤ n → ∀ B' : ch_B, m_rel (m_wc (y_wk Y_ (nI ρ) 12).1 (nI ρ) k) (B' 1) → (∀ a i, a ≠ 1 → B' a i = ch_ob m 9 0 a i) → ch_J g m_m_rains (ch_rm m_m_rains) (ch_E g m_m_rains (ch_oi q)) 103 [some (.inr (9, 0, 0)), some (.inl (.int (nI ρ))), some (.inl (.int (y_washR Y_ (nI ρ)))), some (.inl (.int (nI k)))] [] (ch_os m 9 0 B') 0 := by
        obtain ⟨w, hw⟩ := y_war hi
        have e08 : ∀ k, k ≤ n → m_wc (y_wk Y_ (nI ρ) 12).1 (nI ρ) k 0 8 = nI n := fun k hk => by
          have := (m_WI_n hi hw hs es hρ k (by omega)).2.2.2 0 8 (by decide) (by decide) (fun _ => ⟨by decide, by decide⟩)
          rw [this, y_wk_o _ _ _ _ _ (by decide) (by decide), en]
        refine ch_down _ n ?_ ?_
        · intro B' r f0
          refine g_m_rains_103 g _ _ _ _ _ ?_
          simp only [ch_oi_iff, forall_eq, ch_os_at, ch_os_wr, (m_co r).trans (e08 n (Nat.le_refl n))]
          refine ⟨fun _ => ha _ ⟨?_, ch_bw_at _ _ _ _, ?_⟩, fun z => absurd (nI_le (Nat.le_refl n) (by omega)) z⟩
          · rw [ch_bw1 (by decide)]
            exact m_rel_eqv r eqv
          · intro a i h1 h2
            rw [← f0 a i h1]
            unfold ch_bw
            rw [if_neg h2]
        · intro k hk ih B' r f0
          obtain ⟨a1, a2, a3, a4⟩ := ch_kn hk (by omega)
          obtain ⟨b5, ⟨s', e9, el, -⟩, -, -⟩ := m_WI_n hi hw hs es hρ k (by omega)
          have ew : m_wc (y_wk Y_ (nI ρ) 12).1 (nI ρ) k 5 k = nI (w k) := by rw [b5 k (by omega), if_neg (by omega)]
          have eB : B' 1 (38 + 5 * k + 2) = nI (w k) := (m_wa r (by omega)).trans ew
          refine g_m_rains_103 g _ _ _ _ _ ?_
          simp only [ch_oi_iff, forall_eq, ch_os_at, ch_os_wr, (m_co r).trans (e08 k (by omega)), a3, a4, eB, ch_bw_at, ch_ob_os, ch_os_os]
          rw [m_wc, ew] at ih
          have r1 := m_rel_w (f := 2) (v := nI (w k) - nI ρ) r (by omega) (show k < 5 by omega)
          refine ⟨fun z => absurd z a1, fun _ => ⟨vp_in_nI (by omega) (by decide), fun d => ⟨fun e => ?_, fun e => ?_⟩, fun d => ?_⟩⟩
          · rw [if_neg d, if_pos e] at ih
            refine ⟨_, r1, ?_, ?_⟩
            · rw [ch_bw_c (by decide), e9]
              exact vp_in_nI (by omega) (by decide)
            · intro B h1 h2
              have w5 := h1.1.2.2.2.2.2.1
              have r3 := m_rel_0 (i := 5) (v := m_wc (y_wk Y_ (nI ρ) 12).1 (nI ρ) k 0 14 + 1) h1 (by omega)
              have e14 : m_clB (ch_bw (m_wc (y_wk Y_ (nI ρ) 12).1 (nI ρ) k) (3 + 2) k (nI (w k) - nI ρ)) k 0 14 = m_wc (y_wk Y_ (nI ρ) 12).1 (nI ρ) k 0 14 := by
                unfold m_clB
                rw [if_neg (by decide), if_neg (by omega), if_neg (by omega)]
                exact ch_bw_c (by decide)
              rw [w5, e14]
              refine ih _ r3 ?_
              intro a i ha
              rw [ch_bw_c ha, h2 a i ha, ch_bw_c ha]
              exact f0 a i ha
          · rw [if_neg d, if_neg e] at ih
            refine ih _ r1 ?_
            intro a i ha
            rw [ch_bw_c ha]
            exact f0 a i ha
          · rw [if_pos d] at ih
            exact ih B' r f0
      have key1 : ∀ k, k ≤ 12 → ∀ B' : ch_B, m_rel (y_wk Y_ (nI ρ) k).1 (B' 1) → (∀ a i, a ≠ 1 → B' a i = ch_ob m 9 0 a i) → ch_J g m_m_rains (ch_rm m_m_rains) (ch_E g m_m_rains (ch_oi q)) 48 [some (.inr (9, 0, 0)), some (.inl (.int (nI ρ))), some (.inl (.int (y_washR Y_ (nI ρ)))), some (.inl (.int (nI k)))] [] (ch_os m 9 0 B') 0 := by
        refine ch_down _ 12 ?_ ?_
        · intro B' r f0
          refine g_m_rains_48 g _ _ _ _ _ ?_
          refine ⟨fun _ => key2 0 (by omega) B' r f0, fun z => absurd (by decide) z⟩
        · intro k hk ih B' r f0
          obtain ⟨a1, a2, a3, a4⟩ := ch_k12 hk
          obtain ⟨v, hv, ev, h1, h2, h3⟩ := y_wk_s hi hρ hk
          have eB : B' 1 (15 + 2 * k) = nI v := (m_ck r hk).trans ((y_wk_far Y_ (nI ρ) k (by omega) k (Nat.le_refl k)).2.trans ev)
          refine g_m_rains_48 g _ _ _ _ _ ?_
          simp only [forall_eq, ch_os_at, ch_os_wr, a3, a4, m_e14, m_e15', nI_clamp (show 15 + 2 * k < 2 ^ 31 by omega), eB, ch_bw_at]
          refine ⟨fun z => absurd z a1, fun _ => ⟨a2, fun d => ⟨vp_in_nI (by omega) (by decide), fun e => ?_, fun e => ?_⟩, fun d => ?_⟩⟩
          · have hv0 : ¬ v = 0 := fun z => d (by rw [z]; decide)
            have hl : ρ < v := by
              rw [Int32.lt_iff_toInt_lt, pk_sub_toInt (by omega) (by omega), show (0 : Int32).toInt = 0 by decide] at e
              omega
            rw [h3 hv0 hl] at ih
            have r1 := m_rel_2 (v := nI v - nI ρ) r hk
            refine ih _ (m_rel_cast r1 ?_) ?_
            · rw [pk_sub (by omega)]
            · intro a i ha
              rw [ch_bw_c ha]
              exact f0 a i ha
          · have hv0 : ¬ v = 0 := fun z => d (by rw [z]; decide)
            have hl : v ≤ ρ := by
              by_cases l : v ≤ ρ
              · exact l
              · refine absurd ?_ e
                rw [pk_sub (by omega)]
                exact nI_lt (a := 0) (by omega) (by omega)
            rw [h2 hv0 hl] at ih
            have r3 := m_rel_2 (v := 0) (m_rel_1 (v := -1) (w := 0) (m_rel_2 (v := nI v - nI ρ) r hk) hk (by decide)) hk
            refine ih _ (m_rel_cast r3 ?_) ?_
            · funext a i
              unfold ch_bw
              grind
            · intro a i ha
              rw [ch_bw_c ha, ch_bw_c ha, ch_bw_c ha]
              exact f0 a i ha
          · rw [h1 (by
              by_cases l : v = 0
              · exact l
              · exact absurd d (nI_ne0 (by omega) (by omega)))] at ih
            exact ih B' r f0
      have h0 := key1 0 (by omega) (ch_ob m 9 0) hr (fun _ _ _ => rfl)
      rw [ch_os_self] at h0
      exact h0
    · rw [if_pos (hz.mpr d)] at hb
      simp only [ch_oi_iff, forall_eq, ch_os_wr, ch_wr_os, ch_ob_os, ch_os_os, ch_os_at]
      exact hb (m_nz (by decide))
  · rw [if_neg c] at hb
    simp only [ch_oi_iff, forall_eq, ch_os_wr, ch_wr_os, ch_ob_os, ch_os_os, ch_os_at]
    exact hb (m_nz (by decide))
