theorem r_chd {n c : Int32} {a b d : Int32 × Int32} (hd : ¬ d.1 = 0) (h : (if 0 ≤ c ∧ c < n then a else d).1 = 0) : (0 ≤ c ∧ c < n) ∧ a.1 = 0 := by
  by_cases l : 0 ≤ c ∧ c < n
  · rw [if_pos l] at h
    exact ⟨l, h⟩
  · rw [if_neg l] at h
    exact absurd h hd
theorem r_if {p : Prop} [Decidable p] {a d : Int32 × Int32} (hd : ¬ d.1 = 0) (h : (if p then a else d).1 = 0) : p ∧ a.1 = 0 := by
  by_cases l : p
  · rw [if_pos l] at h
    exact ⟨l, h⟩
  · rw [if_neg l] at h
    exact absurd h hd
theorem y_car_inv {T : Nat} (hT : T + 12 < 2 ^ 31) (hT0 : 0 < T) {Y K : ch_B} {f : Nat → Int32} {n : Int32} (h : y_inv T Y) (hn : vp_in n 13) (hw : (r_w Y K f n).1 = 0) : y_inv (T + 12) (y_car Y K f n.toNatClampNeg).2 ∧ y_carP Y K n := by
  have h8 := y_i8 h
  have h9 := y_i9 h
  have hk := y_i8k h
  have mono : ∀ Z, y_inv T Z → y_inv (T + 12) Z := fun Z hz => y_inv_mono hT hz (by omega)
  obtain ⟨z, hz, ez⟩ := vp_in_of hn (by decide)
  have cz : n.toNatClampNeg ≤ 12 := by rw [ez, nI_clamp (by omega)]; omega
  have rww : (K 0 1 = 119) → (r_ww Y (K 0 2)).1 = 0 → vp_in (K 0 2) 5 ∧ vp_in (Y 0 9) 5 := fun _ hp => by
    unfold r_ww at hp
    obtain ⟨c1, hp⟩ := r_if (m_nz (by decide)) hp
    have hv := m_chv h8 c1
    obtain ⟨k, hk5, ek⟩ := vp_in_of hv (by decide)
    obtain ⟨w, hw⟩ := y_war h
    by_cases l2 : Y 5 (K 0 2).toNatClampNeg ≤ 0
    · refine ⟨hv, y_i9w h hk5 ?_⟩
      rw [ek, nI_clamp (by omega), (hw k hk5).2] at l2
      rw [(hw k hk5).2]
      have := (hw k hk5).1
      by_cases e : w k = 0
      · rw [e]; rfl
      · exact absurd l2 (nI_nle (by omega) (by omega))
    · rw [if_neg l2] at hp
      exfalso
      rw [ek, nI_clamp (by omega), (hw k hk5).2] at l2 hp
      have := (hw k hk5).1
      have e0 : nI (w k) = 0 ∨ ¬ nI (w k) = 0 := Classical.em _
      rcases e0 with e0 | e0
      · exact l2 (by rw [e0]; decide)
      · exact absurd (show (7 : Int32) = 0 from hp) (by decide)
  unfold r_w at hw
  unfold y_car y_carP
  by_cases k1 : K 0 1 = 110
  · rw [if_pos k1] at hw ⊢
    refine ⟨mono _ (y_inv_bri (by omega) hT0 h hw), fun _ => ?_, fun e => absurd (k1.symm.trans e) (by decide), fun e => absurd (k1.symm.trans e) (by decide), fun e => absurd (k1.symm.trans e) (by decide), fun e => absurd (k1.symm.trans e) (by decide), fun e => absurd (k1.symm.trans e) (by decide), fun e => absurd (k1.symm.trans e) (by decide), fun e => absurd k1 e⟩
    unfold r_wn at hw
    obtain ⟨-, hw⟩ := r_if (m_nz (by decide)) hw
    by_cases l : Y 0 8 < 5
    · obtain ⟨k, hk6, ek⟩ := vp_in_of h8 (by decide)
      rw [ek] at l ⊢
      exact vp_in_nI ((nI_ltI (b := 5) (by omega) (by decide)).mp l) (by decide)
    · rw [if_neg l] at hw
      exact absurd (show (2 : Int32) = 0 from hw) (by decide)
  · rw [if_neg k1] at hw ⊢
    by_cases k2 : K 0 1 = 99
    · rw [if_pos k2] at hw ⊢
      refine ⟨mono _ (y_inv_cha (by omega) h hw), fun e => absurd e k1, fun _ => ?_, fun e => absurd (k2.symm.trans e) (by decide), fun e => absurd (k2.symm.trans e) (by decide), fun e => absurd (k2.symm.trans e) (by decide), fun e => absurd (k2.symm.trans e) (by decide), fun e => absurd (k2.symm.trans e) (by decide), fun _ e => absurd k2 e⟩
      unfold r_wc at hw
      obtain ⟨c1, hw⟩ := r_if (m_nz (by decide)) hw
      obtain ⟨c2, -⟩ := r_if (m_nz (by decide)) hw
      exact ⟨m_chv h8 c1, ch_11 c2⟩
    · rw [if_neg k2] at hw ⊢
      by_cases k3 : K 0 1 = 104
      · rw [if_pos k3] at hw ⊢
        have hw' := hw
        unfold r_wh at hw
        obtain ⟨c1, -⟩ := r_if (m_nz (by decide)) hw
        exact ⟨y_inv_hop hT h c1 f cz, fun e => absurd e k1, fun e => absurd e k2, fun _ => ⟨m_chv h8 c1, hn, y_iow h⟩, fun e => absurd (k3.symm.trans e) (by decide), fun e => absurd (k3.symm.trans e) (by decide), fun e => absurd (k3.symm.trans e) (by decide), fun e => absurd (k3.symm.trans e) (by decide), fun _ _ e => absurd k3 e⟩
      · rw [if_neg k3] at hw ⊢
        by_cases k4 : K 0 1 = 119
        · rw [if_pos k4] at hw ⊢
          exact ⟨mono _ (y_inv_wri (by omega) h hw), fun e => absurd e k1, fun e => absurd e k2, fun e => absurd e k3, fun e => rww e hw, fun e => absurd (k4.symm.trans e) (by decide), fun e => absurd (k4.symm.trans e) (by decide), fun e => absurd (k4.symm.trans e) (by decide), fun _ _ _ e => absurd k4 e⟩
        · rw [if_neg k4] at hw ⊢
          by_cases k5 : K 0 1 = 115
          · rw [if_pos k5] at hw ⊢
            refine ⟨mono _ (y_inv_str (by omega) h hw), fun e => absurd e k1, fun e => absurd e k2, fun e => absurd e k3, fun e => absurd e k4, fun _ => ?_, fun e => absurd (k5.symm.trans e) (by decide), fun e => absurd (k5.symm.trans e) (by decide), fun _ _ _ _ e => absurd k5 e⟩
            unfold r_ws at hw
            obtain ⟨c1, -⟩ := r_if (m_nz (by decide)) hw
            exact ⟨m_chv h8 c1, h9, hk⟩
          · rw [if_neg k5] at hw ⊢
            by_cases k6 : K 0 1 = 114
            · rw [if_pos k6] at hw ⊢
              refine ⟨mono _ (y_inv_was (by omega) h ?_), fun e => absurd e k1, fun e => absurd e k2, fun e => absurd e k3, fun e => absurd e k4, fun e => absurd e k5, fun _ => ⟨h9, hk⟩, fun e => absurd (k6.symm.trans e) (by decide), fun _ _ _ _ _ e => absurd k6 e⟩
              unfold r_wr at hw
              exact (r_if (m_nz (by decide)) hw).1
            · rw [if_neg k6] at hw ⊢
              by_cases k7 : K 0 1 = 116
              · rw [if_pos k7] at hw ⊢
                exact ⟨mono _ (y_term_inv (by omega) h), fun e => absurd e k1, fun e => absurd e k2, fun e => absurd e k3, fun e => absurd e k4, fun e => absurd e k5, fun e => absurd e k6, fun _ => h8, fun _ _ _ _ _ _ e => absurd k7 e⟩
              · rw [if_neg k7] at hw ⊢
                refine ⟨mono _ (y_inv_giv (by omega) h hw), fun e => absurd e k1, fun e => absurd e k2, fun e => absurd e k3, fun e => absurd e k4, fun e => absurd e k5, fun e => absurd e k6, fun e => absurd e k7, fun _ _ _ _ _ _ _ => ?_⟩
                unfold r_wg at hw
                obtain ⟨c1, hw⟩ := r_if (m_nz (by decide)) hw
                obtain ⟨c2, -⟩ := r_if (m_nz (by decide)) hw
                exact ⟨m_chv h8 c1, m_chv h8 c2⟩
/-- the copy of a yard, as far as it counts -/
theorem y_cp_eqv (Y Z : ch_B) (h : vp_in (Y 0 9) 6) : y_eqv Y (y_cp Y Z) := by
  unfold y_eqv y_cp
  refine ⟨fun k h1 h2 => ?_, fun c k h1 h2 h3 => ?_, fun c k h1 h2 h3 => ?_, fun k h1 h2 => ?_⟩
  · rw [if_pos (by omega)]
  · rw [if_pos (by omega)]
  · rw [if_pos (by omega)]
  · rw [if_pos (by omega)]
theorem y_inv_cg {T : Nat} {Y Z : ch_B} (h : y_inv T Y) (e0 : ∀ k, 8 ≤ k → k ≤ 11 → Z 0 k = Y 0 k) (e1 : ∀ a k, 1 ≤ a → a ≤ 2 → k < 12 → Z a k = Y a k) (e2 : ∀ a k, 3 ≤ a → a ≤ 8 → k < 5 → Z a k = Y a k) : y_inv T Z := by
  obtain ⟨s, hs, es⟩ := vp_in_of (y_i9 h) (by decide)
  have cs : (Y 0 9).toNatClampNeg = s := by rw [es, nI_clamp (by omega)]
  obtain ⟨⟨a1, a2, a3⟩, b, c, d, ⟨e, f⟩, g1, g2, g3, g4⟩ := h
  unfold y_inv y_tot at *
  rw [e0 8 (by omega) (by omega), e0 9 (by omega) (by omega), e0 10 (by omega) (by omega), e0 11 (by omega) (by omega), e2 3 0 (by omega) (by omega) (by omega), e2 3 1 (by omega) (by omega) (by omega), e2 3 2 (by omega) (by omega) (by omega), e2 3 3 (by omega) (by omega) (by omega), e2 3 4 (by omega) (by omega) (by omega)]
  rw [cs] at e f
  rw [cs]
  refine ⟨⟨a1, a2, fun k hk => by rw [e2 8 k (by omega) (by omega) hk]; exact a3 k hk⟩, fun q hq => ?_, fun x hx => ?_, fun x h1 h2 => ?_, ⟨fun x hx => ?_, fun i j h1 h2 => ?_⟩, g1, g2, g3, g4⟩
  · rw [e1 2 q (by omega) (by omega) hq, e1 1 q (by omega) (by omega) hq]
    exact b q hq
  · rw [e2 3 x (by omega) (by omega) hx, e2 4 x (by omega) (by omega) hx, e2 5 x (by omega) (by omega) hx]
    exact c x hx
  · rw [e2 3 x (by omega) (by omega) h2, e2 4 x (by omega) (by omega) h2, e2 5 x (by omega) (by omega) h2, e2 6 x (by omega) (by omega) h2, e2 7 x (by omega) (by omega) h2]
    exact d x h1 h2
  · rw [e2 5 x (by omega) (by omega) hx, e x hx]
    exact ⟨fun ⟨k, h1, h2⟩ => ⟨k, h1, by rw [e2 8 k (by omega) (by omega) (by omega)]; exact h2⟩, fun ⟨k, h1, h2⟩ => ⟨k, h1, by rw [e2 8 k (by omega) (by omega) (by omega)] at h2; exact h2⟩⟩
  · rw [e2 8 i (by omega) (by omega) (by omega), e2 8 j (by omega) (by omega) (by omega)]
    exact f i j h1 h2
theorem y_inv_cp {T : Nat} {Y : ch_B} (Z : ch_B) (h : y_inv T Y) : y_inv T (y_cp Y Z) :=
  y_inv_cg h (fun k h1 h2 => if_pos (by omega)) (fun a k h1 h2 h3 => if_pos (by omega)) (fun a k h1 h2 h3 => if_pos (by omega))
theorem m_rel_cp {T : Nat} {Y : ch_B} {N : Nat → Int32} (Z : ch_B) (h : y_inv T Y) (r : m_rel Y N) : m_rel (y_cp Y Z) N := m_rel_eqv r (y_cp_eqv Y Z (y_i9 h))
