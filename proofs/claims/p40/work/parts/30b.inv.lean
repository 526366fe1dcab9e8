/-- the warrants of the children, one behind another -/
def m_wc (Z : ch_B) (r : Int32) : Nat → ch_B
  | 0 => Z
  | k + 1 => if m_wc Z r k 5 k = 0 then m_wc Z r k else if m_wc Z r k 5 k - r ≤ 0 then ch_bw (m_clB (ch_bw (m_wc Z r k) 5 k (m_wc Z r k 5 k - r)) k) 0 14 (m_wc Z r k 0 14 + 1) else ch_bw (m_wc Z r k) 5 k (m_wc Z r k 5 k - r)
def m_kp (w : Nat → Nat) (ρ k : Nat) : Int32 → Bool := fun x => !(decide (x.toNatClampNeg < k) && decide (w x.toNatClampNeg ≤ ρ))
/-- so many warrants have ended -/
def m_we (w : Nat → Nat) (ρ : Nat) : Nat → Nat
  | 0 => 0
  | k + 1 => if w k ≠ 0 ∧ w k ≤ ρ then m_we w ρ k + 1 else m_we w ρ k
def m_WI (Y Z W : ch_B) (w : Nat → Nat) (s ρ k : Nat) : Prop :=
  (∀ c, c < 5 → W 5 c = if c < k then nI (w c - ρ) else nI (w c)) ∧
  (∃ s', W 0 9 = nI s' ∧ s' + m_we w ρ k = s ∧ m_row (W 8) s' = (m_row (Y 8) s).filter (m_kp w ρ k)) ∧
  W 0 14 = Y 0 14 + m_ci (Y 5) (nI ρ) k ∧
  (∀ a i, a ≠ 5 → a ≠ 8 → (a = 0 → i ≠ 9 ∧ i ≠ 14) → W a i = Z a i)
theorem y_war {T : Nat} {Y : ch_B} (hi : y_inv T Y) : ∃ w : Nat → Nat, ∀ c, c < 5 → w c < 10 ∧ Y 5 c = nI (w c) := by
  refine ⟨fun c => (Y 5 c).toNatClampNeg, fun c hc => ?_⟩
  obtain ⟨v, hv, ev⟩ := vp_in_of (y_i5 hi hc) (by decide)
  dsimp only
  rw [ev, nI_clamp (by omega)]
  exact ⟨hv, rfl⟩
theorem m_WI_s {T : Nat} {Y Z : ch_B} (hi : y_inv T Y) {w : Nat → Nat} (hw : ∀ c, c < 5 → w c < 10 ∧ Y 5 c = nI (w c)) {s : Nat} (hs : s < 6) (es : Y 0 9 = nI s) {ρ : Nat} (hρ : ρ < 10) {k : Nat} (hk : k < 5) (h : m_WI Y Z (m_wc Z (nI ρ) k) w s ρ k) : m_WI Y Z (m_wc Z (nI ρ) (k + 1)) w s ρ (k + 1) := by
  obtain ⟨a5, ⟨s', e9, el, er⟩, e14, fo⟩ := h
  have hw5 : m_wc Z (nI ρ) k 5 k = nI (w k) := by rw [a5 k hk, if_neg (by omega)]
  have ci := m_ci_s (Y 5) (hw k hk).1 hρ (hw k hk).2
  have hmem : ∀ x, x ∈ m_row (Y 8) s → ∃ a, a < 5 ∧ x = nI a ∧ w a ≠ 0 := by
    intro x hx
    obtain ⟨j, hj, rfl⟩ := m_row_mem hx
    obtain ⟨a, h1, h2, h3⟩ := y_imem hi j (by rw [es, nI_clamp (by omega)]; exact hj)
    refine ⟨a, h1, h2, fun z => h3 ?_⟩
    rw [(hw a h1).2, z]
    decide
  have hnd : (m_row (Y 8) s).Nodup := m_row_nd s (fun i j h1 h2 => hi.2.2.2.2.1.2 i j h1 (by rw [es, nI_clamp (by omega)]; exact h2))
  rw [m_wc, hw5]
  by_cases e0 : w k = 0
  · rw [if_pos (by rw [e0]; decide)]
    refine ⟨fun c hc => ?_, ⟨s', e9, ?_, ?_⟩, ?_, fo⟩
    · rw [a5 c hc]
      by_cases l : c < k
      · rw [if_pos l, if_pos (by omega)]
      · rw [if_neg l]
        by_cases l2 : c < k + 1
        · rw [if_pos l2, show c = k by omega, e0, Nat.zero_sub]
        · rw [if_neg l2]
    · rw [m_we, if_neg (fun z => z.1 e0)]
      exact el
    · rw [er]
      apply List.filter_congr
      intro x hx
      obtain ⟨a, h1, rfl, h3⟩ := hmem x hx
      unfold m_kp
      rw [nI_clamp (by omega)]
      have : a ≠ k := fun z => h3 (by rw [z]; exact e0)
      have e : decide (a < k + 1) = decide (a < k) := by
        apply decide_eq_decide.mpr
        omega
      rw [e]
    · rw [ci, if_neg (fun z => z.1 e0)]
      exact e14
  · rw [if_neg (nI_ne0 (by omega) (by have := (hw k hk).1; omega))]
    have hwk := (hw k hk).1
    by_cases l : w k ≤ ρ
    · have hle : nI (w k) - nI ρ ≤ 0 := by
        rw [Int32.le_iff_toInt_le, pk_sub_toInt (by omega) (by omega), show (0 : Int32).toInt = 0 by decide]
        omega
      rw [if_pos hle]
      have e9' : (ch_bw (m_wc Z (nI ρ) k) 5 k (nI (w k) - nI ρ) 0 9).toNatClampNeg = s' := by
        rw [ch_bw_c (by decide), e9, nI_clamp (by omega)]
      have e8' : ch_bw (m_wc Z (nI ρ) k) 5 k (nI (w k) - nI ρ) 8 = m_wc Z (nI ρ) k 8 := by
        funext i
        exact ch_bw_c (by decide)
      have hin : nI k ∈ (m_row (Y 8) s).filter (m_kp w ρ k) := by
        refine List.mem_filter.mpr ⟨?_, ?_⟩
        · obtain ⟨j, hj, ej⟩ := (hi.2.2.2.2.1.1 k hk).mp (by rw [(hw k hk).2]; exact nI_ne0 (by omega) (by omega))
          rw [← ej]
          refine m_mem_row ?_
          rw [es, nI_clamp (by omega)] at hj
          exact hj
        · unfold m_kp
          rw [nI_clamp (by omega)]
          simp
      have hlen := m_fil_len (hnd.sublist List.filter_sublist) hin
      have hrow := m_cmp_row (fun x => !decide (x = nI k)) (m_wc Z (nI ρ) k 8) s'
      rw [er] at hrow
      have hs2 : (m_cmp (fun x => !decide (x = nI k)) (m_wc Z (nI ρ) k 8) s').2 + 1 = s' := by
        rw [← hrow, m_row_len, ← er, m_row_len] at hlen
        exact hlen
      refine ⟨fun c hc => ?_, ⟨(m_cmp (fun x => !decide (x = nI k)) (m_wc Z (nI ρ) k 8) s').2, ?_, ?_, ?_⟩, ?_, ?_⟩
      · rw [ch_bw_c (by decide)]
        unfold m_clB
        rw [if_neg (by decide), if_neg (fun z => absurd z.1 (by decide))]
        by_cases ec : c = k
        · subst ec
          rw [if_pos ⟨rfl, rfl⟩, if_pos (by omega), show w c - ρ = 0 by omega, nI_0]
        · rw [if_neg (fun z => ec z.2), ch_bw_k ec, a5 c hc]
          by_cases l2 : c < k
          · rw [if_pos l2, if_pos (by omega)]
          · rw [if_neg l2, if_neg (by omega)]
      · rw [ch_bw_k (by decide)]
        unfold m_clB
        rw [if_neg (by decide), if_pos ⟨rfl, rfl⟩, e9', e8']
      · rw [m_we, if_pos ⟨e0, l⟩]
        omega
      · have e8'' : ch_bw (m_clB (ch_bw (m_wc Z (nI ρ) k) 5 k (nI (w k) - nI ρ)) k) 0 14 (m_wc Z (nI ρ) k 0 14 + 1) 8 = (m_cmp (fun x => !decide (x = nI k)) (m_wc Z (nI ρ) k 8) s').1 := by
          funext i
          rw [ch_bw_c (by decide)]
          unfold m_clB
          rw [if_pos rfl, e9', e8']
        rw [e8'', hrow, List.filter_filter]
        apply List.filter_congr
        intro x hx
        obtain ⟨a, h1, rfl, h3⟩ := hmem x hx
        unfold m_kp
        rw [nI_clamp (by omega)]
        by_cases ea : a = k
        · subst ea
          simp [l]
        · have e1 : ¬ nI a = nI k := fun z => ea ((nI_eq (by omega) (by omega)).mp z)
          have e : decide (a < k + 1) = decide (a < k) := by
            apply decide_eq_decide.mpr
            omega
          rw [e]
          simp [e1]
      · rw [ch_bw_at, ci, if_pos ⟨e0, l⟩, e14, Int32.add_assoc]
      · intro a i h1 h2 h3
        have e1 : ¬ (a = 0 ∧ i = 14) := fun z => (h3 z.1).2 z.2
        have e2 : ¬ (a = 0 ∧ i = 9) := fun z => (h3 z.1).1 z.2
        unfold ch_bw m_clB
        rw [if_neg e1, if_neg h2, if_neg e2, if_neg (fun z => h1 z.1)]
        dsimp only
        rw [if_neg (fun z : a = 5 ∧ i = k => h1 z.1)]
        exact fo a i h1 h2 h3
    · have hgt : ¬ nI (w k) - nI ρ ≤ 0 := by
        rw [pk_sub (by omega)]
        exact nI_nle (by omega) (by omega)
      rw [if_neg hgt]
      refine ⟨fun c hc => ?_, ⟨s', ?_, ?_, ?_⟩, ?_, ?_⟩
      · by_cases ec : c = k
        · subst ec
          rw [ch_bw_at, if_pos (by omega), pk_sub (by omega)]
        · rw [ch_bw_k ec, a5 c hc]
          by_cases l2 : c < k
          · rw [if_pos l2, if_pos (by omega)]
          · rw [if_neg l2, if_neg (by omega)]
      · rw [ch_bw_c (by decide)]
        exact e9
      · rw [m_we, if_neg (fun z => l z.2)]
        exact el
      · have e8' : ch_bw (m_wc Z (nI ρ) k) 5 k (nI (w k) - nI ρ) 8 = m_wc Z (nI ρ) k 8 := by
          funext i
          exact ch_bw_c (by decide)
        rw [e8', er]
        apply List.filter_congr
        intro x hx
        obtain ⟨a, h1, rfl, h3⟩ := hmem x hx
        unfold m_kp
        rw [nI_clamp (by omega)]
        by_cases ea : a = k
        · subst ea
          simp [l]
        · have e : decide (a < k + 1) = decide (a < k) := by
            apply decide_eq_decide.mpr
            omega
          rw [e]
      · rw [ch_bw_c (by decide), ci, if_neg (fun z => l z.2)]
        exact e14
      · intro a i h1 h2 h3
        rw [ch_bw_c h1]
        exact fo a i h1 h2 h3
theorem m_WI_0 {Y : ch_B} {r : Int32} {w : Nat → Nat} (hw : ∀ c, c < 5 → w c < 10 ∧ Y 5 c = nI (w c)) {s ρ : Nat} (es : Y 0 9 = nI s) : m_WI Y (y_wk Y r 12).1 (m_wc (y_wk Y r 12).1 (nI ρ) 0) w s ρ 0 := by
  have o : ∀ a i, a ≠ 1 → a ≠ 2 → (y_wk Y r 12).1 a i = Y a i := fun a i h1 h2 => y_wk_o Y r 12 a i h1 h2
  have e8 : m_wc (y_wk Y r 12).1 (nI ρ) 0 8 = Y 8 := by
    funext i
    exact o 8 i (by decide) (by decide)
  refine ⟨fun c hc => ?_, ⟨s, ?_, ?_, ?_⟩, ?_, fun _ _ _ _ _ => rfl⟩
  · rw [if_neg (by omega)]
    exact (o 5 c (by decide) (by decide)).trans (hw c hc).2
  · exact (o 0 9 (by decide) (by decide)).trans es
  · rfl
  · rw [e8, List.filter_eq_self.mpr]
    intro a _
    unfold m_kp
    simp
  · rw [show m_ci (Y 5) (nI ρ) 0 = 0 from rfl, Int32.add_zero]
    exact o 0 14 (by decide) (by decide)
theorem m_WI_n {T : Nat} {Y : ch_B} (hi : y_inv T Y) {w : Nat → Nat} (hw : ∀ c, c < 5 → w c < 10 ∧ Y 5 c = nI (w c)) {s : Nat} (hs : s < 6) (es : Y 0 9 = nI s) {ρ : Nat} (hρ : ρ < 10) (k : Nat) : k ≤ 5 → m_WI Y (y_wk Y (nI ρ) 12).1 (m_wc (y_wk Y (nI ρ) 12).1 (nI ρ) k) w s ρ k := by
  induction k with
  | zero => exact fun _ => m_WI_0 hw es
  | succ k ih => exact fun hk => m_WI_s hi hw hs es hρ (by omega) (ih (by omega))
theorem y_wa_5 {Z : ch_B} {r : Int32} {s : Nat} (hs : s < 6) (hm : ∀ i, i < s → ∃ a, a < 5 ∧ Z 8 i = nI a) (hd : ∀ i j, i < j → j < s → ¬ Z 8 i = Z 8 j) (j : Nat) : j ≤ s → ∀ c, c < 5 → ((∃ i, i < j ∧ Z 8 i = nI c) → y_wa Z r j 5 c = y_wv (Z 5 c) r) ∧ ((¬ ∃ i, i < j ∧ Z 8 i = nI c) → y_wa Z r j 5 c = Z 5 c) := by
  induction j with
  | zero => exact fun _ c _ => ⟨fun ⟨i, h, _⟩ => absurd h (by omega), fun _ => rfl⟩
  | succ j ih =>
    intro hj c hc
    obtain ⟨i1, i2⟩ := ih (by omega) c hc
    obtain ⟨a, ha, ea⟩ := hm j (by omega)
    rw [y_wa, ea, nI_clamp (by omega)]
    by_cases e : c = a
    · subst e
      rw [ch_bw_at, i2 (fun ⟨i, h1, h2⟩ => hd i j h1 (by omega) (h2.trans ea.symm))]
      exact ⟨fun _ => rfl, fun z => absurd ⟨j, by omega, ea⟩ z⟩
    · rw [ch_bw_k e]
      refine ⟨fun ⟨i, h1, h2⟩ => i1 ⟨i, ?_, h2⟩, fun z => i2 (fun ⟨i, h1, h2⟩ => z ⟨i, by omega, h2⟩)⟩
      by_cases el : i = j
      · subst el
        exact absurd ((nI_eq (by omega) (by omega)).mp (h2.symm.trans ea)) e
      · omega
theorem m_we_ci {Y : ch_B} {w : Nat → Nat} (hw : ∀ c, c < 5 → w c < 10 ∧ Y 5 c = nI (w c)) {ρ : Nat} (hρ : ρ < 10) (k : Nat) : k ≤ 5 → m_ci (Y 5) (nI ρ) k = nI (m_we w ρ k) := by
  induction k with
  | zero => exact fun _ => rfl
  | succ k ih =>
    intro hk
    rw [m_ci_s (Y 5) (hw k (by omega)).1 hρ (hw k (by omega)).2, m_we, ih (by omega)]
    split
    · exact nI_1 _
    · rfl
theorem m_wash {T : Nat} {Y : ch_B} (hi : y_inv T Y) {ρ : Nat} (hρ : ρ < 10) {n : Nat} (hn : n < 6) (en : Y 0 8 = nI n) : y_eqv (m_wc (y_wk Y (nI ρ) 12).1 (nI ρ) n) (y_washB Y (nI ρ)) ∧ y_washR Y (nI ρ) = m_ci (Y 2) (nI ρ) 12 + m_ci (Y 5) (nI ρ) n := by
  obtain ⟨w, hw⟩ := y_war hi
  obtain ⟨s, hs, es⟩ := vp_in_of (y_i9 hi) (by decide)
  obtain ⟨b5, ⟨s', e9, el, er⟩, e14, fo⟩ := m_WI_n hi hw hs es hρ n (by omega)
  have cs : (Y 0 9).toNatClampNeg = s := by rw [es, nI_clamp (by omega)]
  have o : ∀ a i, a ≠ 1 → a ≠ 2 → (y_wk Y (nI ρ) 12).1 a i = Y a i := fun a i h1 h2 => y_wk_o Y _ 12 a i h1 h2
  have hbig : ∀ c, c < 5 → n ≤ c → w c = 0 := by
    intro c hc hl
    have h0 := (hi.2.2.2.1 c (by rw [en, nI_clamp (by omega)]; exact hl) hc).2.2.1
    rw [(hw c hc).2] at h0
    by_cases e : w c = 0
    · exact e
    · exact absurd h0 (nI_ne0 (by omega) (by have := (hw c hc).1; omega))
  have hmem : ∀ j, j < s → ∃ a, a < 5 ∧ Y 8 j = nI a ∧ w a ≠ 0 := by
    intro j hj
    obtain ⟨a, h1, h2, h3⟩ := y_imem hi j (by rw [cs]; exact hj)
    refine ⟨a, h1, h2, fun z => h3 ?_⟩
    rw [(hw a h1).2, z]
    decide
  have z5 : ∀ c, c < 5 → y_wZ Y (nI ρ) 5 c = nI (w c - ρ) := by
    intro c hc
    obtain ⟨z1, z2⟩ := y_wa_5 (Z := (y_wk Y (nI ρ) 12).1) (r := nI ρ) hs (fun i h => by
      obtain ⟨a, h1, h2, -⟩ := hmem i h
      exact ⟨a, h1, (o 8 i (by decide) (by decide)).trans h2⟩) (fun i j h1 h2 => by
      rw [o 8 i (by decide) (by decide), o 8 j (by decide) (by decide)]
      exact hi.2.2.2.2.1.2 i j h1 (by rw [cs]; exact h2)) s (Nat.le_refl s) c hc
    have e5 : (y_wk Y (nI ρ) 12).1 5 c = nI (w c) := (o 5 c (by decide) (by decide)).trans (hw c hc).2
    unfold y_wZ
    rw [cs]
    by_cases h : ∃ i, i < s ∧ (y_wk Y (nI ρ) 12).1 8 i = nI c
    · rw [z1 h, e5]
      exact m_sub9 (by have := (hw c hc).1; omega) (by omega)
    · rw [z2 h, e5]
      have h0 : w c = 0 := by
        by_cases e : w c = 0
        · exact e
        · obtain ⟨j, hj, ej⟩ := (hi.2.2.2.2.1.1 c hc).mp (by rw [(hw c hc).2]; exact nI_ne0 (by omega) (by have := (hw c hc).1; omega))
          exact absurd ⟨j, by rw [cs] at hj; exact hj, (o 8 j (by decide) (by decide)).trans ej⟩ h
      rw [h0, Nat.zero_sub]
  have z8 : y_wZ Y (nI ρ) 8 = Y 8 := by
    funext i
    unfold y_wZ
    rw [y_wa_o _ _ _ _ _ (by decide)]
    exact o 8 i (by decide) (by decide)
  have z9 : (y_wZ Y (nI ρ) 0 9).toNatClampNeg = s := by
    unfold y_wZ
    rw [y_wa_o _ _ _ _ _ (by decide), o 0 9 (by decide) (by decide), cs]
  have hrow : m_row (m_wc (y_wk Y (nI ρ) 12).1 (nI ρ) n 8) s' = m_row (y_clk (y_wZ Y (nI ρ)) s).1 (y_clk (y_wZ Y (nI ρ)) s).2 := by
    rw [er, y_clk_cmp, m_cmp_row, z8]
    apply List.filter_congr
    intro x hx
    obtain ⟨j, hj, rfl⟩ := m_row_mem hx
    obtain ⟨a, h1, h2, h3⟩ := hmem j hj
    have ha : a < n := by
      by_cases l : a < n
      · exact l
      · exact absurd (hbig a h1 (by omega)) h3
    unfold m_kp
    rw [h2, nI_clamp (by omega), z5 a h1]
    have e : decide (nI (w a - ρ) ≤ 0) = decide (w a ≤ ρ) := by
      apply decide_eq_decide.mpr
      refine ⟨fun z => ?_, fun z => by rw [show w a - ρ = 0 by omega]; decide⟩
      by_cases l : w a ≤ ρ
      · exact l
      · exact absurd z (nI_nle (by omega) (by have := (hw a h1).1; omega))
    rw [e]
    simp [ha]
  obtain ⟨ec, ei⟩ := m_row_inj hrow
  have eG : y_wG Y (nI ρ) = m_ci (Y 5) (nI ρ) n := by
    unfold y_wG
    rw [cs, ← ec, m_we_ci hw hρ n (by omega), es, pk_sub (by omega), show s - s' = m_we w ρ n by omega]
  refine ⟨⟨fun k h1 h2 => ?_, fun a k h1 h2 h3 => ?_, fun a k h1 h2 h3 => ?_, fun k h1 h2 => ?_⟩, ?_⟩
  · unfold y_washB
    by_cases e : k = 14
    · subst e
      rw [ch_bw_at, eG]
      exact e14
    · rw [ch_bw_k e]
      by_cases f : k = 9
      · subst f
        unfold y_clB
        rw [if_neg (by decide), if_pos ⟨rfl, rfl⟩, z9, e9, ec]
      · rw [y_clB_o (by decide) (fun z => f z.2), fo 0 k (by decide) (by decide) (fun _ => ⟨f, e⟩)]
        unfold y_wZ
        rw [y_wa_o _ _ _ _ _ (by decide)]
  · have h0 : a ≠ 0 := by omega
    unfold y_washB
    rw [ch_bw_c h0, y_clB_o (by omega) (fun z => h0 z.1), fo a k (by omega) (by omega) (fun z => absurd z h0)]
    unfold y_wZ
    rw [y_wa_o _ _ _ _ _ (by omega)]
  · have h0 : a ≠ 0 := by omega
    unfold y_washB
    rw [ch_bw_c h0, y_clB_o (by omega) (fun z => h0 z.1)]
    by_cases e : a = 5
    · subst e
      rw [z5 k h3, b5 k h3]
      by_cases l : k < n
      · rw [if_pos l]
      · rw [if_neg l, hbig k h3 (by omega), Nat.zero_sub]
    · rw [fo a k e (by omega) (fun z => absurd z h0)]
      unfold y_wZ
      rw [y_wa_o _ _ _ _ _ e]
  · unfold y_washB
    rw [ch_bw_c (by decide)]
    unfold y_clB
    rw [if_pos rfl, z9]
    exact ei k (by rw [e9, nI_clamp (by omega)] at h2; exact h2)
  · unfold y_washR
    rw [eG, y_wk_ci hi hρ 12 (Nat.le_refl 12)]
def y_D (T : Nat) (Y : ch_B) (n s C Br : Nat) (P R W K O : Nat → Nat) : Prop :=
  (n < 6 ∧ s < 6 ∧ Y 0 8 = nI n ∧ Y 0 9 = nI s ∧ Y 0 10 = nI C ∧ Y 0 11 = nI Br) ∧
  (∀ k, k < 5 → O k < 5 ∧ Y 8 k = nI (O k)) ∧
  (∀ q, q < 12 → K q < 10 ∧ Y 2 q = nI (K q) ∧ ((Y 1 q = -1 ∧ K q = 0) ∨ (∃ c, c < n ∧ Y 1 q = nI c ∧ K q ≠ 0))) ∧
  (∀ c, c < 5 → P c < 496 ∧ Y 3 c = nI (P c) ∧ R c < T ∧ Y 4 c = nI (R c) ∧ W c < 10 ∧ Y 5 c = nI (W c)) ∧
  (∀ c, n ≤ c → c < 5 → P c = 0 ∧ R c = 0 ∧ W c = 0 ∧ Y 6 c = 0 ∧ Y 7 c = 0) ∧
  ((∀ c, c < 5 → (W c ≠ 0 ↔ ∃ k, k < s ∧ O k = c)) ∧ ∀ i j, i < j → j < s → O i ≠ O j) ∧
  (P 0 + P 1 + P 2 + P 3 + P 4 + C = Br ∧ Br ≤ 99 * n)
theorem nI_0i {n : Nat} (h : n < 2 ^ 31) : nI n = 0 ↔ n = 0 := nI_eq (b := 0) h (by decide)
theorem y_D_of {T : Nat} (hT : T < 2 ^ 31) {Y : ch_B} (h : y_inv T Y) : ∃ n s C Br P R W K O, y_D T Y n s C Br P R W K O := by
  obtain ⟨n, hn, en⟩ := vp_in_of (y_i8 h) (by decide)
  obtain ⟨s, hs, es⟩ := vp_in_of (y_i9 h) (by decide)
  obtain ⟨C, hC, eC⟩ := vp_in_of h.2.2.2.2.2.2.2.2 (by decide)
  obtain ⟨Br, hBr, eBr⟩ := vp_in_of h.2.2.2.2.2.2.2.1 (by decide)
  have hP : ∀ c, c < 5 → (Y 3 c).toNatClampNeg < 496 ∧ Y 3 c = nI (Y 3 c).toNatClampNeg := fun c hc => by
    obtain ⟨v, hv, ev⟩ := vp_in_of (y_i3 h hc) (by decide)
    rw [ev, nI_clamp (by omega)]
    exact ⟨hv, rfl⟩
  have hR : ∀ c, c < 5 → (Y 4 c).toNatClampNeg < T ∧ Y 4 c = nI (Y 4 c).toNatClampNeg := fun c hc => by
    obtain ⟨v, hv, ev⟩ := vp_in_of (y_i4 h hc) hT
    rw [ev, nI_clamp (by omega)]
    exact ⟨hv, rfl⟩
  have hW : ∀ c, c < 5 → (Y 5 c).toNatClampNeg < 10 ∧ Y 5 c = nI (Y 5 c).toNatClampNeg := fun c hc => by
    obtain ⟨v, hv, ev⟩ := vp_in_of (y_i5 h hc) (by decide)
    rw [ev, nI_clamp (by omega)]
    exact ⟨hv, rfl⟩
  have hK : ∀ q, q < 12 → (Y 2 q).toNatClampNeg < 10 ∧ Y 2 q = nI (Y 2 q).toNatClampNeg := fun c hc => by
    obtain ⟨v, hv, ev⟩ := vp_in_of (y_i2 h hc) (by decide)
    rw [ev, nI_clamp (by omega)]
    exact ⟨hv, rfl⟩
  have hO : ∀ k, k < 5 → (Y 8 k).toNatClampNeg < 5 ∧ Y 8 k = nI (Y 8 k).toNatClampNeg := fun c hc => by
    obtain ⟨v, hv, ev⟩ := vp_in_of (y_i8k h c hc) (by decide)
    rw [ev, nI_clamp (by omega)]
    exact ⟨hv, rfl⟩
  have cn : (Y 0 8).toNatClampNeg = n := by rw [en, nI_clamp (by omega)]
  have cs : (Y 0 9).toNatClampNeg = s := by rw [es, nI_clamp (by omega)]
  have cC : (Y 0 10).toNatClampNeg = C := by rw [eC, nI_clamp (by omega)]
  have cB : (Y 0 11).toNatClampNeg = Br := by rw [eBr, nI_clamp (by omega)]
  obtain ⟨-, i2, i3, i4, ⟨i5, i6⟩, i7, i8, -⟩ := h
  rw [cn] at i4 i8
  rw [cs] at i5 i6
  rw [cB] at i7 i8
  refine ⟨n, s, C, Br, fun c => (Y 3 c).toNatClampNeg, fun c => (Y 4 c).toNatClampNeg, fun c => (Y 5 c).toNatClampNeg, fun c => (Y 2 c).toNatClampNeg, fun c => (Y 8 c).toNatClampNeg, ⟨hn, hs, en, es, eC, eBr⟩, hO, fun q hq => ⟨(hK q hq).1, (hK q hq).2, ?_⟩, fun c hc => ⟨(hP c hc).1, (hP c hc).2, (hR c hc).1, (hR c hc).2, (hW c hc).1, (hW c hc).2⟩, fun c h1 h2 => ?_, ⟨fun c hc => ?_, fun i j h1 h2 => ?_⟩, ?_, i8⟩
  · have e0 : Y 2 q = 0 ↔ (Y 2 q).toNatClampNeg = 0 := by
      rw [(hK q hq).2, nI_clamp (by have := (hK q hq).1; omega)]
      exact nI_0i (by have := (hK q hq).1; omega)
    rcases (i2 q hq).2 with ⟨a, b⟩ | ⟨c, hc, a, b⟩
    · exact Or.inl ⟨a, e0.mp b⟩
    · rw [cn] at hc
      exact Or.inr ⟨c, hc, a, fun z => b (e0.mpr z)⟩
  · obtain ⟨z3, z4, z5, z6, z7⟩ := i4 c h1 h2
    dsimp only
    rw [z3, z4, z5]
    exact ⟨by decide, by decide, by decide, z6, z7⟩
  · have e0 : Y 5 c = 0 ↔ (Y 5 c).toNatClampNeg = 0 := by
      rw [(hW c hc).2, nI_clamp (by have := (hW c hc).1; omega)]
      exact nI_0i (by have := (hW c hc).1; omega)
    refine ⟨fun z => ?_, fun ⟨k, hk, ek⟩ z => ?_⟩
    · obtain ⟨k, hk, ek⟩ := (i5 c hc).mp (fun y => z (e0.mp y))
      exact ⟨k, hk, by dsimp only; rw [ek, nI_clamp (by omega)]⟩
    · refine (i5 c hc).mpr ⟨k, hk, ?_⟩ (e0.mpr z)
      rw [(hO k (by omega)).2]
      dsimp only at ek
      rw [ek]
  · have := i6 i j h1 h2
    intro z
    refine this ?_
    rw [(hO i (by omega)).2, (hO j (by omega)).2]
    dsimp only at z
    rw [z]
  · dsimp only
    rw [← i7]
    unfold y_tot
    rw [cC]
theorem y_inv_of {T : Nat} {Y : ch_B} {n s C Br : Nat} {P R W K O : Nat → Nat} (hT : T < 2 ^ 31) (h : y_D T Y n s C Br P R W K O) : y_inv T Y := by
  obtain ⟨⟨hn, hs, en, es, eC, eB⟩, hO, hK, hc, hz, ⟨ho, hd⟩, hsum, hb⟩ := h
  have cn : (Y 0 8).toNatClampNeg = n := by rw [en, nI_clamp (by omega)]
  have cs : (Y 0 9).toNatClampNeg = s := by rw [es, nI_clamp (by omega)]
  have cC : (Y 0 10).toNatClampNeg = C := by rw [eC, nI_clamp (by omega)]
  have cB : (Y 0 11).toNatClampNeg = Br := by rw [eB, nI_clamp (by omega)]
  have cP : ∀ c, c < 5 → (Y 3 c).toNatClampNeg = P c := fun c h => by
    rw [(hc c h).2.1, nI_clamp (by have := (hc c h).1; omega)]
  unfold y_inv
  rw [cn, cs, cB]
  refine ⟨⟨by rw [en]; exact vp_in_nI hn (by decide), by rw [es]; exact vp_in_nI hs (by decide), fun k hk => by rw [(hO k hk).2]; exact vp_in_nI (hO k hk).1 (by decide)⟩, fun q hq => ⟨?_, ?_⟩, fun c h => ⟨?_, ?_, ?_⟩, fun c h1 h2 => ?_, ⟨fun c h => ?_, fun i j h1 h2 z => ?_⟩, ?_, hb, by rw [eB]; exact vp_in_nI (by omega) (by decide), by rw [eC]; exact vp_in_nI (by omega) (by decide)⟩
  · rw [(hK q hq).2.1]
    exact vp_in_nI (hK q hq).1 (by decide)
  · have hl := (hK q hq).1
    rcases (hK q hq).2.2 with ⟨a, b⟩ | ⟨c, hc, a, b⟩
    · exact Or.inl ⟨a, by rw [(hK q hq).2.1, b]; decide⟩
    · exact Or.inr ⟨c, hc, a, by rw [(hK q hq).2.1]; exact fun z => b ((nI_0i (by omega)).mp z)⟩
  · rw [(hc c h).2.1]
    exact vp_in_nI (hc c h).1 (by decide)
  · rw [(hc c h).2.2.2.1]
    exact vp_in_nI (hc c h).2.2.1 hT
  · rw [(hc c h).2.2.2.2.2]
    exact vp_in_nI (hc c h).2.2.2.2.1 (by decide)
  · obtain ⟨z1, z2, z3, z6, z7⟩ := hz c h1 h2
    obtain ⟨-, e3, -, e4, -, e5⟩ := hc c h2
    rw [e3, e4, e5, z1, z2, z3]
    exact ⟨by decide, by decide, by decide, z6, z7⟩
  · have hw := (hc c h).2.2.2.2.1
    rw [(hc c h).2.2.2.2.2]
    refine ⟨fun z => ?_, fun ⟨k, hk, ek⟩ z => ?_⟩
    · obtain ⟨k, hk, ek⟩ := (ho c h).mp (fun y => z (by rw [y]; decide))
      exact ⟨k, hk, by rw [(hO k (by omega)).2, ek]⟩
    · rw [(hO k (by omega)).2] at ek
      exact (ho c h).mpr ⟨k, hk, (nI_eq (by have := (hO k (by omega)).1; omega) (by omega)).mp ek⟩ ((nI_0i (by omega)).mp z)
  · rw [(hO i (by omega)).2, (hO j (by omega)).2] at z
    exact hd i j h1 h2 ((nI_eq (by have := (hO i (by omega)).1; omega) (by have := (hO j (by omega)).1; omega)).mp z)
  · unfold y_tot
    rw [cP 0 (by omega), cP 1 (by omega), cP 2 (by omega), cP 3 (by omega), cP 4 (by omega), cC]
    exact hsum
theorem y_inv_mono {T T' : Nat} {Y : ch_B} (hT : T' < 2 ^ 31) (h : y_inv T Y) (hl : T ≤ T') : y_inv T' Y := by
  refine ⟨h.1, h.2.1, fun c hc => ⟨(h.2.2.1 c hc).1, ?_, (h.2.2.1 c hc).2.2⟩, h.2.2.2⟩
  obtain ⟨v, hv, ev⟩ := vp_in_of (y_i4 h hc) (by omega)
  rw [ev]
  exact vp_in_nI (by omega) hT
/-- the sum of five, one of them changed -/
def f_up (f : Nat → Nat) (k v : Nat) : Nat → Nat := fun c => if c = k then v else f c
theorem f_up_at (f : Nat → Nat) (k v : Nat) : f_up f k v k = v := if_pos rfl
theorem f_up_ne {f : Nat → Nat} {k v c : Nat} (h : c ≠ k) : f_up f k v c = f c := if_neg h
theorem f_sum {f : Nat → Nat} {k v : Nat} (hk : k < 5) : f_up f k v 0 + f_up f k v 1 + f_up f k v 2 + f_up f k v 3 + f_up f k v 4 + f k = f 0 + f 1 + f 2 + f 3 + f 4 + v := by
  unfold f_up
  obtain rfl | rfl | rfl | rfl | rfl : k = 0 ∨ k = 1 ∨ k = 2 ∨ k = 3 ∨ k = 4 := by omega
  all_goals simp <;> omega
theorem f_le {f : Nat → Nat} {k : Nat} (hk : k < 5) : f k ≤ f 0 + f 1 + f 2 + f 3 + f 4 := by
  obtain rfl | rfl | rfl | rfl | rfl : k = 0 ∨ k = 1 ∨ k = 2 ∨ k = 3 ∨ k = 4 := by omega
  all_goals omega
theorem y_inv_sq {T : Nat} (hT : T < 2 ^ 31) {Y : ch_B} (h : y_inv T Y) {q v : Nat} (hq : q < 12) (hv : v < 10) {o : Int32} (ho : (o = -1 ∧ v = 0) ∨ (∃ c, c < (Y 0 8).toNatClampNeg ∧ o = nI c ∧ v ≠ 0)) : y_inv T (ch_bw (ch_bw Y 2 q (nI v)) 1 q o) := by
  obtain ⟨n, s, C, Br, P, R, W, K, O, ⟨hn, hs, en, es, eC, eB⟩, hO, hK, hc, hz, hod, hsum, hb⟩ := y_D_of hT h
  rw [en, nI_clamp (by omega)] at ho
  refine y_inv_of (n := n) (s := s) (C := C) (Br := Br) (P := P) (R := R) (W := W) (K := f_up K q v) (O := O) hT ⟨⟨hn, hs, en, es, eC, eB⟩, hO, fun i hi => ?_, hc, hz, hod, hsum, hb⟩
  by_cases e : i = q
  · subst e
    rw [f_up_at, ch_bw_c (by decide), ch_bw_at, ch_bw_at]
    exact ⟨hv, rfl, ho⟩
  · rw [f_up_ne e, ch_bw_c (by decide), ch_bw_k e, ch_bw_k e, ch_bw_c (by decide)]
    exact hK i hi
theorem ch_bw_self (Y : ch_B) (a k : Nat) : ch_bw Y a k (Y a k) = Y := by
  funext c i
  unfold ch_bw
  split
  · rename_i h
    rw [h.1, h.2]
  · rfl
theorem y_inv_pay {T : Nat} (hT : T < 2 ^ 31) {Y : ch_B} (h : y_inv T Y) {c a p : Nat} (hc5 : c < 5) (hp : Y 3 c = nI p) (hp2 : p < 496) (ha : a ≤ p) : y_inv T (ch_bw (ch_bw Y 3 c (Y 3 c - nI a)) 0 10 (Y 0 10 + nI a)) := by
  obtain ⟨n, s, C, Br, P, R, W, K, O, ⟨hn, hs, en, es, eC, eB⟩, hO, hK, hc, hz, hod, hsum, hb⟩ := y_D_of hT h
  have ep : P c = p := (nI_eq (by have := (hc c hc5).1; omega) (by omega)).mp ((hc c hc5).2.1.symm.trans hp)
  have hs5 := f_sum (f := P) (k := c) (v := p - a) hc5
  refine y_inv_of (n := n) (s := s) (C := C + a) (Br := Br) (P := f_up P c (p - a)) (R := R) (W := W) (K := K) (O := O) hT ⟨⟨hn, hs, en, es, ?_, eB⟩, hO, hK, fun d hd => ?_, fun d h1 h2 => ?_, hod, by omega, hb⟩
  · rw [ch_bw_at, eC, nI_add]
  · obtain ⟨c1, c2, c3, c4, c5, c6⟩ := hc d hd
    by_cases e : d = c
    · subst e
      rw [f_up_at, ch_bw_c (by decide), ch_bw_at, hp, pk_sub ha]
      exact ⟨by omega, rfl, c3, c4, c5, c6⟩
    · rw [f_up_ne e, ch_bw_c (by decide), ch_bw_k e]
      exact ⟨c1, c2, c3, c4, c5, c6⟩
  · obtain ⟨z1, z2⟩ := hz d h1 h2
    refine ⟨?_, z2⟩
    by_cases e : d = c
    · subst e
      rw [f_up_at]
      omega
    · rw [f_up_ne e]
      exact z1
theorem y_inv_get {T : Nat} (hT : T < 2 ^ 31) {Y : ch_B} (h : y_inv T Y) {c : Nat} (hc5 : c < (Y 0 8).toNatClampNeg) (hC : ¬ Y 0 10 ≤ 0) : y_inv T (ch_bw (ch_bw Y 0 10 (Y 0 10 - 1)) 3 c (Y 3 c + 1)) := by
  obtain ⟨n, s, C, Br, P, R, W, K, O, ⟨hn, hs, en, es, eC, eB⟩, hO, hK, hc, hz, hod, hsum, hb⟩ := y_D_of hT h
  rw [en, nI_clamp (by omega)] at hc5
  have hC1 : 1 ≤ C := by
    by_cases l : 1 ≤ C
    · exact l
    · exact absurd (by rw [eC, show C = 0 by omega]; decide) hC
  obtain ⟨C', rfl⟩ : ∃ C', C = C' + 1 := ⟨C - 1, by omega⟩
  have hs5 := f_sum (f := P) (k := c) (v := P c + 1) (by omega)
  have hle := f_le (f := P) (k := c) (by omega)
  refine y_inv_of (n := n) (s := s) (C := C') (Br := Br) (P := f_up P c (P c + 1)) (R := R) (W := W) (K := K) (O := O) hT ⟨⟨hn, hs, en, es, ?_, eB⟩, hO, hK, fun d hd => ?_, fun d h1 h2 => ?_, hod, by omega, hb⟩
  · rw [ch_bw_c (by decide), ch_bw_at, eC, nI_pred]
  · obtain ⟨c1, c2, c3, c4, c5, c6⟩ := hc d hd
    by_cases e : d = c
    · subst e
      rw [f_up_at, ch_bw_at, c2, nI_1]
      exact ⟨by omega, rfl, c3, c4, c5, c6⟩
    · rw [f_up_ne e, ch_bw_k e, ch_bw_c (by decide)]
      exact ⟨c1, c2, c3, c4, c5, c6⟩
  · rw [f_up_ne (show d ≠ c by omega)]
    exact hz d h1 h2
theorem y_inv_give {T : Nat} (hT : T < 2 ^ 31) {Y : ch_B} (h : y_inv T Y) {c d a p : Nat} (hc5 : c < 5) (hd5 : d < (Y 0 8).toNatClampNeg) (hcd : c ≠ d) (hp : Y 3 c = nI p) (hp2 : p < 496) (ha : a ≤ p) : y_inv T (ch_bw (ch_bw Y 3 c (Y 3 c - nI a)) 3 d (Y 3 d + nI a)) := by
  obtain ⟨n, s, C, Br, P, R, W, K, O, ⟨hn, hs, en, es, eC, eB⟩, hO, hK, hc, hz, hod, hsum, hb⟩ := y_D_of hT h
  rw [en, nI_clamp (by omega)] at hd5
  have ep : P c = p := (nI_eq (by have := (hc c hc5).1; omega) (by omega)).mp ((hc c hc5).2.1.symm.trans hp)
  have hs5 := f_sum (f := P) (k := c) (v := p - a) hc5
  have hs6 := f_sum (f := f_up P c (p - a)) (k := d) (v := P d + a) (by omega)
  rw [f_up_ne (fun z => hcd z.symm)] at hs6
  have hle := f_le (f := f_up (f_up P c (p - a)) d (P d + a)) (k := d) (by omega)
  rw [f_up_at] at hle
  refine y_inv_of (n := n) (s := s) (C := C) (Br := Br) (P := f_up (f_up P c (p - a)) d (P d + a)) (R := R) (W := W) (K := K) (O := O) hT ⟨⟨hn, hs, en, es, eC, eB⟩, hO, hK, fun e he => ?_, fun e h1 h2 => ?_, hod, by omega, hb⟩
  · obtain ⟨c1, c2, c3, c4, c5, c6⟩ := hc e he
    by_cases e1 : e = d
    · subst e1
      rw [f_up_at, ch_bw_at, c2, nI_add]
      exact ⟨by omega, rfl, c3, c4, c5, c6⟩
    · rw [f_up_ne e1, ch_bw_k e1]
      by_cases e2 : e = c
      · subst e2
        rw [f_up_at, ch_bw_at, hp, pk_sub ha]
        exact ⟨by omega, rfl, c3, c4, c5, c6⟩
      · rw [f_up_ne e2, ch_bw_k e2]
        exact ⟨c1, c2, c3, c4, c5, c6⟩
  · rw [f_up_ne (show e ≠ d by omega)]
    obtain ⟨z1, z2⟩ := hz e h1 h2
    refine ⟨?_, z2⟩
    by_cases e2 : e = c
    · subst e2
      rw [f_up_at]
      omega
    · rw [f_up_ne e2]
      exact z1
theorem y_inv_cnt {T : Nat} {Y : ch_B} (h : y_inv T Y) {k : Nat} {v : Int32} (hk : 12 ≤ k) : y_inv T (ch_bw Y 0 k v) := by
  have e : ∀ i, i < 12 → ch_bw Y 0 k v 0 i = Y 0 i := fun i hi => ch_bw_k (by omega)
  unfold y_inv y_tot
  rw [e 8 (by decide), e 9 (by decide), e 10 (by decide), e 11 (by decide)]
  exact h
theorem y_inv_67 {T : Nat} (hT : T < 2 ^ 31) {Y : ch_B} (h : y_inv T Y) {a c : Nat} {v : Int32} (ha : a = 6 ∨ a = 7) (hc5 : c < (Y 0 8).toNatClampNeg) : y_inv T (ch_bw Y a c v) := by
  obtain ⟨n, s, C, Br, P, R, W, K, O, ⟨hn, hs, en, es, eC, eB⟩, hO, hK, hc, hz, hod, hsum, hb⟩ := y_D_of hT h
  rw [en, nI_clamp (by omega)] at hc5
  have o : ∀ b i, b ≠ 6 → b ≠ 7 → ch_bw Y a c v b i = Y b i := fun b i h1 h2 => ch_bw_c (by omega)
  refine y_inv_of (n := n) (s := s) (C := C) (Br := Br) (P := P) (R := R) (W := W) (K := K) (O := O) hT ⟨⟨hn, hs, ?_, ?_, ?_, ?_⟩, fun k hk => ?_, fun q hq => ?_, fun d hd => ?_, fun d h1 h2 => ?_, hod, hsum, hb⟩
  · rw [o 0 8 (by decide) (by decide)]; exact en
  · rw [o 0 9 (by decide) (by decide)]; exact es
  · rw [o 0 10 (by decide) (by decide)]; exact eC
  · rw [o 0 11 (by decide) (by decide)]; exact eB
  · rw [o 8 k (by decide) (by decide)]; exact hO k hk
  · rw [o 2 q (by decide) (by decide), o 1 q (by decide) (by decide)]; exact hK q hq
  · rw [o 3 d (by decide) (by decide), o 4 d (by decide) (by decide), o 5 d (by decide) (by decide)]; exact hc d hd
  · have e : ∀ b, ch_bw Y a c v b d = Y b d := fun b => ch_bw_k (by omega)
    rw [e 6, e 7]
    exact hz d h1 h2
theorem y_inv_4 {T a : Nat} (hT : T + a < 2 ^ 31) {Y : ch_B} (h : y_inv T Y) {c : Nat} (hc5 : c < (Y 0 8).toNatClampNeg) : y_inv (T + a) (ch_bw Y 4 c (Y 4 c + nI a)) := by
  obtain ⟨n, s, C, Br, P, R, W, K, O, ⟨hn, hs, en, es, eC, eB⟩, hO, hK, hc, hz, hod, hsum, hb⟩ := y_D_of (by omega) h
  rw [en, nI_clamp (by omega)] at hc5
  refine y_inv_of (n := n) (s := s) (C := C) (Br := Br) (P := P) (R := f_up R c (R c + a)) (W := W) (K := K) (O := O) hT ⟨⟨hn, hs, en, es, eC, eB⟩, hO, hK, fun d hd => ?_, fun d h1 h2 => ?_, hod, hsum, hb⟩
  · obtain ⟨c1, c2, c3, c4, c5, c6⟩ := hc d hd
    by_cases e : d = c
    · subst e
      rw [f_up_at, ch_bw_at, c4, nI_add]
      exact ⟨c1, c2, by omega, rfl, c5, c6⟩
    · rw [f_up_ne e, ch_bw_c (show (3 : Nat) ≠ 4 by decide), ch_bw_c (show (5 : Nat) ≠ 4 by decide), ch_bw_k e]
      exact ⟨c1, c2, by omega, c4, c5, c6⟩
  · rw [f_up_ne (show d ≠ c by omega)]
    exact hz d h1 h2
theorem y_D_chd {T n : Nat} {Y : ch_B} (en : Y 0 8 = nI n) (hn : n < 6) {c : Int32} (h : 0 ≤ c ∧ c < Y 0 8) : ∃ k, k < n ∧ c = nI k := by
  obtain ⟨k, hk, ek⟩ := vp_in_of (ch_vp (x := c) (n := n) (by omega) (by have := h.1; grind) (by rw [← en]; have := h.2; grind)) (by omega)
  exact ⟨k, hk, ek⟩
theorem y_inv_bri {T : Nat} (hT : T < 2 ^ 31) (hT0 : 0 < T) {Y : ch_B} (h : y_inv T Y) {p : Int32} (hp : (r_wn Y p).1 = 0) : y_inv T (y_briB Y p) := by
  obtain ⟨n, s, C, Br, P, R, W, K, O, ⟨hn, hs, en, es, eC, eB⟩, hO, hK, hc, hz, hod, hsum, hb⟩ := y_D_of hT h
  unfold r_wn at hp
  have h99 : 0 ≤ p ∧ p ≤ 99 := by
    by_cases l : 0 ≤ p ∧ p ≤ 99
    · exact l
    · rw [if_neg l] at hp
      exact absurd hp (m_nz (by decide))
  rw [if_pos h99] at hp
  have hn5 : n < 5 := by
    by_cases l : Y 0 8 < 5
    · rw [en] at l
      exact (nI_ltI (by omega) (by decide)).mp l
    · rw [if_neg l] at hp
      exact absurd (show (2 : Int32) = 0 from hp) (by decide)
  obtain ⟨a, ha, rfl⟩ := vp_in_of (ch_vp (x := p) (n := 100) (by decide) (by have := h99.1; grind) (by
    have h1 := h99.2
    intro z
    exact absurd (Int32.le_trans z h1) (by decide))) (by decide)
  obtain ⟨z1, z2, z3, z6, z7⟩ := hz n (Nat.le_refl n) hn5
  have hs5 := f_sum (f := P) (k := n) (v := a) hn5
  unfold y_briB
  rw [en, nI_clamp (by omega), eB]
  refine y_inv_of (n := n + 1) (s := s) (C := C) (Br := Br + a) (P := f_up P n a) (R := R) (W := W) (K := K) (O := O) hT ⟨⟨by omega, hs, ?_, es, eC, ?_⟩, hO, fun q hq => ?_, fun d hd => ?_, fun d h1 h2 => ?_, hod, by omega, by omega⟩
  · rw [ch_bw_at, nI_1]
  · rw [ch_bw_k (by decide), ch_bw_at, nI_add]
  · obtain ⟨k1, k2, k3⟩ := hK q hq
    refine ⟨k1, k2, ?_⟩
    rcases k3 with k3 | ⟨c, hc1, hc2⟩
    · exact Or.inl k3
    · exact Or.inr ⟨c, by omega, hc2⟩
  · obtain ⟨c1, c2, c3⟩ := hc d hd
    by_cases e : d = n
    · subst e
      rw [f_up_at, ch_bw_c (by decide), ch_bw_c (by decide), ch_bw_at]
      exact ⟨by omega, rfl, c3⟩
    · rw [f_up_ne e, ch_bw_c (by decide), ch_bw_c (by decide), ch_bw_k e]
      exact ⟨c1, c2, c3⟩
  · rw [f_up_ne (show d ≠ n by omega)]
    exact hz d (by omega) h2
theorem y_inv_cha {T : Nat} (hT : T < 2 ^ 31) {Y : ch_B} (h : y_inv T Y) {c p : Int32} (hp : (r_wc Y c p).1 = 0) : y_inv T (y_chaB Y c p) := by
  unfold r_wc at hp
  have h8 := y_i8 h
  by_cases l1 : 0 ≤ c ∧ c < Y 0 8
  · rw [if_pos l1] at hp
    by_cases l2 : 0 ≤ p ∧ p ≤ 11
    · rw [if_pos l2] at hp
      obtain ⟨n, hn, en⟩ := vp_in_of h8 (by decide)
      obtain ⟨k, hk, rfl⟩ := y_D_chd (T := T) en hn l1
      obtain ⟨q, hq, rfl⟩ := vp_in_of (ch_11 l2) (by decide)
      have ck : (nI k).toNatClampNeg = k := nI_clamp (by omega)
      have cq : (nI q).toNatClampNeg = q := nI_clamp (by omega)
      rw [ck, cq] at hp
      by_cases l3 : Y 1 q = -1 ∨ Y 1 q = nI k
      · rw [if_pos l3] at hp
        by_cases l4 : Y 2 q < 9
        · rw [if_pos l4] at hp
          by_cases l5 : 1 ≤ Y 3 k
          · obtain ⟨a, ha, ea⟩ := vp_in_of (y_i3 h (show k < 5 by omega)) (by decide)
            have ha1 : 1 ≤ a := by
              rw [ea] at l5
              exact (nI_leI (a := 1) (by decide) (by omega)).mp l5
            obtain ⟨x, hx, ex⟩ := vp_in_of (y_i2 h hq) (by decide)
            have hx9 : x < 9 := by
              rw [ex] at l4
              exact (nI_ltI (b := 9) (by omega) (by decide)).mp l4
            have ev : ∃ v, v < 10 ∧ v ≠ 0 ∧ y_chv Y (nI q) = nI v := by
              unfold y_chv
              rw [cq, ex, show (nI x + 2 : Int32) = nI (x + 2) from nI_add x 2]
              split
              · exact ⟨5, by decide, by decide, rfl⟩
              · split
                · exact ⟨9, by decide, by decide, rfl⟩
                · rename_i l
                  refine ⟨x + 2, ?_, by omega, rfl⟩
                  by_cases y : x + 2 < 10
                  · exact y
                  · exact absurd (nI_lt (a := 9) (by omega) (by omega)) l
            obtain ⟨v, hv, hv0, ev⟩ := ev
            have r1 := y_inv_pay (a := 1) hT h (show k < 5 by omega) ea ha ha1
            have r2 := y_inv_sq (q := q) (v := v) hT r1 hq hv (o := nI k) (Or.inr ⟨k, by
              rw [ch_bw_k (by decide), ch_bw_c (by decide), en, nI_clamp (by omega)]
              exact hk, rfl, hv0⟩)
            unfold y_chaB
            rw [ck, cq, ev]
            exact r2
          · rw [if_neg l5] at hp
            exact absurd hp (m_nz (by decide))
        · rw [if_neg l4] at hp
          exact absurd hp (m_nz (by decide))
      · rw [if_neg l3] at hp
        exact absurd hp (m_nz (by decide))
    · rw [if_neg l2] at hp
      exact absurd hp (m_nz (by decide))
  · rw [if_neg l1] at hp
    exact absurd hp (m_nz (by decide))
theorem y_inv_giv {T : Nat} (hT : T < 2 ^ 31) {Y : ch_B} (h : y_inv T Y) {c d p : Int32} (hp : (r_wg Y c d p).1 = 0) : y_inv T (y_givB Y c d p) := by
  unfold r_wg at hp
  have h8 := y_i8 h
  by_cases l1 : 0 ≤ c ∧ c < Y 0 8
  · rw [if_pos l1] at hp
    by_cases l2 : 0 ≤ d ∧ d < Y 0 8
    · rw [if_pos l2] at hp
      by_cases l3 : c = d
      · rw [if_pos l3] at hp
        exact absurd hp (m_nz (by decide))
      · rw [if_neg l3] at hp
        by_cases l4 : 1 ≤ p ∧ p ≤ 99
        · rw [if_pos l4] at hp
          obtain ⟨n, hn, en⟩ := vp_in_of h8 (by decide)
          obtain ⟨k, hk, rfl⟩ := y_D_chd (T := T) en hn l1
          obtain ⟨l, hl, rfl⟩ := y_D_chd (T := T) en hn l2
          obtain ⟨a, ha, rfl⟩ := vp_in_of (ch_vp (x := p) (n := 100) (by decide) (fun z => absurd (Int32.lt_of_le_of_lt l4.1 z) (by decide)) (fun z => absurd (Int32.le_trans z l4.2) (by decide))) (by decide)
          have ck : (nI k).toNatClampNeg = k := nI_clamp (by omega)
          have cl : (nI l).toNatClampNeg = l := nI_clamp (by omega)
          rw [ck] at hp
          by_cases l5 : nI a ≤ Y 3 k
          · obtain ⟨b, hb, eb⟩ := vp_in_of (y_i3 h (show k < 5 by omega)) (by decide)
            have hab : a ≤ b := by
              rw [eb] at l5
              exact (nI_leI (by omega) (by omega)).mp l5
            have hkl : k ≠ l := fun z => l3 (by rw [z])
            have r := y_inv_give hT h (show k < 5 by omega) (d := l) (by rw [en, nI_clamp (by omega)]; exact hl) hkl eb hb hab
            unfold y_givB
            rw [ck, cl, ch_bw_k (show l ≠ k from fun z => hkl z.symm)]
            exact r
          · rw [if_neg l5] at hp
            exact absurd hp (m_nz (by decide))
        · rw [if_neg l4] at hp
          exact absurd hp (m_nz (by decide))
    · rw [if_neg l2] at hp
      exact absurd hp (m_nz (by decide))
  · rw [if_neg l1] at hp
    exact absurd hp (m_nz (by decide))
theorem y_tc_inv {T : Nat} (hT : T < 2 ^ 31) {Y Z : ch_B} (h : y_inv T Z) {c : Nat} (hc : c < 5) (k : Nat) : k ≤ 12 → y_inv T (y_pk Z (nI c) k).1 := by
  induction k with
  | zero => exact fun _ => h
  | succ k ih =>
    intro hk
    have ih := ih (by omega)
    rw [y_pk, nI_clamp (by omega)]
    split
    · split
      · dsimp only
        rw [y_tk9 (by omega) (y_i2 ih (by omega))]
        exact y_inv_sq (v := 0) hT ih (by omega) (by omega) (Or.inl ⟨rfl, rfl⟩)
      · rename_i l
        dsimp only
        obtain ⟨a, ha, ea⟩ := vp_in_of (y_i3 ih hc) (by decide)
        refine y_inv_pay (a := 1) hT ih hc ea ha ?_
        by_cases l1 : 1 ≤ a
        · exact l1
        · exact absurd (by rw [ea, show a = 0 by omega]; decide) l
    · exact ih
theorem y_term_inv {T : Nat} (hT : T < 2 ^ 31) {Y : ch_B} (h : y_inv T Y) : y_inv T (y_termB Y) := by
  obtain ⟨n, hn, en⟩ := vp_in_of (y_i8 h) (by decide)
  have cn : (Y 0 8).toNatClampNeg = n := by rw [en, nI_clamp (by omega)]
  have h1 : ∀ k, k ≤ n → y_inv T (y_tc Y k).1 := by
    intro k
    induction k with
    | zero => exact fun _ => h
    | succ k ih =>
      intro hk
      rw [y_tc]
      dsimp only
      rw [y_p12_eq]
      exact y_tc_inv (Y := Y) hT (ih (by omega)) (by omega) 12 (by omega)
  have e8 : ∀ k, y_tg (y_tc Y n).1 k 0 8 = Y 0 8 := fun k => by rw [y_tg_o _ _ _ _ (by decide) (fun _ => by decide), y_tc_o _ _ _ _ (by decide) (by decide) (by decide) (fun _ => by decide)]
  have h2 : ∀ k, k ≤ n → y_inv T (y_tg (y_tc Y n).1 k) := by
    intro k
    induction k with
    | zero => exact fun _ => h1 n (Nat.le_refl n)
    | succ k ih =>
      intro hk
      have ih := ih (by omega)
      rw [y_tg]
      split
      · exact ih
      · rename_i l
        have := y_inv_get (c := k) hT ih (by rw [e8, cn]; omega) l
        exact this
  unfold y_termB y_tZ
  rw [cn]
  exact y_inv_cnt (y_inv_cnt (h2 n (Nat.le_refl n)) (by decide)) (by decide)
theorem m_row_nd' {f : Nat → Int32} (n : Nat) (h : (m_row f n).Nodup) : ∀ i j, i < j → j < n → ¬ f i = f j := by
  induction n with
  | zero => exact fun i j _ h => absurd h (by omega)
  | succ n ih =>
    intro i j hij hj
    rw [m_row_s] at h
    obtain ⟨h1, -, h3⟩ := List.nodup_append.mp h
    by_cases e : j = n
    · subst e
      exact h3 (f i) (m_mem_row hij) (f j) (List.mem_singleton.mpr rfl)
    · exact ih h1 i j hij (by omega)
theorem y_inv_ord {T : Nat} (hT : T < 2 ^ 31) {Y Y' : ch_B} (h : y_inv T Y) (f0 : ∀ i, i = 8 ∨ i = 10 ∨ i = 11 → Y' 0 i = Y 0 i) (f1 : ∀ a i, a ≠ 0 → a ≠ 5 → a ≠ 8 → Y' a i = Y a i) {W' : Nat → Nat} (hW : ∀ c, c < 5 → W' c < 10 ∧ Y' 5 c = nI (W' c)) (hz : ∀ c, (Y 0 8).toNatClampNeg ≤ c → c < 5 → W' c = 0) {s' : Nat} (hs' : s' < 6) (e9 : Y' 0 9 = nI s') (h8 : ∀ k, k < 5 → vp_in (Y' 8 k) 5) (hnd : (m_row (Y' 8) s').Nodup) (hm : ∀ c, c < 5 → (W' c ≠ 0 ↔ nI c ∈ m_row (Y' 8) s')) : y_inv T Y' := by
  obtain ⟨n, s, C, Br, P, R, W, K, O, ⟨hn, hs, en, es, eC, eB⟩, hO, hK, hc, hz0, hod, hsum, hb⟩ := y_D_of hT h
  rw [en, nI_clamp (by omega)] at hz
  have hO' : ∀ k, k < 5 → (Y' 8 k).toNatClampNeg < 5 ∧ Y' 8 k = nI (Y' 8 k).toNatClampNeg := fun c hc => by
    obtain ⟨v, hv, ev⟩ := vp_in_of (h8 c hc) (by decide)
    rw [ev, nI_clamp (by omega)]
    exact ⟨hv, rfl⟩
  refine y_inv_of (n := n) (s := s') (C := C) (Br := Br) (P := P) (R := R) (W := W') (K := K) (O := fun k => (Y' 8 k).toNatClampNeg) hT ⟨⟨hn, hs', (f0 8 (by omega)).trans en, e9, (f0 10 (by omega)).trans eC, (f0 11 (by omega)).trans eB⟩, hO', fun q hq => ?_, fun d hd => ?_, fun d h1 h2 => ?_, ⟨fun c hc5 => ?_, fun i j hij hj z => ?_⟩, hsum, hb⟩
  · rw [f1 2 q (by decide) (by decide) (by decide), f1 1 q (by decide) (by decide) (by decide)]
    exact hK q hq
  · rw [f1 3 d (by decide) (by decide) (by decide), f1 4 d (by decide) (by decide) (by decide)]
    obtain ⟨c1, c2, c3, c4, -, -⟩ := hc d hd
    exact ⟨c1, c2, c3, c4, hW d hd⟩
  · rw [f1 6 d (by decide) (by decide) (by decide), f1 7 d (by decide) (by decide) (by decide)]
    obtain ⟨z1, z2, -, z4⟩ := hz0 d h1 h2
    exact ⟨z1, z2, hz d h1 h2, z4⟩
  · rw [hm c hc5]
    refine ⟨fun z => ?_, fun ⟨k, hk, ek⟩ => ?_⟩
    · obtain ⟨k, hk, ek⟩ := m_row_mem z
      exact ⟨k, hk, by dsimp only; rw [ek, nI_clamp (by omega)]⟩
    · have := m_mem_row (f := Y' 8) hk
      rw [(hO' k (by omega)).2] at this
      dsimp only at ek
      rw [ek] at this
      exact this
  · refine m_row_nd' s' hnd i j hij hj ?_
    rw [(hO' i (by omega)).2, (hO' j (by omega)).2]
    dsimp only at z
    rw [z]
theorem y_inv_row {T : Nat} {Y : ch_B} (h : y_inv T Y) {s : Nat} (hs : s < 6) (es : Y 0 9 = nI s) : (m_row (Y 8) s).Nodup ∧ (∀ c, c < 5 → (¬ Y 5 c = 0 ↔ nI c ∈ m_row (Y 8) s)) ∧ ∀ x, x ∈ m_row (Y 8) s → ∃ a, a < 5 ∧ x = nI a ∧ ¬ Y 5 a = 0 := by
  have cs : (Y 0 9).toNatClampNeg = s := by rw [es, nI_clamp (by omega)]
  obtain ⟨-, -, -, -, ⟨i5, i6⟩, -⟩ := id h
  rw [cs] at i5 i6
  have hm : ∀ c, c < 5 → (¬ Y 5 c = 0 ↔ nI c ∈ m_row (Y 8) s) := fun c hc => by
    rw [i5 c hc]
    refine ⟨fun ⟨k, hk, ek⟩ => by rw [← ek]; exact m_mem_row hk, fun z => ?_⟩
    obtain ⟨k, hk, ek⟩ := m_row_mem z
    exact ⟨k, hk, ek⟩
  refine ⟨m_row_nd s i6, hm, fun x hx => ?_⟩
  obtain ⟨k, hk, rfl⟩ := m_row_mem hx
  obtain ⟨a, ha, ea⟩ := vp_in_of (y_i8k h k (by omega)) (by decide)
  exact ⟨a, ha, ea, (hm a ha).mpr (by rw [← ea]; exact m_mem_row hk)⟩
theorem m_cmp_in (p : Int32 → Bool) (f : Nat → Int32) (n i : Nat) (hi : i < 5) (hn : n ≤ 5) : ∃ j, j < 5 ∧ (m_cmp p f n).1 i = f j := by
  induction n with
  | zero => exact ⟨i, hi, rfl⟩
  | succ n ih =>
    have hh := m_cmp_hi p f n n (Nat.le_refl n)
    rw [m_cmp, hh]
    split
    · dsimp only
      split
      · exact ⟨n, by omega, rfl⟩
      · exact ih (by omega)
    · exact ih (by omega)
/-- closing the order: warrants of the members as they are, all others none -/
theorem y_inv_clB {T : Nat} (hT : T < 2 ^ 31) {Y Z : ch_B} (h : y_inv T Y) (e9 : Z 0 9 = Y 0 9) (e8 : Z 8 = Y 8) (f0 : ∀ i, i = 8 ∨ i = 10 ∨ i = 11 → Z 0 i = Y 0 i) (f1 : ∀ a i, a ≠ 0 → a ≠ 5 → a ≠ 8 → Z a i = Y a i) {W' : Nat → Nat} (hW : ∀ c, c < 5 → W' c < 10 ∧ Z 5 c = nI (W' c)) (hle : ∀ c, c < 5 → W' c ≠ 0 → ¬ Y 5 c = 0) : y_inv T (y_clB Z) := by
  obtain ⟨s, hs, es⟩ := vp_in_of (y_i9 h) (by decide)
  obtain ⟨r1, r2, r3⟩ := y_inv_row h hs es
  have cs : (Z 0 9).toNatClampNeg = s := by rw [e9, es, nI_clamp (by omega)]
  have hl := m_cmp_le (fun x => !decide (Z 5 x.toNatClampNeg ≤ 0)) (Z 8) s
  have hrow : m_row (y_clB Z 8) (m_cmp (fun x => !decide (Z 5 x.toNatClampNeg ≤ 0)) (Z 8) s).2 = (m_row (Y 8) s).filter (fun x => !decide (Z 5 x.toNatClampNeg ≤ 0)) := by
    have : y_clB Z 8 = (m_cmp (fun x => !decide (Z 5 x.toNatClampNeg ≤ 0)) (Z 8) s).1 := by
      funext i
      unfold y_clB
      rw [if_pos rfl, cs, y_clk_cmp]
    rw [this, m_cmp_row, e8]
  refine y_inv_ord (W' := W') (s' := (m_cmp (fun x => !decide (Z 5 x.toNatClampNeg ≤ 0)) (Z 8) s).2) hT h (fun i hi => ?_) (fun a i h1 h2 h3 => ?_) (fun c hc => ?_) (fun c h1 h2 => ?_) (by omega) ?_ (fun k hk => ?_) ?_ (fun c hc => ?_)
  · rw [y_clB_o (by decide) (by omega)]
    exact f0 i hi
  · rw [y_clB_o h3 (fun z => h1 z.1)]
    exact f1 a i h1 h2 h3
  · rw [y_clB_o (by decide) (fun z => absurd z.1 (by decide))]
    exact hW c hc
  · by_cases e : W' c = 0
    · exact e
    · exact absurd (h.2.2.2.1 c h1 h2).2.2.1 (hle c h2 e)
  · unfold y_clB
    rw [if_neg (by decide), if_pos ⟨rfl, rfl⟩, cs, y_clk_cmp]
  · unfold y_clB
    rw [if_pos rfl, cs, y_clk_cmp]
    obtain ⟨j, hj, ej⟩ := m_cmp_in (fun x => !decide (Z 5 x.toNatClampNeg ≤ 0)) (Z 8) s k hk (by omega)
    rw [ej, e8]
    exact y_i8k h j hj
  · rw [hrow]
    exact r1.sublist List.filter_sublist
  · rw [hrow, List.mem_filter, ← r2 c hc, nI_clamp (by omega), (hW c hc).2]
    have hw := (hW c hc).1
    refine ⟨fun z => ⟨hle c hc z, ?_⟩, fun z y => ?_⟩
    · have := nI_nle (n := W' c) (by omega) (by omega)
      simp [this]
    · rw [y] at z
      exact absurd z.2 (by decide)
theorem y_inv_40 {T : Nat} (hT : T < 2 ^ 31) {Y : ch_B} (h : y_inv T Y) {c : Nat} (hc5 : c < 5) : y_inv T (ch_bw Y 4 c 0) := by
  obtain ⟨n, s, C, Br, P, R, W, K, O, ⟨hn, hs, en, es, eC, eB⟩, hO, hK, hc, hz, hod, hsum, hb⟩ := y_D_of hT h
  have hT0 := (hc c hc5).2.2.1
  refine y_inv_of (n := n) (s := s) (C := C) (Br := Br) (P := P) (R := f_up R c 0) (W := W) (K := K) (O := O) hT ⟨⟨hn, hs, en, es, eC, eB⟩, hO, hK, fun d hd => ?_, fun d h1 h2 => ?_, hod, hsum, hb⟩
  · obtain ⟨c1, c2, c3, c4, c5, c6⟩ := hc d hd
    by_cases e : d = c
    · subst e
      rw [f_up_at, ch_bw_at]
      exact ⟨c1, c2, by omega, rfl, c5, c6⟩
    · rw [f_up_ne e, ch_bw_c (show (3 : Nat) ≠ 4 by decide), ch_bw_c (show (5 : Nat) ≠ 4 by decide), ch_bw_k e]
      exact ⟨c1, c2, c3, c4, c5, c6⟩
  · obtain ⟨z1, z2, z3⟩ := hz d h1 h2
    refine ⟨z1, ?_, z3⟩
    by_cases e : d = c
    · rw [e, f_up_at]
    · rw [f_up_ne e]
      exact z2
theorem y_inv_2 {T : Nat} (hT : T < 2 ^ 31) {Y : ch_B} (h : y_inv T Y) {q v c : Nat} (hq : q < 12) (hv : v < 10) (hv0 : v ≠ 0) (hc : c < (Y 0 8).toNatClampNeg) (e : Y 1 q = nI c) : y_inv T (ch_bw Y 2 q (nI v)) := by
  have r := y_inv_sq (q := q) (v := v) hT h hq hv (o := Y 1 q) (Or.inr ⟨c, hc, e, hv0⟩)
  have e2 : ch_bw (ch_bw Y 2 q (nI v)) 1 q (Y 1 q) = ch_bw Y 2 q (nI v) := by
    have := ch_bw_self (ch_bw Y 2 q (nI v)) 1 q
    rw [ch_bw_c (by decide)] at this
    exact this
  rw [e2] at r
  exact r
theorem y_inv_wri {T : Nat} (hT : T < 2 ^ 31) {Y : ch_B} (h : y_inv T Y) {c : Int32} (hp : (r_ww Y c).1 = 0) : y_inv T (y_wriB Y c) := by
  unfold r_ww at hp
  by_cases l1 : 0 ≤ c ∧ c < Y 0 8
  · rw [if_pos l1] at hp
    obtain ⟨n, hn, en⟩ := vp_in_of (y_i8 h) (by decide)
    obtain ⟨k, hk, rfl⟩ := y_D_chd (T := T) en hn l1
    have ck : (nI k).toNatClampNeg = k := nI_clamp (by omega)
    have hk5 : k < 5 := by omega
    rw [ck] at hp
    by_cases l2 : Y 5 k ≤ 0
    · rw [if_pos l2] at hp
      by_cases l3 : 3 ≤ Y 4 k
      · obtain ⟨w, hw⟩ := y_war h
        obtain ⟨r, hr, er⟩ := vp_in_of (y_i4 h hk5) hT
        have hr3 : 3 ≤ r := by
          rw [er] at l3
          exact (nI_leI (a := 3) (by decide) (by omega)).mp l3
        have h50 : Y 5 k = 0 := by
          rw [(hw k hk5).2] at l2 ⊢
          have := (hw k hk5).1
          by_cases e : w k = 0
          · rw [e]; rfl
          · exact absurd l2 (nI_nle (by omega) (by omega))
        obtain ⟨s, hs, es⟩ := vp_in_of (y_i9w h hk5 h50) (by decide)
        obtain ⟨r1, r2, r3⟩ := y_inv_row h (show s < 6 by omega) es
        have cs : (Y 0 9).toNatClampNeg = s := by rw [es, nI_clamp (by omega)]
        have hwk : w k = 0 := by
          have := (hw k hk5).1
          by_cases e : w k = 0
          · exact e
          · exact absurd (by rw [← (hw k hk5).2]; exact h50) (nI_ne0 (n := w k) (by omega) (by omega))
        have hmin : (if 9 < Y 4 k then 9 else Y 4 k) = nI (if 9 < r then 9 else r) := by
          rw [er]
          by_cases l : 9 < r
          · rw [if_pos (show (9 : Int32) < nI r from nI_lt (a := 9) l (by omega)), if_pos l]; rfl
          · rw [if_neg (show ¬ (9 : Int32) < nI r from nI_nlt (a := 9) (b := r) (by omega) (by decide)), if_neg l]
        have hnin : ¬ nI k ∈ m_row (Y 8) s := fun z => (r2 k hk5).mpr z h50
        have e8 : ∀ i, y_wriB Y (nI k) 8 i = if i = s then nI k else Y 8 i := by
          intro i
          unfold y_wriB
          rw [ck, cs]
          unfold ch_bw
          grind
        have hrow : m_row (y_wriB Y (nI k) 8) (s + 1) = m_row (Y 8) s ++ [nI k] := by
          rw [m_row_s, e8, if_pos rfl, m_row_cg (g := Y 8) (fun i hi => by rw [e8, if_neg (by omega)])]
        have base := y_inv_40 hT h hk5
        refine y_inv_ord (Y := ch_bw Y 4 k 0) (W' := f_up w k (if 9 < r then 9 else r)) (s' := s + 1) hT base (fun i hi => ?_) (fun a i h1 h2 h3 => ?_) (fun d hd => ?_) (fun d h1 h2 => ?_) (by omega) ?_ (fun i hi => ?_) ?_ (fun d hd => ?_)
        · unfold y_wriB
          rw [ch_bw_k (by omega), ch_bw_k (by omega), ch_bw_c (by decide), ck, ch_bw_c (by decide), ch_bw_c (by decide), ch_bw_c (by decide)]
        · unfold y_wriB
          rw [ch_bw_c h1, ch_bw_c h1, ch_bw_c h3, ck]
          unfold ch_bw
          grind
        · have e5 : y_wriB Y (nI k) 5 d = if d = k then nI (if 9 < r then 9 else r) else Y 5 d := by
            unfold y_wriB
            rw [ck, hmin]
            unfold ch_bw
            grind
          rw [e5]
          by_cases e : d = k
          · rw [if_pos e, e, f_up_at]
            exact ⟨by split <;> omega, rfl⟩
          · rw [if_neg e, f_up_ne e]
            exact hw d hd
        · rw [ch_bw_c (by decide), en, nI_clamp (by omega)] at h1
          rw [f_up_ne (by omega)]
          have h0 := (h.2.2.2.1 d (by rw [en, nI_clamp (by omega)]; exact h1) h2).2.2.1
          have hd := hw d h2
          rw [hd.2] at h0
          exact (nI_0i (by omega)).mp h0
        · unfold y_wriB
          rw [ch_bw_k (by decide), ch_bw_at, es, nI_1]
        · rw [e8]
          split
          · exact vp_in_nI hk5 (by decide)
          · exact y_i8k h i hi
        · rw [hrow]
          exact List.nodup_append.mpr ⟨r1, List.nodup_cons.mpr ⟨by simp, List.nodup_nil⟩, fun a ha b hb => by
            rw [List.mem_singleton.mp hb]
            exact fun z => hnin (z ▸ ha)⟩
        · rw [hrow, List.mem_append, List.mem_singleton, ← r2 d hd]
          by_cases e : d = k
          · subst e
            rw [f_up_at]
            exact ⟨fun _ => Or.inr rfl, fun _ => by split <;> omega⟩
          · have hne : ¬ nI d = nI k := fun z => e ((nI_eq (by omega) (by omega)).mp z)
            have hd9 := (hw d hd).1
            rw [f_up_ne e, (hw d hd).2]
            have := nI_0i (n := w d) (by omega)
            constructor
            · exact fun z => Or.inl (fun y => z (this.mp y))
            · exact fun z y => z.elim (fun x => x (this.mpr y)) hne
      · rw [if_neg l3] at hp
        exact absurd hp (m_nz (by decide))
    · rw [if_neg l2] at hp
      exact absurd hp (m_nz (by decide))
  · rw [if_neg l1] at hp
    exact absurd hp (m_nz (by decide))
theorem y_inv_str {T : Nat} (hT : T < 2 ^ 31) {Y : ch_B} (h : y_inv T Y) {c : Int32} (hp : (r_ws Y c).1 = 0) : y_inv T (y_strB Y c) := by
  unfold r_ws at hp
  by_cases l1 : 0 ≤ c ∧ c < Y 0 8
  · rw [if_pos l1] at hp
    obtain ⟨n, hn, en⟩ := vp_in_of (y_i8 h) (by decide)
    obtain ⟨k, hk, rfl⟩ := y_D_chd (T := T) en hn l1
    have ck : (nI k).toNatClampNeg = k := nI_clamp (by omega)
    have hk5 : k < 5 := by omega
    rw [ck] at hp
    by_cases l2 : Y 5 k = 0
    · rw [if_pos l2] at hp
      exact absurd hp (m_nz (by decide))
    · rw [if_neg l2] at hp
      by_cases l3 : Y 5 k ≤ Y 3 k
      · obtain ⟨w, hw⟩ := y_war h
        obtain ⟨a, ha, ea⟩ := vp_in_of (y_i3 h hk5) (by decide)
        have hle : w k ≤ a := by
          rw [(hw k hk5).2, ea] at l3
          have := (hw k hk5).1
          exact (nI_leI (by omega) (by omega)).mp l3
        have r1 := y_inv_pay (a := w k) hT h hk5 ea ha hle
        rw [← (hw k hk5).2] at r1
        unfold y_strB
        rw [ck]
        refine y_inv_clB (W' := f_up w k 0) hT r1 ?_ ?_ (fun i hi => ?_) (fun a i h1 h2 h3 => ?_) (fun d hd => ?_) (fun d hd z => ?_)
        · rw [ch_bw_c (by decide)]
        · funext i
          rw [ch_bw_c (by decide)]
        · rw [ch_bw_c (by decide)]
        · rw [ch_bw_c h2]
        · by_cases e : d = k
          · subst e
            rw [f_up_at, ch_bw_at]
            exact ⟨by omega, rfl⟩
          · rw [f_up_ne e, ch_bw_k e, ch_bw_c (by decide), ch_bw_c (by decide)]
            exact hw d hd
        · rw [ch_bw_c (by decide), ch_bw_c (by decide), (hw d hd).2]
          have hd9 := (hw d hd).1
          by_cases e : d = k
          · rw [e, f_up_at] at z
            exact absurd rfl z
          · rw [f_up_ne e] at z
            exact fun y => z ((nI_0i (by omega)).mp y)
      · rw [if_neg l3] at hp
        exact absurd hp (m_nz (by decide))
  · rw [if_neg l1] at hp
    exact absurd hp (m_nz (by decide))
theorem y_wZ_5 {T : Nat} {Y : ch_B} (hi : y_inv T Y) {w : Nat → Nat} (hw : ∀ c, c < 5 → w c < 10 ∧ Y 5 c = nI (w c)) {ρ : Nat} (hρ : ρ < 10) : ∀ c, c < 5 → y_wZ Y (nI ρ) 5 c = nI (w c - ρ) := by
  obtain ⟨s, hs, es⟩ := vp_in_of (y_i9 hi) (by decide)
  have cs : (Y 0 9).toNatClampNeg = s := by rw [es, nI_clamp (by omega)]
  have o : ∀ a i, a ≠ 1 → a ≠ 2 → (y_wk Y (nI ρ) 12).1 a i = Y a i := fun a i h1 h2 => y_wk_o Y _ 12 a i h1 h2
  intro c hc
  obtain ⟨z1, z2⟩ := y_wa_5 (Z := (y_wk Y (nI ρ) 12).1) (r := nI ρ) hs (fun i h => by
    obtain ⟨a, h1, h2, -⟩ := y_imem hi i (by rw [cs]; exact h)
    exact ⟨a, h1, (o 8 i (by decide) (by decide)).trans h2⟩) (fun i j h1 h2 => by
    rw [o 8 i (by decide) (by decide), o 8 j (by decide) (by decide)]
    exact hi.2.2.2.2.1.2 i j h1 (by rw [cs]; exact h2)) s (Nat.le_refl s) c hc
  have e5 : (y_wk Y (nI ρ) 12).1 5 c = nI (w c) := (o 5 c (by decide) (by decide)).trans (hw c hc).2
  unfold y_wZ
  rw [cs]
  by_cases h : ∃ i, i < s ∧ (y_wk Y (nI ρ) 12).1 8 i = nI c
  · rw [z1 h, e5]
    exact m_sub9 (by have := (hw c hc).1; omega) (by omega)
  · rw [z2 h, e5]
    have h0 : w c = 0 := by
      by_cases e : w c = 0
      · exact e
      · obtain ⟨j, hj, ej⟩ := (hi.2.2.2.2.1.1 c hc).mp (by rw [(hw c hc).2]; exact nI_ne0 (by omega) (by have := (hw c hc).1; omega))
        exact absurd ⟨j, by rw [cs] at hj; exact hj, (o 8 j (by decide) (by decide)).trans ej⟩ h
    rw [h0, Nat.zero_sub]
theorem y_inv_wk {T : Nat} (hT : T < 2 ^ 31) {Y : ch_B} (h : y_inv T Y) {ρ : Nat} (hρ : ρ < 10) (k : Nat) : k ≤ 12 → y_inv T (y_wk Y (nI ρ) k).1 := by
  induction k with
  | zero => exact fun _ => h
  | succ k ih =>
    intro hk
    have ih := ih (by omega)
    obtain ⟨v, hv, ev, h1, h2, h3⟩ := y_wk_s h hρ (show k < 12 by omega)
    by_cases e0 : v = 0
    · rw [h1 e0]
      exact ih
    · by_cases l : v ≤ ρ
      · rw [h2 e0 l]
        exact y_inv_sq (v := 0) hT ih (by omega) (by omega) (Or.inl ⟨rfl, rfl⟩)
      · rw [h3 e0 (by omega)]
        obtain ⟨f1, f2⟩ := y_wk_far Y (nI ρ) k (by omega) k (Nat.le_refl k)
        rcases (h.2.1 k (by omega)).2 with ⟨a, b⟩ | ⟨c, hc, a, b⟩
        · rw [ev] at b
          exact absurd ((nI_0i (by omega)).mp b) e0
        · have e8 : (y_wk Y (nI ρ) k).1 0 8 = Y 0 8 := y_wk_o _ _ _ _ _ (by decide) (by decide)
          exact y_inv_2 (c := c) hT ih (by omega) (by omega) (by omega) (by rw [e8]; exact hc) (f1.trans a)
theorem y_inv_was {T : Nat} (hT : T < 2 ^ 31) {Y : ch_B} (h : y_inv T Y) {r : Int32} (hr : 1 ≤ r ∧ r ≤ 9) : y_inv T (y_washB Y r) := by
  obtain ⟨ρ, hρ, rfl⟩ := vp_in_of (ch_vp (x := r) (n := 10) (by decide) (fun z => absurd (Int32.lt_of_le_of_lt hr.1 z) (by decide)) (fun z => absurd (Int32.le_trans z hr.2) (by decide))) (by decide)
  obtain ⟨w, hw⟩ := y_war h
  have z5 := y_wZ_5 h hw hρ
  have base := y_inv_wk hT h hρ 12 (Nat.le_refl 12)
  have o : ∀ a i, a ≠ 1 → a ≠ 2 → (y_wk Y (nI ρ) 12).1 a i = Y a i := fun a i h1 h2 => y_wk_o Y _ 12 a i h1 h2
  unfold y_washB
  refine y_inv_cnt (y_inv_clB (W' := fun c => w c - ρ) hT base ?_ ?_ (fun i hi => ?_) (fun a i h1 h2 h3 => ?_) (fun d hd => ?_) (fun d hd z => ?_)) (by decide)
  · unfold y_wZ
    rw [y_wa_o _ _ _ _ _ (by decide)]
  · funext i
    unfold y_wZ
    rw [y_wa_o _ _ _ _ _ (by decide)]
  · unfold y_wZ
    rw [y_wa_o _ _ _ _ _ (by decide)]
  · unfold y_wZ
    rw [y_wa_o _ _ _ _ _ h2]
  · have := (hw d hd).1
    exact ⟨by omega, z5 d hd⟩
  · have := (hw d hd).1
    rw [o 5 d (by decide) (by decide), (hw d hd).2]
    exact fun y => by
      have := (nI_0i (n := w d) (by omega)).mp y
      omega
theorem y_inv_hk {T : Nat} (hT : T < 2 ^ 31) {Y : ch_B} (h : y_inv T Y) (c : Int32) (f : Nat → Int32) (k : Nat) : y_inv T (y_hk Y c f k) ∧ y_hk Y c f k 0 8 = Y 0 8 := by
  induction k with
  | zero => exact ⟨h, rfl⟩
  | succ k ih =>
    obtain ⟨ih, e8⟩ := ih
    show y_inv T (y_hs (y_hk Y c f k) c (ch_ps f (k + 1))) ∧ y_hs (y_hk Y c f k) c (ch_ps f (k + 1)) 0 8 = Y 0 8
    generalize y_hk Y c f k = Z at *
    unfold y_hs
    split
    · rename_i l
      obtain ⟨d1, d2, d3, d4⟩ := (ch_lineB_iff _ _ _).mp l
      obtain ⟨p, hp, ep⟩ := vp_in_of (ch_vp (x := ch_ps f (k + 1)) (n := 12) (by decide) d1 d2) (by decide)
      rw [ep] at d3 ⊢
      rw [nI_clamp (by omega)] at d3 ⊢
      rcases (ih.2.1 p hp).2 with ⟨a, b⟩ | ⟨o, ho, a, b⟩
      · exact absurd a d3
      · obtain ⟨n, hn, en⟩ := vp_in_of (y_i8 ih) (by decide)
        have ho5 : o < 5 := by
          rw [en, nI_clamp (by omega)] at ho
          omega
        rw [a, nI_clamp (show o < 2 ^ 31 by omega)]
        have r1 := y_inv_67 (a := 7) (c := o) (v := Z 7 o + 1) hT ih (Or.inr rfl) ho
        obtain ⟨v, hv, ev⟩ := vp_in_of (y_i2 ih hp) (by decide)
        have hv0 : v ≠ 0 := fun z => b (by rw [ev, z]; decide)
        obtain ⟨u, rfl⟩ : ∃ u, v = u + 1 := ⟨v - 1, by omega⟩
        have et : y_tkv (ch_bw Z 7 o (Z 7 o + 1)) (nI p) 1 = nI u := by
          unfold y_tkv
          rw [nI_clamp (by omega), ch_bw_c (by decide), ev, nI_pred, if_neg (nI_pos (by omega))]
        unfold y_tk
        rw [et, nI_clamp (show p < 2 ^ 31 by omega)]
        by_cases e0 : u = 0
        · rw [if_pos (by rw [e0]; rfl), e0]
          exact ⟨y_inv_sq (v := 0) hT r1 hp (by omega) (Or.inl ⟨rfl, rfl⟩), by rw [ch_bw_c (by decide), ch_bw_c (by decide), ch_bw_c (by decide)]; exact e8⟩
        · rw [if_neg (nI_ne0 (by omega) (by omega))]
          exact ⟨y_inv_2 (c := o) hT r1 hp (by omega) e0 (by rw [ch_bw_c (by decide)]; exact ho) (by rw [ch_bw_c (by decide)]; exact a), by rw [ch_bw_c (by decide), ch_bw_c (by decide)]; exact e8⟩
    · exact ⟨ih, e8⟩
theorem y_ct_n (Y : ch_B) (c : Int32) (f : Nat → Int32) (n : Nat) : ∃ a, a ≤ n ∧ y_ct Y c f n = nI a := by
  induction n with
  | zero => exact ⟨0, Nat.le_refl _, rfl⟩
  | succ n ih =>
    obtain ⟨a, h1, h2⟩ := ih
    rw [y_ct]
    split
    · exact ⟨a + 1, by omega, by rw [h2, nI_1]⟩
    · exact ⟨a, by omega, h2⟩
