theorem y_D_chd {T n : Nat} {Y : ch_B} (en : Y 0 8 = nI n) (hn : n < 6) {c : Int32} (h : 0 ≤ c ∧ c < Y 0 8) : ∃ k, k < n ∧ c = nI k := by
  obtain ⟨k, hk, ek⟩ := vp_in_of (ch_vp (x := c) (n := n) (by omega) (by have := h.1; grind) (by rw [← en]; have := h.2; grind)) (by omega)
  exact ⟨k, hk, ek⟩
theorem y_inv_bri {T : Nat} (hT : T < 2 ^ 31) (hT0 : 0 < T) {Y : ch_B} (h : y_inv T Y) {p : Int32} (hp : (r_wn Y p).1 = 0) : y_inv T (y_briB Y p) := by
  obtain ⟨n, s, C, Br, P, R, W, K, O, ⟨hn, hs, en, es, eC, eB⟩, hO, hK, hc, hz, hod, hsum, hb⟩ := y_D_of hT h
  unfold r_wn at hp
  have h99 : 0 ≤ p ∧ p ≤ 99 := by
    by_cases l : 0 ≤ p ∧ p ≤ 99
    · exact l
    · rw [if_neg l] at hp
      exact absurd hp (m_nz (by decide))
  rw [if_pos h99] at hp
  have hn5 : n < 5 := by
    by_cases l : Y 0 8 < 5
    · rw [en] at l
      exact (nI_ltI (by omega) (by decide)).mp l
    · rw [if_neg l] at hp
      exact absurd (show (2 : Int32) = 0 from hp) (by decide)
  obtain ⟨a, ha, rfl⟩ := vp_in_of (ch_vp (x := p) (n := 100) (by decide) (by have := h99.1; grind) (by
    have h1 := h99.2
    intro z
    exact absurd (Int32.le_trans z h1) (by decide))) (by decide)
  obtain ⟨z1, z2, z3, z6, z7⟩ := hz n (Nat.le_refl n) hn5
  have hs5 := f_sum (f := P) (k := n) (v := a) hn5
  unfold y_briB
  rw [en, nI_clamp (by omega), eB]
  refine y_inv_of (n := n + 1) (s := s) (C := C) (Br := Br + a) (P := f_up P n a) (R := R) (W := W) (K := K) (O := O) hT ⟨⟨by omega, hs, ?_, es, eC, ?_⟩, hO, fun q hq => ?_, fun d hd => ?_, fun d h1 h2 => ?_, hod, by omega, by omega⟩
  · rw [ch_bw_at, nI_1]
  · rw [ch_bw_k (by decide), ch_bw_at, nI_add]
  · obtain ⟨k1, k2, k3⟩ := hK q hq
    refine ⟨k1, k2, ?_⟩
    rcases k3 with k3 | ⟨c, hc1, hc2⟩
    · exact Or.inl k3
    · exact Or.inr ⟨c, by omega, hc2⟩
  · obtain ⟨c1, c2, c3⟩ := hc d hd
    by_cases e : d = n
    · subst e
      rw [f_up_at, ch_bw_c (by decide), ch_bw_c (by decide), ch_bw_at]
      exact ⟨by omega, rfl, c3⟩
    · rw [f_up_ne e, ch_bw_c (by decide), ch_bw_c (by decide), ch_bw_k e]
      exact ⟨c1, c2, c3⟩
  · rw [f_up_ne (show d ≠ n by omega)]
    exact hz d (by omega) h2
theorem y_inv_cha {T : Nat} (hT : T < 2 ^ 31) {Y : ch_B} (h : y_inv T Y) {c p : Int32} (hp : (r_wc Y c p).1 = 0) : y_inv T (y_chaB Y c p) := by
  unfold r_wc at hp
  have h8 := y_i8 h
  by_cases l1 : 0 ≤ c ∧ c < Y 0 8
  · rw [if_pos l1] at hp
    by_cases l2 : 0 ≤ p ∧ p ≤ 11
    · rw [if_pos l2] at hp
      obtain ⟨n, hn, en⟩ := vp_in_of h8 (by decide)
      obtain ⟨k, hk, rfl⟩ := y_D_chd (T := T) en hn l1
      obtain ⟨q, hq, rfl⟩ := vp_in_of (ch_11 l2) (by decide)
      have ck : (nI k).toNatClampNeg = k := nI_clamp (by omega)
      have cq : (nI q).toNatClampNeg = q := nI_clamp (by omega)
      rw [ck, cq] at hp
      by_cases l3 : Y 1 q = -1 ∨ Y 1 q = nI k
      · rw [if_pos l3] at hp
        by_cases l4 : Y 2 q < 9
        · rw [if_pos l4] at hp
          by_cases l5 : 1 ≤ Y 3 k
          · obtain ⟨a, ha, ea⟩ := vp_in_of (y_i3 h (show k < 5 by omega)) (by decide)
            have ha1 : 1 ≤ a := by
              rw [ea] at l5
              exact (nI_leI (a := 1) (by decide) (by omega)).mp l5
            obtain ⟨x, hx, ex⟩ := vp_in_of (y_i2 h hq) (by decide)
            have hx9 : x < 9 := by
              rw [ex] at l4
              exact (nI_ltI (b := 9) (by omega) (by decide)).mp l4
            have ev : ∃ v, v < 10 ∧ v ≠ 0 ∧ y_chv Y (nI q) = nI v := by
              unfold y_chv
              rw [cq, ex, show (nI x + 2 : Int32) = nI (x + 2) from nI_add x 2]
              split
              · exact ⟨5, by decide, by decide, rfl⟩
              · split
                · exact ⟨9, by decide, by decide, rfl⟩
                · rename_i l
                  refine ⟨x + 2, ?_, by omega, rfl⟩
                  by_cases y : x + 2 < 10
                  · exact y
                  · exact absurd (nI_lt (a := 9) (by omega) (by omega)) l
            obtain ⟨v, hv, hv0, ev⟩ := ev
            have r1 := y_inv_pay (a := 1) hT h (show k < 5 by omega) ea ha ha1
            have r2 := y_inv_sq (q := q) (v := v) hT r1 hq hv (o := nI k) (Or.inr ⟨k, by
              rw [ch_bw_k (by decide), ch_bw_c (by decide), en, nI_clamp (by omega)]
              exact hk, rfl, hv0⟩)
            unfold y_chaB
            rw [ck, cq, ev]
            exact r2
          · rw [if_neg l5] at hp
            exact absurd hp (m_nz (by decide))
        · rw [if_neg l4] at hp
          exact absurd hp (m_nz (by decide))
      · rw [if_neg l3] at hp
        exact absurd hp (m_nz (by decide))
    · rw [if_neg l2] at hp
      exact absurd hp (m_nz (by decide))
  · rw [if_neg l1] at hp
    exact absurd hp (m_nz (by decide))
theorem y_inv_giv {T : Nat} (hT : T < 2 ^ 31) {Y : ch_B} (h : y_inv T Y) {c d p : Int32} (hp : (r_wg Y c d p).1 = 0) : y_inv T (y_givB Y c d p) := by
  unfold r_wg at hp
  have h8 := y_i8 h
  by_cases l1 : 0 ≤ c ∧ c < Y 0 8
  · rw [if_pos l1] at hp
    by_cases l2 : 0 ≤ d ∧ d < Y 0 8
    · rw [if_pos l2] at hp
      by_cases l3 : c = d
      · rw [if_pos l3] at hp
        exact absurd hp (m_nz (by decide))
      · rw [if_neg l3] at hp
        by_cases l4 : 1 ≤ p ∧ p ≤ 99
        · rw [if_pos l4] at hp
          obtain ⟨n, hn, en⟩ := vp_in_of h8 (by decide)
          obtain ⟨k, hk, rfl⟩ := y_D_chd (T := T) en hn l1
          obtain ⟨l, hl, rfl⟩ := y_D_chd (T := T) en hn l2
          obtain ⟨a, ha, rfl⟩ := vp_in_of (ch_vp (x := p) (n := 100) (by decide) (fun z => absurd (Int32.lt_of_le_of_lt l4.1 z) (by decide)) (fun z => absurd (Int32.le_trans z l4.2) (by decide))) (by decide)
          have ck : (nI k).toNatClampNeg = k := nI_clamp (by omega)
          have cl : (nI l).toNatClampNeg = l := nI_clamp (by omega)
          rw [ck] at hp
          by_cases l5 : nI a ≤ Y 3 k
          · obtain ⟨b, hb, eb⟩ := vp_in_of (y_i3 h (show k < 5 by omega)) (by decide)
            have hab : a ≤ b := by
              rw [eb] at l5
              exact (nI_leI (by omega) (by omega)).mp l5
            have hkl : k ≠ l := fun z => l3 (by rw [z])
            have r := y_inv_give hT h (show k < 5 by omega) (d := l) (by rw [en, nI_clamp (by omega)]; exact hl) hkl eb hb hab
            unfold y_givB
            rw [ck, cl, ch_bw_k (show l ≠ k from fun z => hkl z.symm)]
            exact r
          · rw [if_neg l5] at hp
            exact absurd hp (m_nz (by decide))
        · rw [if_neg l4] at hp
          exact absurd hp (m_nz (by decide))
    · rw [if_neg l2] at hp
      exact absurd hp (m_nz (by decide))
  · rw [if_neg l1] at hp
    exact absurd hp (m_nz (by decide))
theorem y_tc_inv {T : Nat} (hT : T < 2 ^ 31) {Y Z : ch_B} (h : y_inv T Z) {c : Nat} (hc : c < 5) (k : Nat) : k ≤ 12 → y_inv T (y_pk Z (nI c) k).1 := by
  induction k with
  | zero => exact fun _ => h
  | succ k ih =>
    intro hk
    have ih := ih (by omega)
    rw [y_pk, nI_clamp (by omega)]
    split
    · split
      · dsimp only
        rw [y_tk9 (by omega) (y_i2 ih (by omega))]
        exact y_inv_sq (v := 0) hT ih (by omega) (by omega) (Or.inl ⟨rfl, rfl⟩)
      · rename_i l
        dsimp only
        obtain ⟨a, ha, ea⟩ := vp_in_of (y_i3 ih hc) (by decide)
        refine y_inv_pay (a := 1) hT ih hc ea ha ?_
        by_cases l1 : 1 ≤ a
        · exact l1
        · exact absurd (by rw [ea, show a = 0 by omega]; decide) l
    · exact ih
theorem y_term_inv {T : Nat} (hT : T < 2 ^ 31) {Y : ch_B} (h : y_inv T Y) : y_inv T (y_termB Y) := by
  obtain ⟨n, hn, en⟩ := vp_in_of (y_i8 h) (by decide)
  have cn : (Y 0 8).toNatClampNeg = n := by rw [en, nI_clamp (by omega)]
  have h1 : ∀ k, k ≤ n → y_inv T (y_tc Y k).1 := by
    intro k
    induction k with
    | zero => exact fun _ => h
    | succ k ih =>
      intro hk
      rw [y_tc]
      dsimp only
      rw [y_p12_eq]
      exact y_tc_inv (Y := Y) hT (ih (by omega)) (by omega) 12 (by omega)
  have e8 : ∀ k, y_tg (y_tc Y n).1 k 0 8 = Y 0 8 := fun k => by rw [y_tg_o _ _ _ _ (by decide) (fun _ => by decide), y_tc_o _ _ _ _ (by decide) (by decide) (by decide) (fun _ => by decide)]
  have h2 : ∀ k, k ≤ n → y_inv T (y_tg (y_tc Y n).1 k) := by
    intro k
    induction k with
    | zero => exact fun _ => h1 n (Nat.le_refl n)
    | succ k ih =>
      intro hk
      have ih := ih (by omega)
      rw [y_tg]
      split
      · exact ih
      · rename_i l
        have := y_inv_get (c := k) hT ih (by rw [e8, cn]; omega) l
        exact this
  unfold y_termB y_tZ
  rw [cn]
  exact y_inv_cnt (y_inv_cnt (h2 n (Nat.le_refl n)) (by decide)) (by decide)
theorem m_row_nd' {f : Nat → Int32} (n : Nat) (h : (m_row f n).Nodup) : ∀ i j, i < j → j < n → ¬ f i = f j := by
  induction n with
  | zero => exact fun i j _ h => absurd h (by omega)
  | succ n ih =>
    intro i j hij hj
    rw [m_row_s] at h
    obtain ⟨h1, -, h3⟩ := List.nodup_append.mp h
    by_cases e : j = n
    · subst e
      exact h3 (f i) (m_mem_row hij) (f j) (List.mem_singleton.mpr rfl)
    · exact ih h1 i j hij (by omega)
theorem y_inv_ord {T : Nat} (hT : T < 2 ^ 31) {Y Y' : ch_B} (h : y_inv T Y) (f0 : ∀ i, i = 8 ∨ i = 10 ∨ i = 11 → Y' 0 i = Y 0 i) (f1 : ∀ a i, a ≠ 0 → a ≠ 5 → a ≠ 8 → Y' a i = Y a i) {W' : Nat → Nat} (hW : ∀ c, c < 5 → W' c < 10 ∧ Y' 5 c = nI (W' c)) (hz : ∀ c, (Y 0 8).toNatClampNeg ≤ c → c < 5 → W' c = 0) {s' : Nat} (hs' : s' < 6) (e9 : Y' 0 9 = nI s') (h8 : ∀ k, k < 5 → vp_in (Y' 8 k) 5) (hnd : (m_row (Y' 8) s').Nodup) (hm : ∀ c, c < 5 → (W' c ≠ 0 ↔ nI c ∈ m_row (Y' 8) s')) : y_inv T Y' := by
  obtain ⟨n, s, C, Br, P, R, W, K, O, ⟨hn, hs, en, es, eC, eB⟩, hO, hK, hc, hz0, hod, hsum, hb⟩ := y_D_of hT h
  rw [en, nI_clamp (by omega)] at hz
  have hO' : ∀ k, k < 5 → (Y' 8 k).toNatClampNeg < 5 ∧ Y' 8 k = nI (Y' 8 k).toNatClampNeg := fun c hc => by
    obtain ⟨v, hv, ev⟩ := vp_in_of (h8 c hc) (by decide)
    rw [ev, nI_clamp (by omega)]
    exact ⟨hv, rfl⟩
  refine y_inv_of (n := n) (s := s') (C := C) (Br := Br) (P := P) (R := R) (W := W') (K := K) (O := fun k => (Y' 8 k).toNatClampNeg) hT ⟨⟨hn, hs', (f0 8 (by omega)).trans en, e9, (f0 10 (by omega)).trans eC, (f0 11 (by omega)).trans eB⟩, hO', fun q hq => ?_, fun d hd => ?_, fun d h1 h2 => ?_, ⟨fun c hc5 => ?_, fun i j hij hj z => ?_⟩, hsum, hb⟩
  · rw [f1 2 q (by decide) (by decide) (by decide), f1 1 q (by decide) (by decide) (by decide)]
    exact hK q hq
  · rw [f1 3 d (by decide) (by decide) (by decide), f1 4 d (by decide) (by decide) (by decide)]
    obtain ⟨c1, c2, c3, c4, -, -⟩ := hc d hd
    exact ⟨c1, c2, c3, c4, hW d hd⟩
  · rw [f1 6 d (by decide) (by decide) (by decide), f1 7 d (by decide) (by decide) (by decide)]
    obtain ⟨z1, z2, -, z4⟩ := hz0 d h1 h2
    exact ⟨z1, z2, hz d h1 h2, z4⟩
  · rw [hm c hc5]
    refine ⟨fun z => ?_, fun ⟨k, hk, ek⟩ => ?_⟩
    · obtain ⟨k, hk, ek⟩ := m_row_mem z
      exact ⟨k, hk, by dsimp only; rw [ek, nI_clamp (by omega)]⟩
    · have := m_mem_row (f := Y' 8) hk
      rw [(hO' k (by omega)).2] at this
      dsimp only at ek
      rw [ek] at this
      exact this
  · refine m_row_nd' s' hnd i j hij hj ?_
    rw [(hO' i (by omega)).2, (hO' j (by omega)).2]
    dsimp only at z
    rw [z]
theorem y_inv_row {T : Nat} {Y : ch_B} (h : y_inv T Y) {s : Nat} (hs : s < 6) (es : Y 0 9 = nI s) : (m_row (Y 8) s).Nodup ∧ (∀ c, c < 5 → (¬ Y 5 c = 0 ↔ nI c ∈ m_row (Y 8) s)) ∧ ∀ x, x ∈ m_row (Y 8) s → ∃ a, a < 5 ∧ x = nI a ∧ ¬ Y 5 a = 0 := by
  have cs : (Y 0 9).toNatClampNeg = s := by rw [es, nI_clamp (by omega)]
  obtain ⟨-, -, -, -, ⟨i5, i6⟩, -⟩ := id h
  rw [cs] at i5 i6
  have hm : ∀ c, c < 5 → (¬ Y 5 c = 0 ↔ nI c ∈ m_row (Y 8) s) := fun c hc => by
    rw [i5 c hc]
    refine ⟨fun ⟨k, hk, ek⟩ => by rw [← ek]; exact m_mem_row hk, fun z => ?_⟩
    obtain ⟨k, hk, ek⟩ := m_row_mem z
    exact ⟨k, hk, ek⟩
  refine ⟨m_row_nd s i6, hm, fun x hx => ?_⟩
  obtain ⟨k, hk, rfl⟩ := m_row_mem hx
  obtain ⟨a, ha, ea⟩ := vp_in_of (y_i8k h k (by omega)) (by decide)
  exact ⟨a, ha, ea, (hm a ha).mpr (by rw [← ea]; exact m_mem_row hk)⟩
theorem m_cmp_in (p : Int32 → Bool) (f : Nat → Int32) (n i : Nat) (hi : i < 5) (hn : n ≤ 5) : ∃ j, j < 5 ∧ (m_cmp p f n).1 i = f j := by
  induction n with
  | zero => exact ⟨i, hi, rfl⟩
  | succ n ih =>
    have hh := m_cmp_hi p f n n (Nat.le_refl n)
    rw [m_cmp, hh]
    split
    · dsimp only
      split
      · exact ⟨n, by omega, rfl⟩
      · exact ih (by omega)
    · exact ih (by omega)
/-- closing the order: warrants of the members as they are, all others none -/
theorem y_inv_clB {T : Nat} (hT : T < 2 ^ 31) {Y Z : ch_B} (h : y_inv T Y) (e9 : Z 0 9 = Y 0 9) (e8 : Z 8 = Y 8) (f0 : ∀ i, i = 8 ∨ i = 10 ∨ i = 11 → Z 0 i = Y 0 i) (f1 : ∀ a i, a ≠ 0 → a ≠ 5 → a ≠ 8 → Z a i = Y a i) {W' : Nat → Nat} (hW : ∀ c, c < 5 → W' c < 10 ∧ Z 5 c = nI (W' c)) (hle : ∀ c, c < 5 → W' c ≠ 0 → ¬ Y 5 c = 0) : y_inv T (y_clB Z) := by
  obtain ⟨s, hs, es⟩ := vp_in_of (y_i9 h) (by decide)
  obtain ⟨r1, r2, r3⟩ := y_inv_row h hs es
  have cs : (Z 0 9).toNatClampNeg = s := by rw [e9, es, nI_clamp (by omega)]
  have hl := m_cmp_le (fun x => !decide (Z 5 x.toNatClampNeg ≤ 0)) (Z 8) s
  have hrow : m_row (y_clB Z 8) (m_cmp (fun x => !decide (Z 5 x.toNatClampNeg ≤ 0)) (Z 8) s).2 = (m_row (Y 8) s).filter (fun x => !decide (Z 5 x.toNatClampNeg ≤ 0)) := by
    have : y_clB Z 8 = (m_cmp (fun x => !decide (Z 5 x.toNatClampNeg ≤ 0)) (Z 8) s).1 := by
      funext i
      unfold y_clB
      rw [if_pos rfl, cs, y_clk_cmp]
    rw [this, m_cmp_row, e8]
  refine y_inv_ord (W' := W') (s' := (m_cmp (fun x => !decide (Z 5 x.toNatClampNeg ≤ 0)) (Z 8) s).2) hT h (fun i hi => ?_) (fun a i h1 h2 h3 => ?_) (fun c hc => ?_) (fun c h1 h2 => ?_) (by omega) ?_ (fun k hk => ?_) ?_ (fun c hc => ?_)
  · rw [y_clB_o (by decide) (by omega)]
    exact f0 i hi
  · rw [y_clB_o h3 (fun z => h1 z.1)]
    exact f1 a i h1 h2 h3
  · rw [y_clB_o (by decide) (fun z => absurd z.1 (by decide))]
    exact hW c hc
  · by_cases e : W' c = 0
    · exact e
    · exact absurd (h.2.2.2.1 c h1 h2).2.2.1 (hle c h2 e)
  · unfold y_clB
    rw [if_neg (by decide), if_pos ⟨rfl, rfl⟩, cs, y_clk_cmp]
  · unfold y_clB
    rw [if_pos rfl, cs, y_clk_cmp]
    obtain ⟨j, hj, ej⟩ := m_cmp_in (fun x => !decide (Z 5 x.toNatClampNeg ≤ 0)) (Z 8) s k hk (by omega)
    rw [ej, e8]
    exact y_i8k h j hj
  · rw [hrow]
    exact r1.sublist List.filter_sublist
  · rw [hrow, List.mem_filter, ← r2 c hc, nI_clamp (by omega), (hW c hc).2]
    have hw := (hW c hc).1
    refine ⟨fun z => ⟨hle c hc z, ?_⟩, fun z y => ?_⟩
    · have := nI_nle (n := W' c) (by omega) (by omega)
      simp [this]
    · rw [y] at z
      exact absurd z.2 (by decide)
