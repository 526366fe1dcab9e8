/-! rain on the yard, and as the reference goes about it -/
theorem m_sub9 {v r : Nat} (hv : v < 2 ^ 30) (hr : r < 2 ^ 30) : (if nI v - nI r < 0 then 0 else nI v - nI r) = nI (v - r) := by
  by_cases h : v < r
  · rw [if_pos (pk_sneg hr h), show v - r = 0 by omega, nI_0]
  · rw [pk_sub (by omega), if_neg (nI_pos (by omega))]
theorem y_tk_far {Z : ch_B} {p i : Nat} {r : Int32} (hp : p < 2 ^ 31) (hi : i ≠ p) : y_tk Z (nI p) r 1 i = Z 1 i ∧ y_tk Z (nI p) r 2 i = Z 2 i := by
  unfold y_tk
  rw [nI_clamp hp]
  split
  · exact ⟨by rw [ch_bw_k hi, ch_bw_c (by decide)], by rw [ch_bw_c (by decide), ch_bw_k hi]⟩
  · exact ⟨by rw [ch_bw_c (by decide)], by rw [ch_bw_k hi]⟩
theorem y_wk_far (Y : ch_B) (r : Int32) (k : Nat) : k ≤ 12 → ∀ p, k ≤ p → (y_wk Y r k).1 1 p = Y 1 p ∧ (y_wk Y r k).1 2 p = Y 2 p := by
  induction k with
  | zero => exact fun _ p _ => ⟨rfl, rfl⟩
  | succ k ih =>
    intro hk p hp
    obtain ⟨i1, i2⟩ := ih (by omega) p (by omega)
    rw [y_wk]
    split
    · exact ⟨i1, i2⟩
    · dsimp only
      obtain ⟨f1, f2⟩ := y_tk_far (Z := (y_wk Y r k).1) (r := r) (p := k) (i := p) (by omega) (by omega)
      exact ⟨f1.trans i1, f2.trans i2⟩
/-- a square under the rain -/
theorem y_sq {T : Nat} {Y : ch_B} (hi : y_inv T Y) {k : Nat} (hk : k < 12) : ∃ v, v < 10 ∧ Y 2 k = nI v ∧ (Y 1 k = -1 ↔ v = 0) := by
  obtain ⟨h1, h2⟩ := hi.2.1 k hk
  obtain ⟨v, hv, ev⟩ := vp_in_of h1 (by decide)
  refine ⟨v, hv, ev, ?_⟩
  rcases h2 with ⟨a, b⟩ | ⟨c, hc, a, b⟩
  · refine ⟨fun _ => ?_, fun _ => a⟩
    by_cases h : v = 0
    · exact h
    · exact absurd b (by rw [ev]; exact nI_ne0 (by omega) (by omega))
  · refine ⟨fun z => ?_, fun z => absurd (by rw [ev, z]; decide) b⟩
    obtain ⟨n, hn, en⟩ := vp_in_of (y_i8 hi) (by decide)
    rw [en, nI_clamp (by omega)] at hc
    exact absurd (a.symm.trans z) (m_nc (by omega))
theorem y_wk_s {T : Nat} {Y : ch_B} (hi : y_inv T Y) {ρ k : Nat} (hρ : ρ < 10) (hk : k < 12) :
    ∃ v, v < 10 ∧ Y 2 k = nI v ∧ (v = 0 → y_wk Y (nI ρ) (k + 1) = y_wk Y (nI ρ) k) ∧
    (¬ v = 0 → v ≤ ρ → y_wk Y (nI ρ) (k + 1) = (ch_bw (ch_bw (y_wk Y (nI ρ) k).1 2 k 0) 1 k (-1), (y_wk Y (nI ρ) k).2 + 1)) ∧
    (¬ v = 0 → ρ < v → y_wk Y (nI ρ) (k + 1) = (ch_bw (y_wk Y (nI ρ) k).1 2 k (nI (v - ρ)), (y_wk Y (nI ρ) k).2)) := by
  obtain ⟨v, hv, ev, eo⟩ := y_sq hi hk
  obtain ⟨f1, f2⟩ := y_wk_far Y (nI ρ) k (by omega) k (Nat.le_refl k)
  have et : y_tkv (y_wk Y (nI ρ) k).1 (nI k) (nI ρ) = nI (v - ρ) := by
    unfold y_tkv
    rw [nI_clamp (by omega), f2, ev]
    exact m_sub9 (by omega) (by omega)
  refine ⟨v, hv, ev, fun h => ?_, fun h l => ?_, fun h l => ?_⟩
  · rw [y_wk, f1, if_pos (eo.mpr h)]
  · have h0 : nI (v - ρ) = 0 := by rw [show v - ρ = 0 by omega, nI_0]
    rw [y_wk, f1, if_neg (fun z => h (eo.mp z)), et, if_pos h0]
    unfold y_tk
    rw [et, if_pos h0, h0, nI_clamp (by omega)]
  · have h0 : ¬ nI (v - ρ) = 0 := nI_ne0 (by omega) (by omega)
    rw [y_wk, f1, if_neg (fun z => h (eo.mp z)), et, if_neg h0]
    unfold y_tk
    rw [et, if_neg h0, nI_clamp (by omega)]
theorem m_ci_s (f : Nat → Int32) {ρ k v : Nat} (hv : v < 10) (hρ : ρ < 10) (e : f k = nI v) : m_ci f (nI ρ) (k + 1) = if v ≠ 0 ∧ v ≤ ρ then m_ci f (nI ρ) k + 1 else m_ci f (nI ρ) k := by
  rw [m_ci, e]
  have e1 : (1 ≤ nI v ∧ nI v ≤ nI ρ) ↔ (v ≠ 0 ∧ v ≤ ρ) := by
    refine ⟨fun z => ⟨fun y => ?_, (nI_leI (by omega) (by omega)).mp z.2⟩, fun z => ⟨nI_le (a := 1) (by omega) (by omega), nI_le z.2 (by omega)⟩⟩
    rw [y] at z
    exact absurd z.1 (by decide)
  by_cases h : v ≠ 0 ∧ v ≤ ρ
  · rw [if_pos (e1.mpr h), if_pos h]
  · rw [if_neg (fun z => h (e1.mp z)), if_neg h]
theorem y_wk_ci {T : Nat} {Y : ch_B} (hi : y_inv T Y) {ρ : Nat} (hρ : ρ < 10) (k : Nat) : k ≤ 12 → (y_wk Y (nI ρ) k).2 = m_ci (Y 2) (nI ρ) k := by
  induction k with
  | zero => exact fun _ => rfl
  | succ k ih =>
    intro hk
    obtain ⟨v, hv, ev, h1, h2, h3⟩ := y_wk_s hi hρ (show k < 12 by omega)
    rw [m_ci_s _ hv hρ ev, ← ih (by omega)]
    by_cases e0 : v = 0
    · rw [h1 e0, if_neg (fun z => z.1 e0)]
    · by_cases l : v ≤ ρ
      · rw [h2 e0 l, if_pos ⟨e0, l⟩]
      · rw [h3 e0 (by omega), if_neg (fun z => l z.2)]
theorem m_fil_len {L : List Int32} {a : Int32} (hn : L.Nodup) (ha : a ∈ L) : (L.filter (fun x => !decide (x = a))).length + 1 = L.length := by
  induction L with
  | nil => cases ha
  | cons b L ih =>
    obtain ⟨h1, h2⟩ := List.nodup_cons.mp hn
    by_cases e : b = a
    · subst e
      rw [List.filter_cons_of_neg (by simp), List.filter_eq_self.mpr]
      · rfl
      · intro x hx
        have : x ≠ b := fun z => h1 (z ▸ hx)
        simp [this]
    · have ha2 : a ∈ L := (List.mem_cons.mp ha).resolve_left (fun z => e z.symm)
      rw [List.filter_cons_of_pos (by simp [e]), List.length_cons, List.length_cons, ih h2 ha2]
theorem m_row_nd {f : Nat → Int32} (n : Nat) (h : ∀ i j, i < j → j < n → ¬ f i = f j) : (m_row f n).Nodup := by
  induction n with
  | zero => exact List.nodup_nil
  | succ n ih =>
    rw [m_row_s]
    refine List.nodup_append.mpr ⟨ih (fun i j a b => h i j a (by omega)), List.nodup_cons.mpr ⟨by simp, List.nodup_nil⟩, ?_⟩
    intro a ha b hb
    obtain ⟨k, hk, rfl⟩ := m_row_mem ha
    rw [List.mem_singleton.mp hb]
    exact h k n hk (by omega)
theorem m_mem_row {f : Nat → Int32} {n k : Nat} (h : k < n) : f k ∈ m_row f n := by
  unfold m_row
  exact List.mem_map.mpr ⟨k, List.mem_range.mpr h, rfl⟩
/-- the warrants of the children, one behind another -/
def m_wc (Z : ch_B) (r : Int32) : Nat → ch_B
  | 0 => Z
  | k + 1 => if m_wc Z r k 5 k = 0 then m_wc Z r k else if m_wc Z r k 5 k - r ≤ 0 then ch_bw (m_clB (ch_bw (m_wc Z r k) 5 k (m_wc Z r k 5 k - r)) k) 0 14 (m_wc Z r k 0 14 + 1) else ch_bw (m_wc Z r k) 5 k (m_wc Z r k 5 k - r)
def m_kp (w : Nat → Nat) (ρ k : Nat) : Int32 → Bool := fun x => !(decide (x.toNatClampNeg < k) && decide (w x.toNatClampNeg ≤ ρ))
/-- so many warrants have ended -/
def m_we (w : Nat → Nat) (ρ : Nat) : Nat → Nat
  | 0 => 0
  | k + 1 => if w k ≠ 0 ∧ w k ≤ ρ then m_we w ρ k + 1 else m_we w ρ k
def m_WI (Y Z W : ch_B) (w : Nat → Nat) (s ρ k : Nat) : Prop :=
  (∀ c, c < 5 → W 5 c = if c < k then nI (w c - ρ) else nI (w c)) ∧
  (∃ s', W 0 9 = nI s' ∧ s' + m_we w ρ k = s ∧ m_row (W 8) s' = (m_row (Y 8) s).filter (m_kp w ρ k)) ∧
  W 0 14 = Y 0 14 + m_ci (Y 5) (nI ρ) k ∧
  (∀ a i, a ≠ 5 → a ≠ 8 → (a = 0 → i ≠ 9 ∧ i ≠ 14) → W a i = Z a i)
theorem y_war {T : Nat} {Y : ch_B} (hi : y_inv T Y) : ∃ w : Nat → Nat, ∀ c, c < 5 → w c < 10 ∧ Y 5 c = nI (w c) := by
  refine ⟨fun c => (Y 5 c).toNatClampNeg, fun c hc => ?_⟩
  obtain ⟨v, hv, ev⟩ := vp_in_of (y_i5 hi hc) (by decide)
  dsimp only
  rw [ev, nI_clamp (by omega)]
  exact ⟨hv, rfl⟩
theorem m_WI_s {T : Nat} {Y Z : ch_B} (hi : y_inv T Y) {w : Nat → Nat} (hw : ∀ c, c < 5 → w c < 10 ∧ Y 5 c = nI (w c)) {s : Nat} (hs : s < 6) (es : Y 0 9 = nI s) {ρ : Nat} (hρ : ρ < 10) {k : Nat} (hk : k < 5) (h : m_WI Y Z (m_wc Z (nI ρ) k) w s ρ k) : m_WI Y Z (m_wc Z (nI ρ) (k + 1)) w s ρ (k + 1) := by
  obtain ⟨a5, ⟨s', e9, el, er⟩, e14, fo⟩ := h
  have hw5 : m_wc Z (nI ρ) k 5 k = nI (w k) := by rw [a5 k hk, if_neg (by omega)]
  have ci := m_ci_s (Y 5) (hw k hk).1 hρ (hw k hk).2
  have hmem : ∀ x, x ∈ m_row (Y 8) s → ∃ a, a < 5 ∧ x = nI a ∧ w a ≠ 0 := by
    intro x hx
    obtain ⟨j, hj, rfl⟩ := m_row_mem hx
    obtain ⟨a, h1, h2, h3⟩ := y_imem hi j (by rw [es, nI_clamp (by omega)]; exact hj)
    refine ⟨a, h1, h2, fun z => h3 ?_⟩
    rw [(hw a h1).2, z]
    decide
  have hnd : (m_row (Y 8) s).Nodup := m_row_nd s (fun i j h1 h2 => hi.2.2.2.2.1.2 i j h1 (by rw [es, nI_clamp (by omega)]; exact h2))
  rw [m_wc, hw5]
  by_cases e0 : w k = 0
  · rw [if_pos (by rw [e0]; decide)]
    refine ⟨fun c hc => ?_, ⟨s', e9, ?_, ?_⟩, ?_, fo⟩
    · rw [a5 c hc]
      by_cases l : c < k
      · rw [if_pos l, if_pos (by omega)]
      · rw [if_neg l]
        by_cases l2 : c < k + 1
        · rw [if_pos l2, show c = k by omega, e0, Nat.zero_sub]
        · rw [if_neg l2]
    · rw [m_we, if_neg (fun z => z.1 e0)]
      exact el
    · rw [er]
      apply List.filter_congr
      intro x hx
      obtain ⟨a, h1, rfl, h3⟩ := hmem x hx
      unfold m_kp
      rw [nI_clamp (by omega)]
      have : a ≠ k := fun z => h3 (by rw [z]; exact e0)
      have e : decide (a < k + 1) = decide (a < k) := by
        apply decide_eq_decide.mpr
        omega
      rw [e]
    · rw [ci, if_neg (fun z => z.1 e0)]
      exact e14
  · rw [if_neg (nI_ne0 (by omega) (by have := (hw k hk).1; omega))]
    have hwk := (hw k hk).1
    by_cases l : w k ≤ ρ
    · have hle : nI (w k) - nI ρ ≤ 0 := by
        rw [Int32.le_iff_toInt_le, pk_sub_toInt (by omega) (by omega), show (0 : Int32).toInt = 0 by decide]
        omega
      rw [if_pos hle]
      have e9' : (ch_bw (m_wc Z (nI ρ) k) 5 k (nI (w k) - nI ρ) 0 9).toNatClampNeg = s' := by
        rw [ch_bw_c (by decide), e9, nI_clamp (by omega)]
      have e8' : ch_bw (m_wc Z (nI ρ) k) 5 k (nI (w k) - nI ρ) 8 = m_wc Z (nI ρ) k 8 := by
        funext i
        exact ch_bw_c (by decide)
      have hin : nI k ∈ (m_row (Y 8) s).filter (m_kp w ρ k) := by
        refine List.mem_filter.mpr ⟨?_, ?_⟩
        · obtain ⟨j, hj, ej⟩ := (hi.2.2.2.2.1.1 k hk).mp (by rw [(hw k hk).2]; exact nI_ne0 (by omega) (by omega))
          rw [← ej]
          refine m_mem_row ?_
          rw [es, nI_clamp (by omega)] at hj
          exact hj
        · unfold m_kp
          rw [nI_clamp (by omega)]
          simp
      have hlen := m_fil_len (hnd.sublist List.filter_sublist) hin
      have hrow := m_cmp_row (fun x => !decide (x = nI k)) (m_wc Z (nI ρ) k 8) s'
      rw [er] at hrow
      have hs2 : (m_cmp (fun x => !decide (x = nI k)) (m_wc Z (nI ρ) k 8) s').2 + 1 = s' := by
        rw [← hrow, m_row_len, ← er, m_row_len] at hlen
        exact hlen
      refine ⟨fun c hc => ?_, ⟨(m_cmp (fun x => !decide (x = nI k)) (m_wc Z (nI ρ) k 8) s').2, ?_, ?_, ?_⟩, ?_, ?_⟩
      · rw [ch_bw_c (by decide)]
        unfold m_clB
        rw [if_neg (by decide), if_neg (fun z => absurd z.1 (by decide))]
        by_cases ec : c = k
        · subst ec
          rw [if_pos ⟨rfl, rfl⟩, if_pos (by omega), show w c - ρ = 0 by omega, nI_0]
        · rw [if_neg (fun z => ec z.2), ch_bw_k ec, a5 c hc]
          by_cases l2 : c < k
          · rw [if_pos l2, if_pos (by omega)]
          · rw [if_neg l2, if_neg (by omega)]
      · rw [ch_bw_k (by decide)]
        unfold m_clB
        rw [if_neg (by decide), if_pos ⟨rfl, rfl⟩, e9', e8']
      · rw [m_we, if_pos ⟨e0, l⟩]
        omega
      · have e8'' : ch_bw (m_clB (ch_bw (m_wc Z (nI ρ) k) 5 k (nI (w k) - nI ρ)) k) 0 14 (m_wc Z (nI ρ) k 0 14 + 1) 8 = (m_cmp (fun x => !decide (x = nI k)) (m_wc Z (nI ρ) k 8) s').1 := by
          funext i
          rw [ch_bw_c (by decide)]
          unfold m_clB
          rw [if_pos rfl, e9', e8']
        rw [e8'', hrow, List.filter_filter]
        apply List.filter_congr
        intro x hx
        obtain ⟨a, h1, rfl, h3⟩ := hmem x hx
        unfold m_kp
        rw [nI_clamp (by omega)]
        by_cases ea : a = k
        · subst ea
          simp [l]
        · have e1 : ¬ nI a = nI k := fun z => ea ((nI_eq (by omega) (by omega)).mp z)
          have e : decide (a < k + 1) = decide (a < k) := by
            apply decide_eq_decide.mpr
            omega
          rw [e]
          simp [e1]
      · rw [ch_bw_at, ci, if_pos ⟨e0, l⟩, e14, Int32.add_assoc]
      · intro a i h1 h2 h3
        have e1 : ¬ (a = 0 ∧ i = 14) := fun z => (h3 z.1).2 z.2
        have e2 : ¬ (a = 0 ∧ i = 9) := fun z => (h3 z.1).1 z.2
        unfold ch_bw m_clB
        rw [if_neg e1, if_neg h2, if_neg e2, if_neg (fun z => h1 z.1)]
        dsimp only
        rw [if_neg (fun z : a = 5 ∧ i = k => h1 z.1)]
        exact fo a i h1 h2 h3
    · have hgt : ¬ nI (w k) - nI ρ ≤ 0 := by
        rw [pk_sub (by omega)]
        exact nI_nle (by omega) (by omega)
      rw [if_neg hgt]
      refine ⟨fun c hc => ?_, ⟨s', ?_, ?_, ?_⟩, ?_, ?_⟩
      · by_cases ec : c = k
        · subst ec
          rw [ch_bw_at, if_pos (by omega), pk_sub (by omega)]
        · rw [ch_bw_k ec, a5 c hc]
          by_cases l2 : c < k
          · rw [if_pos l2, if_pos (by omega)]
          · rw [if_neg l2, if_neg (by omega)]
      · rw [ch_bw_c (by decide)]
        exact e9
      · rw [m_we, if_neg (fun z => l z.2)]
        exact el
      · have e8' : ch_bw (m_wc Z (nI ρ) k) 5 k (nI (w k) - nI ρ) 8 = m_wc Z (nI ρ) k 8 := by
          funext i
          exact ch_bw_c (by decide)
        rw [e8', er]
        apply List.filter_congr
        intro x hx
        obtain ⟨a, h1, rfl, h3⟩ := hmem x hx
        unfold m_kp
        rw [nI_clamp (by omega)]
        by_cases ea : a = k
        · subst ea
          simp [l]
        · have e : decide (a < k + 1) = decide (a < k) := by
            apply decide_eq_decide.mpr
            omega
          rw [e]
      · rw [ch_bw_c (by decide), ci, if_neg (fun z => l z.2)]
        exact e14
      · intro a i h1 h2 h3
        rw [ch_bw_c h1]
        exact fo a i h1 h2 h3
theorem m_WI_0 {Y : ch_B} {r : Int32} {w : Nat → Nat} (hw : ∀ c, c < 5 → w c < 10 ∧ Y 5 c = nI (w c)) {s ρ : Nat} (es : Y 0 9 = nI s) : m_WI Y (y_wk Y r 12).1 (m_wc (y_wk Y r 12).1 (nI ρ) 0) w s ρ 0 := by
  have o : ∀ a i, a ≠ 1 → a ≠ 2 → (y_wk Y r 12).1 a i = Y a i := fun a i h1 h2 => y_wk_o Y r 12 a i h1 h2
  have e8 : m_wc (y_wk Y r 12).1 (nI ρ) 0 8 = Y 8 := by
    funext i
    exact o 8 i (by decide) (by decide)
  refine ⟨fun c hc => ?_, ⟨s, ?_, ?_, ?_⟩, ?_, fun _ _ _ _ _ => rfl⟩
  · rw [if_neg (by omega)]
    exact (o 5 c (by decide) (by decide)).trans (hw c hc).2
  · exact (o 0 9 (by decide) (by decide)).trans es
  · rfl
  · rw [e8, List.filter_eq_self.mpr]
    intro a _
    unfold m_kp
    simp
  · rw [show m_ci (Y 5) (nI ρ) 0 = 0 from rfl, Int32.add_zero]
    exact o 0 14 (by decide) (by decide)
theorem m_WI_n {T : Nat} {Y : ch_B} (hi : y_inv T Y) {w : Nat → Nat} (hw : ∀ c, c < 5 → w c < 10 ∧ Y 5 c = nI (w c)) {s : Nat} (hs : s < 6) (es : Y 0 9 = nI s) {ρ : Nat} (hρ : ρ < 10) (k : Nat) : k ≤ 5 → m_WI Y (y_wk Y (nI ρ) 12).1 (m_wc (y_wk Y (nI ρ) 12).1 (nI ρ) k) w s ρ k := by
  induction k with
  | zero => exact fun _ => m_WI_0 hw es
  | succ k ih => exact fun hk => m_WI_s hi hw hs es hρ (by omega) (ih (by omega))
theorem y_wa_5 {Z : ch_B} {r : Int32} {s : Nat} (hs : s < 6) (hm : ∀ i, i < s → ∃ a, a < 5 ∧ Z 8 i = nI a) (hd : ∀ i j, i < j → j < s → ¬ Z 8 i = Z 8 j) (j : Nat) : j ≤ s → ∀ c, c < 5 → ((∃ i, i < j ∧ Z 8 i = nI c) → y_wa Z r j 5 c = y_wv (Z 5 c) r) ∧ ((¬ ∃ i, i < j ∧ Z 8 i = nI c) → y_wa Z r j 5 c = Z 5 c) := by
  induction j with
  | zero => exact fun _ c _ => ⟨fun ⟨i, h, _⟩ => absurd h (by omega), fun _ => rfl⟩
  | succ j ih =>
    intro hj c hc
    obtain ⟨i1, i2⟩ := ih (by omega) c hc
    obtain ⟨a, ha, ea⟩ := hm j (by omega)
    rw [y_wa, ea, nI_clamp (by omega)]
    by_cases e : c = a
    · subst e
      rw [ch_bw_at, i2 (fun ⟨i, h1, h2⟩ => hd i j h1 (by omega) (h2.trans ea.symm))]
      exact ⟨fun _ => rfl, fun z => absurd ⟨j, by omega, ea⟩ z⟩
    · rw [ch_bw_k e]
      refine ⟨fun ⟨i, h1, h2⟩ => i1 ⟨i, ?_, h2⟩, fun z => i2 (fun ⟨i, h1, h2⟩ => z ⟨i, by omega, h2⟩)⟩
      by_cases el : i = j
      · subst el
        exact absurd ((nI_eq (by omega) (by omega)).mp (h2.symm.trans ea)) e
      · omega
theorem m_we_ci {Y : ch_B} {w : Nat → Nat} (hw : ∀ c, c < 5 → w c < 10 ∧ Y 5 c = nI (w c)) {ρ : Nat} (hρ : ρ < 10) (k : Nat) : k ≤ 5 → m_ci (Y 5) (nI ρ) k = nI (m_we w ρ k) := by
  induction k with
  | zero => exact fun _ => rfl
  | succ k ih =>
    intro hk
    rw [m_ci_s (Y 5) (hw k (by omega)).1 hρ (hw k (by omega)).2, m_we, ih (by omega)]
    split
    · exact nI_1 _
    · rfl
theorem m_wash {T : Nat} {Y : ch_B} (hi : y_inv T Y) {ρ : Nat} (hρ : ρ < 10) {n : Nat} (hn : n < 6) (en : Y 0 8 = nI n) : y_eqv (m_wc (y_wk Y (nI ρ) 12).1 (nI ρ) n) (y_washB Y (nI ρ)) ∧ y_washR Y (nI ρ) = m_ci (Y 2) (nI ρ) 12 + m_ci (Y 5) (nI ρ) n := by
  obtain ⟨w, hw⟩ := y_war hi
  obtain ⟨s, hs, es⟩ := vp_in_of (y_i9 hi) (by decide)
  obtain ⟨b5, ⟨s', e9, el, er⟩, e14, fo⟩ := m_WI_n hi hw hs es hρ n (by omega)
  have cs : (Y 0 9).toNatClampNeg = s := by rw [es, nI_clamp (by omega)]
  have o : ∀ a i, a ≠ 1 → a ≠ 2 → (y_wk Y (nI ρ) 12).1 a i = Y a i := fun a i h1 h2 => y_wk_o Y _ 12 a i h1 h2
  have hbig : ∀ c, c < 5 → n ≤ c → w c = 0 := by
    intro c hc hl
    have h0 := (hi.2.2.2.1 c (by rw [en, nI_clamp (by omega)]; exact hl) hc).2.2.1
    rw [(hw c hc).2] at h0
    by_cases e : w c = 0
    · exact e
    · exact absurd h0 (nI_ne0 (by omega) (by have := (hw c hc).1; omega))
  have hmem : ∀ j, j < s → ∃ a, a < 5 ∧ Y 8 j = nI a ∧ w a ≠ 0 := by
    intro j hj
    obtain ⟨a, h1, h2, h3⟩ := y_imem hi j (by rw [cs]; exact hj)
    refine ⟨a, h1, h2, fun z => h3 ?_⟩
    rw [(hw a h1).2, z]
    decide
  have z5 : ∀ c, c < 5 → y_wZ Y (nI ρ) 5 c = nI (w c - ρ) := by
    intro c hc
    obtain ⟨z1, z2⟩ := y_wa_5 (Z := (y_wk Y (nI ρ) 12).1) (r := nI ρ) hs (fun i h => by
      obtain ⟨a, h1, h2, -⟩ := hmem i h
      exact ⟨a, h1, (o 8 i (by decide) (by decide)).trans h2⟩) (fun i j h1 h2 => by
      rw [o 8 i (by decide) (by decide), o 8 j (by decide) (by decide)]
      exact hi.2.2.2.2.1.2 i j h1 (by rw [cs]; exact h2)) s (Nat.le_refl s) c hc
    have e5 : (y_wk Y (nI ρ) 12).1 5 c = nI (w c) := (o 5 c (by decide) (by decide)).trans (hw c hc).2
    unfold y_wZ
    rw [cs]
    by_cases h : ∃ i, i < s ∧ (y_wk Y (nI ρ) 12).1 8 i = nI c
    · rw [z1 h, e5]
      exact m_sub9 (by have := (hw c hc).1; omega) (by omega)
    · rw [z2 h, e5]
      have h0 : w c = 0 := by
        by_cases e : w c = 0
        · exact e
        · obtain ⟨j, hj, ej⟩ := (hi.2.2.2.2.1.1 c hc).mp (by rw [(hw c hc).2]; exact nI_ne0 (by omega) (by have := (hw c hc).1; omega))
          exact absurd ⟨j, by rw [cs] at hj; exact hj, (o 8 j (by decide) (by decide)).trans ej⟩ h
      rw [h0, Nat.zero_sub]
  have z8 : y_wZ Y (nI ρ) 8 = Y 8 := by
    funext i
    unfold y_wZ
    rw [y_wa_o _ _ _ _ _ (by decide)]
    exact o 8 i (by decide) (by decide)
  have z9 : (y_wZ Y (nI ρ) 0 9).toNatClampNeg = s := by
    unfold y_wZ
    rw [y_wa_o _ _ _ _ _ (by decide), o 0 9 (by decide) (by decide), cs]
  have hrow : m_row (m_wc (y_wk Y (nI ρ) 12).1 (nI ρ) n 8) s' = m_row (y_clk (y_wZ Y (nI ρ)) s).1 (y_clk (y_wZ Y (nI ρ)) s).2 := by
    rw [er, y_clk_cmp, m_cmp_row, z8]
    apply List.filter_congr
    intro x hx
    obtain ⟨j, hj, rfl⟩ := m_row_mem hx
    obtain ⟨a, h1, h2, h3⟩ := hmem j hj
    have ha : a < n := by
      by_cases l : a < n
      · exact l
      · exact absurd (hbig a h1 (by omega)) h3
    unfold m_kp
    rw [h2, nI_clamp (by omega), z5 a h1]
    have e : decide (nI (w a - ρ) ≤ 0) = decide (w a ≤ ρ) := by
      apply decide_eq_decide.mpr
      refine ⟨fun z => ?_, fun z => by rw [show w a - ρ = 0 by omega]; decide⟩
      by_cases l : w a ≤ ρ
      · exact l
      · exact absurd z (nI_nle (by omega) (by have := (hw a h1).1; omega))
    rw [e]
    simp [ha]
  obtain ⟨ec, ei⟩ := m_row_inj hrow
  have eG : y_wG Y (nI ρ) = m_ci (Y 5) (nI ρ) n := by
    unfold y_wG
    rw [cs, ← ec, m_we_ci hw hρ n (by omega), es, pk_sub (by omega), show s - s' = m_we w ρ n by omega]
  refine ⟨⟨fun k h1 h2 => ?_, fun a k h1 h2 h3 => ?_, fun a k h1 h2 h3 => ?_, fun k h1 h2 => ?_⟩, ?_⟩
  · unfold y_washB
    by_cases e : k = 14
    · subst e
      rw [ch_bw_at, eG]
      exact e14
    · rw [ch_bw_k e]
      by_cases f : k = 9
      · subst f
        unfold y_clB
        rw [if_neg (by decide), if_pos ⟨rfl, rfl⟩, z9, e9, ec]
      · rw [y_clB_o (by decide) (fun z => f z.2), fo 0 k (by decide) (by decide) (fun _ => ⟨f, e⟩)]
        unfold y_wZ
        rw [y_wa_o _ _ _ _ _ (by decide)]
  · have h0 : a ≠ 0 := by omega
    unfold y_washB
    rw [ch_bw_c h0, y_clB_o (by omega) (fun z => h0 z.1), fo a k (by omega) (by omega) (fun z => absurd z h0)]
    unfold y_wZ
    rw [y_wa_o _ _ _ _ _ (by omega)]
  · have h0 : a ≠ 0 := by omega
    unfold y_washB
    rw [ch_bw_c h0, y_clB_o (by omega) (fun z => h0 z.1)]
    by_cases e : a = 5
    · subst e
      rw [z5 k h3, b5 k h3]
      by_cases l : k < n
      · rw [if_pos l]
      · rw [if_neg l, hbig k h3 (by omega), Nat.zero_sub]
    · rw [fo a k e (by omega) (fun z => absurd z h0)]
      unfold y_wZ
      rw [y_wa_o _ _ _ _ _ e]
  · unfold y_washB
    rw [ch_bw_c (by decide)]
    unfold y_clB
    rw [if_pos rfl, z9]
    exact ei k (by rw [e9, nI_clamp (by omega)] at h2; exact h2)
  · unfold y_washR
    rw [eG, y_wk_ci hi hρ 12 (Nat.le_refl 12)]
