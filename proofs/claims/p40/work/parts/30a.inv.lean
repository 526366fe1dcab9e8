theorem m_chd {n c : Int32} (h : vp_in n 6) (h0 : 0 ≤ c) (h1 : c ≤ n - 1) : vp_in c 5 := by
  obtain ⟨k, hk, rfl⟩ := vp_in_of h (by decide)
  refine ch_vp (n := 5) (by decide) (by grind) ?_
  intro h5
  have h6 : nI k - 1 < nI 5 := by
    obtain rfl | rfl | rfl | rfl | rfl | rfl : k = 0 ∨ k = 1 ∨ k = 2 ∨ k = 3 ∨ k = 4 ∨ k = 5 := by omega
    all_goals decide
  grind
/-- how many are from 1 to r -/
def m_ci (f : Nat → Int32) (r : Int32) : Nat → Int32
  | 0 => 0
  | n + 1 => if 1 ≤ f n ∧ f n ≤ r then m_ci f r n + 1 else m_ci f r n
theorem ch_cnO_nn (o : Nat → Int32) (c : Int32) (n : Nat) : ∃ k, k ≤ n ∧ ch_cnO o c n = nI k := by
  induction n with
  | zero => exact ⟨0, Nat.le_refl _, rfl⟩
  | succ n ih =>
    obtain ⟨k, hk, e⟩ := ih
    unfold ch_cnO
    split
    · exact ⟨k + 1, by omega, by rw [e, nI_1]⟩
    · exact ⟨k, by omega, e⟩
theorem ch_11 {x : Int32} (h : 0 ≤ x ∧ x ≤ 11) : vp_in x 12 := ch_vp (n := 12) (by decide) (by have := h.1; grind) (by
  have h1 := h.2
  show ¬ (12 : Int32) ≤ x
  have e : (11 : Int32) < 12 := by decide
  grind)
theorem m_chi {n c : Int32} (h : vp_in n 6) : (0 ≤ c ∧ c ≤ n - 1) ↔ (0 ≤ c ∧ c < n) := by
  obtain ⟨k, hk, rfl⟩ := vp_in_of h (by decide)
  have e1 : (nI k - 1).toInt = (k : Int) - 1 := by
    obtain rfl | rfl | rfl | rfl | rfl | rfl : k = 0 ∨ k = 1 ∨ k = 2 ∨ k = 3 ∨ k = 4 ∨ k = 5 := by omega
    all_goals decide
  have e2 : (nI k).toInt = (k : Int) := nI_toInt (by omega)
  rw [Int32.le_iff_toInt_le, Int32.le_iff_toInt_le, Int32.lt_iff_toInt_lt, e1, e2]
  omega
theorem m_chv {n c : Int32} (h : vp_in n 6) (h1 : 0 ≤ c ∧ c < n) : vp_in c 5 := m_chd h h1.1 ((m_chi h).mpr h1).2
def y_tot (Y : ch_B) : Nat := (Y 3 0).toNatClampNeg + (Y 3 1).toNatClampNeg + (Y 3 2).toNatClampNeg + (Y 3 3).toNatClampNeg + (Y 3 4).toNatClampNeg + (Y 0 10).toNatClampNeg
def y_inv (T : Nat) (Y : ch_B) : Prop :=
  (vp_in (Y 0 8) 6 ∧ vp_in (Y 0 9) 6 ∧ ∀ k, k < 5 → vp_in (Y 8 k) 5) ∧
  (∀ q, q < 12 → vp_in (Y 2 q) 10 ∧ ((Y 1 q = -1 ∧ Y 2 q = 0) ∨ (∃ c, c < (Y 0 8).toNatClampNeg ∧ Y 1 q = nI c ∧ ¬ Y 2 q = 0))) ∧
  (∀ c, c < 5 → vp_in (Y 3 c) 496 ∧ vp_in (Y 4 c) T ∧ vp_in (Y 5 c) 10) ∧
  (∀ c, (Y 0 8).toNatClampNeg ≤ c → c < 5 → Y 3 c = 0 ∧ Y 4 c = 0 ∧ Y 5 c = 0 ∧ Y 6 c = 0 ∧ Y 7 c = 0) ∧
  ((∀ c, c < 5 → (¬ Y 5 c = 0 ↔ ∃ k, k < (Y 0 9).toNatClampNeg ∧ Y 8 k = nI c)) ∧ ∀ i j, i < j → j < (Y 0 9).toNatClampNeg → ¬ Y 8 i = Y 8 j) ∧
  (y_tot Y = (Y 0 11).toNatClampNeg ∧ (Y 0 11).toNatClampNeg ≤ 99 * (Y 0 8).toNatClampNeg ∧ vp_in (Y 0 11) 496 ∧ vp_in (Y 0 10) 496)
theorem y_i8 {T : Nat} {Y : ch_B} (h : y_inv T Y) : vp_in (Y 0 8) 6 := h.1.1
theorem y_i9 {T : Nat} {Y : ch_B} (h : y_inv T Y) : vp_in (Y 0 9) 6 := h.1.2.1
theorem y_i8k {T : Nat} {Y : ch_B} (h : y_inv T Y) : ∀ k, k < 5 → vp_in (Y 8 k) 5 := h.1.2.2
theorem y_i2 {T : Nat} {Y : ch_B} (h : y_inv T Y) {q : Nat} (hq : q < 12) : vp_in (Y 2 q) 10 := (h.2.1 q hq).1
theorem y_iow {T : Nat} {Y : ch_B} (h : y_inv T Y) : ∀ i, i < 12 → Y 1 i = -1 ∨ vp_in (Y 1 i) 5 := by
  intro i hi
  obtain ⟨n, hn, e⟩ := vp_in_of (y_i8 h) (by decide)
  obtain ⟨-, hA | ⟨c, hc, e1, -⟩⟩ := h.2.1 i hi
  · exact Or.inl hA.1
  · rw [e, nI_clamp (by omega)] at hc
    rw [e1]
    exact Or.inr (vp_in_nI (by omega) (by decide))
theorem y_i3 {T : Nat} {Y : ch_B} (h : y_inv T Y) {c : Nat} (hc : c < 5) : vp_in (Y 3 c) 496 := (h.2.2.1 c hc).1
theorem y_i4 {T : Nat} {Y : ch_B} (h : y_inv T Y) {c : Nat} (hc : c < 5) : vp_in (Y 4 c) T := (h.2.2.1 c hc).2.1
theorem y_i5 {T : Nat} {Y : ch_B} (h : y_inv T Y) {c : Nat} (hc : c < 5) : vp_in (Y 5 c) 10 := (h.2.2.1 c hc).2.2
/-- a row cut to those that p takes: in place, so many done; and how many are left -/
def m_cmp (p : Int32 → Bool) (f : Nat → Int32) : Nat → (Nat → Int32) × Nat
  | 0 => (f, 0)
  | n + 1 => if p ((m_cmp p f n).1 n) = true then (fun i => if i = (m_cmp p f n).2 then (m_cmp p f n).1 n else (m_cmp p f n).1 i, (m_cmp p f n).2 + 1) else m_cmp p f n
def m_row (f : Nat → Int32) (n : Nat) : List Int32 := (List.range n).map f
theorem m_row_s (f : Nat → Int32) (n : Nat) : m_row f (n + 1) = m_row f n ++ [f n] := by
  unfold m_row
  rw [List.range_succ, List.map_append]
  rfl
theorem m_row_cg {f g : Nat → Int32} {n : Nat} (h : ∀ k, k < n → f k = g k) : m_row f n = m_row g n := by
  unfold m_row
  apply List.map_congr_left
  intro a ha
  exact h a (List.mem_range.mp ha)
theorem m_row_at {f : Nat → Int32} {n k : Nat} (h : k < n) : (m_row f n)[k]? = some (f k) := by
  unfold m_row
  rw [List.getElem?_map, List.getElem?_range h]
  rfl
theorem m_row_len (f : Nat → Int32) (n : Nat) : (m_row f n).length = n := by
  unfold m_row
  rw [List.length_map, List.length_range]
theorem m_row_inj {f g : Nat → Int32} {n k : Nat} (h : m_row f n = m_row g k) : n = k ∧ ∀ i, i < n → f i = g i := by
  have e : n = k := by rw [← m_row_len f n, h, m_row_len]
  subst e
  refine ⟨rfl, fun i hi => ?_⟩
  have := m_row_at (f := f) hi
  rw [h, m_row_at hi] at this
  exact (Option.some.inj this).symm
theorem m_cmp_le (p : Int32 → Bool) (f : Nat → Int32) (n : Nat) : (m_cmp p f n).2 ≤ n := by
  induction n with
  | zero => exact Nat.le_refl _
  | succ n ih =>
    unfold m_cmp
    split
    · dsimp only; omega
    · omega
theorem m_cmp_hi (p : Int32 → Bool) (f : Nat → Int32) (n i : Nat) (h : n ≤ i) : (m_cmp p f n).1 i = f i := by
  induction n with
  | zero => rfl
  | succ n ih =>
    have hl := m_cmp_le p f n
    unfold m_cmp
    split
    · dsimp only
      rw [if_neg (by omega)]
      exact ih (by omega)
    · exact ih (by omega)
theorem m_cmp_row (p : Int32 → Bool) (f : Nat → Int32) (n : Nat) : m_row (m_cmp p f n).1 (m_cmp p f n).2 = (m_row f n).filter p := by
  induction n with
  | zero => rfl
  | succ n ih =>
    have hl := m_cmp_le p f n
    rw [m_row_s, List.filter_append, ← ih]
    have e := m_cmp_hi p f n n (Nat.le_refl n)
    by_cases h : p (f n) = true
    · have e1 : m_cmp p f (n + 1) = (fun i => if i = (m_cmp p f n).2 then f n else (m_cmp p f n).1 i, (m_cmp p f n).2 + 1) := by
        rw [m_cmp, e, if_pos h]
      rw [e1]
      dsimp only
      rw [m_row_s, if_pos rfl, m_row_cg (g := (m_cmp p f n).1) (fun k hk => if_neg (by omega))]
      simp [h]
    · have e1 : m_cmp p f (n + 1) = m_cmp p f n := by rw [m_cmp, e, if_neg h]
      rw [e1]
      simp [h]
theorem y_clk_cmp (Y : ch_B) (n : Nat) : y_clk Y n = m_cmp (fun x => !decide (Y 5 x.toNatClampNeg ≤ 0)) (Y 8) n := by
  induction n with
  | zero => rfl
  | succ n ih =>
    rw [y_clk, m_cmp, ih]
    by_cases h : Y 5 (((m_cmp (fun x => !decide (Y 5 x.toNatClampNeg ≤ 0)) (Y 8) n).1 n).toNatClampNeg) ≤ 0
    · rw [if_pos h, if_neg (by simp [h])]
    · rw [if_neg h, if_pos (by simp [h])]
def m_clB (Y : ch_B) (c : Nat) : ch_B := fun a k => if a = 8 then (m_cmp (fun x => !decide (x = nI c)) (Y 8) (Y 0 9).toNatClampNeg).1 k else if a = 0 ∧ k = 9 then nI (m_cmp (fun x => !decide (x = nI c)) (Y 8) (Y 0 9).toNatClampNeg).2 else if a = 5 ∧ k = c then 0 else Y a k
/-- two yards that the reference can't tell apart -/
def y_eqv (Y Z : ch_B) : Prop := (∀ k, 8 ≤ k → k ≤ 16 → Y 0 k = Z 0 k) ∧ (∀ c k, 1 ≤ c → c ≤ 2 → k < 12 → Y c k = Z c k) ∧ (∀ c k, 3 ≤ c → c ≤ 7 → k < 5 → Y c k = Z c k) ∧ (∀ k, k < 5 → k < (Y 0 9).toNatClampNeg → Y 8 k = Z 8 k)
def m_pgB (a b c d e f : Nat) : Bool := Nat.beq a b || Nat.beq a c || Nat.beq a d || Nat.beq a e || Nat.beq b c || Nat.beq b d || Nat.beq b e || Nat.beq c d || Nat.beq c e || Nat.beq d e || Nat.beq a f || Nat.beq b f || Nat.beq c f || Nat.beq d f || Nat.beq e f
theorem m_pigF : ∀ a b c d e f : Fin 5, m_pgB a.val b.val c.val d.val e.val f.val = true := by decide +kernel
theorem m_pig (a b c d e f : Nat) (ha : a < 5) (hb : b < 5) (hc : c < 5) (hd : d < 5) (he : e < 5) (hf : f < 5) (h0 : a ≠ b) (h1 : a ≠ c) (h2 : a ≠ d) (h3 : a ≠ e) (h4 : b ≠ c) (h5 : b ≠ d) (h6 : b ≠ e) (h7 : c ≠ d) (h8 : c ≠ e) (h9 : d ≠ e) (h10 : a ≠ f) (h11 : b ≠ f) (h12 : c ≠ f) (h13 : d ≠ f) (h14 : e ≠ f) : False := by
  have h := m_pigF ⟨a, ha⟩ ⟨b, hb⟩ ⟨c, hc⟩ ⟨d, hd⟩ ⟨e, he⟩ ⟨f, hf⟩
  simp only [m_pgB, Bool.or_eq_true, Nat.beq_eq] at h
  omega
theorem y_i9w {T : Nat} {Y : ch_B} (h : y_inv T Y) {c : Nat} (hc : c < 5) (h0 : Y 5 c = 0) : vp_in (Y 0 9) 5 := by
  obtain ⟨n, hn, e⟩ := vp_in_of (y_i9 h) (by decide)
  have hk := y_i8k h
  obtain ⟨-, -, -, -, ⟨ho, hd⟩, -⟩ := h
  rw [e, nI_clamp (by omega)] at ho hd
  rw [e]
  obtain rfl | hn5 : n = 5 ∨ n < 5 := by omega
  · exfalso
    obtain ⟨a0, l0, f0⟩ := vp_in_of (hk 0 (by omega)) (by decide)
    obtain ⟨a1, l1, f1⟩ := vp_in_of (hk 1 (by omega)) (by decide)
    obtain ⟨a2, l2, f2⟩ := vp_in_of (hk 2 (by omega)) (by decide)
    obtain ⟨a3, l3, f3⟩ := vp_in_of (hk 3 (by omega)) (by decide)
    obtain ⟨a4, l4, f4⟩ := vp_in_of (hk 4 (by omega)) (by decide)
    have hc2 : ¬ ∃ k, k < 5 ∧ Y 8 k = nI c := fun z => (ho c hc).mpr z h0
    have d01 : a0 ≠ a1 := fun z => hd 0 1 (by omega) (by omega) (by rw [f0, f1, z])
    have d02 : a0 ≠ a2 := fun z => hd 0 2 (by omega) (by omega) (by rw [f0, f2, z])
    have d03 : a0 ≠ a3 := fun z => hd 0 3 (by omega) (by omega) (by rw [f0, f3, z])
    have d04 : a0 ≠ a4 := fun z => hd 0 4 (by omega) (by omega) (by rw [f0, f4, z])
    have d12 : a1 ≠ a2 := fun z => hd 1 2 (by omega) (by omega) (by rw [f1, f2, z])
    have d13 : a1 ≠ a3 := fun z => hd 1 3 (by omega) (by omega) (by rw [f1, f3, z])
    have d14 : a1 ≠ a4 := fun z => hd 1 4 (by omega) (by omega) (by rw [f1, f4, z])
    have d23 : a2 ≠ a3 := fun z => hd 2 3 (by omega) (by omega) (by rw [f2, f3, z])
    have d24 : a2 ≠ a4 := fun z => hd 2 4 (by omega) (by omega) (by rw [f2, f4, z])
    have d34 : a3 ≠ a4 := fun z => hd 3 4 (by omega) (by omega) (by rw [f3, f4, z])
    have g0 : a0 ≠ c := fun z => hc2 ⟨0, by omega, by rw [f0, z]⟩
    have g1 : a1 ≠ c := fun z => hc2 ⟨1, by omega, by rw [f1, z]⟩
    have g2 : a2 ≠ c := fun z => hc2 ⟨2, by omega, by rw [f2, z]⟩
    have g3 : a3 ≠ c := fun z => hc2 ⟨3, by omega, by rw [f3, z]⟩
    have g4 : a4 ≠ c := fun z => hc2 ⟨4, by omega, by rw [f4, z]⟩
    exact m_pig a0 a1 a2 a3 a4 c l0 l1 l2 l3 l4 hc d01 d02 d03 d04 d12 d13 d14 d23 d24 d34 g0 g1 g2 g3 g4
  · exact vp_in_nI hn5 (by decide)
theorem m_nz {a b : Int32} (h : ¬ a = 0) : ¬ (a, b).1 = 0 := h
theorem m_row_mem {f : Nat → Int32} {n : Nat} {x : Int32} (h : x ∈ m_row f n) : ∃ k, k < n ∧ f k = x := by
  unfold m_row at h
  obtain ⟨k, hk, e⟩ := List.mem_map.mp h
  exact ⟨k, List.mem_range.mp hk, e⟩
theorem y_imem {T : Nat} {Y : ch_B} (h : y_inv T Y) : ∀ k, k < (Y 0 9).toNatClampNeg → ∃ a, a < 5 ∧ Y 8 k = nI a ∧ ¬ Y 5 a ≤ 0 := by
  intro k hk
  obtain ⟨s, hs, es⟩ := vp_in_of (y_i9 h) (by decide)
  have hs2 : k < s := by rw [es, nI_clamp (by omega)] at hk; exact hk
  obtain ⟨a, ha, ea⟩ := vp_in_of (y_i8k h k (by omega)) (by decide)
  refine ⟨a, ha, ea, ?_⟩
  have h5 := (h.2.2.2.2.1.1 a ha).mpr ⟨k, hk, ea⟩
  obtain ⟨w, hw, ew⟩ := vp_in_of (y_i5 h ha) (by decide)
  rw [ew] at h5 ⊢
  exact nI_nle (by have : w ≠ 0 := fun z => h5 (by rw [z]; decide)
                   omega) (by omega)
theorem y_tk9 {Z : ch_B} {q : Nat} (hq : q < 12) (h : vp_in (Z 2 q) 10) : y_tk Z (nI q) 9 = ch_bw (ch_bw Z 2 q 0) 1 q (-1) := by
  have e : y_tkv Z (nI q) 9 = 0 := by
    unfold y_tkv
    rw [nI_clamp (by omega)]
    obtain ⟨v, hv, ev⟩ := vp_in_of h (by decide)
    rw [ev]
    obtain rfl | h9 : v = 9 ∨ v < 9 := by omega
    · decide
    · exact if_pos (pk_sneg (b := 9) (by decide) h9)
  unfold y_tk
  rw [if_pos e, e, nI_clamp (by omega)]
theorem m_nc {c : Nat} (hc : c < 5) : ¬ nI c = -1 := fun z => nI_pos (n := c) (by omega) (by rw [z]; decide)
theorem m_sub9 {v r : Nat} (hv : v < 2 ^ 30) (hr : r < 2 ^ 30) : (if nI v - nI r < 0 then 0 else nI v - nI r) = nI (v - r) := by
  by_cases h : v < r
  · rw [if_pos (pk_sneg hr h), show v - r = 0 by omega, nI_0]
  · rw [pk_sub (by omega), if_neg (nI_pos (by omega))]
theorem y_tk_far {Z : ch_B} {p i : Nat} {r : Int32} (hp : p < 2 ^ 31) (hi : i ≠ p) : y_tk Z (nI p) r 1 i = Z 1 i ∧ y_tk Z (nI p) r 2 i = Z 2 i := by
  unfold y_tk
  rw [nI_clamp hp]
  split
  · exact ⟨by rw [ch_bw_k hi, ch_bw_c (by decide)], by rw [ch_bw_c (by decide), ch_bw_k hi]⟩
  · exact ⟨by rw [ch_bw_c (by decide)], by rw [ch_bw_k hi]⟩
theorem y_wk_far (Y : ch_B) (r : Int32) (k : Nat) : k ≤ 12 → ∀ p, k ≤ p → (y_wk Y r k).1 1 p = Y 1 p ∧ (y_wk Y r k).1 2 p = Y 2 p := by
  induction k with
  | zero => exact fun _ p _ => ⟨rfl, rfl⟩
  | succ k ih =>
    intro hk p hp
    obtain ⟨i1, i2⟩ := ih (by omega) p (by omega)
    rw [y_wk]
    split
    · exact ⟨i1, i2⟩
    · dsimp only
      obtain ⟨f1, f2⟩ := y_tk_far (Z := (y_wk Y r k).1) (r := r) (p := k) (i := p) (by omega) (by omega)
      exact ⟨f1.trans i1, f2.trans i2⟩
/-- a square under the rain -/
theorem y_sq {T : Nat} {Y : ch_B} (hi : y_inv T Y) {k : Nat} (hk : k < 12) : ∃ v, v < 10 ∧ Y 2 k = nI v ∧ (Y 1 k = -1 ↔ v = 0) := by
  obtain ⟨h1, h2⟩ := hi.2.1 k hk
  obtain ⟨v, hv, ev⟩ := vp_in_of h1 (by decide)
  refine ⟨v, hv, ev, ?_⟩
  rcases h2 with ⟨a, b⟩ | ⟨c, hc, a, b⟩
  · refine ⟨fun _ => ?_, fun _ => a⟩
    by_cases h : v = 0
    · exact h
    · exact absurd b (by rw [ev]; exact nI_ne0 (by omega) (by omega))
  · refine ⟨fun z => ?_, fun z => absurd (by rw [ev, z]; decide) b⟩
    obtain ⟨n, hn, en⟩ := vp_in_of (y_i8 hi) (by decide)
    rw [en, nI_clamp (by omega)] at hc
    exact absurd (a.symm.trans z) (m_nc (by omega))
theorem y_wk_s {T : Nat} {Y : ch_B} (hi : y_inv T Y) {ρ k : Nat} (hρ : ρ < 10) (hk : k < 12) :
    ∃ v, v < 10 ∧ Y 2 k = nI v ∧ (v = 0 → y_wk Y (nI ρ) (k + 1) = y_wk Y (nI ρ) k) ∧
    (¬ v = 0 → v ≤ ρ → y_wk Y (nI ρ) (k + 1) = (ch_bw (ch_bw (y_wk Y (nI ρ) k).1 2 k 0) 1 k (-1), (y_wk Y (nI ρ) k).2 + 1)) ∧
    (¬ v = 0 → ρ < v → y_wk Y (nI ρ) (k + 1) = (ch_bw (y_wk Y (nI ρ) k).1 2 k (nI (v - ρ)), (y_wk Y (nI ρ) k).2)) := by
  obtain ⟨v, hv, ev, eo⟩ := y_sq hi hk
  obtain ⟨f1, f2⟩ := y_wk_far Y (nI ρ) k (by omega) k (Nat.le_refl k)
  have et : y_tkv (y_wk Y (nI ρ) k).1 (nI k) (nI ρ) = nI (v - ρ) := by
    unfold y_tkv
    rw [nI_clamp (by omega), f2, ev]
    exact m_sub9 (by omega) (by omega)
  refine ⟨v, hv, ev, fun h => ?_, fun h l => ?_, fun h l => ?_⟩
  · rw [y_wk, f1, if_pos (eo.mpr h)]
  · have h0 : nI (v - ρ) = 0 := by rw [show v - ρ = 0 by omega, nI_0]
    rw [y_wk, f1, if_neg (fun z => h (eo.mp z)), et, if_pos h0]
    unfold y_tk
    rw [et, if_pos h0, h0, nI_clamp (by omega)]
  · have h0 : ¬ nI (v - ρ) = 0 := nI_ne0 (by omega) (by omega)
    rw [y_wk, f1, if_neg (fun z => h (eo.mp z)), et, if_neg h0]
    unfold y_tk
    rw [et, if_neg h0, nI_clamp (by omega)]
theorem m_ci_s (f : Nat → Int32) {ρ k v : Nat} (hv : v < 10) (hρ : ρ < 10) (e : f k = nI v) : m_ci f (nI ρ) (k + 1) = if v ≠ 0 ∧ v ≤ ρ then m_ci f (nI ρ) k + 1 else m_ci f (nI ρ) k := by
  rw [m_ci, e]
  have e1 : (1 ≤ nI v ∧ nI v ≤ nI ρ) ↔ (v ≠ 0 ∧ v ≤ ρ) := by
    refine ⟨fun z => ⟨fun y => ?_, (nI_leI (by omega) (by omega)).mp z.2⟩, fun z => ⟨nI_le (a := 1) (by omega) (by omega), nI_le z.2 (by omega)⟩⟩
    rw [y] at z
    exact absurd z.1 (by decide)
  by_cases h : v ≠ 0 ∧ v ≤ ρ
  · rw [if_pos (e1.mpr h), if_pos h]
  · rw [if_neg (fun z => h (e1.mp z)), if_neg h]
theorem y_wk_ci {T : Nat} {Y : ch_B} (hi : y_inv T Y) {ρ : Nat} (hρ : ρ < 10) (k : Nat) : k ≤ 12 → (y_wk Y (nI ρ) k).2 = m_ci (Y 2) (nI ρ) k := by
  induction k with
  | zero => exact fun _ => rfl
  | succ k ih =>
    intro hk
    obtain ⟨v, hv, ev, h1, h2, h3⟩ := y_wk_s hi hρ (show k < 12 by omega)
    rw [m_ci_s _ hv hρ ev, ← ih (by omega)]
    by_cases e0 : v = 0
    · rw [h1 e0, if_neg (fun z => z.1 e0)]
    · by_cases l : v ≤ ρ
      · rw [h2 e0 l, if_pos ⟨e0, l⟩]
      · rw [h3 e0 (by omega), if_neg (fun z => l z.2)]
theorem m_fil_len {L : List Int32} {a : Int32} (hn : L.Nodup) (ha : a ∈ L) : (L.filter (fun x => !decide (x = a))).length + 1 = L.length := by
  induction L with
  | nil => cases ha
  | cons b L ih =>
    obtain ⟨h1, h2⟩ := List.nodup_cons.mp hn
    by_cases e : b = a
    · subst e
      rw [List.filter_cons_of_neg (by simp), List.filter_eq_self.mpr]
      · rfl
      · intro x hx
        have : x ≠ b := fun z => h1 (z ▸ hx)
        simp [this]
    · have ha2 : a ∈ L := (List.mem_cons.mp ha).resolve_left (fun z => e z.symm)
      rw [List.filter_cons_of_pos (by simp [e]), List.length_cons, List.length_cons, ih h2 ha2]
theorem m_row_nd {f : Nat → Int32} (n : Nat) (h : ∀ i j, i < j → j < n → ¬ f i = f j) : (m_row f n).Nodup := by
  induction n with
  | zero => exact List.nodup_nil
  | succ n ih =>
    rw [m_row_s]
    refine List.nodup_append.mpr ⟨ih (fun i j a b => h i j a (by omega)), List.nodup_cons.mpr ⟨by simp, List.nodup_nil⟩, ?_⟩
    intro a ha b hb
    obtain ⟨k, hk, rfl⟩ := m_row_mem ha
    rw [List.mem_singleton.mp hb]
    exact h k n hk (by omega)
theorem m_mem_row {f : Nat → Int32} {n k : Nat} (h : k < n) : f k ∈ m_row f n := by
  unfold m_row
  exact List.mem_map.mpr ⟨k, List.mem_range.mpr h, rfl⟩
