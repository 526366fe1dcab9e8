/-! what holds of a yard always; writing a cell on both sides -/
def y_tot (Y : ch_B) : Nat := (Y 3 0).toNatClampNeg + (Y 3 1).toNatClampNeg + (Y 3 2).toNatClampNeg + (Y 3 3).toNatClampNeg + (Y 3 4).toNatClampNeg + (Y 0 10).toNatClampNeg
def y_inv (T : Nat) (Y : ch_B) : Prop :=
  (vp_in (Y 0 8) 6 ∧ vp_in (Y 0 9) 6 ∧ ∀ k, k < 5 → vp_in (Y 8 k) 5) ∧
  (∀ q, q < 12 → vp_in (Y 2 q) 10 ∧ ((Y 1 q = -1 ∧ Y 2 q = 0) ∨ (∃ c, c < (Y 0 8).toNatClampNeg ∧ Y 1 q = nI c ∧ ¬ Y 2 q = 0))) ∧
  (∀ c, c < 5 → vp_in (Y 3 c) 496 ∧ vp_in (Y 4 c) T ∧ vp_in (Y 5 c) 10) ∧
  (∀ c, (Y 0 8).toNatClampNeg ≤ c → c < 5 → Y 3 c = 0 ∧ Y 4 c = 0 ∧ Y 5 c = 0 ∧ Y 6 c = 0 ∧ Y 7 c = 0) ∧
  ((∀ c, c < 5 → (¬ Y 5 c = 0 ↔ ∃ k, k < (Y 0 9).toNatClampNeg ∧ Y 8 k = nI c)) ∧ ∀ i j, i < j → j < (Y 0 9).toNatClampNeg → ¬ Y 8 i = Y 8 j) ∧
  (y_tot Y = (Y 0 11).toNatClampNeg ∧ (Y 0 11).toNatClampNeg ≤ 99 * (Y 0 8).toNatClampNeg ∧ vp_in (Y 0 11) 496 ∧ vp_in (Y 0 10) 496)
theorem y_i8 {T : Nat} {Y : ch_B} (h : y_inv T Y) : vp_in (Y 0 8) 6 := h.1.1
theorem y_i9 {T : Nat} {Y : ch_B} (h : y_inv T Y) : vp_in (Y 0 9) 6 := h.1.2.1
theorem y_i8k {T : Nat} {Y : ch_B} (h : y_inv T Y) : ∀ k, k < 5 → vp_in (Y 8 k) 5 := h.1.2.2
theorem y_i2 {T : Nat} {Y : ch_B} (h : y_inv T Y) {q : Nat} (hq : q < 12) : vp_in (Y 2 q) 10 := (h.2.1 q hq).1
theorem y_iow {T : Nat} {Y : ch_B} (h : y_inv T Y) : ∀ i, i < 12 → Y 1 i = -1 ∨ vp_in (Y 1 i) 5 := by
  intro i hi
  obtain ⟨n, hn, e⟩ := vp_in_of (y_i8 h) (by decide)
  obtain ⟨-, hA | ⟨c, hc, e1, -⟩⟩ := h.2.1 i hi
  · exact Or.inl hA.1
  · rw [e, nI_clamp (by omega)] at hc
    rw [e1]
    exact Or.inr (vp_in_nI (by omega) (by decide))
theorem y_i3 {T : Nat} {Y : ch_B} (h : y_inv T Y) {c : Nat} (hc : c < 5) : vp_in (Y 3 c) 496 := (h.2.2.1 c hc).1
theorem y_i4 {T : Nat} {Y : ch_B} (h : y_inv T Y) {c : Nat} (hc : c < 5) : vp_in (Y 4 c) T := (h.2.2.1 c hc).2.1
theorem y_i5 {T : Nat} {Y : ch_B} (h : y_inv T Y) {c : Nat} (hc : c < 5) : vp_in (Y 5 c) 10 := (h.2.2.1 c hc).2.2
theorem ch_bw1 {B : ch_B} {c k : Nat} {v : Int32} (h : 1 ≠ c) : ch_bw B c k v 1 = B 1 := by
  funext i
  exact ch_bw_c h
theorem m_rel_w {Y B : ch_B} (h : m_rel Y (B 1)) {f c : Nat} {v : Int32} (hf : f < 5) (hc : c < 5) : m_rel (ch_bw Y (3 + f) c v) (ch_bw B 1 (38 + 5 * c + f) v 1) := by
  obtain ⟨⟨a0, a1, a2, a3, a4, a5, a6, a7, a8⟩, h2, h3, h4⟩ := h
  unfold m_rel ch_bw
  obtain rfl | rfl | rfl | rfl | rfl : f = 0 ∨ f = 1 ∨ f = 2 ∨ f = 3 ∨ f = 4 := by omega
  all_goals
    refine ⟨⟨?_, ?_, ?_, ?_, ?_, ?_, ?_, ?_, ?_⟩, fun k hk5 hk => ?_, fun k hk => ⟨?_, ?_⟩, fun d hd => ⟨?_, ?_, ?_, ?_, ?_⟩⟩ <;> grind
theorem m_rel_1 {Y B : ch_B} (h : m_rel Y (B 1)) {p : Nat} {v w : Int32} (hp : p < 12) (hw : w = v + 1) : m_rel (ch_bw Y 1 p v) (ch_bw B 1 (14 + 2 * p) w 1) := by
  obtain ⟨⟨a0, a1, a2, a3, a4, a5, a6, a7, a8⟩, h2, h3, h4⟩ := h
  unfold m_rel ch_bw
  refine ⟨⟨?_, ?_, ?_, ?_, ?_, ?_, ?_, ?_, ?_⟩, fun k hk5 hk => ?_, fun k hk => ⟨?_, ?_⟩, fun d hd => ⟨?_, ?_, ?_, ?_, ?_⟩⟩ <;> grind
theorem m_rel_2 {Y B : ch_B} (h : m_rel Y (B 1)) {p : Nat} {v : Int32} (hp : p < 12) : m_rel (ch_bw Y 2 p v) (ch_bw B 1 (15 + 2 * p) v 1) := by
  obtain ⟨⟨a0, a1, a2, a3, a4, a5, a6, a7, a8⟩, h2, h3, h4⟩ := h
  unfold m_rel ch_bw
  refine ⟨⟨?_, ?_, ?_, ?_, ?_, ?_, ?_, ?_, ?_⟩, fun k hk5 hk => ?_, fun k hk => ⟨?_, ?_⟩, fun d hd => ⟨?_, ?_, ?_, ?_, ?_⟩⟩ <;> grind
/-- children, chest and the counts -/
theorem m_rel_0 {Y B : ch_B} (h : m_rel Y (B 1)) {i : Nat} {v : Int32} (hi : i < 8) : m_rel (ch_bw Y 0 (if i = 0 then 8 else i + 9) v) (ch_bw B 1 i v 1) := by
  obtain ⟨⟨a0, a1, a2, a3, a4, a5, a6, a7, a8⟩, h2, h3, h4⟩ := h
  unfold m_rel ch_bw
  obtain rfl | rfl | rfl | rfl | rfl | rfl | rfl | rfl : i = 0 ∨ i = 1 ∨ i = 2 ∨ i = 3 ∨ i = 4 ∨ i = 5 ∨ i = 6 ∨ i = 7 := by omega
  all_goals
    refine ⟨⟨?_, ?_, ?_, ?_, ?_, ?_, ?_, ?_, ?_⟩, fun k hk5 hk => ?_, fun k hk => ⟨?_, ?_⟩, fun d hd => ⟨?_, ?_, ?_, ?_, ?_⟩⟩ <;> grind
/-- what a change that isn't refused does to the reference: now another yard is told; the answer -/
def m_did (B B' : ch_B) (Y' : ch_B) (a : Int32) : Prop := m_rel Y' (B' 1) ∧ B' 0 18 = a ∧ (∀ c k, c ≠ 1 → ¬ (c = 0 ∧ k = 18) → B' c k = B c k)
theorem m_e14 (p : Nat) : (14 : Int32) + 2 * nI p = nI (14 + 2 * p) := by rw [← nI_add, ← pk_mul]; rfl
theorem m_e15 (p : Nat) : (14 : Int32) + 2 * nI p + 1 = nI (15 + 2 * p) := by
  rw [show 15 + 2 * p = 14 + 2 * p + 1 by omega, ← nI_1, ← nI_add, ← pk_mul]; rfl
theorem m_pay_rel {Y B : ch_B} (h : m_rel Y (B 1)) {c : Nat} (hc : c < 5) (p : Int32) : m_rel (ch_bw (ch_bw Y 3 c (Y 3 c - p)) 0 10 (Y 0 10 + p)) (m_payB B c p 1) := by
  unfold m_payB
  rw [m_pe h hc, h.1.2.1]
  exact m_rel_0 (i := 1) (m_rel_w (f := 0) h (by omega) hc) (by omega)
/-- a row cut to those that p takes: in place, so many done; and how many are left -/
def m_cmp (p : Int32 → Bool) (f : Nat → Int32) : Nat → (Nat → Int32) × Nat
  | 0 => (f, 0)
  | n + 1 => if p ((m_cmp p f n).1 n) = true then (fun i => if i = (m_cmp p f n).2 then (m_cmp p f n).1 n else (m_cmp p f n).1 i, (m_cmp p f n).2 + 1) else m_cmp p f n
def m_row (f : Nat → Int32) (n : Nat) : List Int32 := (List.range n).map f
theorem m_row_s (f : Nat → Int32) (n : Nat) : m_row f (n + 1) = m_row f n ++ [f n] := by
  unfold m_row
  rw [List.range_succ, List.map_append]
  rfl
theorem m_row_cg {f g : Nat → Int32} {n : Nat} (h : ∀ k, k < n → f k = g k) : m_row f n = m_row g n := by
  unfold m_row
  apply List.map_congr_left
  intro a ha
  exact h a (List.mem_range.mp ha)
theorem m_row_at {f : Nat → Int32} {n k : Nat} (h : k < n) : (m_row f n)[k]? = some (f k) := by
  unfold m_row
  rw [List.getElem?_map, List.getElem?_range h]
  rfl
theorem m_row_len (f : Nat → Int32) (n : Nat) : (m_row f n).length = n := by
  unfold m_row
  rw [List.length_map, List.length_range]
theorem m_row_inj {f g : Nat → Int32} {n k : Nat} (h : m_row f n = m_row g k) : n = k ∧ ∀ i, i < n → f i = g i := by
  have e : n = k := by rw [← m_row_len f n, h, m_row_len]
  subst e
  refine ⟨rfl, fun i hi => ?_⟩
  have := m_row_at (f := f) hi
  rw [h, m_row_at hi] at this
  exact (Option.some.inj this).symm
theorem m_cmp_le (p : Int32 → Bool) (f : Nat → Int32) (n : Nat) : (m_cmp p f n).2 ≤ n := by
  induction n with
  | zero => exact Nat.le_refl _
  | succ n ih =>
    unfold m_cmp
    split
    · dsimp only; omega
    · omega
theorem m_cmp_hi (p : Int32 → Bool) (f : Nat → Int32) (n i : Nat) (h : n ≤ i) : (m_cmp p f n).1 i = f i := by
  induction n with
  | zero => rfl
  | succ n ih =>
    have hl := m_cmp_le p f n
    unfold m_cmp
    split
    · dsimp only
      rw [if_neg (by omega)]
      exact ih (by omega)
    · exact ih (by omega)
theorem m_cmp_row (p : Int32 → Bool) (f : Nat → Int32) (n : Nat) : m_row (m_cmp p f n).1 (m_cmp p f n).2 = (m_row f n).filter p := by
  induction n with
  | zero => rfl
  | succ n ih =>
    have hl := m_cmp_le p f n
    rw [m_row_s, List.filter_append, ← ih]
    have e := m_cmp_hi p f n n (Nat.le_refl n)
    by_cases h : p (f n) = true
    · have e1 : m_cmp p f (n + 1) = (fun i => if i = (m_cmp p f n).2 then f n else (m_cmp p f n).1 i, (m_cmp p f n).2 + 1) := by
        rw [m_cmp, e, if_pos h]
      rw [e1]
      dsimp only
      rw [m_row_s, if_pos rfl, m_row_cg (g := (m_cmp p f n).1) (fun k hk => if_neg (by omega))]
      simp [h]
    · have e1 : m_cmp p f (n + 1) = m_cmp p f n := by rw [m_cmp, e, if_neg h]
      rw [e1]
      simp [h]
theorem y_clk_cmp (Y : ch_B) (n : Nat) : y_clk Y n = m_cmp (fun x => !decide (Y 5 x.toNatClampNeg ≤ 0)) (Y 8) n := by
  induction n with
  | zero => rfl
  | succ n ih =>
    rw [y_clk, m_cmp, ih]
    by_cases h : Y 5 (((m_cmp (fun x => !decide (Y 5 x.toNatClampNeg ≤ 0)) (Y 8) n).1 n).toNatClampNeg) ≤ 0
    · rw [if_pos h, if_neg (by simp [h])]
    · rw [if_neg h, if_pos (by simp [h])]
/-- the order with standing, cut -/
def m_ord (Y : ch_B) : List Int32 := m_row (Y 8) (Y 0 9).toNatClampNeg
def m_clB (Y : ch_B) (c : Nat) : ch_B := fun a k => if a = 8 then (m_cmp (fun x => !decide (x = nI c)) (Y 8) (Y 0 9).toNatClampNeg).1 k else if a = 0 ∧ k = 9 then nI (m_cmp (fun x => !decide (x = nI c)) (Y 8) (Y 0 9).toNatClampNeg).2 else if a = 5 ∧ k = c then 0 else Y a k
/-- two yards that the reference can't tell apart -/
def y_eqv (Y Z : ch_B) : Prop := (∀ k, 8 ≤ k → k ≤ 16 → Y 0 k = Z 0 k) ∧ (∀ c k, 1 ≤ c → c ≤ 2 → k < 12 → Y c k = Z c k) ∧ (∀ c k, 3 ≤ c → c ≤ 7 → k < 5 → Y c k = Z c k) ∧ (∀ k, k < 5 → k < (Y 0 9).toNatClampNeg → Y 8 k = Z 8 k)
theorem m_rel_eqv {Y Z : ch_B} {N : Nat → Int32} (h : m_rel Y N) (e : y_eqv Y Z) : m_rel Z N := by
  obtain ⟨⟨a0, a1, a2, a3, a4, a5, a6, a7, a8⟩, h2, h3, h4⟩ := h
  obtain ⟨e0, e1, e2, e3⟩ := e
  unfold m_rel
  refine ⟨⟨?_, ?_, ?_, ?_, ?_, ?_, ?_, ?_, ?_⟩, fun k hk5 hk => ?_, fun k hk => ⟨?_, ?_⟩, fun d hd => ⟨?_, ?_, ?_, ?_, ?_⟩⟩ <;> grind
def m_pgB (a b c d e f : Nat) : Bool := Nat.beq a b || Nat.beq a c || Nat.beq a d || Nat.beq a e || Nat.beq b c || Nat.beq b d || Nat.beq b e || Nat.beq c d || Nat.beq c e || Nat.beq d e || Nat.beq a f || Nat.beq b f || Nat.beq c f || Nat.beq d f || Nat.beq e f
theorem m_pigF : ∀ a b c d e f : Fin 5, m_pgB a.val b.val c.val d.val e.val f.val = true := by decide +kernel
theorem m_pig (a b c d e f : Nat) (ha : a < 5) (hb : b < 5) (hc : c < 5) (hd : d < 5) (he : e < 5) (hf : f < 5) (h0 : a ≠ b) (h1 : a ≠ c) (h2 : a ≠ d) (h3 : a ≠ e) (h4 : b ≠ c) (h5 : b ≠ d) (h6 : b ≠ e) (h7 : c ≠ d) (h8 : c ≠ e) (h9 : d ≠ e) (h10 : a ≠ f) (h11 : b ≠ f) (h12 : c ≠ f) (h13 : d ≠ f) (h14 : e ≠ f) : False := by
  have h := m_pigF ⟨a, ha⟩ ⟨b, hb⟩ ⟨c, hc⟩ ⟨d, hd⟩ ⟨e, he⟩ ⟨f, hf⟩
  simp only [m_pgB, Bool.or_eq_true, Nat.beq_eq] at h
  omega
theorem y_i9w {T : Nat} {Y : ch_B} (h : y_inv T Y) {c : Nat} (hc : c < 5) (h0 : Y 5 c = 0) : vp_in (Y 0 9) 5 := by
  obtain ⟨n, hn, e⟩ := vp_in_of (y_i9 h) (by decide)
  have hk := y_i8k h
  obtain ⟨-, -, -, -, ⟨ho, hd⟩, -⟩ := h
  rw [e, nI_clamp (by omega)] at ho hd
  rw [e]
  obtain rfl | hn5 : n = 5 ∨ n < 5 := by omega
  · exfalso
    obtain ⟨a0, l0, f0⟩ := vp_in_of (hk 0 (by omega)) (by decide)
    obtain ⟨a1, l1, f1⟩ := vp_in_of (hk 1 (by omega)) (by decide)
    obtain ⟨a2, l2, f2⟩ := vp_in_of (hk 2 (by omega)) (by decide)
    obtain ⟨a3, l3, f3⟩ := vp_in_of (hk 3 (by omega)) (by decide)
    obtain ⟨a4, l4, f4⟩ := vp_in_of (hk 4 (by omega)) (by decide)
    have hc2 : ¬ ∃ k, k < 5 ∧ Y 8 k = nI c := fun z => (ho c hc).mpr z h0
    have d01 : a0 ≠ a1 := fun z => hd 0 1 (by omega) (by omega) (by rw [f0, f1, z])
    have d02 : a0 ≠ a2 := fun z => hd 0 2 (by omega) (by omega) (by rw [f0, f2, z])
    have d03 : a0 ≠ a3 := fun z => hd 0 3 (by omega) (by omega) (by rw [f0, f3, z])
    have d04 : a0 ≠ a4 := fun z => hd 0 4 (by omega) (by omega) (by rw [f0, f4, z])
    have d12 : a1 ≠ a2 := fun z => hd 1 2 (by omega) (by omega) (by rw [f1, f2, z])
    have d13 : a1 ≠ a3 := fun z => hd 1 3 (by omega) (by omega) (by rw [f1, f3, z])
    have d14 : a1 ≠ a4 := fun z => hd 1 4 (by omega) (by omega) (by rw [f1, f4, z])
    have d23 : a2 ≠ a3 := fun z => hd 2 3 (by omega) (by omega) (by rw [f2, f3, z])
    have d24 : a2 ≠ a4 := fun z => hd 2 4 (by omega) (by omega) (by rw [f2, f4, z])
    have d34 : a3 ≠ a4 := fun z => hd 3 4 (by omega) (by omega) (by rw [f3, f4, z])
    have g0 : a0 ≠ c := fun z => hc2 ⟨0, by omega, by rw [f0, z]⟩
    have g1 : a1 ≠ c := fun z => hc2 ⟨1, by omega, by rw [f1, z]⟩
    have g2 : a2 ≠ c := fun z => hc2 ⟨2, by omega, by rw [f2, z]⟩
    have g3 : a3 ≠ c := fun z => hc2 ⟨3, by omega, by rw [f3, z]⟩
    have g4 : a4 ≠ c := fun z => hc2 ⟨4, by omega, by rw [f4, z]⟩
    exact m_pig a0 a1 a2 a3 a4 c l0 l1 l2 l3 l4 hc d01 d02 d03 d04 d12 d13 d14 d23 d24 d34 g0 g1 g2 g3 g4
  · exact vp_in_nI hn5 (by decide)
theorem m_e15' (p : Nat) : nI (14 + 2 * p) + 1 = nI (15 + 2 * p) := by rw [nI_1, show 14 + 2 * p + 1 = 15 + 2 * p by omega]
theorem m_nz {a b : Int32} (h : ¬ a = 0) : ¬ (a, b).1 = 0 := h
theorem m_mn (a b : Int32) : (if a < b then a else b) = (if b < a then b else a) := by
  by_cases h : a < b
  · rw [if_pos h, if_neg (by grind)]
  · by_cases h2 : b < a
    · rw [if_neg h, if_pos h2]
    · rw [if_neg h, if_neg h2]
      grind
theorem m_rel_cast {U V : ch_B} {N : Nat → Int32} (h : m_rel U N) (e : U = V) : m_rel V N := by
  rw [← e]
  exact h
