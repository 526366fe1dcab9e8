/-! calls that change: what the reference has behind them -/
theorem c_m_ends1 (g : ch_G) (q : Int32 → ch_M → Prop) (m : ch_M) (h : vp_in (m (9, 0, 0) 4) 9 ∧ q (m (9, 0, 0) 18) (ch_os m 9 0 (m_kB (ch_ob m 9 0)))) : ch_C g m_m_ends [.inr (9, 0, 0), .inl (.int 1)] m (ch_oi q) :=
  s_m_ends g q 1 m ⟨fun _ => h.1, fun z => absurd z (by decide), fun _ => h.2⟩
theorem c_m_ends0 (g : ch_G) (q : Int32 → ch_M → Prop) (m : ch_M) (h : q 0 (ch_os m 9 0 (ch_bw (ch_ob m 9 0) 0 19 1))) : ch_C g m_m_ends [.inr (9, 0, 0), .inl (.int 0)] m (ch_oi q) :=
  s_m_ends g q 0 m ⟨fun z => absurd rfl z, fun _ => h, fun z => absurd rfl z⟩
theorem c_m_comes (g : ch_G) (q : Int32 → ch_M → Prop) (T_ : Nat) (Y_ : ch_B) (p1 : Int32) (m : ch_M) (h : m_rel Y_ (m (9, 0, 1)) ∧ y_inv T_ Y_ ∧ ((r_wn Y_ p1).1 = 0 → ∀ B_ : ch_B, m_did (ch_ob m 9 0) B_ (y_briB Y_ p1) (Y_ 0 8) → q 1 (ch_os m 9 0 B_)) ∧ (¬ (r_wn Y_ p1).1 = 0 → q 0 (ch_os m 9 0 (m_refB (ch_ob m 9 0) (r_wn Y_ p1).1 (r_wn Y_ p1).2)))) : ch_C g m_m_comes [.inr (9, 0, 0), .inl (.int p1)] m (ch_oi q) := by
  obtain ⟨hr, hi, ha, hb⟩ := h
  have hB : m_rel Y_ (ch_ob m 9 0 1) := hr
  obtain ⟨n, hn, en⟩ := vp_in_of (y_i8 hi) (by decide)
  have e0 : m (9, 0, 1) 0 = nI n := (m_co hr).trans en
  have hlt : ¬ nI n = 5 → n < 5 := fun z => by
    have : n ≠ 5 := fun y => z (by rw [y]; decide)
    omega
  unfold r_wn at ha hb
  refine s_m_comes g q p1 m ⟨by rw [e0]; exact vp_in_nI hn (by decide), fun c => ?_, fun c => ?_, fun c => ?_⟩
  · have hn5 : n < 5 := hlt (by rw [← e0]; exact c.2)
    rw [if_pos c.1, if_pos (by rw [en]; exact nI_lt (b := 5) hn5 (by decide))] at ha
    have hbig := hi.2.2.2.1 n (by rw [en, nI_clamp (by omega)]; omega) hn5
    have cn : (m (9, 0, 1) 0).toNatClampNeg = n := by rw [e0, nI_clamp (by omega)]
    have cnB : (ch_ob m 9 0 1 0).toNatClampNeg = n := cn
    have e0B : ch_ob m 9 0 1 0 = nI n := e0
    have cY : (Y_ 0 8).toNatClampNeg = n := by rw [en, nI_clamp (by omega)]
    have e2B : ch_ob m 9 0 1 2 = Y_ 0 11 := hB.1.2.2.1
    refine ha rfl _ ⟨?_, ?_, ?_⟩
    · unfold m_comB y_briB
      rw [cnB, cY, e0B, e2B, en]
      obtain ⟨⟨a0, a1, a2, a3, a4, a5, a6, a7, a8⟩, h2, h3, h4⟩ := hB
      rw [en] at a0
      obtain ⟨z3, z4, z5, z6, z7⟩ := hbig
      obtain ⟨s, hs, es⟩ := vp_in_of (y_i9 hi) (by decide)
      unfold m_rel m_czK ch_bw
      refine ⟨⟨?_, ?_, ?_, ?_, ?_, ?_, ?_, ?_, ?_⟩, fun k hk5 hk => ?_, fun k hk => ⟨?_, ?_⟩, fun d hd => ⟨?_, ?_, ?_, ?_, ?_⟩⟩ <;> grind
    · unfold m_comB
      rw [ch_bw_at, en]
      exact e0
    · intro a i h1 h2
      unfold m_comB m_czK ch_bw
      grind
  · have h5 : n = 5 := by
      by_cases h : n = 5
      · exact h
      · have := c.2
        rw [e0] at this
        exact absurd ((nI_eq (b := 5) (by omega) (by decide)).mp this) h
    rw [if_pos c.1, if_neg (by rw [en, h5]; decide), en, h5] at hb
    exact hb (m_nz (by decide))
  · rw [if_neg c] at hb
    exact hb (m_nz (by decide))
def m_fr (B B' : ch_B) : Prop := (∀ a i, (a = 5 ∨ a = 6 ∨ a = 7) → B' a i = B a i) ∧ (∀ i, (i = 6 ∨ i = 8 ∨ i = 10 ∨ i = 14) → B' 0 i = B 0 i)
def m_rs (B B' : ch_B) : Prop := B' 0 15 = B 0 15 ∧ B' 0 16 = B 0 16 ∧ B' 0 17 = B 0 17
/-- the states that are kept, with now of old behind them -/
def m_push (B B' : ch_B) : Prop :=
  (B 0 4 = 8 → B' 0 4 = 8 ∧ (∀ i, i < 441 → B' 4 i = B 4 (63 + i)) ∧ ∀ i, i < 63 → B' 4 (441 + i) = B 1 i) ∧
  (∀ u, u < 8 → B 0 4 = nI u → B' 0 4 = nI (u + 1) ∧ (∀ i, i < 63 * u → B' 4 i = B 4 i) ∧ ∀ i, i < 63 → B' 4 (63 * u + i) = B 1 i)
def m_done (B B' Y' : ch_B) : Prop := m_rel Y' (B' 1) ∧ B' 0 19 = 0 ∧ m_push B B' ∧ m_fr B B' ∧ m_rs B B'
def m_rfd (B B' : ch_B) (w d : Int32) : Prop := (∀ i, B' 1 i = B 1 i) ∧ B' 0 19 = 1 ∧ (B' 0 15 = w ∧ B' 0 16 = d ∧ B' 0 17 = 0) ∧ (B' 0 4 = B 0 4 ∧ ∀ i, B' 4 i = B 4 i) ∧ m_fr B B'
theorem m_trB_1 (B : ch_B) : m_trB B 1 = B 1 := by
  funext i
  unfold m_trB m_trK
  rw [if_neg (by omega), if_neg (by omega)]
theorem m_trB_o {B : ch_B} {a i : Nat} (h1 : ¬ (a = 0 ∧ i = 19)) (h2 : a ≠ 2) : m_trB B a i = B a i := by
  unfold m_trB m_trK
  rw [if_neg h1, if_neg (fun z => h2 z.1)]
theorem m_kS_1 (S : ch_B) : m_kS S 1 = S 1 := by
  funext i
  unfold m_kS m_kK
  split
  · rw [ch_bw_c (by decide), if_neg (by omega)]
  · rfl
theorem m_kB_o {S : ch_B} {a i : Nat} (h1 : ¬ (a = 0 ∧ i = 4)) (h2 : a ≠ 4) : m_kB S a i = S a i := by
  have e : m_kS S a i = S a i := by
    unfold m_kS m_kK
    split
    · unfold ch_bw
      rw [if_neg h1]
      dsimp only
      rw [if_neg (fun z : a = 4 ∧ i < 441 => h2 z.1)]
    · rfl
  unfold m_kB m_kP ch_bw
  rw [if_neg h1]
  dsimp only
  rw [if_neg (fun z => h2 z.1), e]
/-- keeping what lies in tried -/
theorem m_kB_push {B S : ch_B} (h4 : S 0 4 = B 0 4) (h2 : ∀ i, i < 63 → S 2 i = B 1 i) (hk : ∀ i, S 4 i = B 4 i) : m_push B (m_kB S) := by
  refine ⟨fun e => ?_, fun u hu e => ?_⟩
  · have e8 : S 0 4 = 8 := h4.trans e
    have eS : m_kS S = ch_bw (m_kK S 441) 0 4 7 := if_pos e8
    have e7 : (7 : Int32).toNatClampNeg = 7 := by decide
    refine ⟨?_, fun i hi => ?_, fun i hi => ?_⟩
    · unfold m_kB
      rw [ch_bw_at, eS, ch_bw_at]
      decide
    · unfold m_kB
      rw [ch_bw_c (by decide), eS, ch_bw_at, e7]
      unfold m_kP
      rw [if_neg (by omega), ch_bw_c (by decide)]
      unfold m_kK
      rw [if_pos ⟨rfl, hi⟩, hk]
    · unfold m_kB
      rw [ch_bw_c (by decide), eS, ch_bw_at, e7]
      unfold m_kP
      rw [if_pos ⟨rfl, by omega, by omega⟩, ch_bw_c (by decide), show 441 + i - 63 * 7 = i by omega]
      unfold m_kK
      rw [if_neg (fun z => absurd z.1 (by decide))]
      exact h2 i hi
  · have e8 : S 0 4 = nI u := h4.trans e
    have eS : m_kS S = S := if_neg (by
      rw [e8]
      exact fun z => absurd ((nI_eq (b := 8) (by omega) (by decide)).mp z) (by omega))
    have cu : (nI u).toNatClampNeg = u := nI_clamp (by omega)
    refine ⟨?_, fun i hi => ?_, fun i hi => ?_⟩
    · unfold m_kB
      rw [ch_bw_at, eS, e8, nI_1]
    · unfold m_kB
      rw [ch_bw_c (by decide), eS, e8, cu]
      unfold m_kP
      rw [if_neg (by omega), hk]
    · unfold m_kB
      rw [ch_bw_c (by decide), eS, e8, cu]
      unfold m_kP
      rw [if_pos ⟨rfl, by omega, by omega⟩, show 63 * u + i - 63 * u = i by omega]
      exact h2 i hi
theorem m_trB_2 {B : ch_B} {i : Nat} (h : i < 63) : m_trB B 2 i = B 1 i := by
  unfold m_trB m_trK
  rw [if_neg (by omega), if_pos ⟨rfl, h⟩]
theorem m_done_of {B B2 Y' : ch_B} {a : Int32} (h : m_did (m_trB B) B2 Y' a) : m_done B (m_kB B2) Y' := by
  obtain ⟨h1, h2, h3⟩ := h
  have o : ∀ c k, c ≠ 1 → c ≠ 2 → ¬ (c = 0 ∧ (k = 18 ∨ k = 19)) → B2 c k = B c k := fun c k h5 h6 h7 => (h3 c k h5 (fun z => h7 ⟨z.1, Or.inl z.2⟩)).trans (m_trB_o (fun z => h7 ⟨z.1, Or.inr z.2⟩) h6)
  refine ⟨?_, ?_, m_kB_push (o 0 4 (by decide) (by decide) (by omega)) (fun i hi => (h3 2 i (by decide) (by omega)).trans (m_trB_2 hi)) (fun i => o 4 i (by decide) (by decide) (by omega)), ⟨fun a i ha => ?_, fun i hi => ?_⟩, ?_, ?_, ?_⟩
  · have : m_kB B2 1 = B2 1 := by
      funext i
      exact m_kB_o (by omega) (by decide)
    rw [this]
    exact h1
  · rw [m_kB_o (by omega) (by decide), h3 0 19 (by decide) (by omega)]
    unfold m_trB m_trK
    rw [if_pos ⟨rfl, rfl⟩]
  · rw [m_kB_o (by omega) (by omega)]
    exact o a i (by omega) (by omega) (by omega)
  · rw [m_kB_o (by omega) (by omega)]
    exact o 0 i (by omega) (by omega) (by omega)
  · rw [m_kB_o (by omega) (by omega)]
    exact o 0 15 (by omega) (by omega) (by omega)
  · rw [m_kB_o (by omega) (by omega)]
    exact o 0 16 (by omega) (by omega) (by omega)
  · rw [m_kB_o (by omega) (by omega)]
    exact o 0 17 (by omega) (by omega) (by omega)
theorem m_rfd_of (B : ch_B) (w d : Int32) : m_rfd B (ch_bw (m_refB (m_trB B) w d) 0 19 1) w d := by
  have o : ∀ c k, c ≠ 2 → ¬ (c = 0 ∧ (k = 15 ∨ k = 16 ∨ k = 17 ∨ k = 19)) → ch_bw (m_refB (m_trB B) w d) 0 19 1 c k = B c k := by
    intro c k h1 h2
    unfold m_refB
    unfold ch_bw
    rw [if_neg (by omega), if_neg (by omega), if_neg (by omega), if_neg (by omega)]
    exact m_trB_o (by omega) h1
  refine ⟨fun i => o 1 i (by omega) (by omega), ch_bw_at _ _ _ _, ⟨?_, ?_, ?_⟩, ⟨o 0 4 (by omega) (by omega), fun i => o 4 i (by omega) (by omega)⟩, fun a i ha => o a i (by omega) (by omega), fun i hi => o 0 i (by omega) (by omega)⟩
  · unfold m_refB ch_bw
    simp
  · unfold m_refB ch_bw
    simp
  · unfold m_refB ch_bw
    simp
