theorem y_hk_o (Y : ch_B) (c : Int32) (f : Nat → Int32) {a i : Nat} (h1 : a ≠ 1) (h2 : a ≠ 2) (h7 : a ≠ 7) (n : Nat) : y_hk Y c f n a i = Y a i := by
  induction n with
  | zero => rfl
  | succ n ih =>
    rw [y_hk]
    unfold y_hs
    split
    · rw [y_tk_o h1 h2, ch_bw_c h7, ih]
    · exact ih
theorem y_hopB_8 (Y : ch_B) (c : Int32) (f : Nat → Int32) (n : Nat) : y_hopB Y c f n 0 8 = Y 0 8 := by
  unfold y_hopB
  rw [ch_bw_c (by decide), ch_bw_k (by decide), ch_bw_c (by decide), y_hk_o _ _ _ (by decide) (by decide) (by decide)]
theorem y_hopB_5 (Y : ch_B) (c : Int32) (f : Nat → Int32) (n i : Nat) : y_hopB Y c f n 5 i = Y 5 i := by
  unfold y_hopB
  rw [ch_bw_c (by decide), ch_bw_c (by decide), ch_bw_c (by decide), y_hk_o _ _ _ (by decide) (by decide) (by decide)]
theorem y_wriB_8 (Y : ch_B) (c : Int32) : y_wriB Y c 0 8 = Y 0 8 := by
  unfold y_wriB
  rw [ch_bw_k (by decide), ch_bw_k (by decide), ch_bw_c (by decide), ch_bw_c (by decide), ch_bw_c (by decide)]
/-- the yard after so many changes -/
def a_T (A : a_G) (t : Nat) (m : ch_M) : Prop := ∃ B : a_G, a_S B m ∧ A.1 ≤ B.1 ∧ B.1 ≤ A.1 + 12 * t ∧ B.2.2.2 = A.2.2.2
theorem a_T_0 {A : a_G} {m : ch_M} (h : a_S A m) : a_T A 0 m := ⟨A, h, Nat.le_refl _, by omega, rfl⟩
theorem a_T_up {A B : a_G} {t : Nat} {m : ch_M} {Y : ch_B} (h : a_S (a_up B (B.1 + 12) Y) m) (h1 : A.1 ≤ B.1) (h2 : B.1 ≤ A.1 + 12 * t) (h3 : B.2.2.2 = A.2.2.2) : a_T A (t + 1) m :=
  ⟨_, h, by show A.1 ≤ B.1 + 12; omega, by show B.1 + 12 ≤ A.1 + 12 * (t + 1); omega, h3⟩
theorem a_T_mono {A : a_G} {t t' : Nat} {m : ch_M} (h : a_T A t m) (hl : t ≤ t') : a_T A t' m := by
  obtain ⟨B, h1, h2, h3, h4⟩ := h
  exact ⟨B, h1, h2, by omega, h4⟩
theorem l_sm_nI (v : Int32) {n : Nat} (h0 : 0 < n) (hn : n < 2 ^ 31) : ∃ k, k < n ∧ l_sm v (nI n) = nI k := by
  have e : Int32.toInt (nI n) = n := nI_toInt (by omega)
  obtain ⟨h1, h2⟩ := l_sm_in v (nI n) (by rw [e]; omega)
  rw [e] at h2
  refine ⟨(Int32.toInt (l_sm v (nI n))).toNat, by omega, Int32.toInt_inj.mp ?_⟩
  rw [nI_toInt (by omega)]
  omega
/-- children, squares that are owned have chalk 5 or more, nobody has a warrant -/
def l_P (n : Nat) (Y : ch_B) : Prop := Y 0 8 = nI n ∧ (∀ c, c < 5 → Y 5 c = 0)
def l_Q (Y : ch_B) : Prop := ∀ q, q < 12 → Y 1 q = -1 ∨ 5 ≤ Y 2 q
theorem l_no {T : Nat} {Y : ch_B} (h : y_inv T Y) (h8 : Y 0 8 = 0) : l_P 0 Y ∧ l_Q Y := by
  refine ⟨⟨h8, fun c hc => (h.2.2.2.1 c (by rw [h8]; exact Nat.zero_le _) hc).2.2.1⟩, fun q hq => ?_⟩
  obtain ⟨-, hA | ⟨c, hc, -⟩⟩ := h.2.1 q hq
  · exact Or.inl hA.1
  · rw [h8] at hc
    exact absurd hc (Nat.not_lt_zero _)
theorem l_P_bri {n : Nat} {Y : ch_B} (h : l_P n Y) (p : Int32) : l_P (n + 1) (y_briB Y p) := by
  unfold y_briB
  refine ⟨by rw [ch_bw_at, h.1, nI_1], fun c hc => ?_⟩
  rw [ch_bw_c (by decide), ch_bw_c (by decide), ch_bw_c (by decide)]
  exact h.2 c hc
theorem l_Q_bri {Y : ch_B} (h : l_Q Y) (p : Int32) : l_Q (y_briB Y p) := by
  unfold y_briB
  intro q hq
  rw [ch_bw_c (by decide), ch_bw_c (by decide), ch_bw_c (by decide), ch_bw_c (by decide), ch_bw_c (by decide), ch_bw_c (by decide)]
  exact h q hq
theorem y_chaB_8 (Y : ch_B) (c p : Int32) : y_chaB Y c p 0 8 = Y 0 8 := by
  unfold y_chaB
  rw [ch_bw_c (by decide), ch_bw_c (by decide), ch_bw_k (by decide), ch_bw_c (by decide)]
theorem l_P_cha {n : Nat} {Y : ch_B} (h : l_P n Y) (c p : Int32) : l_P n (y_chaB Y c p) := by
  refine ⟨(y_chaB_8 Y c p).trans h.1, fun i hi => ?_⟩
  unfold y_chaB
  rw [ch_bw_c (by decide), ch_bw_c (by decide), ch_bw_c (by decide), ch_bw_c (by decide)]
  exact h.2 i hi
theorem l_chv {T : Nat} {Y : ch_B} (hi : y_inv T Y) (h : l_Q Y) {q : Nat} (hq : q < 12) : (5 : Int32) ≤ y_chv Y (nI q) := by
  unfold y_chv
  rw [nI_clamp (by omega)]
  obtain ⟨v, hv, ev⟩ := vp_in_of (y_i2 hi hq) (by decide)
  rcases h q hq with e | e
  · rw [if_pos e]
    decide
  · split
    · decide
    · rw [ev] at e ⊢
      obtain rfl | rfl | rfl | rfl | rfl | rfl | rfl | rfl | rfl | rfl : v = 0 ∨ v = 1 ∨ v = 2 ∨ v = 3 ∨ v = 4 ∨ v = 5 ∨ v = 6 ∨ v = 7 ∨ v = 8 ∨ v = 9 := by omega
      all_goals revert e; decide
theorem l_Q_cha {T : Nat} {Y : ch_B} (hi : y_inv T Y) (h : l_Q Y) (c : Int32) {p : Nat} (hp : p < 12) : l_Q (y_chaB Y c (nI p)) := by
  intro q hq
  have hv := l_chv hi h hp
  unfold y_chaB
  rw [nI_clamp (by omega)]
  by_cases e : q = p
  · subst e
    refine Or.inr ?_
    rw [ch_bw_c (by decide), ch_bw_at]
    exact hv
  · rw [ch_bw_k e, ch_bw_c (by decide), ch_bw_c (by decide), ch_bw_c (by decide), ch_bw_c (by decide), ch_bw_k e, ch_bw_c (by decide), ch_bw_c (by decide)]
    exact h q hq
theorem l_P_hop {n : Nat} {Y : ch_B} (h : l_P n Y) (c : Int32) (f : Nat → Int32) (k : Nat) : l_P n (y_hopB Y c f k) :=
  ⟨(y_hopB_8 Y c f k).trans h.1, fun i hi => (y_hopB_5 Y c f k i).trans (h.2 i hi)⟩
theorem l_nI_in {a n : Nat} (h : a < n) (hn : n < 2 ^ 31) {x : Int32} (e : x = nI n) : (0 : Int32) ≤ nI a ∧ nI a < x := ⟨nI_pos' (by omega), by rw [e]; exact nI_lt h hn⟩
theorem l_nn (a i : Nat) (h : a + i < 2 ^ 31) : ¬ nI a + nI i < (0 : Int32) := by
  rw [nI_add]
  exact Int32.not_lt.mpr (nI_pos' h)
theorem l_wc {n : Nat} {Y : ch_B} (h : Y 0 8 = nI n) (hn : n < 6) {a p : Nat} (ha : a < n) (hp : p < 12) : (r_wc Y (nI a) (nI p)).1 = 0 ∨ (r_wc Y (nI a) (nI p)).1 = 4 ∨ (r_wc Y (nI a) (nI p)).1 = 5 ∨ (r_wc Y (nI a) (nI p)).1 = 6 := by
  unfold r_wc
  rw [if_pos (l_nI_in ha (by omega) h), if_pos ⟨nI_pos' (by omega), nI_le (b := 11) (by omega) (by decide)⟩]
  split
  · split
    · split
      · exact Or.inl rfl
      · exact Or.inr (Or.inr (Or.inl rfl))
    · exact Or.inr (Or.inr (Or.inr rfl))
  · exact Or.inr (Or.inl rfl)
abbrev l_mJ (g : ch_G) (q : Int32 → ch_M → Prop) (pc n i : Nat) (o4 o5 : Option ch_V) (m : ch_M) (k : Nat) : Prop := ch_J g m_l_makes (ch_rm m_l_makes) (ch_E g m_l_makes (ch_oi q)) pc [some (.inr (0, 0, 0)), some (.inr (11, 0, 0)), some (.inl (.int (nI n))), some (.inl (.int (nI i))), o4, o5] [] m k
section MAKES
variable {g : ch_G} {q : Int32 → ch_M → Prop} {A : a_G} {n : Nat}
theorem l_makes_3 (hT : A.1 + 300 < 2 ^ 31) (hT0 : 0 < A.1) (hl : (ch_scr g).2.1 < 2 ^ 31) (hn2 : 2 ≤ n) (hn5 : n < 6) (hq : ∀ M, a_T A 23 M → (2 : Int32) ≤ M (1, 0, 0) 8 → q 1 M) : ∀ i, i ≤ 5 → ∀ m k o4 o5, a_T A (17 + i) m → l_P n (ch_ob m 1 0) → k ≤ 100 + i → l_mJ g q 140 n i o4 o5 m k := by
  have hne : ¬ nI n = (0 : Int32) := nI_ne0 (by omega) (by omega)
  refine ch_down (fun i => ∀ m k o4 o5, a_T A (17 + i) m → l_P n (ch_ob m 1 0) → k ≤ 100 + i → l_mJ g q 140 n i o4 o5 m k) 5 ?_ ?_
  · intro m k o4 o5 hA hP hk
    obtain ⟨a, ha, ea⟩ := l_sm_nI (l_atV g 23) (n := n) (by omega) (by omega)
    obtain ⟨B, hB, hB1, hB2, hB3⟩ := hA
    refine g_l_makes_140 g _ k (by omega) _ _ _ _ m ⟨fun _ => ⟨by decide, hl, hne, ?_⟩, fun z => absurd (Int32.le_refl _) z⟩
    rw [ea]
    have h5 := hP.2 a (by omega)
    have ew : r_ww (ch_ob m 1 0) (nI a) = if 3 ≤ ch_ob m 1 0 4 a then (0, 0) else (9, ch_ob m 1 0 4 a) := by
      unfold r_ww
      rw [if_pos (l_nI_in ha (by omega) hP.1), nI_clamp (by omega), h5, if_pos (Int32.le_refl _)]
    obtain ⟨t, ht, et⟩ := vp_in_of (y_i4 hB.1 (c := a) (by omega)) (by omega)
    refine ⟨B, hB, by omega, by omega, fun hs M h1 h2 _ m14 e14 => ?_, fun hr M h1 h2 w0 w1 w2 _ m14 e14 => ?_⟩
    · subst e14
      have e8 : m14 (1, 0, 0) 8 = nI n := (congrFun (congrFun h2 0) 8).trans ((y_wriB_8 _ _).trans hP.1)
      rw [nI_clamp (by omega), et]
      rw [ew, et] at hs
      have h3 : 3 ≤ nI t := by
        by_cases c : 3 ≤ nI t
        · exact c
        · rw [if_neg c] at hs
          exact absurd hs (show ¬ (9 : Int32) = 0 by decide)
      refine ⟨fun _ => ch_oi_iff.mpr (hq m14 (a_T_up h1 hB1 hB2 hB3) (by rw [e8]; exact nI_le (a := 2) hn2 (by omega))), fun z => absurd ?_ z⟩
      split
      · decide
      · exact nI_lt (a := 2) (by have := (nI_leI (a := 3) (b := t) (by decide) (by omega)).mp h3; omega) (by omega)
    · subst e14
      have e8 : m14 (1, 0, 0) 8 = nI n := (congrFun (congrFun h2 0) 8).trans hP.1
      rw [ew] at hr w0
      by_cases c : 3 ≤ ch_ob m 1 0 4 a
      · rw [if_pos c] at hr
        exact absurd rfl hr
      · rw [if_neg c] at w0
        have w0' : l_rs m14 0 = 9 := w0
        exact ⟨by rw [w0]; exact (show ¬ (9 : Int32) = 0 by decide), fun z => absurd w0' z, fun _ => ch_oi_iff.mpr (hq m14 ⟨B, h1, hB1, by omega, hB3⟩ (by rw [e8]; exact nI_le (a := 2) hn2 (by omega)))⟩
  · intro i hi ih m k o4 o5 hA hP hk
    obtain ⟨a, ha, ea⟩ := l_sm_nI (l_atV g (18 + nI i)) (n := n) (by omega) (by omega)
    obtain ⟨B, hB, hB1, hB2, hB3⟩ := hA
    have hx : ¬ (18 : Int32) + nI i < 0 := l_nn 18 i (by omega)
    refine g_l_makes_140 g _ k (by omega) _ _ _ _ m ⟨fun z => absurd z (nI_ge (b := 5) hi (by decide)), fun _ => ⟨hx, hl, hne, hx, hl, fun R hR => ?_⟩⟩
    rw [ea]
    unfold l_gd at hR
    simp only [Bool.and_eq_true, Bool.not_eq_true', decide_eq_true_eq, decide_eq_false_iff_not] at hR
    have h5 := hP.2 a (by omega)
    have ew : r_wh (ch_ob m 1 0) (nI a) (s_rf (ch_ob m 5 0) R) (s_rfB (ch_ob m 5 0) R 0 1) = (0, 0) := by
      rw [r_wh_x, if_pos (l_nI_in ha (by omega) hP.1), nI_clamp (by omega), h5, if_pos (Int32.le_refl _), if_neg hR.1, if_pos hR.2]
    refine ⟨B, hB, by omega, by omega, fun _ M h1 h2 _ m49 e49 => ?_, fun hr => absurd (by rw [ew]) hr⟩
    subst e49
    obtain ⟨s, hs, es⟩ := vp_in_of (s_rfB_n (ch_ob m 5 0) R) (by decide)
    obtain ⟨t, ht, et⟩ := y_ct_n (ch_ob m 1 0) (nI a) (s_rf (ch_ob m 5 0) R) (s_rfB (ch_ob m 5 0) R 0 1).toNatClampNeg
    have h0 : (0 : Int32) ≤ y_ct (ch_ob m 1 0) (nI a) (s_rf (ch_ob m 5 0) R) (s_rfB (ch_ob m 5 0) R 0 1).toNatClampNeg := by
      rw [et]
      rw [es, nI_clamp (by omega)] at ht
      exact nI_pos' (by omega)
    refine ⟨fun _ => ?_, fun z => absurd h0 z⟩
    rw [nI_1]
    exact ih m49 (k + 1) o4 o5 (a_T_up h1 hB1 hB2 hB3) (by rw [h2]; exact l_P_hop hP _ _ _) (by omega)
theorem l_makes_2 (hT : A.1 + 300 < 2 ^ 31) (hT0 : 0 < A.1) (hl : (ch_scr g).2.1 < 2 ^ 31) (hn2 : 2 ≤ n) (hn5 : n < 6) (hq : ∀ M, a_T A 23 M → (2 : Int32) ≤ M (1, 0, 0) 8 → q 1 M) : ∀ i, i ≤ 12 → ∀ m k o4 o5, a_T A (5 + i) m → l_P n (ch_ob m 1 0) → l_Q (ch_ob m 1 0) → k ≤ 20 + 5 * i → l_mJ g q 51 n i o4 o5 m k := by
  have hne : ¬ nI n = (0 : Int32) := nI_ne0 (by omega) (by omega)
  refine ch_down (fun i => ∀ m k o4 o5, a_T A (5 + i) m → l_P n (ch_ob m 1 0) → l_Q (ch_ob m 1 0) → k ≤ 20 + 5 * i → l_mJ g q 51 n i o4 o5 m k) 12 ?_ ?_
  · intro m k o4 o5 hA hP hQ hk
    refine g_l_makes_51 g _ k (by omega) _ _ _ _ m ⟨fun _ => ?_, fun z => absurd (Int32.le_refl _) z⟩
    exact l_makes_3 hT hT0 hl hn2 hn5 hq 0 (by omega) m k o4 o5 hA hP (by omega)
  · intro i hi ih m k o4 o5 hA hP hQ hk
    obtain ⟨a, ha, ea⟩ := l_sm_nI (l_atV g (6 + nI i)) (n := n) (by omega) (by omega)
    obtain ⟨p, hp, ep'⟩ := l_sm_nI ((l_atV g (6 + nI i)) >>> (4 &&& (31 : Int32))) (n := 12) (by omega) (by omega)
    have ep : l_sm ((l_atV g (6 + nI i)) >>> (4 &&& (31 : Int32))) 12 = nI p := ep'
    obtain ⟨B, hB, hB1, hB2, hB3⟩ := hA
    have hx : ¬ (6 : Int32) + nI i < 0 := l_nn 6 i (by omega)
    refine g_l_makes_51 g _ k (by omega) _ _ _ _ m ⟨fun z => absurd z (nI_ge (b := 12) hi (by decide)), fun _ => ⟨hx, hl, hne, by decide, ?_⟩⟩
    rw [ea, ep]
    refine ⟨B, hB, by omega, by omega, fun _ M h1 h2 _ m18 e18 => ⟨fun _ => ?_, fun z => absurd (l_chv hB.1 hQ hp) z⟩, fun hr M h1 h2 w0 w1 w2 _ m18 e18 => ?_⟩
    · subst e18
      rw [nI_1]
      exact ih m18 (k + 1) _ _ (a_T_up h1 hB1 hB2 hB3) (by rw [h2]; exact l_P_cha hP _ _) (by rw [h2]; exact l_Q_cha hB.1 hQ _ hp) (by omega)
    · subst e18
      have hi2 : ∀ kk, kk ≤ k + 5 → ∀ x o5, l_mJ g q 51 n (i + 1) x o5 m18 kk := fun kk hkk x o5 => ih m18 kk x o5 (a_T_mono ⟨B, h1, hB1, hB2, hB3⟩ (by omega)) (by rw [h2]; exact hP) (by rw [h2]; exact hQ) (by omega)
      have hw : ¬ m18 (3, 0, 0) 0 = 0 := by
        rw [w0]
        exact hr
      rw [nI_1]
      refine ⟨hw, fun _ => hi2 _ (by omega) _ _, fun z4 => ⟨hw, fun _ => hi2 _ (by omega) _ _, fun z5 => ⟨hw, fun _ => hi2 _ (by omega) _ _, fun z6 => ?_⟩⟩⟩
      rw [l_rs_0, w0] at z4 z5 z6
      rcases l_wc hP.1 hn5 ha hp with e | e | e | e
      · exact absurd e hr
      · exact absurd e z4
      · exact absurd e z5
      · exact absurd e z6
theorem l_makes_1 (hT : A.1 + 300 < 2 ^ 31) (hT0 : 0 < A.1) (hl : (ch_scr g).2.1 < 2 ^ 31) (hn2 : 2 ≤ n) (hn5 : n < 6) (hq : ∀ M, a_T A 23 M → (2 : Int32) ≤ M (1, 0, 0) 8 → q 1 M) : ∀ i, i ≤ n → ∀ m k o4 o5, a_T A i m → l_P i (ch_ob m 1 0) → l_Q (ch_ob m 1 0) → k ≤ i → l_mJ g q 14 n i o4 o5 m k := by
  refine ch_down (fun i => ∀ m k o4 o5, a_T A i m → l_P i (ch_ob m 1 0) → l_Q (ch_ob m 1 0) → k ≤ i → l_mJ g q 14 n i o4 o5 m k) n ?_ ?_
  · intro m k o4 o5 hA hP hQ hk
    refine g_l_makes_14 g _ k (by omega) _ _ _ _ m ⟨fun _ => ?_, fun z => absurd (Int32.le_refl _) z⟩
    exact l_makes_2 hT hT0 hl hn2 hn5 hq 0 (by omega) m k o4 o5 (a_T_mono hA (by omega)) hP hQ (by omega)
  · intro i hi ih m k o4 o5 hA hP hQ hk
    obtain ⟨b, hb, eb'⟩ := l_sm_nI (l_atV g (1 + nI i)) (n := 20) (by omega) (by omega)
    have eb : l_sm (l_atV g (1 + nI i)) 20 = nI b := eb'
    obtain ⟨B, hB, hB1, hB2, hB3⟩ := hA
    refine g_l_makes_14 g _ k (by omega) _ _ _ _ m ⟨fun z => absurd z (nI_ge hi (by omega)), fun _ => ⟨l_nn 1 i (by omega), hl, by decide, ?_⟩⟩
    rw [eb]
    have e3 : (3 : Int32) + nI b = nI (3 + b) := nI_add 3 b
    rw [e3]
    have ew : r_wn (ch_ob m 1 0) (nI (3 + b)) = (0, 0) := by
      unfold r_wn
      rw [if_pos ⟨nI_pos' (by omega), nI_le (b := 99) (by omega) (by decide)⟩, hP.1, if_pos (show nI i < 5 from nI_lt (b := 5) (by omega) (by decide))]
    refine ⟨B, hB, by omega, by omega, fun _ M h1 h2 _ m14 e14 => ?_, fun hr => absurd (by rw [ew]) hr⟩
    subst e14
    have e8 : ch_ob m 1 0 0 8 + 1 - 1 = nI i := by
      rw [hP.1]
      exact Int32.add_sub_cancel _ _
    refine ⟨fun _ => ?_, fun z => absurd e8 z⟩
    rw [nI_1]
    exact ih m14 (k + 1) o4 o5 (a_T_up h1 hB1 hB2 hB3) (by rw [h2]; exact l_P_bri hP _) (by rw [h2]; exact l_Q_bri hQ _) (by omega)
end MAKES
set_option maxHeartbeats 1600000 in
theorem s_l_makes (g : ch_G) (q : Int32 → ch_M → Prop) (A_ : a_G) (m : ch_M) (h : (a_S A_ m) ∧ (A_.1 + 300 < 2 ^ 31) ∧ (0 < A_.1) ∧ ((ch_scr g).2.1 < 2 ^ 31) ∧ (m (1, 0, 0) 8 = 0) ∧ (∀ (M_ : ch_M) (B_ : a_G), (a_S B_ M_) → (A_.1 ≤ B_.1) → (B_.1 ≤ A_.1 + 300) → (B_.2.2.2 = A_.2.2.2) → ((2 : Int32) ≤ M_ (1, 0, 0) 8) → q 1 (M_))) : ch_C g m_l_makes [.inr (0, 0, 0), .inr (11, 0, 0)] m (ch_oi q) := by
  refine e_l_makes g _  m ?_
  obtain ⟨hA, hT, hT0, hl, h8, hq⟩ := h
  obtain ⟨n0, hn0, en0'⟩ := l_sm_nI (l_atV g 0) (n := 4) (by decide) (by decide)
  have en0 : (2 : Int32) + l_sm (l_atV g 0) 4 = nI (2 + n0) := by
    have e : l_sm (l_atV g 0) 4 = nI n0 := en0'
    rw [e]
    exact nI_add 2 n0
  have hq' : ∀ M, a_T A_ 23 M → (2 : Int32) ≤ M (1, 0, 0) 8 → q 1 M := fun M hM h2 => by
    obtain ⟨B, b1, b2, b3, b4⟩ := hM
    exact hq M B b1 b2 (by omega) b4 h2
  obtain ⟨p0, q0⟩ := l_no hA.1 h8
  refine g_l_makes_0 g _ 0 (by omega) m ⟨by decide, hl, by decide, ?_⟩
  rw [en0]
  exact l_makes_1 hT hT0 hl (by omega) (by omega) hq' 0 (by omega) m 0 none none (a_T_0 hA) p0 q0 (by omega)
