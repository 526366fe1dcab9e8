section REFUSED
variable {g : ch_G} {q : Int32 → ch_M → Prop} {A : a_G} {Y : ch_B} {n : Nat}
theorem l_sq_at {i : Nat} (hi : i < 12) : l_sq Y (nI i) 0 = Y 1 i ∧ l_sq Y (nI i) 1 = Y 2 i := by
  unfold l_sq
  rw [if_pos rfl, if_neg (by decide), nI_clamp (by omega)]
  exact ⟨rfl, rfl⟩
theorem l_own (hY : y_inv A.1 Y) (h8 : Y 0 8 = nI n) (hn : n < 6) {i : Nat} (hi : i < 12) : (Y 1 i = -1 ∧ Y 2 i = 0) ∨ ∃ c, c < n ∧ Y 1 i = nI c := by
  obtain ⟨-, hA | ⟨c, hc, e, -⟩⟩ := hY.2.1 i hi
  · exact Or.inl hA
  · rw [h8, nI_clamp (by omega)] at hc
    exact Or.inr ⟨c, hc, e⟩
theorem ch_cnO_cg2 {o o' : Nat → Int32} {c : Int32} : ∀ k, (∀ i, i < k → o i = o' i) → ch_cnO o c k = ch_cnO o' c k := by
  intro k
  induction k with
  | zero => intro _; rfl
  | succ k ih =>
    intro h
    rw [ch_cnO, ch_cnO, h k (by omega), ih (fun i hi => h i (by omega))]
theorem x_acR3 (Y : ch_B) : x_acR (y_can Y) 0 0 3 = 12 - ch_cnO (Y 1) (-1) 12 := by
  have h0 : ∀ Z : ch_B, x_acR Z 0 0 3 = 12 - ch_cnO (Z 1) (-1) 12 := fun Z => rfl
  rw [h0, ch_cnO_cg2 12 (fun i hi => y_can_at (y_rl12 (Or.inl rfl) hi))]
theorem l_dry (hY : y_inv A.1 Y) (h : 12 - ch_cnO (Y 1) (-1) 12 + Y 0 9 = 0) : Y 0 9 = 0 ∧ ch_cnO (Y 1) (-1) 12 = 12 := by
  obtain ⟨k, hk, ek⟩ := ch_cnO_nn (Y 1) (-1) 12
  obtain ⟨t, ht, et⟩ := vp_in_of (y_i9 hY) (by decide)
  rw [ek, et] at h ⊢
  have e12 : (12 : Int32) - nI k = nI (12 - k) := by
    have : (12 : Int32) = nI (12 - k) + nI k := by
      rw [nI_add, show 12 - k + k = 12 by omega]
      rfl
    rw [this, Int32.add_sub_cancel]
  rw [e12, nI_add] at h
  have h1 := (nI_0i (n := 12 - k + t) (by omega)).mp h
  exact ⟨by rw [show t = 0 by omega]; rfl, by rw [show k = 12 by omega]; rfl⟩
theorem l_f775 (h8 : Y 0 8 = nI n) (h2 : 2 ≤ n) (hn : n < 6) (hY : y_inv A.1 Y) {i : Nat} (hi : i < 12) (nx : ∀ R m k x6, a_W A Y R m → k ≤ 1600 + 20 * (i + 1) → l_fJ g q 714 Y n l_o1 (l_fI (i + 1)) (l_oI x6) m k) (R : Int32 × Int32 × Int32) (m : ch_M) (k : Nat) (hW : a_W A Y R m) (hk : k ≤ 1610 + 20 * i) : l_fJ g q 775 Y n l_o1 (l_fI i) (l_oI (Y 1 i)) m k := by
  obtain ⟨s0, s1⟩ := l_sq_at (Y := Y) hi
  refine g_l_refused_775 g _ k (by omega) _ _ _ _ m ?_
  refine ⟨A, Y, _, hW, ⟨nI_pos' (by omega), nI_lt (b := 12) hi (by decide)⟩, fun M1 h1 m1 e1 => ?_⟩
  subst e1
  rw [s1, nI_1]
  refine ⟨fun _ => nx _ m1 _ _ h1 (by omega), fun h9 => ?_⟩
  rcases l_own hY h8 hn hi with ⟨o1, o2⟩ | ⟨c, hc, ec⟩
  · rw [o2] at h9
    exact absurd h9 (by decide)
  · rw [ec]
    refine ⟨A, Y, _, 6, nI i, h1, fun Z hZ => rr_wc6 ((hZ 0 8 (by decide)).trans h8) hn hc hi ((hZ 1 i (y_rl12 (Or.inl rfl) hi)).trans ec) ((hZ 2 i (y_rl12 (Or.inr rfl) hi)).trans h9), by decide, fun M2 w2 m2 e2 => ?_⟩
    subst e2
    exact ⟨A, Y, w2, by decide, nx _ m2 _ _ w2 (by omega)⟩
theorem l_f714 (h8 : Y 0 8 = nI n) (h2 : 2 ≤ n) (hn : n < 6) (hY : y_inv A.1 Y) (nx : ∀ R m k x5 o6, a_W A Y R m → k ≤ 3963 → l_fJ g q 877 Y n l_o1 (l_oI x5) o6 m k) : ∀ i, i ≤ 12 → ∀ R m k o6, a_W A Y R m → k ≤ 1600 + 20 * i → l_fJ g q 714 Y n l_o1 (l_fI i) o6 m k := by
  refine ch_down (fun i => ∀ R m k o6, a_W A Y R m → k ≤ 1600 + 20 * i → l_fJ g q 714 Y n l_o1 (l_fI i) o6 m k) 12 ?_ ?_
  · intro R m k o6 hW hk
    refine g_l_refused_714 g _ k (by omega) _ _ _ _ m ⟨fun _ => ?_, fun z => absurd (Int32.le_refl _) z⟩
    refine ⟨A, Y, _, hW, ⟨by decide, by decide⟩, fun M1 h1 m1 e1 => ?_⟩
    subst e1
    refine ⟨A, Y, _, h1, ⟨by decide, by decide⟩, fun M3 h3 m3 e3 => ?_⟩
    subst e3
    rw [x_acR3, x_acR4]
    refine ⟨fun _ => nx _ m3 _ _ _ h3 (by omega), fun hs => ?_⟩
    obtain ⟨d1, d2⟩ := l_dry hY hs
    refine ⟨A, Y, _, 12, 0, h3, fun Z hZ => rr_wr12 ((hZ 0 9 (by decide)).trans d1) ((ch_cnO_cg2 12 (fun i hi => hZ 1 i (y_rl12 (Or.inl rfl) hi))).trans d2), by decide, fun M2 w2 m2 e2 => ?_⟩
    subst e2
    exact ⟨A, Y, w2, by decide, nx _ m2 _ _ _ w2 (by omega)⟩
  · intro i hi ih R m k o6 hW hk
    obtain ⟨s0, s1⟩ := l_sq_at (Y := Y) hi
    have n775 := l_f775 (g := g) (q := q) (A := A) h8 h2 hn hY hi (fun R m k x6 hW hk => ih R m k _ hW hk)
    refine g_l_refused_714 g _ k (by omega) _ _ _ _ m ⟨fun z => absurd z (nI_ge (b := 12) hi (by decide)), fun _ => ?_⟩
    refine ⟨A, Y, _, hW, ⟨nI_pos' (by omega), nI_lt (b := 12) hi (by decide)⟩, fun M1 h1 m1 e1 => ?_⟩
    subst e1
    rw [s0]
    refine ⟨fun _ => n775 _ m1 _ h1 (by omega), fun h0 => ⟨nI_ne0 (by omega) (by omega), ?_⟩⟩
    rcases l_own hY h8 hn hi with ⟨o1, o2⟩ | ⟨c, hc, ec⟩
    · rw [o1] at h0
      exact absurd (show (-1 : Int32) < 0 by decide) h0
    · obtain ⟨d, hd, hcd, ed⟩ := rr_nx' h2 hn hc
      have ed' : Y 1 i + 1 - (Y 1 i + 1) / nI n * nI n = nI d := by rw [ec]; exact ed
      rw [ed']
      refine ⟨A, Y, _, 4, Y 1 i, h1, fun Z hZ => by rw [ec]; exact rr_wc4 ((hZ 0 8 (by decide)).trans h8) hn hd hc hi hcd ((hZ 1 i (y_rl12 (Or.inl rfl) hi)).trans ec), by decide, fun M2 w2 m2 e2 => ?_⟩
      subst e2
      exact ⟨A, Y, w2, by decide, n775 _ m2 _ w2 (by omega)⟩
theorem x_acR0 (Y : ch_B) : x_acR (y_can Y) 0 0 0 = Y 0 8 := l_acR0 Y
/-- refused, but for the texts at its end -/
theorem l_refused_of (h8 : Y 0 8 = nI n) (h2 : 2 ≤ n) (hn : n < 6) (hY : y_inv A.1 Y) (m : ch_M) (R : Int32 × Int32 × Int32) (hW : a_W A Y R m)
    (hs : ∀ m k x5 o6, a_W A Y (11, 1, 0) m → k ≤ 4018 → l_fJ g q 1326 Y n l_o1 (l_oI x5) o6 m k) : ch_C g m_l_refused [.inr (0, 0, 0)] m (ch_oi q) := by
  refine e_l_refused g _ m ?_
  refine g_l_refused_0 g _ 0 (by omega) m ?_
  refine ⟨A, Y, _, hW, fun M1 h1 m1 e1 => ?_⟩
  subst e1
  refine ⟨A, Y, _, h1, ⟨by decide, by decide⟩, fun M3 h3 m3 e3 => ?_⟩
  subst e3
  rw [x_acR0, h8]
  have n877 := l_f877 (g := g) (q := q) (A := A) h8 h2 hn (l_f970 h8 h2 hn (l_f1029 h8 h2 hn (l_f1066 h8 h2 hn (l_f1144 h8 h2 hn (l_f1211 h8 h2 hn (l_f1247 h8 h2 hn hs))))))
  have n714 := l_f714 (g := g) (q := q) (A := A) h8 h2 hn hY n877
  have n351 := l_f351 (g := g) (q := q) (A := A) h8 h2 hn hY (fun R m k o6 hW hk => n714 0 (by omega) R m k o6 hW (by omega))
  have n68 := l_f68 (g := g) (q := q) (A := A) h8 h2 hn (l_f136 h8 h2 hn (l_f197 h8 h2 hn (l_f251 h8 h2 hn (fun R m k o6 hW hk => n351 0 (by omega) R m k o6 hW (by omega)))))
  exact l_f11 h8 h2 hn n68 _ m3 _ _ _ _ h3 (by omega)
end REFUSED
