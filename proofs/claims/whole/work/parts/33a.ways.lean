/-! the best ways on, told once for all -/
def w_e (Y : ch_B) (c : Int32) (k : Nat) : Nat := if ch_lineB Y c (nI k - 1) = true then 1 else 0
theorem w_e_le (Y : ch_B) (c : Int32) (k : Nat) : w_e Y c k ≤ 1 := by unfold w_e; split <;> omega
theorem w_l_n (Y : ch_B) (c : Int32) (k : Nat) : w_l Y c (nI k) = nI (w_e Y c k) := by
  unfold w_l w_e
  split <;> rfl
/-- candidates: treads and count of a way on by t -/
def w_sp (e A C S : Nat → Nat) : Prop :=
  (∀ k, 12 ≤ k → A k = 0 ∧ C k = 0) ∧
  ∀ k, k < 12 → (1 ≤ S k ∧ S k ≤ 3) ∧ A k ≤ 12 - k ∧ C k ≤ 12 - k ∧ A k = e (k + S k) + A (k + S k) ∧ C k = C (k + S k) + 1 ∧
    ∀ t, 1 ≤ t → t ≤ 3 → (A k < e (k + t) + A (k + t) ∨ (A k = e (k + t) + A (k + t) ∧ C k ≤ C (k + t) + 1)) ∧ (S k < t → ¬ (A k = e (k + t) + A (k + t) ∧ C k = C (k + t) + 1))
def w_st (B B' : ch_B) (s x y z : Nat) : Prop := B' 1 s = nI x ∧ B' 2 s = nI y ∧ B' 3 s = nI z ∧ ∀ a i, ¬ (i = s ∧ 1 ≤ a ∧ a ≤ 3) → B' a i = B a i
theorem w_t1_v {B B' : ch_B} {l : Int32 → Int32} {s t x y z a c e : Nat} (ht : 1 ≤ t) (h1 : B 1 (s + t) = nI a) (h2 : B 2 (s + t) = nI c) (h3 : l (nI (s + t)) = nI e) (ha : a < 100) (hc : c < 100) (he : e < 100) (hx : x < 1000) (hy : y < 1000) (hz1 : 1 ≤ z) (hz : z < 10) (h : w_st B B' s x y z) :
    (a + e < x ∨ (a + e = x ∧ c + 1 < y) → w_st B (w_t1 B' l s t) s (a + e) (c + 1) t) ∧ (¬ (a + e < x ∨ (a + e = x ∧ c + 1 < y)) → w_st B (w_t1 B' l s t) s x y z) := by
  obtain ⟨g1, g2, g3, g4⟩ := h
  have n1 : B' 1 (s + t) = nI a := (g4 1 (s + t) (by omega)).trans h1
  have n2 : B' 2 (s + t) = nI c := (g4 2 (s + t) (by omega)).trans h2
  have ec : (B' 3 s = 0 ∨ B' 1 (s + t) + l (nI (s + t)) < B' 1 s ∨ (B' 1 (s + t) + l (nI (s + t)) = B' 1 s ∧ B' 2 (s + t) + 1 < B' 2 s)) ↔ (a + e < x ∨ (a + e = x ∧ c + 1 < y)) := by
    rw [n1, n2, g1, g2, g3, h3, nI_add, nI_1, nI_ltI (by omega) (by omega), nI_eq (by omega) (by omega), nI_ltI (by omega) (by omega), nI_0i (by omega)]
    omega
  unfold w_t1 w_ty
  refine ⟨fun hh => ?_, fun hh => ?_⟩
  · rw [if_pos (ec.mpr hh), n1, n2, h3, nI_add, nI_1]
    refine ⟨?_, ?_, ch_bw_at _ _ _ _, fun b i hb => ?_⟩
    · rw [ch_bw_c (by decide), ch_bw_c (by decide), ch_bw_at]
    · rw [ch_bw_c (by decide), ch_bw_at]
    · rw [← g4 b i hb]
      unfold ch_bw
      rw [if_neg (by omega), if_neg (by omega), if_neg (by omega)]
  · rw [if_neg (fun q => hh (ec.mp q))]
    exact ⟨g1, g2, g3, g4⟩
theorem w_s1_v {B : ch_B} {l : Int32 → Int32} {s : Nat} {a c e : Nat → Nat} (h : ∀ t, 1 ≤ t → t ≤ 3 → B 1 (s + t) = nI (a (s + t)) ∧ B 2 (s + t) = nI (c (s + t)) ∧ l (nI (s + t)) = nI (e (s + t)) ∧ a (s + t) < 50 ∧ c (s + t) < 50 ∧ e (s + t) ≤ 1) :
    ∃ A C S, w_st B (w_s1 B l s) s A C S ∧ (1 ≤ S ∧ S ≤ 3) ∧ A = e (s + S) + a (s + S) ∧ C = c (s + S) + 1 ∧ ∀ t, 1 ≤ t → t ≤ 3 → (A < e (s + t) + a (s + t) ∨ (A = e (s + t) + a (s + t) ∧ C ≤ c (s + t) + 1)) ∧ (S < t → ¬ (A = e (s + t) + a (s + t) ∧ C = c (s + t) + 1)) := by
  obtain ⟨p1, p2, p3, p4, p5, p6⟩ := h 1 (by omega) (by omega)
  obtain ⟨q1, q2, q3, q4, q5, q6⟩ := h 2 (by omega) (by omega)
  obtain ⟨r1, r2, r3, r4, r5, r6⟩ := h 3 (by omega) (by omega)
  have s3 : w_st B (w_t1 (ch_bw B 3 s 0) l s 3) s (a (s + 3) + e (s + 3)) (c (s + 3) + 1) 3 := by
    have n1 : ch_bw B 3 s 0 1 (s + 3) = nI (a (s + 3)) := (ch_bw_c (by decide)).trans r1
    have n2 : ch_bw B 3 s 0 2 (s + 3) = nI (c (s + 3)) := (ch_bw_c (by decide)).trans r2
    unfold w_t1 w_ty
    rw [if_pos (Or.inl (ch_bw_at _ _ _ _)), n1, n2, r3, nI_add, nI_1]
    refine ⟨?_, ?_, ch_bw_at _ _ _ _, fun b i hb => ?_⟩
    · rw [ch_bw_c (by decide), ch_bw_c (by decide), ch_bw_at]
    · rw [ch_bw_c (by decide), ch_bw_at]
    · unfold ch_bw
      rw [if_neg (by omega), if_neg (by omega), if_neg (by omega), if_neg (by omega)]
  have t123 : ∀ P : Nat → Prop, P 1 → P 2 → P 3 → ∀ t, 1 ≤ t → t ≤ 3 → P t := fun P h1 h2 h3 t ha hb => by
    obtain rfl | rfl | rfl : t = 1 ∨ t = 2 ∨ t = 3 := by omega
    · exact h1
    · exact h2
    · exact h3
  obtain ⟨u1, u2⟩ := w_t1_v (t := 2) (by omega) q1 q2 q3 (by omega) (by omega) (by omega) (by omega) (by omega) (by omega) (by omega) s3
  unfold w_s1
  by_cases d2 : a (s + 2) + e (s + 2) < a (s + 3) + e (s + 3) ∨ (a (s + 2) + e (s + 2) = a (s + 3) + e (s + 3) ∧ c (s + 2) + 1 < c (s + 3) + 1)
  · obtain ⟨v1, v2⟩ := w_t1_v (t := 1) (by omega) p1 p2 p3 (by omega) (by omega) (by omega) (by omega) (by omega) (by omega) (by omega) (u1 d2)
    by_cases d1 : a (s + 1) + e (s + 1) < a (s + 2) + e (s + 2) ∨ (a (s + 1) + e (s + 1) = a (s + 2) + e (s + 2) ∧ c (s + 1) + 1 < c (s + 2) + 1)
    · exact ⟨_, _, _, v1 d1, by omega, by omega, by omega, t123 _ (by omega) (by omega) (by omega)⟩
    · exact ⟨_, _, _, v2 d1, by omega, by omega, by omega, t123 _ (by omega) (by omega) (by omega)⟩
  · obtain ⟨v1, v2⟩ := w_t1_v (t := 1) (by omega) p1 p2 p3 (by omega) (by omega) (by omega) (by omega) (by omega) (by omega) (by omega) (u2 d2)
    by_cases d1 : a (s + 1) + e (s + 1) < a (s + 3) + e (s + 3) ∨ (a (s + 1) + e (s + 1) = a (s + 3) + e (s + 3) ∧ c (s + 1) + 1 < c (s + 3) + 1)
    · exact ⟨_, _, _, v1 d1, by omega, by omega, by omega, t123 _ (by omega) (by omega) (by omega)⟩
    · exact ⟨_, _, _, v2 d1, by omega, by omega, by omega, t123 _ (by omega) (by omega) (by omega)⟩
/-- the tables of the class from stop 12 - n on -/
def w_ok (e : Nat → Nat) (W : ch_B) (A C S : Nat → Nat) (n : Nat) : Prop :=
  (∀ k, 12 ≤ k → A k = 0 ∧ C k = 0) ∧ (∀ k, 12 - n ≤ k → k < 15 → W 1 k = nI (A k) ∧ W 2 k = nI (C k) ∧ A k ≤ 12 - k ∧ C k ≤ 12 - k) ∧
  ∀ k, 12 - n ≤ k → k < 12 → W 3 k = nI (S k) ∧ (1 ≤ S k ∧ S k ≤ 3) ∧ A k = e (k + S k) + A (k + S k) ∧ C k = C (k + S k) + 1 ∧
    ∀ t, 1 ≤ t → t ≤ 3 → (A k < e (k + t) + A (k + t) ∨ (A k = e (k + t) + A (k + t) ∧ C k ≤ C (k + t) + 1)) ∧ (S k < t → ¬ (A k = e (k + t) + A (k + t) ∧ C k = C (k + t) + 1))
theorem w_fl_ok (B : ch_B) {l : Int32 → Int32} {e : Nat → Nat} (he : ∀ k, e k ≤ 1 ∧ l (nI k) = nI (e k)) (n : Nat) : n ≤ 12 → ∃ A C S, w_ok e (w_fl B l n) A C S n := by
  induction n with
  | zero =>
    intro _
    refine ⟨fun _ => 0, fun _ => 0, fun _ => 0, fun k _ => ⟨rfl, rfl⟩, fun k h1 h2 => ⟨?_, ?_, Nat.zero_le _, Nat.zero_le _⟩, fun k h1 h2 => absurd h2 (by omega)⟩
    · show w_z B 3 1 k = 0
      unfold w_z w_z w_z w_z ch_bw
      obtain rfl | rfl | rfl : k = 12 ∨ k = 13 ∨ k = 14 := by omega
      all_goals simp
    · show w_z B 3 2 k = 0
      unfold w_z w_z w_z w_z ch_bw
      obtain rfl | rfl | rfl : k = 12 ∨ k = 13 ∨ k = 14 := by omega
      all_goals simp
  | succ n ih =>
    intro hn
    obtain ⟨A, C, S, h0, h1, h2⟩ := ih (by omega)
    obtain ⟨s, es⟩ : ∃ s, s = 11 - n := ⟨_, rfl⟩
    obtain ⟨a', c', s', st, k1, k2, k3, k4⟩ := w_s1_v (B := w_fl B l n) (l := l) (s := s) (a := A) (c := C) (e := e) (fun t ht1 ht2 => by
      obtain ⟨g1, g2, g3, g4⟩ := h1 (s + t) (by omega) (by omega)
      exact ⟨g1, g2, (he (s + t)).2, by omega, by omega, (he (s + t)).1⟩)
    have up : ∀ (f : Nat → Nat) v k, s < k → f_up f s v k = f k := fun f v k hk => f_up_ne (by omega)
    obtain ⟨x1, x2, x3, x4⟩ := st
    have b1 := h1 (s + 1) (by omega) (by omega)
    have e1 := (he (s + 1)).1
    have bA : a' ≤ 12 - s := by
      have := (k4 1 (by omega) (by omega)).1
      omega
    have bC : c' ≤ 12 - s := by
      have := h1 (s + s') (by omega) (by omega)
      omega
    refine ⟨f_up A s a', f_up C s c', f_up S s s', fun k hk => ?_, fun k hk1 hk2 => ?_, fun k hk1 hk2 => ?_⟩
    · rw [up _ _ _ (by omega), up _ _ _ (by omega)]
      exact h0 k hk
    · show w_s1 (w_fl B l n) l (11 - n) 1 k = _ ∧ w_s1 (w_fl B l n) l (11 - n) 2 k = _ ∧ _
      rw [← es]
      by_cases ek : k = s
      · subst ek
        rw [f_up_at, f_up_at]
        exact ⟨x1, x2, bA, bC⟩
      · rw [f_up_ne ek, f_up_ne ek, x4 1 k (by omega), x4 2 k (by omega)]
        exact h1 k (by omega) hk2
    · show w_s1 (w_fl B l n) l (11 - n) 3 k = _ ∧ _
      rw [← es]
      by_cases ek : k = s
      · subst ek
        rw [f_up_at, f_up_at, f_up_at, up _ _ _ (by omega), up _ _ _ (by omega)]
        refine ⟨x3, k1, k2, k3, fun t ht1 ht2 => ?_⟩
        rw [up _ _ _ (by omega), up _ _ _ (by omega)]
        exact k4 t ht1 ht2
      · obtain ⟨m1, m2, m3, m4, m5⟩ := h2 k (by omega) hk2
        rw [f_up_ne ek, f_up_ne ek, f_up_ne ek, x4 3 k (by omega), up _ _ _ (by omega), up _ _ _ (by omega)]
        refine ⟨m1, m2, m3, m4, fun t ht1 ht2 => ?_⟩
        rw [up _ _ _ (by omega), up _ _ _ (by omega)]
        exact m5 t ht1 ht2
theorem w_fl_sp (B Y : ch_B) (c : Int32) : ∃ A C S, w_sp (w_e Y c) A C S ∧ (∀ k, k < 15 → w_fl B (w_l Y c) 12 1 k = nI (A k) ∧ w_fl B (w_l Y c) 12 2 k = nI (C k)) ∧ ∀ k, k < 12 → w_fl B (w_l Y c) 12 3 k = nI (S k) := by
  obtain ⟨A, C, S, h0, h1, h2⟩ := w_fl_ok B (l := w_l Y c) (e := w_e Y c) (fun k => ⟨w_e_le Y c k, w_l_n Y c k⟩) 12 (by omega)
  refine ⟨A, C, S, ⟨h0, fun k hk => ?_⟩, fun k hk => ?_, fun k hk => (h2 k (by omega) hk).1⟩
  · obtain ⟨-, m2, m3, m4, m5⟩ := h2 k (by omega) hk
    obtain ⟨-, -, b1, b2⟩ := h1 k (by omega) (by omega)
    exact ⟨m2, b1, b2, m3, m4, m5⟩
  · obtain ⟨g1, g2, -, -⟩ := h1 k (by omega) hk
    exact ⟨g1, g2⟩
/-- two tellings have the same numbers -/
theorem w_sp_un {e A C S A' C' S' : Nat → Nat} (h : w_sp e A C S) (h' : w_sp e A' C' S') (n : Nat) : ∀ k, 12 - n ≤ k → A k = A' k ∧ C k = C' k ∧ (k < 12 → S k = S' k) := by
  induction n with
  | zero =>
    intro k hk
    obtain ⟨a, b⟩ := h.1 k (by omega)
    obtain ⟨a', b'⟩ := h'.1 k (by omega)
    exact ⟨by omega, by omega, fun z => absurd z (by omega)⟩
  | succ n ih =>
    intro k hk
    by_cases l : 12 - n ≤ k
    · exact ih k l
    · have hk12 : k < 12 := by omega
      obtain ⟨⟨s1, s2⟩, -, -, e1, e2, f⟩ := h.2 k hk12
      obtain ⟨⟨s1', s2'⟩, -, -, e1', e2', f'⟩ := h'.2 k hk12
      obtain ⟨i1, i2, -⟩ := ih (k + S k) (by omega)
      obtain ⟨j1, j2, -⟩ := ih (k + S' k) (by omega)
      have g := f (S' k) s1' s2'
      have g' := f' (S k) s1 s2
      have q := (f' (S k) s1 s2).2
      have q2 := (f (S' k) s1' s2').2
      have hA : A k = A' k ∧ C k = C' k := by omega
      refine ⟨hA.1, hA.2, fun _ => ?_⟩
      by_cases l1 : S k < S' k
      · exact absurd ⟨by omega, by omega⟩ (q2 l1)
      · by_cases l2 : S' k < S k
        · exact absurd ⟨by omega, by omega⟩ (q l2)
        · omega
