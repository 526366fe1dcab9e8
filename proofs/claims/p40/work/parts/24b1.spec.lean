/-- the number without its last digits -/
def s_rr (x : Int32) : Nat → Int32
  | 0 => x
  | n + 1 => s_rr x n / 10
def s_rw (B : ch_B) (x : Int32) : Nat → ch_B
  | 0 => B
  | n + 1 => ch_bw (s_rw B x n) 1 (8 - n) (s_rr x n - s_rr x n / 10 * 10)
/-- how many digits are read, from t on, at most so many -/
def s_rnF (x : Int32) : Nat → Nat → Nat
  | 0, t => t
  | n + 1, t => if s_rr x t ≤ 0 then t else s_rnF x n (t + 1)
def s_rn (x : Int32) : Nat := s_rnF x 9 0
theorem s_rnF_le (x : Int32) (n t : Nat) : s_rnF x n t ≤ t + n := by
  induction n generalizing t with
  | zero => exact Nat.le_refl _
  | succ n ih =>
    unfold s_rnF
    split
    · omega
    · have := ih (t + 1); omega
/-- how many steps there are before the look at each -/
def s_rc (x : Int32) : Nat := if s_rr x (s_rn x) = 0 then s_rn x else 0
theorem s_rc_le (x : Int32) : s_rc x ≤ s_rn x ∧ s_rn x ≤ 9 := by
  have := s_rnF_le x 9 0
  have h2 : s_rn x = s_rnF x 9 0 := rfl
  unfold s_rc
  split <;> omega
def s_rf (B : ch_B) (x : Int32) : Nat → Int32 := fun k => if k < s_rc x then s_rw B x (s_rn x) 1 (9 - s_rn x + k) else s_rw B x (s_rn x) 1 k
def s_ok (f : Nat → Int32) : Nat → Bool
  | 0 => true
  | n + 1 => s_ok f n && (!decide (f n < 1) && decide (f n ≤ 3))
def s_rfB (B : ch_B) (x : Int32) : ch_B := fun c k => if c = 0 ∧ k = 1 then (if s_ok (s_rf B x) (s_rc x) = true then nI (s_rc x) else 0) else if c = 1 then s_rf B x k else B c k
def s_rB (B : ch_B) (x n : Int32) : ch_B := fun c k => if c = 0 ∧ k = 1 then n else if c = 1 then s_rf B x k else B c k
theorem s_rw_o (B : ch_B) (x : Int32) (n a i : Nat) (h : a ≠ 1) : s_rw B x n a i = B a i := by
  induction n with
  | zero => rfl
  | succ n ih =>
    rw [s_rw, ch_bw_c h]
    exact ih
theorem s_rc_cp (m : ch_M) (j : Nat) (x : Int32) : ch_cpy (ch_os m 5 j (ch_bw (s_rw (ch_ob m 5 j) x (s_rn x)) 0 1 (nI (s_rc x)))) (5, j, 1) (5, j, 1) (9 - s_rn x) 0 (s_rc x) = ch_os m 5 j (s_rB (ch_ob m 5 j) x (nI (s_rc x))) := by
  funext b k
  obtain ⟨y, z, c⟩ := b
  unfold ch_cpy va_cpy
  by_cases h : y = 5 ∧ z = j
  · obtain ⟨rfl, rfl⟩ := h
    by_cases hc : c = 1
    · subst hc
      have e : s_rB (ch_ob m 5 z) x (nI (s_rc x)) 1 k = s_rf (ch_ob m 5 z) x k := rfl
      rw [if_pos rfl]
      simp only [ch_os_at, e, ch_bw_c (show (1 : Nat) ≠ 0 by decide)]
      unfold s_rf
      simp
    · rw [if_neg (fun q => hc (by simp only [Prod.mk.injEq] at q; exact q.2.2))]
      simp only [ch_os_at]
      unfold s_rB
      by_cases h2 : c = 0 ∧ k = 1
      · rw [if_pos h2, h2.1, h2.2, ch_bw_at]
      · rw [if_neg h2, if_neg hc]
        unfold ch_bw
        rw [if_neg h2]
        exact s_rw_o _ _ _ _ _ hc
  · rw [if_neg (fun q => h (by simp only [Prod.mk.injEq] at q; exact ⟨q.1, q.2.1⟩)), ch_os_ne h, ch_os_ne h]
theorem s_nI_s {a : Nat} (h : a ≤ 9) : (9 : Int32) - nI a = nI (9 - a) ∧ nI (9 - a) + (-1) = nI (9 - a) - 1 ∧ ¬ nI (9 - a) < 0 ∧ (nI (9 - a)).toNatClampNeg = 9 - a ∧ (9 : Int32) - nI (9 - a) = nI a ∧ ¬ nI a < 0 := by
  obtain rfl | rfl | rfl | rfl | rfl | rfl | rfl | rfl | rfl | rfl : a = 0 ∨ a = 1 ∨ a = 2 ∨ a = 3 ∨ a = 4 ∨ a = 5 ∨ a = 6 ∨ a = 7 ∨ a = 8 ∨ a = 9 := by omega
  all_goals decide
theorem s_nI_t {a : Nat} (h : a < 9) : nI (9 - a) - 1 = nI (8 - a) ∧ ¬ nI (8 - a) < 0 ∧ nI (8 - a) + (-1) = nI (8 - a) - 1 ∧ vp_in (nI (8 - a)) 12 ∧ (nI (8 - a)).toNatClampNeg = 8 - a := by
  obtain rfl | rfl | rfl | rfl | rfl | rfl | rfl | rfl | rfl : a = 0 ∨ a = 1 ∨ a = 2 ∨ a = 3 ∨ a = 4 ∨ a = 5 ∨ a = 6 ∨ a = 7 ∨ a = 8 := by omega
  all_goals refine ⟨by decide, by decide, by decide, vp_in_nI (by decide) (by decide), by decide⟩
set_option maxHeartbeats 1600000 in
theorem s_s_readFrom (g : ch_G) (q : ch_M → Prop) (j : Nat) (p1 : Int32) (m : ch_M) (h : q (ch_os m 5 j (s_rfB (ch_ob m 5 j) p1))) : ch_C g m_s_readFrom [.inr (5, j, 0), .inl (.int p1)] m (ch_ov q) := by
  refine e_s_readFrom g _ j p1 m ?_
  have hd := s_rc_le p1
  -- the steps are looked at
  have l3 : ∀ x1 x2 x3 : Int32, ch_J g m_s_readFrom (ch_rm m_s_readFrom) (ch_E g m_s_readFrom (ch_ov q)) 79 [some (.inr (5, j, 0)), some (.inl (.int x1)), some (.inl (.int x2)), some (.inl (.int x3)), some (.inl (.int 0))] [] (ch_os m 5 j (s_rB (ch_ob m 5 j) p1 (nI (s_rc p1)))) 0 := by
    intro x1 x2 x3
    have key : ∀ k, k ≤ s_rc p1 → s_ok (s_rf (ch_ob m 5 j) p1) k = true → ch_J g m_s_readFrom (ch_rm m_s_readFrom) (ch_E g m_s_readFrom (ch_ov q)) 79 [some (.inr (5, j, 0)), some (.inl (.int x1)), some (.inl (.int x2)), some (.inl (.int x3)), some (.inl (.int (nI k)))] [] (ch_os m 5 j (s_rB (ch_ob m 5 j) p1 (nI (s_rc p1)))) 0 := by
      refine ch_down (fun k => s_ok (s_rf (ch_ob m 5 j) p1) k = true → ch_J g m_s_readFrom (ch_rm m_s_readFrom) (ch_E g m_s_readFrom (ch_ov q)) 79 [some (.inr (5, j, 0)), some (.inl (.int x1)), some (.inl (.int x2)), some (.inl (.int x3)), some (.inl (.int (nI k)))] [] (ch_os m 5 j (s_rB (ch_ob m 5 j) p1 (nI (s_rc p1)))) 0) _ ?_ ?_
      · intro hk
        refine g_s_readFrom_79 g _ j _ _ _ _ _ ?_
        have e : s_rB (ch_ob m 5 j) p1 (nI (s_rc p1)) 0 1 = nI (s_rc p1) := rfl
        rw [ch_os_at, e]
        refine ⟨fun _ => ?_, fun c => absurd (nI_le (Nat.le_refl _) (by omega)) c⟩
        have e2 : s_rB (ch_ob m 5 j) p1 (nI (s_rc p1)) = s_rfB (ch_ob m 5 j) p1 := by
          unfold s_rB s_rfB
          rw [hk]
          rfl
        rw [e2]
        exact ch_ov_iff.mpr h
      · intro k hk ih ok
        obtain ⟨a1, a2, a3, a4⟩ := ch_kn hk (by omega)
        refine g_s_readFrom_79 g _ j _ _ _ _ _ ?_
        have e : s_rB (ch_ob m 5 j) p1 (nI (s_rc p1)) 0 1 = nI (s_rc p1) := rfl
        have e1 : s_rB (ch_ob m 5 j) p1 (nI (s_rc p1)) 1 k = s_rf (ch_ob m 5 j) p1 k := rfl
        simp only [ch_os_at, e, a3, a4, e1]
        have bad : ∀ m2 : ch_M, m2 = ch_wr (ch_os m 5 j (s_rB (ch_ob m 5 j) p1 (nI (s_rc p1)))) (5, j, 0) 1 0 → s_ok (s_rf (ch_ob m 5 j) p1) (s_rc p1) = false → ch_J g m_s_readFrom (ch_rm m_s_readFrom) (ch_E g m_s_readFrom (ch_ov q)) 79 [some (.inr (5, j, 0)), some (.inl (.int x1)), some (.inl (.int x2)), some (.inl (.int x3)), some (.inl (.int (nI (k + 1))))] [] m2 0 := by
          intro m2 e2 hb
          have e3 : ch_bw (s_rB (ch_ob m 5 j) p1 (nI (s_rc p1))) 0 1 0 = s_rfB (ch_ob m 5 j) p1 := by
            funext a i
            unfold ch_bw s_rB s_rfB
            rw [hb]
            by_cases h : a = 0 ∧ i = 1
            · rw [if_pos h, if_pos h]; rfl
            · rw [if_neg h, if_neg h, if_neg h]
          rw [ch_os_wr, e3] at e2
          subst e2
          refine g_s_readFrom_79 g _ j _ _ _ _ _ ?_
          have e4 : s_rfB (ch_ob m 5 j) p1 0 1 = nI 0 := by
            unfold s_rfB
            rw [hb]
            rfl
          rw [ch_os_at, e4]
          exact ⟨fun _ => ch_ov_iff.mpr h, fun c => absurd (nI_le (Nat.zero_le _) (by omega)) c⟩
        have bd : ∀ i, k < i → ¬ (¬ s_rf (ch_ob m 5 j) p1 k < 1 ∧ s_rf (ch_ob m 5 j) p1 k ≤ 3) → s_ok (s_rf (ch_ob m 5 j) p1) i = false := by
          intro i hi hx
          induction i with
          | zero => omega
          | succ i ih2 =>
            rw [s_ok]
            by_cases hik : i = k
            · subst hik
              by_cases h1 : s_rf (ch_ob m 5 j) p1 i < 1
              · simp [h1]
              · have h3 : ¬ s_rf (ch_ob m 5 j) p1 i ≤ 3 := fun z => hx ⟨h1, z⟩
                simp [h1, h3]
            · rw [ih2 (by omega)]
              rfl
        refine ⟨fun c => absurd c a1, fun _ => ⟨vp_in_nI (by omega) (by decide), fun c m2 e2 => bad m2 e2 (bd _ hk (fun z => z.1 c)), fun c => ⟨fun d => ih ?_, fun d m2 e2 => bad m2 e2 (bd _ hk (fun z => d z.2))⟩⟩⟩
        rw [s_ok, ok]
        simp [c, d]
    exact key 0 (Nat.zero_le _) rfl
  -- they are put to the front
  have l2 : ∀ x1 x4 : Int32, ch_J g m_s_readFrom (ch_rm m_s_readFrom) (ch_E g m_s_readFrom (ch_ov q)) 43 [some (.inr (5, j, 0)), some (.inl (.int x1)), some (.inl (.int (s_rr p1 (s_rn p1)))), some (.inl (.int (nI (9 - s_rn p1)))), some (.inl (.int x4))] [] (ch_os m 5 j (s_rw (ch_ob m 5 j) p1 (s_rn p1))) 0 := by
    intro x1 x4
    refine g_s_readFrom_43 g _ j _ _ _ _ _ ?_
    obtain ⟨b1, b2, b3, b4, b5, b6⟩ := s_nI_s hd.2
    have hw : ∀ v : Int32, v = nI (s_rc p1) → ∀ m1 : ch_M, m1 = ch_wr (ch_os m 5 j (s_rw (ch_ob m 5 j) p1 (s_rn p1))) (5, j, 0) 1 v → ¬ nI (9 - s_rn p1) < 0 ∧ ¬ m1 (5, j, 0) 1 < 0 ∧ (nI (9 - s_rn p1)).toNatClampNeg + (m1 (5, j, 0) 1).toNatClampNeg ≤ 12 ∧ 0 + (m1 (5, j, 0) 1).toNatClampNeg ≤ 12 ∧ (∀ m2 : ch_M, m2 = ch_cpy m1 (5, j, 1) (5, j, 1) (nI (9 - s_rn p1)).toNatClampNeg 0 (m1 (5, j, 0) 1).toNatClampNeg → ch_J g m_s_readFrom (ch_rm m_s_readFrom) (ch_E g m_s_readFrom (ch_ov q)) 79 [some (.inr (5, j, 0)), some (.inl (.int x1)), some (.inl (.int (s_rr p1 (s_rn p1)))), some (.inl (.int (nI (9 - s_rn p1)))), some (.inl (.int 0))] [] m2 0) := by
      intro v hv m1 e1
      rw [ch_os_wr, hv] at e1
      subst e1
      rw [ch_os_at, ch_bw_at, b4, nI_clamp (by omega)]
      obtain ⟨c1, c2, c3, c4, c5, c6⟩ := s_nI_s (show s_rc p1 ≤ 9 by omega)
      refine ⟨b3, c6, by omega, by omega, fun m2 e2 => ?_⟩
      rw [s_rc_cp] at e2
      subst e2
      exact l3 _ _ _
    refine ⟨fun c => hw 0 ?_, fun c => ?_⟩
    · unfold s_rc
      rw [if_neg c]
      rfl
    · rw [b5]
      refine hw _ ?_
      unfold s_rc
      rw [if_pos c]
  refine g_s_readFrom_0 g _ _ _ _ ?_
  have key : ∀ t, t ≤ 9 → s_rn p1 = s_rnF p1 (9 - t) t → ch_J g m_s_readFrom (ch_rm m_s_readFrom) (ch_E g m_s_readFrom (ch_ov q)) 9 [some (.inr (5, j, 0)), some (.inl (.int p1)), some (.inl (.int (s_rr p1 t))), some (.inl (.int (nI (9 - t)))), some (.inl (.int (nI (9 - t) - 1)))] [] (ch_os m 5 j (s_rw (ch_ob m 5 j) p1 t)) 0 := by
    refine ch_down (fun t => s_rn p1 = s_rnF p1 (9 - t) t → ch_J g m_s_readFrom (ch_rm m_s_readFrom) (ch_E g m_s_readFrom (ch_ov q)) 9 [some (.inr (5, j, 0)), some (.inl (.int p1)), some (.inl (.int (s_rr p1 t))), some (.inl (.int (nI (9 - t)))), some (.inl (.int (nI (9 - t) - 1)))] [] (ch_os m 5 j (s_rw (ch_ob m 5 j) p1 t)) 0) 9 ?_ ?_
    · intro hn
      have hn : s_rn p1 = 9 := hn
      refine g_s_readFrom_9 g _ j _ _ _ _ _ ?_
      refine ⟨fun _ => ?_, fun c => absurd (by decide) c⟩
      have := l2 p1 (nI (9 - s_rn p1) - 1)
      rw [hn] at this
      exact this
    · intro t ht ih hn
      refine g_s_readFrom_9 g _ j _ _ _ _ _ ?_
      obtain ⟨b1, b2, b3, b4, b5⟩ := s_nI_t ht
      rw [b1]
      refine ⟨fun c => absurd c b2, fun _ => ⟨fun c => ?_, fun c => ⟨b4, fun m2 e2 => ?_⟩⟩⟩
      · have e : s_rn p1 = t := by
          rw [hn, show 9 - t = (8 - t) + 1 by omega, s_rnF, if_pos c]
        have := l2 p1 (nI (8 - t))
        rw [e] at this
        exact this
      · rw [ch_os_wr, b5] at e2
        subst e2
        rw [b3]
        have e : s_rn p1 = s_rnF p1 (9 - (t + 1)) (t + 1) := by
          rw [hn, show 9 - t = (8 - t) + 1 by omega, s_rnF, if_neg c]
          congr 1
          omega
        have ih := ih e
        rw [show 9 - (t + 1) = 8 - t by omega] at ih
        exact ih
  have h0 := key 0 (by decide) rfl
  have e0 : ch_os m 5 j (s_rw (ch_ob m 5 j) p1 0) = m := ch_os_self m 5 j
  rw [e0] at h0
  exact h0
