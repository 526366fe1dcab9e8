def y_cp (Y Y' : ch_B) : ch_B := fun c k => if (c = 0 ∧ 8 ≤ k ∧ k ≤ 16) ∨ ((c = 1 ∨ c = 2) ∧ k < 12) ∨ (3 ≤ c ∧ c ≤ 8 ∧ k < 5) then Y c k else Y' c k
/-- a copy on its way: the cells in P have it -/
def y_mx (P : Nat → Nat → Bool) (S D : ch_B) : ch_B := fun c k => if P c k = true then S c k else D c k
theorem y_mx_rd (m : ch_M) (i j c k : Nat) (P : Nat → Nat → Bool) : ch_os m 1 j (y_mx P (ch_ob m 1 i) (ch_ob m 1 j)) (1, i, c) k = m (1, i, c) k := by
  by_cases h : i = j
  · subst h
    rw [ch_os_at]
    unfold y_mx ch_ob
    split <;> rfl
  · exact congrFun (ch_os_ne (fun q => h q.2)) k
theorem y_mx_cp (m : ch_M) (i j c n : Nat) (P : Nat → Nat → Bool) : ch_cpy (ch_os m 1 j (y_mx P (ch_ob m 1 i) (ch_ob m 1 j))) (1, i, c) (1, j, c) 0 0 n = ch_os m 1 j (y_mx (fun a k => P a k || (decide (a = c) && decide (k < n))) (ch_ob m 1 i) (ch_ob m 1 j)) := by
  funext b k
  obtain ⟨x, y, z⟩ := b
  unfold ch_cpy va_cpy
  by_cases h : x = 1 ∧ y = j
  · obtain ⟨rfl, rfl⟩ := h
    by_cases hz : z = c
    · subst hz
      rw [if_pos rfl, ch_os_at, ch_os_at, y_mx_rd]
      by_cases hk : k < n
      · simp [hk, y_mx, ch_ob]
      · simp [hk, y_mx]
    · rw [if_neg (fun q => hz (by simp only [Prod.mk.injEq] at q; exact q.2.2)), ch_os_at, ch_os_at]
      simp [hz, y_mx]
  · rw [if_neg (fun q => h (by simp only [Prod.mk.injEq] at q; exact ⟨q.1, q.2.1⟩)), ch_os_ne h, ch_os_ne h]
theorem y_mx_wr (m : ch_M) (i j f : Nat) (P : Nat → Nat → Bool) : ch_wr (ch_os m 1 j (y_mx P (ch_ob m 1 i) (ch_ob m 1 j))) (1, j, 0) f (m (1, i, 0) f) = ch_os m 1 j (y_mx (fun a k => P a k || (decide (a = 0) && decide (k = f))) (ch_ob m 1 i) (ch_ob m 1 j)) := by
  rw [ch_os_wr]
  congr 1
  funext a k
  unfold ch_bw y_mx
  by_cases h : a = 0 ∧ k = f
  · obtain ⟨rfl, rfl⟩ := h
    simp [ch_ob]
  · rw [if_neg h]
    have : (decide (a = 0) && decide (k = f)) = false := by simpa using h
    simp only [this, Bool.or_false]
set_option maxHeartbeats 1600000 in
theorem s_y_copyFrom (g : ch_G) (q : ch_M → Prop) (j : Nat) (j1 : Nat) (m : ch_M) (h : q (ch_os m 1 j (y_cp (ch_ob m 1 j1) (ch_ob m 1 j)))) : ch_C g m_y_copyFrom [.inr (1, j, 0), .inr (1, j1, 0)] m (ch_ov q) := by
  refine e_y_copyFrom g _ j j1 m ?_
  refine g_y_copyFrom_0 g _ _ _ _ ?_
  intro m1 e1 m2 e2 m3 e3 m4 e4 m5 e5 m6 e6 m7 e7 m8 e8 m9 e9 m10 e10 m11 e11 m12 e12 m13 e13 m14 e14 m15 e15 m16 e16 m17 e17
  rw [ch_ov_iff]
  have e0 : m = ch_os m 1 j (y_mx (fun _ _ => false) (ch_ob m 1 j1) (ch_ob m 1 j)) := by
    have : y_mx (fun _ _ => false) (ch_ob m 1 j1) (ch_ob m 1 j) = ch_ob m 1 j := by
      funext a k
      exact if_neg Bool.false_ne_true
    rw [this, ch_os_self]
  have h0 : m1 = ch_cpy (ch_os m 1 j (y_mx (fun _ _ => false) (ch_ob m 1 j1) (ch_ob m 1 j))) (1, j1, 1) (1, j, 1) 0 0 12 := by rw [← e0]; exact e1
  clear e0 e1
  rw [y_mx_cp] at h0
  subst h0
  rw [y_mx_cp] at e2
  subst e2
  rw [y_mx_cp] at e3
  subst e3
  rw [y_mx_cp] at e4
  subst e4
  rw [y_mx_cp] at e5
  subst e5
  rw [y_mx_cp] at e6
  subst e6
  rw [y_mx_cp] at e7
  subst e7
  rw [y_mx_cp] at e8
  subst e8
  rw [y_mx_rd, y_mx_wr] at e9
  subst e9
  rw [y_mx_rd, y_mx_wr] at e10
  subst e10
  rw [y_mx_rd, y_mx_wr] at e11
  subst e11
  rw [y_mx_rd, y_mx_wr] at e12
  subst e12
  rw [y_mx_rd, y_mx_wr] at e13
  subst e13
  rw [y_mx_rd, y_mx_wr] at e14
  subst e14
  rw [y_mx_rd, y_mx_wr] at e15
  subst e15
  rw [y_mx_rd, y_mx_wr] at e16
  subst e16
  rw [y_mx_rd, y_mx_wr] at e17
  subst e17
  have e : ∀ P : Nat → Nat → Bool, (∀ c k, P c k = true ↔ ((c = 0 ∧ 8 ≤ k ∧ k ≤ 16) ∨ ((c = 1 ∨ c = 2) ∧ k < 12) ∨ (3 ≤ c ∧ c ≤ 8 ∧ k < 5))) → y_mx P (ch_ob m 1 j1) (ch_ob m 1 j) = y_cp (ch_ob m 1 j1) (ch_ob m 1 j) := by
    intro P hP
    funext c k
    unfold y_mx y_cp
    by_cases hc : P c k = true
    · rw [if_pos hc, if_pos ((hP c k).mp hc)]
    · rw [if_neg hc, if_neg (fun z => hc ((hP c k).mpr z))]
  rw [e]
  · exact h
  · intro c k
    simp only [Bool.or_eq_true, Bool.and_eq_true, decide_eq_true_eq, Bool.false_eq_true, false_or]
    constructor
    · intro d
      rcases d with ((((((((((((((((d | d) | d) | d) | d) | d) | d) | d) | d) | d) | d) | d) | d) | d) | d) | d) | d)
      all_goals omega
    · intro d
      rcases d with ⟨rfl, d1, d2⟩ | ⟨rfl | rfl, d⟩ | ⟨d1, d2, d⟩
      · simp
        omega
      · simp [d]
      · simp [d]
      · obtain rfl | rfl | rfl | rfl | rfl | rfl : c = 3 ∨ c = 4 ∨ c = 5 ∨ c = 6 ∨ c = 7 ∨ c = 8 := by omega
        all_goals simp [d]
