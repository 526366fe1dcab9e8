/-- the sign of a text at a place, -1 behind its end -/
def d_sg (T : ch_B) (p : Int32) : Int32 := if 0 ≤ p ∧ p < T 0 1 ∧ p < 60 then T 1 p.toNatClampNeg else -1
set_option maxHeartbeats 1600000 in
theorem s_d_signAt (g : ch_G) (q : Int32 → ch_M → Prop) (j1 : Nat) (m : ch_M) (h : q (d_sg (ch_ob m 6 j1) (m (7, 0, 0) 0)) m) : ch_C g m_d_signAt [.inr (7, 0, 0), .inr (6, j1, 0)] m (ch_oi q) := by
  refine e_d_signAt g _ j1 m ?_
  simp only [d_sg, ch_ob] at h
  have hp : ∀ p : Int32, ¬ p < 0 → ¬ 60 ≤ p → vp_in p 60 := fun p a b => ch_vp (n := 60) (by decide) a b
  refine g_d_signAt_0 g _ _ _ ?_
  simp only [ch_oi_iff]
  grind
def d_kd (s : Int32) : Prop := s = 99 ∨ s = 103 ∨ s = 104 ∨ s = 110 ∨ s = 114 ∨ s = 115 ∨ s = 116 ∨ s = 119
set_option maxHeartbeats 1600000 in
theorem s_d_isKind (g : ch_G) (q : Int32 → ch_M → Prop) (p1 : Int32) (m : ch_M) (h : ((d_kd p1) → q 1 m) ∧ ((¬ d_kd p1) → q 0 m)) : ch_C g m_d_isKind [.inr (7, 0, 0), .inl (.int p1)] m (ch_oi q) := by
  refine e_d_isKind g _ p1 m ?_
  obtain ⟨ha, hb⟩ := h
  refine g_d_isKind_0 g _ _ _ ?_
  simp only [ch_oi_iff]
  unfold d_kd at ha hb
  have hy : ∀ y : Int32, (p1 = y → y = 99 ∨ y = 103 ∨ y = 104 ∨ y = 110 ∨ y = 114 ∨ y = 115 ∨ y = 116 ∨ y = 119 → q 1 m) ∧ (p1 = y → ¬ (y = 99 ∨ y = 103 ∨ y = 104 ∨ y = 110 ∨ y = 114 ∨ y = 115 ∨ y = 116 ∨ y = 119) → q 0 m) := fun y => ⟨fun e c => ha (e ▸ c), fun e c => hb (e ▸ c)⟩
  refine ⟨fun e => (hy _).1 e (by decide), fun e => (hy _).2 e (by decide), fun e => (hy _).2 e (by decide), fun e => (hy _).2 e (by decide), fun e => (hy _).1 e (by decide), fun e => (hy _).1 e (by decide), fun e => (hy _).2 e (by decide), fun e => (hy _).2 e (by decide), fun e => (hy _).2 e (by decide), fun e => (hy _).2 e (by decide), fun e => (hy _).2 e (by decide), fun e => (hy _).1 e (by decide), fun e => (hy _).2 e (by decide), fun e => (hy _).2 e (by decide), fun e => (hy _).2 e (by decide), fun e => (hy _).1 e (by decide), fun e => (hy _).1 e (by decide), fun e => (hy _).1 e (by decide), fun e => (hy _).2 e (by decide), fun e => (hy _).2 e (by decide), fun e => (hy _).1 e (by decide), fun hx => hb ?_⟩
  have nz : ∀ y : Int32, 99 ≤ y.toInt ∧ y.toInt ≤ 119 → ¬ p1 = y := fun y b z => by rw [z] at hx; omega
  rintro (h | h | h | h | h | h | h | h)
  all_goals exact nz _ (by decide) h
