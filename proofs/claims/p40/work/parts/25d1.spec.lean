def r_w (Y K : ch_B) (f : Nat → Int32) (n : Int32) : Int32 × Int32 :=
  if K 0 1 = 110 then r_wn Y (K 0 4)
  else if K 0 1 = 99 then r_wc Y (K 0 2) (K 0 4)
  else if K 0 1 = 104 then r_wh Y (K 0 2) f n
  else if K 0 1 = 119 then r_ww Y (K 0 2)
  else if K 0 1 = 115 then r_ws Y (K 0 2)
  else if K 0 1 = 114 then r_wr Y (K 0 4)
  else if K 0 1 = 116 then r_wt Y
  else r_wg Y (K 0 2) (K 0 3) (K 0 4)
set_option maxHeartbeats 1600000 in
theorem s_r_refuse (g : ch_G) (q : Int32 → ch_M → Prop) (j1 : Nat) (m : ch_M) (h : (vp_in (m (1, j1, 0) 8) 6) ∧ (vp_in (m (5, 0, 0) 1) 13) ∧ (((r_w (ch_ob m 1 j1) (ch_ob m 4 0) (m (5, 0, 1)) (m (5, 0, 0) 1)).1 = 0) → q 0 m) ∧ ((¬ (r_w (ch_ob m 1 j1) (ch_ob m 4 0) (m (5, 0, 1)) (m (5, 0, 0) 1)).1 = 0) → q 1 (r_kp m (r_w (ch_ob m 1 j1) (ch_ob m 4 0) (m (5, 0, 1)) (m (5, 0, 0) 1)).1 (r_w (ch_ob m 1 j1) (ch_ob m 4 0) (m (5, 0, 1)) (m (5, 0, 0) 1)).2))) : ch_C g m_r_refuse [.inr (3, 0, 0), .inr (1, j1, 0), .inr (4, 0, 0)] m (ch_oi q) := by
  refine e_r_refuse g _ j1 m ?_
  obtain ⟨h1, h2, ha, hb⟩ := h
  have k1 : ch_ob m 4 0 0 1 = m (4, 0, 0) 1 := rfl
  have k2 : ch_ob m 4 0 0 2 = m (4, 0, 0) 2 := rfl
  have k3 : ch_ob m 4 0 0 3 = m (4, 0, 0) 3 := rfl
  have k4 : ch_ob m 4 0 0 4 = m (4, 0, 0) 4 := rfl
  have fin : ∀ w : Int32 × Int32, r_w (ch_ob m 1 j1) (ch_ob m 4 0) (m (5, 0, 1)) (m (5, 0, 0) 1) = w → (w.1 = 0 → ch_oi q (.inl (some (.inl (.int 0)))) m) ∧ (¬ w.1 = 0 → ∀ m2 : ch_M, m2 = r_kp m w.1 w.2 → ch_oi q (.inl (some (.inl (.int 1)))) m2) := by
    intro w hw
    rw [hw] at ha hb
    exact ⟨fun c => ch_oi_iff.mpr (ha c), fun c m2 e2 => by subst e2; exact ch_oi_iff.mpr (hb c)⟩
  unfold r_w at fin
  rw [k1, k2, k3, k4] at fin
  clear k1 k2 k3 k4 ha hb
  have ng : ∀ {x : Int32}, m (4, 0, 0) 1 = x → ∀ y : Int32, x ≠ y → ¬ m (4, 0, 0) 1 = y := fun h y n z => n (h.symm.trans z)
  have gv : (¬ m (4, 0, 0) 1 = 110 → ¬ m (4, 0, 0) 1 = 99 → ¬ m (4, 0, 0) 1 = 104 → ¬ m (4, 0, 0) 1 = 119 → ¬ m (4, 0, 0) 1 = 115 → ¬ m (4, 0, 0) 1 = 114 → ¬ m (4, 0, 0) 1 = 116 → vp_in (m (1, j1, 0) 8) 6 ∧ ((r_wg (ch_ob m 1 j1) (m (4, 0, 0) 2) (m (4, 0, 0) 3) (m (4, 0, 0) 4)).1 = 0 → ch_oi q (.inl (some (.inl (.int 0)))) m) ∧ (¬ (r_wg (ch_ob m 1 j1) (m (4, 0, 0) 2) (m (4, 0, 0) 3) (m (4, 0, 0) 4)).1 = 0 → ∀ m2 : ch_M, m2 = r_kp m (r_wg (ch_ob m 1 j1) (m (4, 0, 0) 2) (m (4, 0, 0) 3) (m (4, 0, 0) 4)).1 (r_wg (ch_ob m 1 j1) (m (4, 0, 0) 2) (m (4, 0, 0) 3) (m (4, 0, 0) 4)).2 → ch_oi q (.inl (some (.inl (.int 1)))) m2)) := by
    intro a b c d e f g'
    have := fin (r_wg (ch_ob m 1 j1) (m (4, 0, 0) 2) (m (4, 0, 0) 3) (m (4, 0, 0) 4)) (by rw [if_neg a, if_neg b, if_neg c, if_neg d, if_neg e, if_neg f, if_neg g'])
    exact ⟨h1, this.1, this.2⟩
  refine g_r_refuse_0 g _ _ _ ?_
  refine ⟨fun c => ?_, ?_⟩
  · have := fin (r_wc (ch_ob m 1 j1) (m (4, 0, 0) 2) (m (4, 0, 0) 4)) (by rw [if_neg (ng c 110 (by decide)), if_pos c])
    exact ⟨h1, this.1, this.2⟩
  refine ⟨fun c => gv (ng c _ (by decide)) (ng c _ (by decide)) (ng c _ (by decide)) (ng c _ (by decide)) (ng c _ (by decide)) (ng c _ (by decide)) (ng c _ (by decide)), ?_⟩
  refine ⟨fun c => gv (ng c _ (by decide)) (ng c _ (by decide)) (ng c _ (by decide)) (ng c _ (by decide)) (ng c _ (by decide)) (ng c _ (by decide)) (ng c _ (by decide)), ?_⟩
  refine ⟨fun c => gv (ng c _ (by decide)) (ng c _ (by decide)) (ng c _ (by decide)) (ng c _ (by decide)) (ng c _ (by decide)) (ng c _ (by decide)) (ng c _ (by decide)), ?_⟩
  refine ⟨fun c => gv (ng c _ (by decide)) (ng c _ (by decide)) (ng c _ (by decide)) (ng c _ (by decide)) (ng c _ (by decide)) (ng c _ (by decide)) (ng c _ (by decide)), ?_⟩
  refine ⟨fun c => ?_, ?_⟩
  · have := fin (r_wh (ch_ob m 1 j1) (m (4, 0, 0) 2) (m (5, 0, 1)) (m (5, 0, 0) 1)) (by rw [if_neg (ng c 110 (by decide)), if_neg (ng c 99 (by decide)), if_pos c])
    exact ⟨h1, h2, this.1, this.2⟩
  refine ⟨fun c => gv (ng c _ (by decide)) (ng c _ (by decide)) (ng c _ (by decide)) (ng c _ (by decide)) (ng c _ (by decide)) (ng c _ (by decide)) (ng c _ (by decide)), ?_⟩
  refine ⟨fun c => gv (ng c _ (by decide)) (ng c _ (by decide)) (ng c _ (by decide)) (ng c _ (by decide)) (ng c _ (by decide)) (ng c _ (by decide)) (ng c _ (by decide)), ?_⟩
  refine ⟨fun c => gv (ng c _ (by decide)) (ng c _ (by decide)) (ng c _ (by decide)) (ng c _ (by decide)) (ng c _ (by decide)) (ng c _ (by decide)) (ng c _ (by decide)), ?_⟩
  refine ⟨fun c => gv (ng c _ (by decide)) (ng c _ (by decide)) (ng c _ (by decide)) (ng c _ (by decide)) (ng c _ (by decide)) (ng c _ (by decide)) (ng c _ (by decide)), ?_⟩
  refine ⟨fun c => gv (ng c _ (by decide)) (ng c _ (by decide)) (ng c _ (by decide)) (ng c _ (by decide)) (ng c _ (by decide)) (ng c _ (by decide)) (ng c _ (by decide)), ?_⟩
  refine ⟨fun c => ?_, ?_⟩
  · have := fin (r_wn (ch_ob m 1 j1) (m (4, 0, 0) 4)) (by rw [if_pos c])
    exact ⟨this.1, this.2⟩
  refine ⟨fun c => gv (ng c _ (by decide)) (ng c _ (by decide)) (ng c _ (by decide)) (ng c _ (by decide)) (ng c _ (by decide)) (ng c _ (by decide)) (ng c _ (by decide)), ?_⟩
  refine ⟨fun c => gv (ng c _ (by decide)) (ng c _ (by decide)) (ng c _ (by decide)) (ng c _ (by decide)) (ng c _ (by decide)) (ng c _ (by decide)) (ng c _ (by decide)), ?_⟩
  refine ⟨fun c => gv (ng c _ (by decide)) (ng c _ (by decide)) (ng c _ (by decide)) (ng c _ (by decide)) (ng c _ (by decide)) (ng c _ (by decide)) (ng c _ (by decide)), ?_⟩
  refine ⟨fun c => ?_, ?_⟩
  · have := fin (r_wr (ch_ob m 1 j1) (m (4, 0, 0) 4)) (by rw [if_neg (ng c 110 (by decide)), if_neg (ng c 99 (by decide)), if_neg (ng c 104 (by decide)), if_neg (ng c 119 (by decide)), if_neg (ng c 115 (by decide)), if_pos c])
    exact ⟨this.1, this.2⟩
  refine ⟨fun c => ?_, ?_⟩
  · have := fin (r_ws (ch_ob m 1 j1) (m (4, 0, 0) 2)) (by rw [if_neg (ng c 110 (by decide)), if_neg (ng c 99 (by decide)), if_neg (ng c 104 (by decide)), if_neg (ng c 119 (by decide)), if_pos c])
    exact ⟨h1, this.1, this.2⟩
  refine ⟨fun c => ?_, ?_⟩
  · have := fin (r_wt (ch_ob m 1 j1)) (by rw [if_neg (ng c 110 (by decide)), if_neg (ng c 99 (by decide)), if_neg (ng c 104 (by decide)), if_neg (ng c 119 (by decide)), if_neg (ng c 115 (by decide)), if_neg (ng c 114 (by decide)), if_pos c])
    exact ⟨this.1, this.2⟩
  refine ⟨fun c => gv (ng c _ (by decide)) (ng c _ (by decide)) (ng c _ (by decide)) (ng c _ (by decide)) (ng c _ (by decide)) (ng c _ (by decide)) (ng c _ (by decide)), ?_⟩
  refine ⟨fun c => gv (ng c _ (by decide)) (ng c _ (by decide)) (ng c _ (by decide)) (ng c _ (by decide)) (ng c _ (by decide)) (ng c _ (by decide)) (ng c _ (by decide)), ?_⟩
  refine ⟨fun c => ?_, ?_⟩
  · have := fin (r_ww (ch_ob m 1 j1) (m (4, 0, 0) 2)) (by rw [if_neg (ng c 110 (by decide)), if_neg (ng c 99 (by decide)), if_neg (ng c 104 (by decide)), if_pos c])
    exact ⟨h1, this.1, this.2⟩
  intro hx
  have nz : ∀ y : Int32, 99 ≤ y.toInt ∧ y.toInt ≤ 119 → ¬ m (4, 0, 0) 1 = y := fun y b z => by rw [z] at hx; omega
  exact gv (nz _ (by decide)) (nz _ (by decide)) (nz _ (by decide)) (nz _ (by decide)) (nz _ (by decide)) (nz _ (by decide)) (nz _ (by decide))
