set_option maxHeartbeats 1600000 in
theorem s_x_checkChild (g : ch_G) (q : ch_M → Prop) (x : Nat → ch_M → Prop) (p1 : Int32) (m : ch_M) (h : ((0 ≤ p1 ∧ p1 < m (1, 0, 0) 8) → q m) ∧ ((¬ (0 ≤ p1 ∧ p1 < m (1, 0, 0) 8)) → x 1 m)) : ch_C g m_x_checkChild [.inr (0, 0, 0), .inl (.int p1)] m (ch_ox (ch_ov q) x) := by
  refine e_x_checkChild g _ p1 m ?_
  obtain ⟨ha, hb⟩ := h
  refine g_x_checkChild_0 g _ _ _ ?_
  simp only [ch_ox_l, ch_ov_iff, ch_ox_ov]
  exact ⟨ha, fun c => ⟨by decide, hb c⟩⟩
def x_R (m : ch_M) : Int32 × Int32 := r_w (ch_ob m 1 0) (ch_ob m 4 0) (m (5, 0, 1)) (m (5, 0, 0) 1)
noncomputable def x_C (m : ch_M) : Int32 × ch_B := y_car (ch_ob m 1 0) (ch_ob m 4 0) (m (5, 0, 1)) (m (5, 0, 0) 1).toNatClampNeg
def p_kM (m : ch_M) (j : Nat) : ch_M := ch_os (ch_os m 2 0 (p_kB (ch_ob m 2 0))) 1 (4 + p_kn (ch_ob m 2 0)) (y_cp (ch_ob m 1 j) (ch_ob m 1 (4 + p_kn (ch_ob m 2 0))))
theorem p_kM_o (m : ch_M) (j : Nat) {c i : Nat} (h1 : c ≠ 2) (h2 : ¬ (c = 1 ∧ 4 ≤ i)) : ch_ob (p_kM m j) c i = ch_ob m c i := by
  unfold p_kM
  rw [ch_ob_o (fun q => h2 ⟨q.1, by omega⟩), ch_ob_c h1]
set_option maxHeartbeats 1600000 in
theorem s_x_change (g : ch_G) (q : Int32 → ch_M → Prop) (x : Nat → ch_M → Prop)  (m : ch_M) (h : (vp_in (m (1, 0, 0) 8) 6) ∧ (vp_in (m (5, 0, 0) 1) 13) ∧ (vp_in (m (2, 0, 0) 1) 8) ∧ ((x_R m).1 = 0 → y_carP (ch_ob m 1 0) (ch_ob m 4 0) (m (5, 0, 0) 1)) ∧ (((x_R m).1 = 0) → q ((x_C m).1) (ch_os (p_kM m 0) 1 0 (x_C m).2)) ∧ ((¬ (x_R m).1 = 0) → x 0 (r_kp m (x_R m).1 (x_R m).2))) : ch_C g m_x_change [.inr (0, 0, 0)] m (ch_ox (ch_oi q) x) := by
  refine e_x_change g _  m ?_
  obtain ⟨h1, h2, h3, h4, ha, hb⟩ := h
  refine g_x_change_0 g _ _ ⟨h1, h2, fun c => ⟨h3, fun m7 e7 => ?_⟩, fun c m2 e2 => ?_⟩
  · have e8 : m7 = p_kM m 0 := e7
    have f1 : ch_ob m7 1 0 = ch_ob m 1 0 := by rw [e8, p_kM_o m 0 (by decide) (by decide)]
    have f4 : ch_ob m7 4 0 = ch_ob m 4 0 := by rw [e8, p_kM_o m 0 (by decide) (by decide)]
    have f5 : ch_ob m7 5 0 = ch_ob m 5 0 := by rw [e8, p_kM_o m 0 (by decide) (by decide)]
    have g1 : m7 (5, 0, 0) 1 = m (5, 0, 0) 1 := congrFun (congrFun f5 0) 1
    have g2 : m7 (5, 0, 1) = m (5, 0, 1) := congrFun f5 1
    rw [f1, f4, g1, g2]
    refine ⟨h4 c, fun m11 e11 => ?_⟩
    rw [e11, e8]
    exact ch_ox_l.mpr (ch_oi_iff.mpr (ha c))
  · rw [e2]
    exact ch_ox_oi.mpr ⟨by decide, hb c⟩
