set_option maxHeartbeats 1600000 in
theorem lw_c1636 (g : ch_G) (R : Room) (E : ch_En) (k : Nat) (hR : ch_RR R 18) (hcs : k + 40 ≤ R.cells ∧ 6 * k + 240 ≤ R.slots) (x5 : Int32) (T : Nat) (hT : T + 800 < 2 ^ 30) (hT0 : 0 < T) (hx1 : vp_in (x5 + 1) (ch_scr g).2.1) (hx2 : vp_in (x5 + 2) (ch_scr g).2.1) (hx3 : vp_in (x5 + 3) (ch_scr g).2.1) (hn : lw_N g R E x5 k (T + 800)) (o6 o7 o8 o9 : Option ch_V) (m : ch_M) (h : lw_inv T m) : ch_J g m_l_law R E 1636 (lw_L x5 o6 o7 o8 o9) [] m k := by
  refine g_l_law_1636 g R E k hR hcs x5 o6 o7 o8 o9 m ?_
  have hi := lw_y h
  have hS := lw_s h
  obtain ⟨ok, Y', K', S', p', R', fm, fy, fs, fr⟩ := x_cc_fm hi hT0 (by omega) hS
  obtain ⟨b10, b11, b3, b6, b5, b12, b13⟩ := x_c3_1 fm
  have bo : ∀ a j, ¬ (a = 0 ∧ j = 0) → ¬ (a = 1 ∧ (j = 0 ∨ j = 1)) → ¬ (a = 4 ∧ j = 0) → ¬ (a = 5 ∧ j = 0) → ¬ (a = 7 ∧ j = 0) → ¬ (a = 3 ∧ j = 0) → ¬ (a = 6 ∧ j = 0) → ch_ob (x_c3 m) a j = ch_ob m a j := fun a j h1 h2 h3 h4 h5 h6 h7 => x_c3_ob fm h1 h2 h3 h4 h5 h6 h7
  have c9 : ch_ob (x_c3 m) 9 0 = ch_ob m 9 0 := bo 9 0 (by omega) (by omega) (by omega) (by omega) (by omega) (by omega) (by omega)
  have c2 : ch_ob (x_c3 m) 2 0 = ch_ob m 2 0 := bo 2 0 (by omega) (by omega) (by omega) (by omega) (by omega) (by omega) (by omega)
  have c13 : ch_ob (x_c3 m) 1 3 = ch_ob m 1 3 := bo 1 3 (by omega) (by omega) (by omega) (by omega) (by omega) (by omega) (by omega)
  have c61 : ch_ob (x_c3 m) 6 1 = ch_ob m 6 1 := bo 6 1 (by omega) (by omega) (by omega) (by omega) (by omega) (by omega) (by omega)
  have cK : ∀ i, ch_ob (x_c3 m) 1 (4 + i) = ch_ob m 1 (4 + i) := fun i => bo 1 (4 + i) (by omega) (by omega) (by omega) (by omega) (by omega) (by omega) (by omega)
  have eR : (x_cc m).2 (3, 0, 0) = R' 0 := by
    rw [fm]
    exact ch_os_p _ _ _ _ _
  have Ycc : ch_ob (x_cc m).2 1 0 = Y' := by rw [fm, ch_ob_ne (by omega), d_mk_ob (by omega) (by omega) (by omega), ch_ob_os]
  have ytb := y_inv_cp (ch_ob m 1 1) hi
  have rtb := m_rel_cp (ch_ob m 1 1) hi (lw_r h)
  have hT9 : T + 800 < 2 ^ 31 := by omega
  have nw : vp_in (x_c3 m (2, 0, 0) 1) 8 := by
    have : x_c3 m (2, 0, 0) 1 = m (2, 0, 0) 1 := congrFun (congrFun c2 0) 1
    rw [this]
    exact lw_pn h
  refine ⟨fun _ => ⟨ok, fun _ => nw⟩, fun z m2 e2 => ?_, fun z m2 e2 => ?_, fun z m2 e2 => ?_⟩
  · have e9 : ch_ob m2 9 0 = ch_ob m 9 0 := by
      rw [e2, lw_9_wr _ _ (by omega)]
      unfold p_kM
      rw [ch_ob_ne (by omega), ch_ob_ne (by omega), c9]
    have e91 : m2 (9, 0, 1) = m (9, 0, 1) := congrFun e9 1
    have e90 : m2 (9, 0, 0) 4 = m (9, 0, 0) 4 := congrFun (congrFun e9 0) 4
    rw [e91, e90, e9]
    refine ⟨T, m, lw_r h, hi, hT9, hT0, h.2.2.2.1, lw_h4 h, hS, fun z2 B hr hp hc hs14 hB14 hB19 m' e' => ?_, fun z2 => absurd z.1 z2, fun z2 => absurd z2.2 z.2⟩
    refine lw_f0 (by rw [e', ch_os_at]; exact hB19) (by rw [e', e2, ch_os_v (by omega), ch_wr_v]) (hn _ _ _ _ _ _ ?_ (by omega))
    rw [Ycc] at hr
    have hR : R' = ch_ob m 3 0 := fr z.2
    have hpast := lw_past_push h.2.2.2.2.2.2.1 hT9 (show T ≤ T + 800 by omega) ytb rtb hp
    obtain ⟨s1, s2, s3⟩ := hs14
    obtain ⟨r1, r2, r3⟩ := h.2.1
    have hI := lw_I_cm (Y' := Y') (R' := ch_ob m 3 0) (fp' := (x_F m).1) (s' := S' 0 1) (B' := B) h hT9 (show T ≤ T + 800 by omega) (y_inv_mono hT9 fy (by omega)) hr ⟨r1.trans s1.symm, r2.trans s2.symm, r3.trans s3.symm⟩ (by rw [hB14]; exact z.1) hc hpast fs
    rw [e', e2]
    unfold p_kM
    rw [c2, b11]
    refine lw_inv_mk hI ?_ ?_ (fun i => ?_) ?_ ?_ ?_ ?_ ?_ ?_ ?_ ?_
    · rw [ch_ob_ne (show ¬ (1 = 9 ∧ 0 = 0) by omega), ch_wr_os, ch_ob_ne (show ¬ (1 = 10 ∧ 0 = 0) by omega), ch_ob_ne (show ¬ (1 = 1 ∧ 0 = 4 + p_kn (ch_ob m 2 0)) by omega), ch_ob_ne (show ¬ (1 = 2 ∧ 0 = 0) by omega), b10]
    · rw [ch_ob_ne (show ¬ (1 = 9 ∧ 3 = 0) by omega), ch_wr_os, ch_ob_ne (show ¬ (1 = 10 ∧ 3 = 0) by omega), ch_ob_ne (show ¬ (1 = 1 ∧ 3 = 4 + p_kn (ch_ob m 2 0)) by omega), ch_ob_ne (show ¬ (1 = 2 ∧ 3 = 0) by omega), c13]
    · rw [ch_ob_ne (show ¬ (1 = 9 ∧ 4 + i = 0) by omega), ch_wr_os, ch_ob_ne (show ¬ (1 = 10 ∧ 4 + i = 0) by omega)]
      by_cases e : i = p_kn (ch_ob m 2 0)
      · rw [if_pos e, e, ch_ob_os, cK]
      · rw [if_neg e, ch_ob_ne (show ¬ (1 = 1 ∧ 4 + i = 4 + p_kn (ch_ob m 2 0)) by omega), ch_ob_ne (show ¬ (1 = 2 ∧ 4 + i = 0) by omega), cK]
    · rw [ch_ob_ne (show ¬ (2 = 9 ∧ 0 = 0) by omega), ch_wr_os, ch_ob_ne (show ¬ (2 = 10 ∧ 0 = 0) by omega), ch_ob_ne (show ¬ (2 = 1 ∧ 0 = 4 + p_kn (ch_ob m 2 0)) by omega), ch_ob_os]
    · rw [ch_ob_ne (show ¬ (3 = 9 ∧ 0 = 0) by omega), ch_wr_os, ch_ob_ne (show ¬ (3 = 10 ∧ 0 = 0) by omega), ch_ob_ne (show ¬ (3 = 1 ∧ 0 = 4 + p_kn (ch_ob m 2 0)) by omega), ch_ob_ne (show ¬ (3 = 2 ∧ 0 = 0) by omega), b3, hR]
    · rw [ch_ob_ne (show ¬ (6 = 9 ∧ 0 = 0) by omega), ch_wr_os, ch_ob_ne (show ¬ (6 = 10 ∧ 0 = 0) by omega), ch_ob_ne (show ¬ (6 = 1 ∧ 0 = 4 + p_kn (ch_ob m 2 0)) by omega), ch_ob_ne (show ¬ (6 = 2 ∧ 0 = 0) by omega), b6]
    · rw [ch_ob_ne (show ¬ (6 = 9 ∧ 1 = 0) by omega), ch_wr_os, ch_ob_ne (show ¬ (6 = 10 ∧ 1 = 0) by omega), ch_ob_ne (show ¬ (6 = 1 ∧ 1 = 4 + p_kn (ch_ob m 2 0)) by omega), ch_ob_ne (show ¬ (6 = 2 ∧ 1 = 0) by omega), c61]
    · rw [ch_ob_os]
    · rw [ch_os_v (by omega), ch_wr_ne (by decide), ch_os_v (by omega), ch_os_v (by omega), b12]
    · rw [ch_os_v (by omega), ch_wr_ne (by decide), ch_os_v (by omega), ch_os_v (by omega), b13]
    · rw [ch_os_v (by omega), ch_wr_ne (by decide), ch_os_v (by omega), ch_os_v (by omega), b5]
  · have ef : ∀ a j, ¬ (a = 0 ∧ j = 0) → ¬ (a = 4 ∧ j = 0) → ¬ (a = 5 ∧ j = 0) → ¬ (a = 7 ∧ j = 0) → ¬ (a = 6 ∧ j = 0) → ch_ob (x_cl (x_f1 m)) a j = ch_ob m a j := fun a j h1 h2 h3 h4 h5 => by
      unfold x_cl
      rw [ch_wr_os, ch_ob_ne h5, x_f1_ob h1 h2 h3 h4]
    have e9 : ch_ob m2 9 0 = ch_ob m 9 0 := by rw [e2]; exact ef 9 0 (by omega) (by omega) (by omega) (by omega) (by omega)
    have e91 : m2 (9, 0, 1) = m (9, 0, 1) := congrFun e9 1
    have e90 : m2 (9, 0, 0) 4 = m (9, 0, 0) 4 := congrFun (congrFun e9 0) 4
    rw [e91, e90, e9]
    refine ⟨T, m, lw_r h, hi, hT9, hT0, h.2.2.2.1, lw_h4 h, hS, fun z2 => absurd z2.1 z, fun z2 B hc hs14 hB14 hB19 hsm m' e' => ?_, fun z2 => absurd z2.1 z⟩
    refine lw_f1 (by rw [e', ch_os_at]; exact hB19) (hn _ _ _ _ _ _ ?_ (by omega))
    obtain ⟨s1, s2, s3⟩ := hs14
    obtain ⟨r1, r2, r3⟩ := h.2.1
    obtain ⟨q1, q2, q3⟩ := hsm
    have hpast := lw_past_mono h.2.2.2.2.2.2.1 hT9 (show T ≤ T + 800 by omega) q2 q3
    have hI := lw_I_cm (Y' := ch_ob m 1 0) (R' := ch_ob m 3 0) (fp' := (x_F m).1) (s' := x_f1 m (5, 0, 0) 1) (B' := B) h hT9 (show T ≤ T + 800 by omega) (y_inv_mono hT9 hi (by omega)) (m_rel_cong (lw_r h) q1) ⟨r1.trans s1.symm, r2.trans s2.symm, r3.trans s3.symm⟩ hB14.symm hc hpast (x_f1_5 hS)
    rw [e', e2]
    refine lw_inv_mk hI ?_ ?_ (fun i => ?_) ?_ ?_ ?_ ?_ ?_ ?_ ?_ ?_
    · rw [ch_ob_ne (by omega), ef 1 0 (by omega) (by omega) (by omega) (by omega) (by omega)]
    · rw [ch_ob_ne (by omega), ef 1 3 (by omega) (by omega) (by omega) (by omega) (by omega)]
    · rw [ch_ob_ne (by omega), ef 1 (4 + i) (by omega) (by omega) (by omega) (by omega) (by omega)]
    · rw [ch_ob_ne (by omega), ef 2 0 (by omega) (by omega) (by omega) (by omega) (by omega)]
    · rw [ch_ob_ne (by omega), ef 3 0 (by omega) (by omega) (by omega) (by omega) (by omega)]
    · unfold x_cl
      rw [ch_ob_ne (by omega), ch_wr_os, ch_ob_os, x_f1_ob (by omega) (by omega) (by omega) (by omega)]
    · rw [ch_ob_ne (by omega), ef 6 1 (by omega) (by omega) (by omega) (by omega) (by omega)]
    · rw [ch_ob_os]
    · unfold x_cl
      rw [ch_os_v (by omega), ch_wr_ne (by decide), x_f1_0]
      rfl
    · unfold x_cl
      rw [ch_os_v (by omega), ch_wr_ne (by decide), x_f1_0]
      rfl
    · unfold x_cl
      rw [ch_os_v (by omega), ch_wr_ne (by decide)]
  · have e9 : ch_ob m2 9 0 = ch_ob m 9 0 := by rw [e2, ch_ob_ne (by omega), c9]
    have e91 : m2 (9, 0, 1) = m (9, 0, 1) := congrFun e9 1
    have e90 : m2 (9, 0, 0) 4 = m (9, 0, 0) 4 := congrFun (congrFun e9 0) 4
    rw [e91, e90, e9]
    refine ⟨T, m, lw_r h, hi, hT9, hT0, h.2.2.2.1, lw_h4 h, hS, fun z2 => absurd z.2 z2.2, fun z2 => absurd z.1 z2, fun z2 B hc hB14 hB19 hsm hrs m' e' => ?_⟩
    refine lw_f1 (by rw [e', ch_os_at]; exact hB19) (hn _ _ _ _ _ _ ?_ (by omega))
    obtain ⟨q1, q2, q3⟩ := hsm
    obtain ⟨t1, t2, t3⟩ := hrs
    rw [eR] at t1 t2 t3
    have hpast := lw_past_mono h.2.2.2.2.2.2.1 hT9 (show T ≤ T + 800 by omega) q2 q3
    have hI := lw_I_cm (Y' := y_cp (y_cp (ch_ob m 1 0) (ch_ob m 1 1)) Y') (R' := R') (fp' := (x_F m).1) (s' := S' 0 1) (B' := B) h hT9 (show T ≤ T + 800 by omega) (y_inv_mono hT9 (y_inv_cp _ ytb) (by omega)) (m_rel_cong (m_rel_cp _ ytb rtb) q1) ⟨t1.symm, t2.symm, t3.symm⟩ (by rw [hB14]; exact z.1) hc hpast fs
    rw [e', e2, b11, b10]
    refine lw_inv_mk hI ?_ ?_ (fun i => ?_) ?_ ?_ ?_ ?_ ?_ ?_ ?_ ?_
    · rw [ch_ob_ne (by omega), ch_ob_os]
    · rw [ch_ob_ne (show ¬ (1 = 9 ∧ 3 = 0) by omega), ch_ob_ne (by omega), c13]
    · rw [ch_ob_ne (show ¬ (1 = 9 ∧ 4 + i = 0) by omega), ch_ob_ne (by omega), cK]
    · rw [ch_ob_ne (show ¬ (2 = 9 ∧ 0 = 0) by omega), ch_ob_ne (by omega), c2]
    · rw [ch_ob_ne (show ¬ (3 = 9 ∧ 0 = 0) by omega), ch_ob_ne (by omega), b3]
    · rw [ch_ob_ne (show ¬ (6 = 9 ∧ 0 = 0) by omega), ch_ob_ne (by omega), b6]
    · rw [ch_ob_ne (show ¬ (6 = 9 ∧ 1 = 0) by omega), ch_ob_ne (by omega), c61]
    · rw [ch_ob_os]
    · rw [ch_os_v (by omega), ch_os_v (by omega), b12]
    · rw [ch_os_v (by omega), ch_os_v (by omega), b13]
    · rw [ch_os_v (by omega), ch_os_v (by omega), b5]
