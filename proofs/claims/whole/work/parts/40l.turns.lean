set_option maxHeartbeats 1600000 in
theorem lw_c1995 (g : ch_G) (R : Room) (E : ch_En) (k : Nat) (hR : ch_RR R 18) (hcs : k + 40 ≤ R.cells ∧ 6 * k + 240 ≤ R.slots) (x5 : Int32) (T : Nat) (hT : T + 800 < 2 ^ 30) (hT0 : 0 < T) (hx1 : vp_in (x5 + 1) (ch_scr g).2.1) (hx2 : vp_in (x5 + 2) (ch_scr g).2.1) (hx3 : vp_in (x5 + 3) (ch_scr g).2.1) (hn : lw_N g R E x5 k (T + 800)) (o6 o7 o8 o9 : Option ch_V) (m : ch_M) (h : lw_inv T m) : ch_J g m_l_law R E 1995 (lw_L x5 o6 o7 o8 o9) [] m k := by
  refine g_l_law_1995 g R E k hR hcs x5 o6 o7 o8 o9 m ?_
  have r4 := lw_h42 h
  refine ⟨lw_pn h, fun z m3 e3 => ?_, fun z => ?_⟩
  · have e9 : ch_ob m3 9 0 = ch_ob m 9 0 := lw_93g (by rw [ch_ob_ne (by omega), ch_ob_ne (by omega)]) e3
    have e90 : m3 (9, 0, 0) 4 = m (2, 0, 0) 2 := (congrFun (congrFun e9 0) 4).trans r4
    rw [e90, e9]
    refine ⟨by rw [← r4]; exact lw_h4 h, fun z2 m' e' => ?_, fun z2 => absurd z2 z⟩
    refine lw_f0 ?_ ?_ (hn _ _ _ _ _ _ (lw_inv_mono (T := T) ?_ (by omega) (by omega)) (by omega))
    · rw [e', ch_os_at]
      unfold m_unB m_unK
      rw [if_pos ⟨rfl, rfl⟩]
    · rw [e', e3, ch_os_v (by omega), ch_wr_v]
    · rw [e', e3, ch_wr_os]
      refine lw_inv_mk (lw_I_undo h z) ?_ ?_ (fun i => ?_) ?_ ?_ ?_ ?_ ?_ ?_ ?_ ?_
      · rw [ch_ob_ne (show ¬ (1 = 9 ∧ 0 = 0) by omega), ch_ob_ne (show ¬ (1 = 10 ∧ 0 = 0) by omega), ch_ob_ne (show ¬ (1 = 2 ∧ 0 = 0) by omega), ch_ob_os]
        try rfl
      · rw [ch_ob_ne (show ¬ (1 = 9 ∧ 3 = 0) by omega), ch_ob_ne (show ¬ (1 = 10 ∧ 3 = 0) by omega), ch_ob_ne (show ¬ (1 = 2 ∧ 3 = 0) by omega), ch_ob_ne (show ¬ (1 = 1 ∧ 3 = 0) by omega)]
      · rw [ch_ob_ne (show ¬ (1 = 9 ∧ 4 + i = 0) by omega), ch_ob_ne (show ¬ (1 = 10 ∧ 4 + i = 0) by omega), ch_ob_ne (show ¬ (1 = 2 ∧ 4 + i = 0) by omega), ch_ob_ne (show ¬ (1 = 1 ∧ 4 + i = 0) by omega)]
      · rw [ch_ob_ne (show ¬ (2 = 9 ∧ 0 = 0) by omega), ch_ob_ne (show ¬ (2 = 10 ∧ 0 = 0) by omega), ch_ob_os]
      · rw [ch_ob_ne (show ¬ (3 = 9 ∧ 0 = 0) by omega), ch_ob_ne (show ¬ (3 = 10 ∧ 0 = 0) by omega), ch_ob_ne (show ¬ (3 = 2 ∧ 0 = 0) by omega), ch_ob_ne (show ¬ (3 = 1 ∧ 0 = 0) by omega)]
      · rw [ch_ob_ne (show ¬ (6 = 9 ∧ 0 = 0) by omega), ch_ob_ne (show ¬ (6 = 10 ∧ 0 = 0) by omega), ch_ob_ne (show ¬ (6 = 2 ∧ 0 = 0) by omega), ch_ob_ne (show ¬ (6 = 1 ∧ 0 = 0) by omega)]
      · rw [ch_ob_ne (show ¬ (6 = 9 ∧ 1 = 0) by omega), ch_ob_ne (show ¬ (6 = 10 ∧ 1 = 0) by omega), ch_ob_ne (show ¬ (6 = 2 ∧ 1 = 0) by omega), ch_ob_ne (show ¬ (6 = 1 ∧ 1 = 0) by omega)]
      · rw [ch_ob_os]
      · rw [ch_os_v (by omega), ch_os_v (by omega), ch_os_v (by omega), ch_os_v (by omega)]
      · rw [ch_os_v (by omega), ch_os_v (by omega), ch_os_v (by omega), ch_os_v (by omega)]
      · rw [ch_os_v (by omega), ch_os_v (by omega), ch_os_v (by omega), ch_os_v (by omega)]
  · have e90 : m (9, 0, 0) 4 = 0 := r4.trans z
    exact ⟨lw_h4 h, fun z2 => absurd e90 z2, fun z2 m' e' => lw_q1 h hT hn e' (by omega)⟩
set_option maxHeartbeats 1600000 in
theorem lw_c2039 (g : ch_G) (R : Room) (E : ch_En) (k : Nat) (hR : ch_RR R 18) (hcs : k + 40 ≤ R.cells ∧ 6 * k + 240 ≤ R.slots) (x5 : Int32) (T : Nat) (hT : T + 800 < 2 ^ 30) (hT0 : 0 < T) (hx1 : vp_in (x5 + 1) (ch_scr g).2.1) (hx2 : vp_in (x5 + 2) (ch_scr g).2.1) (hx3 : vp_in (x5 + 3) (ch_scr g).2.1) (hn : lw_N g R E x5 k (T + 800)) (o6 o7 o8 o9 : Option ch_V) (m : ch_M) (h : lw_inv T m) : ch_J g m_l_law R E 2039 (lw_L x5 o6 o7 o8 o9) [] m k := by
  refine g_l_law_2039 g R E k hR hcs x5 o6 o7 o8 o9 m ?_
  intro m3 e3 m' e'
  have e9 : ch_ob m3 9 0 = ch_ob m 9 0 := by rw [e3, lw_9_wr _ _ (by omega), ch_ob_ne (by omega)]
  have e91 : m3 (9, 0, 1) = m (9, 0, 1) := congrFun e9 1
  refine lw_f1 (by rw [e91]; exact (m_co (lw_r h)).symm) (hn _ _ _ _ _ _ (lw_inv_mono (T := T) ?_ (by omega) (by omega)) (by omega))
  rw [e', e9, e3]
  have hs := lw_I_save h
  refine lw_inv_mk hs ?_ ?_ (fun i => ?_) ?_ ?_ ?_ ?_ ?_ ?_ ?_ ?_
  · rw [ch_wr_os, ch_ob_ne (show ¬ (1 = 9 ∧ 0 = 0) by omega), ch_ob_ne (show ¬ (1 = 0 ∧ 0 = 0) by omega), ch_ob_ne (by omega)]
  · rw [ch_wr_os, ch_ob_ne (show ¬ (1 = 9 ∧ 3 = 0) by omega), ch_ob_ne (show ¬ (1 = 0 ∧ 3 = 0) by omega), ch_ob_os]
  · rw [ch_wr_os, ch_ob_ne (show ¬ (1 = 9 ∧ 4 + i = 0) by omega), ch_ob_ne (show ¬ (1 = 0 ∧ 4 + i = 0) by omega), ch_ob_ne (by omega)]
  · rw [ch_wr_os, ch_ob_ne (show ¬ (2 = 9 ∧ 0 = 0) by omega), ch_ob_ne (show ¬ (2 = 0 ∧ 0 = 0) by omega), ch_ob_ne (by omega)]
  · rw [ch_wr_os, ch_ob_ne (show ¬ (3 = 9 ∧ 0 = 0) by omega), ch_ob_ne (show ¬ (3 = 0 ∧ 0 = 0) by omega), ch_ob_ne (by omega)]
  · rw [ch_wr_os, ch_ob_ne (show ¬ (6 = 9 ∧ 0 = 0) by omega), ch_ob_ne (show ¬ (6 = 0 ∧ 0 = 0) by omega), ch_ob_ne (by omega)]
  · rw [ch_wr_os, ch_ob_ne (show ¬ (6 = 9 ∧ 1 = 0) by omega), ch_ob_ne (show ¬ (6 = 0 ∧ 1 = 0) by omega), ch_ob_ne (by omega)]
  · rw [ch_ob_os]
  · rw [ch_os_v (by omega), ch_wr_v]
  · rw [ch_os_v (by omega), ch_wr_k (by decide), ch_os_v (by omega)]
  · rw [ch_os_v (by omega), ch_wr_ne (by decide), ch_os_v (by omega)]
set_option maxHeartbeats 1600000 in
theorem lw_c2052 (g : ch_G) (R : Room) (E : ch_En) (k : Nat) (hR : ch_RR R 18) (hcs : k + 40 ≤ R.cells ∧ 6 * k + 240 ≤ R.slots) (x5 : Int32) (T : Nat) (hT : T + 800 < 2 ^ 30) (hT0 : 0 < T) (hx1 : vp_in (x5 + 1) (ch_scr g).2.1) (hx2 : vp_in (x5 + 2) (ch_scr g).2.1) (hx3 : vp_in (x5 + 3) (ch_scr g).2.1) (hn : lw_N g R E x5 k (T + 800)) (o6 o7 o8 o9 : Option ch_V) (m : ch_M) (h : lw_inv T m) : ch_J g m_l_law R E 2052 (lw_L x5 o6 o7 o8 o9) [] m k := by
  refine g_l_law_2052 g R E k hR hcs x5 o6 o7 o8 o9 m ?_
  have r6 : m (0, 0, 0) 12 = m (9, 0, 0) 6 := h.2.2.2.2.2.1.1
  refine ⟨fun z m3 e3 => ?_, fun z => ?_⟩
  · have e9 : ch_ob m3 9 0 = ch_ob m 9 0 := lw_93g (by rw [ch_wr_os, ch_ob_ne (by omega), ch_ob_ne (by omega)]) e3
    have e90 : m3 (9, 0, 0) 6 = m (0, 0, 0) 12 := (congrFun (congrFun e9 0) 6).trans r6.symm
    have e95 : m3 (9, 0, 5) = m (9, 0, 5) := congrFun e9 5
    rw [e90, e9, e95]
    refine ⟨fun z2 m' e' => ?_, fun z2 => absurd z2 z⟩
    refine lw_f0 ?_ ?_ (hn _ _ _ _ _ _ (lw_inv_mono (T := T) ?_ (by omega) (by omega)) (by omega))
    · rw [e', ch_os_at]
      unfold m_rsB
      rw [ch_bw_k (by decide)]
      unfold m_rsK
      rw [if_pos ⟨rfl, rfl⟩]
    · rw [e', e3, ch_os_v (by omega), ch_wr_v]
      exact (m_co (h.2.2.2.2.2.1.2 z).2).symm
    · have eP : ch_ob (ch_os m 1 0 (y_cp (ch_ob m 1 3) (ch_ob m 1 0))) 2 0 = ch_ob m 2 0 := ch_ob_ne (by omega)
      rw [e', e3, ch_wr_os, ch_wr_os _ 2 0, eP]
      refine lw_inv_mk (lw_I_rest h z) ?_ ?_ (fun i => ?_) ?_ ?_ ?_ ?_ ?_ ?_ ?_ ?_
      · rw [ch_ob_ne (show ¬ (1 = 9 ∧ 0 = 0) by omega), ch_ob_ne (show ¬ (1 = 10 ∧ 0 = 0) by omega), ch_ob_ne (show ¬ (1 = 2 ∧ 0 = 0) by omega), ch_ob_os]
        try rfl
      · rw [ch_ob_ne (show ¬ (1 = 9 ∧ 3 = 0) by omega), ch_ob_ne (show ¬ (1 = 10 ∧ 3 = 0) by omega), ch_ob_ne (show ¬ (1 = 2 ∧ 3 = 0) by omega), ch_ob_ne (show ¬ (1 = 1 ∧ 3 = 0) by omega)]
      · rw [ch_ob_ne (show ¬ (1 = 9 ∧ 4 + i = 0) by omega), ch_ob_ne (show ¬ (1 = 10 ∧ 4 + i = 0) by omega), ch_ob_ne (show ¬ (1 = 2 ∧ 4 + i = 0) by omega), ch_ob_ne (show ¬ (1 = 1 ∧ 4 + i = 0) by omega)]
      · rw [ch_ob_ne (show ¬ (2 = 9 ∧ 0 = 0) by omega), ch_ob_ne (show ¬ (2 = 10 ∧ 0 = 0) by omega), ch_ob_os]
      · rw [ch_ob_ne (show ¬ (3 = 9 ∧ 0 = 0) by omega), ch_ob_ne (show ¬ (3 = 10 ∧ 0 = 0) by omega), ch_ob_ne (show ¬ (3 = 2 ∧ 0 = 0) by omega), ch_ob_ne (show ¬ (3 = 1 ∧ 0 = 0) by omega)]
      · rw [ch_ob_ne (show ¬ (6 = 9 ∧ 0 = 0) by omega), ch_ob_ne (show ¬ (6 = 10 ∧ 0 = 0) by omega), ch_ob_ne (show ¬ (6 = 2 ∧ 0 = 0) by omega), ch_ob_ne (show ¬ (6 = 1 ∧ 0 = 0) by omega)]
      · rw [ch_ob_ne (show ¬ (6 = 9 ∧ 1 = 0) by omega), ch_ob_ne (show ¬ (6 = 10 ∧ 1 = 0) by omega), ch_ob_ne (show ¬ (6 = 2 ∧ 1 = 0) by omega), ch_ob_ne (show ¬ (6 = 1 ∧ 1 = 0) by omega)]
      · rw [ch_ob_os]
      · rw [ch_os_v (by omega), ch_os_v (by omega), ch_os_v (by omega), ch_os_v (by omega)]
      · rw [ch_os_v (by omega), ch_os_v (by omega), ch_os_v (by omega), ch_os_v (by omega)]
      · rw [ch_os_v (by omega), ch_os_v (by omega), ch_os_v (by omega), ch_os_v (by omega)]
  · have e90 : m (9, 0, 0) 6 = 0 := r6.symm.trans z
    exact ⟨fun z2 => absurd e90 z2, fun z2 m' e' => lw_q1 h hT hn e' (by omega)⟩
