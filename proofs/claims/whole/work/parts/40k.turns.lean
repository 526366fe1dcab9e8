set_option maxHeartbeats 1600000 in
theorem lw_c1749 (g : ch_G) (R : Room) (E : ch_En) (k : Nat) (hR : ch_RR R 18) (hcs : k + 40 ≤ R.cells ∧ 6 * k + 240 ≤ R.slots) (x5 : Int32) (T : Nat) (hT : T + 800 < 2 ^ 30) (hT0 : 0 < T) (hx1 : vp_in (x5 + 1) (ch_scr g).2.1) (hx2 : vp_in (x5 + 2) (ch_scr g).2.1) (hx3 : vp_in (x5 + 3) (ch_scr g).2.1) (hn : lw_N g R E x5 k (T + 800)) (o6 o7 o8 o9 : Option ch_V) (m : ch_M) (h : lw_inv T m) : ch_J g m_l_law R E 1749 (lw_L x5 o6 o7 o8 o9) [] m k := by
  refine g_l_law_1749 g R E k hR hcs x5 o6 o7 o8 o9 m ?_
  have w4 := h.2.2.2.2.1.2.2.2
  intro m3 e3
  have e9 : ch_ob m3 9 0 = ch_ob m 9 0 := by rw [e3, ch_ob_ne (by omega)]
  have e91 : m3 (9, 0, 1) = m (9, 0, 1) := congrFun e9 1
  rw [e91, e9]
  exact ⟨ch_ob m 1 0, ch_ob m 6 1, lw_r h, y_iow (lw_y h), fun B f f19 f8 f6 m' e' => lw_f1 rfl (hn _ _ _ _ _ _ (by rw [e', e3]; exact lw_inv_mono (lw_inv_wr h f (x_ln_n _ _ _) f8 f6 (lw_lnn w4 _)) (by omega) (by omega)) (by omega))⟩
set_option maxHeartbeats 1600000 in
theorem lw_c1762 (g : ch_G) (R : Room) (E : ch_En) (k : Nat) (hR : ch_RR R 18) (hcs : k + 40 ≤ R.cells ∧ 6 * k + 240 ≤ R.slots) (x5 : Int32) (T : Nat) (hT : T + 800 < 2 ^ 30) (hT0 : 0 < T) (hx1 : vp_in (x5 + 1) (ch_scr g).2.1) (hx2 : vp_in (x5 + 2) (ch_scr g).2.1) (hx3 : vp_in (x5 + 3) (ch_scr g).2.1) (hn : lw_N g R E x5 k (T + 800)) (o6 o7 o8 o9 : Option ch_V) (m : ch_M) (h : lw_inv T m) : ch_J g m_l_law R E 1762 (lw_L x5 o6 o7 o8 o9) [] m k := by
  refine g_l_law_1762 g R E k hR hcs x5 o6 o7 o8 o9 m ?_
  have w4 := h.2.2.2.2.1.2.2.2
  refine ⟨y_i9 (lw_y h), y_i8k (lw_y h), fun m3 e3 => ?_⟩
  have e9 : ch_ob m3 9 0 = ch_ob m 9 0 := by rw [e3, ch_ob_ne (by omega)]
  have e91 : m3 (9, 0, 1) = m (9, 0, 1) := congrFun e9 1
  rw [e91, e9]
  exact ⟨ch_ob m 1 0, ch_ob m 6 1, lw_r h, y_i9 (lw_y h), y_i8k (lw_y h), fun B f f19 f8 f6 m' e' => lw_f1 rfl (hn _ _ _ _ _ _ (by rw [e', e3]; exact lw_inv_mono (lw_inv_wr h f (x_wn_n _ _ _) f8 f6 (lw_wnn w4 _)) (by omega) (by omega)) (by omega))⟩
set_option maxHeartbeats 1600000 in
theorem lw_c1578 (g : ch_G) (R : Room) (E : ch_En) (k : Nat) (hR : ch_RR R 18) (hcs : k + 40 ≤ R.cells ∧ 6 * k + 240 ≤ R.slots) (x5 : Int32) (T : Nat) (hT : T + 800 < 2 ^ 30) (hT0 : 0 < T) (hx1 : vp_in (x5 + 1) (ch_scr g).2.1) (hx2 : vp_in (x5 + 2) (ch_scr g).2.1) (hx3 : vp_in (x5 + 3) (ch_scr g).2.1) (hn : lw_N g R E x5 k (T + 800)) (o6 o7 o8 o9 : Option ch_V) (m : ch_M) (h : lw_inv T m) : ch_J g m_l_law R E 1578 (lw_L x5 o6 o7 o8 o9) [] m k := by
  refine g_l_law_1578 g R E k hR hcs x5 o6 o7 o8 o9 m ?_
  generalize (ch_scr g).2.2 (Int32.toNatClampNeg (x5 + 1)) = a1
  obtain ⟨x1, x2, x3⟩ := h.2.2.2.1
  have x2' : m (9, 0, 0) 10 = m (6, 0, 0) 1 := x2
  have x1' : vp_in (m (6, 0, 0) 1) 61 := x1
  obtain ⟨L, hL, eL⟩ := vp_in_of x1' (by decide)
  have eL1 : ch_ob m 6 0 0 1 = nI L := eL
  have e10 : ch_ob m 9 0 0 10 = nI L := x2'.trans eL
  generalize (Int32.toUInt32 a1 % 65536).toInt32 = c
  refine ⟨hx1, x1, fun z m3 e3 => ?_, fun z => ?_⟩
  · have e9 : ch_ob m3 9 0 = ch_ob m 9 0 := lw_93g (ch_ob_ne (by omega)) e3
    have e90 : m3 (9, 0, 0) 10 = nI L := (congrFun (congrFun e9 0) 10).trans e10
    rw [e90]
    rw [eL] at z e3
    have hl : L < 60 := by
      by_cases y : L < 60
      · exact y
      · exact absurd z (nI_nlt (a := L) (b := 60) (by omega) (by omega))
    refine ⟨vp_in_nI hL (by decide), fun z2 m' e' => ?_, fun z2 => absurd ((nI_eq (b := 60) (by omega) (by decide)).mp z2) (by omega)⟩
    have eB : m' = ch_os m3 9 0 (ch_bw (ch_bw (ch_bw (ch_ob m 9 0) 0 19 0) 0 10 (nI L + 1)) 7 L (vp_nar .char c)) := by
      rw [e', ch_wr_os m3, ch_os_wr, ch_os_wr, e9, nI_clamp (by omega)]
    refine lw_f0 ?_ ?_ (hn _ _ _ _ _ _ (lw_inv_mono (T := T) ?_ (by omega) (by omega)) (by omega))
    · rw [eB, ch_os_at, ch_bw_c (by decide), ch_bw_k (by decide), ch_bw_at]
    · rw [eB, e3, ch_os_v (by omega), ch_wr_v]
    · have eX : t_putB (ch_ob m 6 0) c = ch_bw (ch_bw (ch_ob m 6 0) 1 L (vp_nar .char c)) 0 1 (nI L + 1) := by
        unfold t_putB
        rw [eL1, if_neg (show ¬ (60 : Int32) ≤ nI L from nI_ge (b := 60) hl (by decide)), nI_clamp (by omega)]
      have cL1 : (nI L + 1).toNatClampNeg = L + 1 := by rw [nI_1, nI_clamp (by omega)]
      obtain ⟨w1, w2, w3, w4⟩ := h.2.2.2.2.1
      rw [eB, e3, eX, ch_wr_os]
      refine lw_inv_mk (lw_I_bx (X' := ch_bw (ch_bw (ch_ob m 6 0) 1 L (vp_nar .char c)) 0 1 (nI L + 1)) (W' := ch_ob m 6 1) (B' := ch_bw (ch_bw (ch_bw (ch_ob m 9 0) 0 19 0) 0 10 (nI L + 1)) 7 L (vp_nar .char c)) h (fun i _ => by rw [ch_bw_c (by decide), ch_bw_c (by decide), ch_bw_c (by decide)]) (fun a i ha => by rw [ch_bw_c (by omega), ch_bw_c (by omega), ch_bw_c (by omega)]) (fun i hi => by rw [ch_bw_c (by decide), ch_bw_k (by omega), ch_bw_k (by omega)]) ⟨?_, ?_, fun k hk => ?_⟩ ⟨w1, ?_, fun i hi => ?_, w4⟩) ?_ ?_ (fun i => ?_) ?_ ?_ ?_ ?_ ?_ ?_ ?_ ?_
      · rw [ch_bw_at, nI_1]
        exact vp_in_nI (by omega) (by decide)
      · rw [ch_bw_at, ch_bw_c (by decide), ch_bw_at]
      · rw [ch_bw_at, cL1] at hk
        rw [ch_bw_c (show (1 : Nat) ≠ 0 by decide)]
        by_cases y : k = L
        · rw [y, ch_bw_at, ch_bw_at]
        · rw [ch_bw_k y, ch_bw_k y, ch_bw_c (by decide), ch_bw_c (by decide)]
          exact x3 k (by rw [eL1, nI_clamp (by omega)]; omega)
      · rw [ch_bw_c (by decide), ch_bw_k (by decide), ch_bw_k (by decide)]
        exact w2
      · rw [ch_bw_c (by decide), ch_bw_c (by decide), ch_bw_c (by decide)]
        exact w3 i hi
      · rw [ch_ob_ne (show ¬ (1 = 9 ∧ 0 = 0) by omega), ch_ob_ne (show ¬ (1 = 10 ∧ 0 = 0) by omega), ch_ob_ne (by omega)]
      · rw [ch_ob_ne (show ¬ (1 = 9 ∧ 3 = 0) by omega), ch_ob_ne (show ¬ (1 = 10 ∧ 3 = 0) by omega), ch_ob_ne (by omega)]
      · rw [ch_ob_ne (show ¬ (1 = 9 ∧ 4 + i = 0) by omega), ch_ob_ne (show ¬ (1 = 10 ∧ 4 + i = 0) by omega), ch_ob_ne (by omega)]
      · rw [ch_ob_ne (show ¬ (2 = 9 ∧ 0 = 0) by omega), ch_ob_ne (show ¬ (2 = 10 ∧ 0 = 0) by omega), ch_ob_ne (by omega)]
      · rw [ch_ob_ne (show ¬ (3 = 9 ∧ 0 = 0) by omega), ch_ob_ne (show ¬ (3 = 10 ∧ 0 = 0) by omega), ch_ob_ne (by omega)]
      · rw [ch_ob_ne (show ¬ (6 = 9 ∧ 0 = 0) by omega), ch_ob_ne (show ¬ (6 = 10 ∧ 0 = 0) by omega), ch_ob_os]
      · rw [ch_ob_ne (show ¬ (6 = 9 ∧ 1 = 0) by omega), ch_ob_ne (show ¬ (6 = 10 ∧ 1 = 0) by omega), ch_ob_ne (by omega)]
      · rw [ch_ob_os]
      · rw [ch_os_v (by omega), ch_os_v (by omega), ch_os_v (by omega)]
      · rw [ch_os_v (by omega), ch_os_v (by omega), ch_os_v (by omega)]
      · rw [ch_os_v (by omega), ch_os_v (by omega), ch_os_v (by omega)]
  · have e90 : m (9, 0, 0) 10 = nI L := e10
    rw [eL] at z
    have hl : L = 60 := by
      by_cases y : L < 60
      · exact absurd (nI_lt (b := 60) y (by decide)) z
      · omega
    rw [e90, hl]
    exact ⟨vp_in_nI (by decide) (by decide), fun z2 => absurd rfl z2, fun z2 m' e' => lw_q1 h hT hn e' (by omega)⟩
