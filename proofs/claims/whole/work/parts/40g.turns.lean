set_option maxHeartbeats 1600000 in
theorem lw_c692 (g : ch_G) (R : Room) (E : ch_En) (k : Nat) (hR : ch_RR R 18) (hcs : k + 40 ≤ R.cells ∧ 6 * k + 240 ≤ R.slots) (x5 : Int32) (T : Nat) (hT : T + 800 < 2 ^ 30) (hT0 : 0 < T) (hx1 : vp_in (x5 + 1) (ch_scr g).2.1) (hx2 : vp_in (x5 + 2) (ch_scr g).2.1) (hx3 : vp_in (x5 + 3) (ch_scr g).2.1) (hn : lw_N g R E x5 k (T + 800)) (o6 o7 o8 o9 : Option ch_V) (m : ch_M) (h : lw_inv T m) : ch_J g m_l_law R E 692 (lw_L x5 o6 o7 o8 o9) [] m k := by
  refine g_l_law_692 g R E k hR hcs x5 o6 o7 o8 o9 m ?_
  generalize (ch_scr g).2.2 (Int32.toNatClampNeg (x5 + 1)) = a1
  generalize (ch_scr g).2.2 (Int32.toNatClampNeg (x5 + 2)) = a2
  have c11 : (0 ≤ a1 ∧ a1 < 12) ↔ (0 ≤ a1 ∧ a1 ≤ 11) := ⟨fun z => ⟨z.1, by have := z.2; grind⟩, fun z => ⟨z.1, by have := z.2; grind⟩⟩
  exact ⟨hx1, hx2, fun y => ⟨fun z m4 e4 => ⟨fun _ => ⟨ch_ob m 1 0, lw_rr3 h e4, fun z2 m' e' => lw_q0 h hT hn e4 e' rfl (by omega), fun z2 => absurd (c11.mp z) z2⟩, fun y2 => absurd y y2⟩, fun z => ⟨fun _ => ⟨ch_ob m 1 0, lw_r h, fun z2 => absurd (c11.mpr z2) z, fun z2 m' e' => lw_q1 h hT hn e' (by omega)⟩, fun y2 => absurd y y2⟩⟩, fun y => ⟨fun z m4 e4 => ⟨fun y2 => absurd y2 y, fun _ => ⟨ch_ob m 1 0, lw_rr3 h e4, fun z2 m' e' => lw_q0 h hT hn e4 e' rfl (by omega), fun z2 => absurd (c11.mp z) z2⟩⟩, fun z => ⟨fun y2 => absurd y2 y, fun _ => ⟨ch_ob m 1 0, lw_r h, fun z2 => absurd (c11.mpr z2) z, fun z2 m' e' => lw_q1 h hT hn e' (by omega)⟩⟩⟩⟩
set_option maxHeartbeats 1600000 in
theorem lw_c1693 (g : ch_G) (R : Room) (E : ch_En) (k : Nat) (hR : ch_RR R 18) (hcs : k + 40 ≤ R.cells ∧ 6 * k + 240 ≤ R.slots) (x5 : Int32) (T : Nat) (hT : T + 800 < 2 ^ 30) (hT0 : 0 < T) (hx1 : vp_in (x5 + 1) (ch_scr g).2.1) (hx2 : vp_in (x5 + 2) (ch_scr g).2.1) (hx3 : vp_in (x5 + 3) (ch_scr g).2.1) (hn : lw_N g R E x5 k (T + 800)) (o6 o7 o8 o9 : Option ch_V) (m : ch_M) (h : lw_inv T m) : ch_J g m_l_law R E 1693 (lw_L x5 o6 o7 o8 o9) [] m k := by
  refine g_l_law_1693 g R E k hR hcs x5 o6 o7 o8 o9 m ?_
  generalize (ch_scr g).2.2 (Int32.toNatClampNeg (x5 + 1)) = a1
  have r0 : m (9, 0, 0) 15 = m (3, 0, 0) 0 := h.2.1.1.symm
  have r1 : m (9, 0, 0) 16 = m (3, 0, 0) 1 := h.2.1.2.1.symm
  have r2 : m (9, 0, 0) 17 = m (3, 0, 0) 2 := h.2.1.2.2.symm
  refine ⟨hx1, fun z m3 e3 => ?_, fun z => ?_, fun z => ?_⟩
  · have e90 := lw_93 e3 0
    simp only [e90, r0, r1, r2]
    exact ⟨fun z2 m' e' => lw_q0 h hT hn e3 e' rfl (by omega), fun z2 => (by first | exact absurd z z2 | exact absurd z2 z | exact absurd z.1 z2 | exact absurd z2.1 z | exact absurd z.2 z2.2 | exact absurd z2.2 z.2), fun z2 => (by first | exact absurd z z2 | exact absurd z2 z | exact absurd z.1 z2 | exact absurd z2.1 z | exact absurd z.2 z2.2 | exact absurd z2.2 z.2)⟩
  · simp only [r0, r1, r2]
    exact ⟨fun z2 => (by first | exact absurd z z2 | exact absurd z2 z | exact absurd z.1 z2 | exact absurd z2.1 z | exact absurd z.2 z2.2 | exact absurd z2.2 z.2), fun z2 m' e' => lw_q1 h hT hn e' (by omega), fun z2 => (by first | exact absurd z z2 | exact absurd z2 z | exact absurd z.1 z2 | exact absurd z2.1 z | exact absurd z.2 z2.2 | exact absurd z2.2 z.2)⟩
  · simp only [r0, r1, r2]
    exact ⟨fun z2 => (by first | exact absurd z z2 | exact absurd z2 z | exact absurd z.1 z2 | exact absurd z2.1 z | exact absurd z.2 z2.2 | exact absurd z2.2 z.2), fun z2 => (by first | exact absurd z z2 | exact absurd z2 z | exact absurd z.1 z2 | exact absurd z2.1 z | exact absurd z.2 z2.2 | exact absurd z2.2 z.2), fun z2 m' e' => lw_q1 h hT hn e' (by omega)⟩
set_option maxHeartbeats 1600000 in
theorem lw_c1775 (g : ch_G) (R : Room) (E : ch_En) (k : Nat) (hR : ch_RR R 18) (hcs : k + 40 ≤ R.cells ∧ 6 * k + 240 ≤ R.slots) (x5 : Int32) (T : Nat) (hT : T + 800 < 2 ^ 30) (hT0 : 0 < T) (hx1 : vp_in (x5 + 1) (ch_scr g).2.1) (hx2 : vp_in (x5 + 2) (ch_scr g).2.1) (hx3 : vp_in (x5 + 3) (ch_scr g).2.1) (hn : lw_N g R E x5 k (T + 800)) (o6 o7 o8 o9 : Option ch_V) (m : ch_M) (h : lw_inv T m) : ch_J g m_l_law R E 1775 (lw_L x5 o6 o7 o8 o9) [] m k := by
  refine g_l_law_1775 g R E k hR hcs x5 o6 o7 o8 o9 m ?_
  generalize (ch_scr g).2.2 (Int32.toNatClampNeg (x5 + 1)) = a1
  obtain ⟨w1, w2, w3, w4⟩ := h.2.2.2.2.1
  have r8 : m (9, 0, 0) 8 = m (6, 1, 0) 1 := w2.symm
  have w1' : vp_in (m (6, 1, 0) 1) 61 := w1
  obtain ⟨L, hL, eL⟩ := vp_in_of w1' (by decide)
  have cL : (m (6, 1, 0) 1).toNatClampNeg = L := by rw [eL, nI_clamp (by omega)]
  have w3' : ∀ i, i < L → m (9, 0, 6) i = m (6, 1, 1) i := fun i hi => w3 i (by show i < (m (6, 1, 0) 1).toNatClampNeg; omega)
  have w5 : ∀ i, i < (m (6, 1, 0) 1).toNatClampNeg → narrow .char (.int (m (9, 0, 6) i)) = .int (m (9, 0, 6) i) := fun i hi => by
    rw [w3' i (by omega)]
    exact w4 i (by omega)
  refine ⟨hx1, w1, w4, fun z m3 e3 => ?_, fun z => ?_⟩
  · have e90 := lw_93 e3 0
    have e96 := lw_93 e3 6
    simp only [e90, e96, r8]
    refine ⟨w1, w5, fun z2 m' e' => lw_q0 h hT hn e3 e' ?_ (by omega), fun z2 => absurd z z2⟩
    rw [eL] at z
    obtain ⟨j, hj, ej⟩ := vp_in_of (ch_vp (x := a1) (n := L) (by omega) (by have := z.1; grind) (by have := z.2; grind)) (by omega)
    rw [ej, nI_clamp (by omega)]
    exact (w3' j hj).symm
  · simp only [r8]
    exact ⟨w1, w5, fun z2 => absurd z2 z, fun z2 m' e' => lw_q1 h hT hn e' (by omega)⟩
set_option maxHeartbeats 1600000 in
theorem lw_c1939 (g : ch_G) (R : Room) (E : ch_En) (k : Nat) (hR : ch_RR R 18) (hcs : k + 40 ≤ R.cells ∧ 6 * k + 240 ≤ R.slots) (x5 : Int32) (T : Nat) (hT : T + 800 < 2 ^ 30) (hT0 : 0 < T) (hx1 : vp_in (x5 + 1) (ch_scr g).2.1) (hx2 : vp_in (x5 + 2) (ch_scr g).2.1) (hx3 : vp_in (x5 + 3) (ch_scr g).2.1) (hn : lw_N g R E x5 k (T + 800)) (o6 o7 o8 o9 : Option ch_V) (m : ch_M) (h : lw_inv T m) : ch_J g m_l_law R E 1939 (lw_L x5 o6 o7 o8 o9) [] m k := by
  refine g_l_law_1939 g R E k hR hcs x5 o6 o7 o8 o9 m ?_
  generalize (ch_scr g).2.2 (Int32.toNatClampNeg (x5 + 1)) = a1
  have r4 : m (9, 0, 0) 4 = m (2, 0, 0) 2 := lw_h42 h
  have r10 : m (9, 0, 0) 10 = m (6, 0, 0) 1 := h.2.2.2.1.2.1
  refine ⟨hx1, y_i8 (lw_y h), fun z m3 e3 => ?_, fun z => ?_⟩
  · refine ⟨ch_ob m 1 0, lw_rr3 h e3, y_i8 (lw_y h), y_iow (lw_y h), ?_⟩
    have e90 := lw_93 e3 0
    simp only [e90, r4, r10]
    exact ⟨fun z2 m' e' => lw_q0 h hT hn e3 e' rfl (by omega), fun z2 => absurd z z2⟩
  · exact ⟨ch_ob m 1 0, lw_r h, y_i8 (lw_y h), y_iow (lw_y h), fun z2 => absurd z2 z, fun z2 m' e' => lw_q1 h hT hn e' (by omega)⟩
set_option maxHeartbeats 1600000 in
theorem lw_c1896 (g : ch_G) (R : Room) (E : ch_En) (k : Nat) (hR : ch_RR R 18) (hcs : k + 40 ≤ R.cells ∧ 6 * k + 240 ≤ R.slots) (x5 : Int32) (T : Nat) (hT : T + 800 < 2 ^ 30) (hT0 : 0 < T) (hx1 : vp_in (x5 + 1) (ch_scr g).2.1) (hx2 : vp_in (x5 + 2) (ch_scr g).2.1) (hx3 : vp_in (x5 + 3) (ch_scr g).2.1) (hn : lw_N g R E x5 k (T + 800)) (o6 o7 o8 o9 : Option ch_V) (m : ch_M) (h : lw_inv T m) : ch_J g m_l_law R E 1896 (lw_L x5 o6 o7 o8 o9) [] m k := by
  refine g_l_law_1896 g R E k hR hcs x5 o6 o7 o8 o9 m ?_
  obtain ⟨f1, f2⟩ := y_flo_eq (ch_ob m 1 0)
  exact ⟨f1, ch_ob m 1 0, lw_r h, y_iow (lw_y h), fun m6 e6 => ⟨f1, fun _ => hn _ _ _ _ _ _ (by rw [e6]; exact lw_inv_mono (lw_inv_t h _) (by omega) (by omega)) (by omega), fun z => absurd f2 z⟩⟩
set_option maxHeartbeats 1600000 in
theorem lw_c1831 (g : ch_G) (R : Room) (E : ch_En) (k : Nat) (hR : ch_RR R 18) (hcs : k + 40 ≤ R.cells ∧ 6 * k + 240 ≤ R.slots) (x5 : Int32) (T : Nat) (hT : T + 800 < 2 ^ 30) (hT0 : 0 < T) (hx1 : vp_in (x5 + 1) (ch_scr g).2.1) (hx2 : vp_in (x5 + 2) (ch_scr g).2.1) (hx3 : vp_in (x5 + 3) (ch_scr g).2.1) (hn : lw_N g R E x5 k (T + 800)) (o6 o7 o8 o9 : Option ch_V) (m : ch_M) (h : lw_inv T m) : ch_J g m_l_law R E 1831 (lw_L x5 o6 o7 o8 o9) [] m k := by
  refine g_l_law_1831 g R E k hR hcs x5 o6 o7 o8 o9 m ?_
  refine ⟨y_fls_inv (lw_y h), fun z m2 e2 => ?_, fun z => ⟨ch_ob m 1 0, lw_r h, y_iow (lw_y h), y_fls_inv (lw_y h), fun z2 => absurd z z2, fun z2 m' e' => lw_q1 h hT hn e' (by omega)⟩⟩
  have e91 : m2 (9, 0, 1) = m (9, 0, 1) := by rw [e2, ch_wr_ne (by decide), ch_wr_ne (by decide)]
  rw [e91]
  refine ⟨ch_ob m 1 0, lw_r h, y_iow (lw_y h), y_fls_inv (lw_y h), fun z2 m7 e7 => ?_, fun z2 => absurd z2 z⟩
  have t0 : m7 (9, 0, 0) 19 = 0 := by rw [e7]; exact ch_wr_v _ _ _ _
  have d0 : m7 (10, 0, 2) 0 = y_sum (ch_ob m 1 0 2) 12 := by rw [e7, e2, ch_wr_ne (by decide), ch_wr_k (by decide), ch_wr_v]
  have d1 : m7 (10, 0, 2) 1 = 12 - ch_cnO (ch_ob m 1 0 1) (-1) 12 := by rw [e7, e2, ch_wr_ne (by decide), ch_wr_v]
  have dv : ch_dv (m7 (10, 0, 2) 0) (m7 (10, 0, 2) 1) = FP.ddiv (FP.i2d (y_sum (ch_ob m 1 0 2) 12)) (FP.i2d (12 - ch_cnO (ch_ob m 1 0 1) (-1) 12)) := by
    rw [d0, d1]
    unfold ch_dv
    rw [if_neg z]
  rw [dv]
  refine ⟨fun _ => ⟨fun _ => hn _ _ _ _ _ _ ?_ (by omega), fun y => absurd (y_fls_eq (lw_y h) z) y⟩, fun y => absurd t0 y⟩
  rw [e7, e2]
  refine lw_inv_mono (lw_inv_same h (lw_same_tr (lw_same_tr (lw_same_wr m _ (by unfold lw_used; omega)) (lw_same_wr _ _ (by unfold lw_used; omega))) (lw_same_wr _ _ (by unfold lw_used; omega))) ?_) (by omega) (by omega)
  rw [ch_wr_os _ 9 0, ch_ob_os, lw_9_wr _ _ (by omega), lw_9_wr _ _ (by omega)]
  exact lw_bq_th _ _ rfl
set_option maxHeartbeats 1600000 in
theorem lw_c1273 (g : ch_G) (R : Room) (E : ch_En) (k : Nat) (hR : ch_RR R 18) (hcs : k + 40 ≤ R.cells ∧ 6 * k + 240 ≤ R.slots) (x5 : Int32) (T : Nat) (hT : T + 800 < 2 ^ 30) (hT0 : 0 < T) (hx1 : vp_in (x5 + 1) (ch_scr g).2.1) (hx2 : vp_in (x5 + 2) (ch_scr g).2.1) (hx3 : vp_in (x5 + 3) (ch_scr g).2.1) (hn : lw_N g R E x5 k (T + 800)) (o6 o7 o8 o9 : Option ch_V) (m : ch_M) (h : lw_inv T m) : ch_J g m_l_law R E 1273 (lw_L x5 o6 o7 o8 o9) [] m k := by
  refine g_l_law_1273 g R E k hR hcs x5 o6 o7 o8 o9 m ?_
  generalize (ch_scr g).2.2 (Int32.toNatClampNeg (x5 + 1)) = a1
  have hw : 1 ≤ a1 ∧ a1 ≤ 9 → y_washR (y_cp (ch_ob m 1 0) (ch_ob m 1 2)) a1 = m_ci (y_cp (ch_ob m 1 0) (ch_ob m 1 2) 2) a1 12 + m_ci (y_cp (ch_ob m 1 0) (ch_ob m 1 2) 5) a1 (y_cp (ch_ob m 1 0) (ch_ob m 1 2) 0 8).toNatClampNeg := by
    intro z
    obtain ⟨r, hr, er⟩ := vp_in_of (ch_vp (x := a1) (n := 10) (by omega) (by have := z.1; grind) (by show ¬ (10 : Int32) ≤ a1; have := z.2; grind)) (by omega)
    obtain ⟨n, hn9, en⟩ := vp_in_of (y_i8 (y_inv_cp (ch_ob m 1 2) (lw_y h))) (by decide)
    rw [er]
    have := (m_wash (y_inv_cp (ch_ob m 1 2) (lw_y h)) hr hn9 en).2
    rw [en, nI_clamp (by omega)]
    exact this
  refine ⟨hx1, y_i9 (lw_y h), y_i8k (lw_y h), fun z m3 e3 => ?_, fun z => ⟨ch_ob m 1 0, lw_r h, y_i8 (lw_y h), fun z2 => absurd z2 z, fun z2 m' e' => lw_q1 h hT hn e' (by omega)⟩⟩
  have e9 : ch_ob m3 9 0 = ch_ob m 9 0 := by rw [e3, lw_9_wr _ _ (by omega), ch_ob_ne (by omega)]
  have e91 : m3 (9, 0, 1) = m (9, 0, 1) := congrFun e9 1
  rw [e91]
  refine ⟨y_cp (ch_ob m 1 0) (ch_ob m 1 2), m_rel_cp _ (lw_y h) (lw_r h), y_i8 (y_inv_cp _ (lw_y h)), fun z2 m' e' => lw_f0 ?_ ?_ (hn _ _ _ _ _ _ ?_ (by omega)), fun z2 => absurd z z2⟩
  · rw [e']; exact ch_wr_v _ _ _ _
  · rw [e', e3, ch_wr_ne (by decide), ch_wr_v]
    exact hw z
  · rw [e', e3]
    refine lw_inv_mono (lw_inv_same h (lw_same_tr (lw_same_tr (lw_same_os m _ (fun c i => by unfold lw_used; omega)) (lw_same_wr _ _ (by unfold lw_used; omega))) (lw_same_wr _ _ (by unfold lw_used; omega))) ?_) (by omega) (by omega)
    rw [ch_wr_os _ 9 0, ch_ob_os, lw_9_wr _ _ (by omega), ch_ob_ne (by omega)]
    exact lw_bq_th _ _ rfl
