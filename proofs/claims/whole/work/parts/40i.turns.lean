set_option maxHeartbeats 1600000 in
theorem lw_c956 (g : ch_G) (R : Room) (E : ch_En) (k : Nat) (hR : ch_RR R 18) (hcs : k + 40 ≤ R.cells ∧ 6 * k + 240 ≤ R.slots) (x5 : Int32) (T : Nat) (hT : T + 800 < 2 ^ 30) (hT0 : 0 < T) (hx1 : vp_in (x5 + 1) (ch_scr g).2.1) (hx2 : vp_in (x5 + 2) (ch_scr g).2.1) (hx3 : vp_in (x5 + 3) (ch_scr g).2.1) (hn : lw_N g R E x5 k (T + 800)) (o6 o7 o8 o9 : Option ch_V) (m : ch_M) (h : lw_inv T m) : ch_J g m_l_law R E 956 (lw_L x5 o6 o7 o8 o9) [] m k := by
  refine g_l_law_956 g R E k hR hcs x5 o6 o7 o8 o9 m ?_
  generalize (ch_scr g).2.2 (Int32.toNatClampNeg (x5 + 1)) = a1
  refine ⟨hx1, fun z m3 e3 => ?_, fun z => ⟨ch_ob m 1 0, lw_r h, y_i8 (lw_y h), y_iow (lw_y h), fun z2 => absurd z2 z, fun z2 m' e' => lw_q1 h hT hn e' (by omega)⟩⟩
  have e9 : ch_ob m3 9 0 = ch_ob m 9 0 := lw_93g (ch_ob_ne (by omega)) e3
  have e91 : m3 (9, 0, 1) = m (9, 0, 1) := congrFun e9 1
  rw [e91, e9]
  exact ⟨ch_ob m 1 0, lw_r h, y_i8 (lw_y h), y_iow (lw_y h), fun z2 B A C S hsp f f19 fk m' e' => lw_g0 h hT hn (lw_same_os m _ (fun c i => by unfold lw_used; omega)) e3 e' (lw_bq_w f) f19 (lw_few hsp) (by omega), fun z2 => absurd z z2⟩
set_option maxHeartbeats 1600000 in
theorem lw_c1012 (g : ch_G) (R : Room) (E : ch_En) (k : Nat) (hR : ch_RR R 18) (hcs : k + 40 ≤ R.cells ∧ 6 * k + 240 ≤ R.slots) (x5 : Int32) (T : Nat) (hT : T + 800 < 2 ^ 30) (hT0 : 0 < T) (hx1 : vp_in (x5 + 1) (ch_scr g).2.1) (hx2 : vp_in (x5 + 2) (ch_scr g).2.1) (hx3 : vp_in (x5 + 3) (ch_scr g).2.1) (hn : lw_N g R E x5 k (T + 800)) (o6 o7 o8 o9 : Option ch_V) (m : ch_M) (h : lw_inv T m) : ch_J g m_l_law R E 1012 (lw_L x5 o6 o7 o8 o9) [] m k := by
  refine g_l_law_1012 g R E k hR hcs x5 o6 o7 o8 o9 m ?_
  generalize (ch_scr g).2.2 (Int32.toNatClampNeg (x5 + 1)) = a1
  refine ⟨hx1, fun z m3 e3 => ?_, fun z => ⟨ch_ob m 1 0, lw_r h, y_i8 (lw_y h), y_iow (lw_y h), fun z2 => absurd z2 z, fun z2 m' e' => lw_q1 h hT hn e' (by omega)⟩⟩
  have e9 : ch_ob m3 9 0 = ch_ob m 9 0 := lw_93g (ch_ob_ne (by omega)) e3
  have e91 : m3 (9, 0, 1) = m (9, 0, 1) := congrFun e9 1
  rw [e91, e9]
  exact ⟨ch_ob m 1 0, lw_r h, y_i8 (lw_y h), y_iow (lw_y h), fun z2 B A C S hsp f f19 fk m' e' => lw_g0 h hT hn (lw_same_os m _ (fun c i => by unfold lw_used; omega)) e3 e' (lw_bq_w f) f19 (w_fo_sp _ _ _ hsp) (by omega), fun z2 => absurd z z2⟩
set_option maxHeartbeats 1600000 in
theorem lw_c1068 (g : ch_G) (R : Room) (E : ch_En) (k : Nat) (hR : ch_RR R 18) (hcs : k + 40 ≤ R.cells ∧ 6 * k + 240 ≤ R.slots) (x5 : Int32) (T : Nat) (hT : T + 800 < 2 ^ 30) (hT0 : 0 < T) (hx1 : vp_in (x5 + 1) (ch_scr g).2.1) (hx2 : vp_in (x5 + 2) (ch_scr g).2.1) (hx3 : vp_in (x5 + 3) (ch_scr g).2.1) (hn : lw_N g R E x5 k (T + 800)) (o6 o7 o8 o9 : Option ch_V) (m : ch_M) (h : lw_inv T m) : ch_J g m_l_law R E 1068 (lw_L x5 o6 o7 o8 o9) [] m k := by
  refine g_l_law_1068 g R E k hR hcs x5 o6 o7 o8 o9 m ?_
  generalize (ch_scr g).2.2 (Int32.toNatClampNeg (x5 + 1)) = a1
  generalize (ch_scr g).2.2 (Int32.toNatClampNeg (x5 + 2)) = a2
  have hC : ∀ {A C S : Nat → Nat}, w_sp (w_e (ch_ob m 1 0) a1) A C S → C 0 ≤ 12 := fun h => (h.2 0 (by omega)).2.2.1
  refine ⟨hx1, hx2, fun z m3 e3 => ?_, fun z => ⟨ch_ob m 1 0, lw_r h, y_i8 (lw_y h), y_iow (lw_y h), fun z2 => absurd z2 z, fun z2 m' e' => lw_q1 h hT hn e' (by omega), fun z2 => absurd z2 z⟩, fun z m3 e3 => ?_⟩
  · have e9 : ch_ob m3 9 0 = ch_ob m 9 0 := lw_93g (by rw [ch_ob_ne (by omega), ch_ob_ne (by omega)]) e3
    have e91 : m3 (9, 0, 1) = m (9, 0, 1) := congrFun e9 1
    rw [e91, e9]
    refine ⟨ch_ob m 1 0, lw_r h, y_i8 (lw_y h), y_iow (lw_y h), fun z2 B A C S hsp hp f f19 m' e' => lw_g0 h hT hn (lw_same_tr (lw_same_os m _ (fun c i => by unfold lw_used; omega)) (lw_same_os _ _ (fun c i => by unfold lw_used; omega))) e3 e' (lw_bq_w f) f19 ?_ (by omega), fun z2 => absurd z.1 z2, fun z2 B A C S hsp hp => absurd (by rw [← (lw_step hsp).1]; exact z.2) hp⟩
    have h12 := hC hsp
    obtain ⟨j, hj, ej⟩ := vp_in_of (ch_vp (x := a2) (n := C 0) (by omega) (by have := hp.1; grind) (by have := hp.2; grind)) (by omega)
    rw [ej, nI_clamp (by omega)]
    exact (lw_step hsp).2 j hj
  · have e9 : ch_ob m3 9 0 = ch_ob m 9 0 := by rw [e3, ch_ob_ne (by omega), ch_ob_ne (by omega)]
    have e91 : m3 (9, 0, 1) = m (9, 0, 1) := congrFun e9 1
    rw [e91, e9]
    exact ⟨ch_ob m 1 0, lw_r h, y_i8 (lw_y h), y_iow (lw_y h), fun z2 B A C S hsp hp => absurd (by rw [(lw_step hsp).1]; exact hp) z.2, fun z2 => absurd z.1 z2, fun z2 B A C S hsp hp f f19 m' e' => lw_g1 h hT hn (by rw [e3]; exact lw_same_tr (lw_same_os m _ (fun c i => by unfold lw_used; omega)) (lw_same_os _ _ (fun c i => by unfold lw_used; omega))) e' (lw_bq_w f) f19 (by omega)⟩
set_option maxHeartbeats 1600000 in
theorem lw_c1136 (g : ch_G) (R : Room) (E : ch_En) (k : Nat) (hR : ch_RR R 18) (hcs : k + 40 ≤ R.cells ∧ 6 * k + 240 ≤ R.slots) (x5 : Int32) (T : Nat) (hT : T + 800 < 2 ^ 30) (hT0 : 0 < T) (hx1 : vp_in (x5 + 1) (ch_scr g).2.1) (hx2 : vp_in (x5 + 2) (ch_scr g).2.1) (hx3 : vp_in (x5 + 3) (ch_scr g).2.1) (hn : lw_N g R E x5 k (T + 800)) (o6 o7 o8 o9 : Option ch_V) (m : ch_M) (h : lw_inv T m) : ch_J g m_l_law R E 1136 (lw_L x5 o6 o7 o8 o9) [] m k := by
  refine g_l_law_1136 g R E k hR hcs x5 o6 o7 o8 o9 m ?_
  generalize (ch_scr g).2.2 (Int32.toNatClampNeg (x5 + 1)) = a1
  generalize (ch_scr g).2.2 (Int32.toNatClampNeg (x5 + 2)) = a2
  refine ⟨hx1, hx2, fun z m3 e3 => ?_, fun z => ⟨ch_ob m 1 0, ch_ob m 5 1, lw_r h, y_i8 (lw_y h), y_iow (lw_y h), fun z2 => absurd z2.1 z, fun z2 m' e' => lw_q1 h hT hn e' (by omega), fun z2 => absurd z2.1 z⟩, fun z m3 e3 => ?_⟩
  · have e9 : ch_ob m3 9 0 = ch_ob m 9 0 := lw_93g (ch_ob_ne (by omega)) e3
    have e91 : m3 (9, 0, 1) = m (9, 0, 1) := congrFun e9 1
    rw [e91, e9]
    exact ⟨ch_ob m 1 0, ch_ob m 5 1, lw_r h, y_i8 (lw_y h), y_iow (lw_y h), fun z2 B f f19 m' e' => lw_g0 h hT hn (lw_same_os m _ (fun c i => by unfold lw_used; omega)) e3 e' (lw_bq_9 f) f19 rfl (by omega), fun z2 => absurd z.1 z2, fun z2 => absurd z.2 z2.2⟩
  · have e9 : ch_ob m3 9 0 = ch_ob m 9 0 := by rw [e3, ch_ob_ne (by omega)]
    have e91 : m3 (9, 0, 1) = m (9, 0, 1) := congrFun e9 1
    rw [e91, e9]
    exact ⟨ch_ob m 1 0, ch_ob m 5 1, lw_r h, y_i8 (lw_y h), y_iow (lw_y h), fun z2 => absurd z2.2 z.2, fun z2 => absurd z.1 z2, fun z2 B f f19 m' e' => lw_g1 h hT hn (by rw [e3]; exact (lw_same_os m _ (fun c i => by unfold lw_used; omega))) e' (lw_bq_9 f) f19 (by omega)⟩
set_option maxHeartbeats 1600000 in
theorem lw_c1441 (g : ch_G) (R : Room) (E : ch_En) (k : Nat) (hR : ch_RR R 18) (hcs : k + 40 ≤ R.cells ∧ 6 * k + 240 ≤ R.slots) (x5 : Int32) (T : Nat) (hT : T + 800 < 2 ^ 30) (hT0 : 0 < T) (hx1 : vp_in (x5 + 1) (ch_scr g).2.1) (hx2 : vp_in (x5 + 2) (ch_scr g).2.1) (hx3 : vp_in (x5 + 3) (ch_scr g).2.1) (hn : lw_N g R E x5 k (T + 800)) (o6 o7 o8 o9 : Option ch_V) (m : ch_M) (h : lw_inv T m) : ch_J g m_l_law R E 1441 (lw_L x5 o6 o7 o8 o9) [] m k := by
  refine g_l_law_1441 g R E k hR hcs x5 o6 o7 o8 o9 m ?_
  generalize (ch_scr g).2.2 (Int32.toNatClampNeg (x5 + 1)) = a1
  have e8 : y_cp (ch_ob m 1 0) (ch_ob m 1 2) 0 8 = m (1, 0, 0) 8 := if_pos (by omega)
  have yc := y_inv_cp (ch_ob m 1 2) (lw_y h)
  have rc := m_rel_cp (ch_ob m 1 2) (lw_y h) (lw_r h)
  refine ⟨hx1, y_i8 (lw_y h), fun z m3 e3 => ?_, fun z => ⟨T, y_cp (ch_ob m 1 0) (ch_ob m 1 2), rc, yc, by omega, ?_⟩, fun z m3 e3 => ?_⟩
  · have e9 : ch_ob m3 9 0 = ch_ob m 9 0 := lw_93g (ch_ob_ne (by omega)) e3
    have e91 : m3 (9, 0, 1) = m (9, 0, 1) := congrFun e9 1
    rw [e91, e9]
    refine ⟨T, y_cp (ch_ob m 1 0) (ch_ob m 1 2), rc, yc, by omega, ?_⟩
    rw [e8]
    exact ⟨fun z2 B f1 f f19 m' e' => lw_g0 h hT hn (lw_same_os m _ (fun c i => by unfold lw_used; omega)) e3 e' (lw_bq_t f1 f) f19 rfl (by omega), fun z2 => absurd z.1 z2, fun z2 => absurd z2.2 z.2⟩
  · rw [e8]
    exact ⟨fun z2 => absurd z2.1 z, fun z2 m' e' => lw_q1 h hT hn e' (by omega), fun z2 => absurd z2.1 z⟩
  · have e9 : ch_ob m3 9 0 = ch_ob m 9 0 := by rw [e3, ch_ob_ne (by omega)]
    have e91 : m3 (9, 0, 1) = m (9, 0, 1) := congrFun e9 1
    rw [e91, e9]
    refine ⟨T, y_cp (ch_ob m 1 0) (ch_ob m 1 2), rc, yc, by omega, ?_⟩
    rw [e8]
    exact ⟨fun z2 => absurd z.2 z2.2, fun z2 => absurd z.1 z2, fun z2 B f1 f f19 m' e' => lw_g1 h hT hn (by rw [e3]; exact (lw_same_os m _ (fun c i => by unfold lw_used; omega))) e' (lw_bq_t f1 f) f19 (by omega)⟩
