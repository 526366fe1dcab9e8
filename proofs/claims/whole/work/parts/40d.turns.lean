set_option maxHeartbeats 1600000 in
theorem lw_c208 (g : ch_G) (R : Room) (E : ch_En) (k : Nat) (hR : ch_RR R 18) (hcs : k + 40 ≤ R.cells ∧ 6 * k + 240 ≤ R.slots) (x5 : Int32) (T : Nat) (hT : T + 800 < 2 ^ 30) (hT0 : 0 < T) (hx1 : vp_in (x5 + 1) (ch_scr g).2.1) (hx2 : vp_in (x5 + 2) (ch_scr g).2.1) (hx3 : vp_in (x5 + 3) (ch_scr g).2.1) (hn : lw_N g R E x5 k (T + 800)) (o6 o7 o8 o9 : Option ch_V) (m : ch_M) (h : lw_inv T m) : ch_J g m_l_law R E 208 (lw_L x5 o6 o7 o8 o9) [] m k := by
  refine g_l_law_208 g R E k hR hcs x5 o6 o7 o8 o9 m ?_
  generalize (ch_scr g).2.2 (Int32.toNatClampNeg (x5 + 1)) = a1
  obtain ⟨M, eM⟩ : ∃ M, M = x_K m 110 0 0 a1 := ⟨_, rfl⟩
  rw [← eM]
  have hM : lw_inv T M := by rw [eM]; exact lw_inv_K h _ _ _ _
  obtain ⟨k1, k2, k3, k4⟩ := lw_K4 m 110 0 0 a1
  rw [← eM] at k1 k2 k3 k4
  obtain ⟨hW, hC⟩ := (lw_RC k1).1 rfl
  rw [k4] at hW hC
  rw [show ch_ob M 1 0 0 8 + 1 - 1 = ch_ob M 1 0 0 8 by grind] at hC
  obtain ⟨p1, p2, p3, p4⟩ := lw_pre hM (by omega) hT0
  obtain ⟨u, w⟩ := lw_mut (T' := T + 800) hM (by omega) (by omega) hT0 hW hC
  refine ⟨hx1, p1, p2, p3, fun z => (p4 z).2, fun z m3 e3 => ?_, fun z m3 e3 => ?_⟩
  · obtain ⟨-, u1, u2, u3⟩ := u m3 e3
    refine ⟨T, ch_ob M 1 0, u1, lw_y hM, u2, fun z2 B hB m' e' => ?_, fun z2 => absurd (by rw [← hW]; exact z) z2⟩
    obtain ⟨f1, f2, f3⟩ := u3 z2 B m' hB e'
    exact lw_f0 f1 f2 (hn _ _ _ _ _ _ f3 (by omega))
  · obtain ⟨w1, w2, w3⟩ := w m3 e3
    refine ⟨T, ch_ob M 1 0, w1, lw_y hM, w2, fun z2 => absurd (by rw [hW]; exact z2) z, fun z2 B hB m' e' => ?_⟩
    obtain ⟨f1, f2⟩ := w3 B m' hB e'
    exact lw_f1 f1 (hn _ _ _ _ _ _ f2 (by omega))
set_option maxHeartbeats 1600000 in
theorem lw_c264 (g : ch_G) (R : Room) (E : ch_En) (k : Nat) (hR : ch_RR R 18) (hcs : k + 40 ≤ R.cells ∧ 6 * k + 240 ≤ R.slots) (x5 : Int32) (T : Nat) (hT : T + 800 < 2 ^ 30) (hT0 : 0 < T) (hx1 : vp_in (x5 + 1) (ch_scr g).2.1) (hx2 : vp_in (x5 + 2) (ch_scr g).2.1) (hx3 : vp_in (x5 + 3) (ch_scr g).2.1) (hn : lw_N g R E x5 k (T + 800)) (o6 o7 o8 o9 : Option ch_V) (m : ch_M) (h : lw_inv T m) : ch_J g m_l_law R E 264 (lw_L x5 o6 o7 o8 o9) [] m k := by
  refine g_l_law_264 g R E k hR hcs x5 o6 o7 o8 o9 m ?_
  generalize (ch_scr g).2.2 (Int32.toNatClampNeg (x5 + 1)) = a1
  generalize (ch_scr g).2.2 (Int32.toNatClampNeg (x5 + 2)) = a2
  obtain ⟨M, eM⟩ : ∃ M, M = x_K m 99 a1 0 a2 := ⟨_, rfl⟩
  rw [← eM]
  have hM : lw_inv T M := by rw [eM]; exact lw_inv_K h _ _ _ _
  obtain ⟨k1, k2, k3, k4⟩ := lw_K4 m 99 a1 0 a2
  rw [← eM] at k1 k2 k3 k4
  obtain ⟨hW, hC⟩ := (lw_RC k1).2.1 rfl
  rw [k2] at hW hC
  rw [k4] at hW hC
  obtain ⟨p1, p2, p3, p4⟩ := lw_pre hM (by omega) hT0
  obtain ⟨u, w⟩ := lw_mut (T' := T + 800) hM (by omega) (by omega) hT0 hW hC
  refine ⟨hx1, hx2, p1, p2, p3, fun z => (p4 z).2, fun z m3 e3 => ?_, fun z m3 e3 => ?_⟩
  · obtain ⟨-, u1, u2, u3⟩ := u m3 e3
    refine ⟨T, ch_ob M 1 0, u1, lw_y hM, u2, fun z2 B hB m' e' => ?_, fun z2 => absurd (by rw [← hW]; exact z) z2⟩
    obtain ⟨f1, f2, f3⟩ := u3 z2 B m' hB e'
    exact lw_f0 f1 f2 (hn _ _ _ _ _ _ f3 (by omega))
  · obtain ⟨w1, w2, w3⟩ := w m3 e3
    refine ⟨T, ch_ob M 1 0, w1, lw_y hM, w2, fun z2 => absurd (by rw [hW]; exact z2) z, fun z2 B hB m' e' => ?_⟩
    obtain ⟨f1, f2⟩ := w3 B m' hB e'
    exact lw_f1 f1 (hn _ _ _ _ _ _ f2 (by omega))
set_option maxHeartbeats 1600000 in
theorem lw_c332 (g : ch_G) (R : Room) (E : ch_En) (k : Nat) (hR : ch_RR R 18) (hcs : k + 40 ≤ R.cells ∧ 6 * k + 240 ≤ R.slots) (x5 : Int32) (T : Nat) (hT : T + 800 < 2 ^ 30) (hT0 : 0 < T) (hx1 : vp_in (x5 + 1) (ch_scr g).2.1) (hx2 : vp_in (x5 + 2) (ch_scr g).2.1) (hx3 : vp_in (x5 + 3) (ch_scr g).2.1) (hn : lw_N g R E x5 k (T + 800)) (o6 o7 o8 o9 : Option ch_V) (m : ch_M) (h : lw_inv T m) : ch_J g m_l_law R E 332 (lw_L x5 o6 o7 o8 o9) [] m k := by
  refine g_l_law_332 g R E k hR hcs x5 o6 o7 o8 o9 m ?_
  generalize (ch_scr g).2.2 (Int32.toNatClampNeg (x5 + 1)) = a1
  generalize (ch_scr g).2.2 (Int32.toNatClampNeg (x5 + 2)) = a2
  obtain ⟨M, eM⟩ : ∃ M, M = x_S (x_K m 104 a1 0 0) a2 := ⟨_, rfl⟩
  rw [← eM]
  have hM : lw_inv T M := by rw [eM]; exact lw_inv_S (lw_inv_K h _ _ _ _) _
  have e4 : ch_ob M 4 0 = ch_ob (x_K m 104 a1 0 0) 4 0 := by rw [eM]; exact ch_ob_ne (by omega)
  obtain ⟨k1, k2, k3, k4⟩ := lw_K4 m 104 a1 0 0
  rw [← e4] at k1 k2 k3 k4
  have e51 : M (5, 0, 1) = s_rfB (ch_ob (x_K m 104 a1 0 0) 5 0) a2 1 := by rw [eM]; exact ch_os_p _ _ _ _ _
  have e50 : M (5, 0, 0) 1 = s_rfB (ch_ob (x_K m 104 a1 0 0) 5 0) a2 0 1 := by rw [eM]; exact ch_os_at _ _ _ _ _ _
  obtain ⟨hW, hC⟩ := (lw_RC k1).2.2.1 rfl
  rw [k2] at hW hC
  rw [e51, e50] at hW hC
  obtain ⟨p1, p2, p3, p4⟩ := lw_pre hM (by omega) hT0
  obtain ⟨u, w⟩ := lw_mut (T' := T + 800) hM (by omega) (by omega) hT0 hW hC
  refine ⟨hx1, hx2, p1, p2, p3, fun z => (p4 z).2, fun z m3 e3 => ?_, fun z m3 e3 => ?_⟩
  · obtain ⟨-, u1, u2, u3⟩ := u m3 e3
    refine ⟨T, ch_ob M 1 0, ch_ob (x_K m 104 a1 0 0) 5 0, u1, lw_y hM, u2, fun z2 B hB m' e' => ?_, fun z2 => absurd (by rw [← hW]; exact z) z2⟩
    obtain ⟨f1, f2, f3⟩ := u3 z2 B m' hB e'
    exact lw_f0 f1 f2 (hn _ _ _ _ _ _ f3 (by omega))
  · obtain ⟨w1, w2, w3⟩ := w m3 e3
    refine ⟨T, ch_ob M 1 0, ch_ob (x_K m 104 a1 0 0) 5 0, w1, lw_y hM, w2, fun z2 => absurd (by rw [hW]; exact z2) z, fun z2 B hB m' e' => ?_⟩
    obtain ⟨f1, f2⟩ := w3 B m' hB e'
    exact lw_f1 f1 (hn _ _ _ _ _ _ f2 (by omega))
set_option maxHeartbeats 1600000 in
theorem lw_c400 (g : ch_G) (R : Room) (E : ch_En) (k : Nat) (hR : ch_RR R 18) (hcs : k + 40 ≤ R.cells ∧ 6 * k + 240 ≤ R.slots) (x5 : Int32) (T : Nat) (hT : T + 800 < 2 ^ 30) (hT0 : 0 < T) (hx1 : vp_in (x5 + 1) (ch_scr g).2.1) (hx2 : vp_in (x5 + 2) (ch_scr g).2.1) (hx3 : vp_in (x5 + 3) (ch_scr g).2.1) (hn : lw_N g R E x5 k (T + 800)) (o6 o7 o8 o9 : Option ch_V) (m : ch_M) (h : lw_inv T m) : ch_J g m_l_law R E 400 (lw_L x5 o6 o7 o8 o9) [] m k := by
  refine g_l_law_400 g R E k hR hcs x5 o6 o7 o8 o9 m ?_
  generalize (ch_scr g).2.2 (Int32.toNatClampNeg (x5 + 1)) = a1
  obtain ⟨M, eM⟩ : ∃ M, M = x_K m 119 a1 0 0 := ⟨_, rfl⟩
  rw [← eM]
  have hM : lw_inv T M := by rw [eM]; exact lw_inv_K h _ _ _ _
  obtain ⟨k1, k2, k3, k4⟩ := lw_K4 m 119 a1 0 0
  rw [← eM] at k1 k2 k3 k4
  obtain ⟨hW, hC⟩ := (lw_RC k1).2.2.2.1 rfl
  rw [k2] at hW hC
  obtain ⟨p1, p2, p3, p4⟩ := lw_pre hM (by omega) hT0
  obtain ⟨u, w⟩ := lw_mut (T' := T + 800) hM (by omega) (by omega) hT0 hW hC
  refine ⟨hx1, p1, p2, p3, fun z => (p4 z).2, fun z m3 e3 => ?_, fun z m3 e3 => ?_⟩
  · obtain ⟨-, u1, u2, u3⟩ := u m3 e3
    refine ⟨T, ch_ob M 1 0, u1, lw_y hM, u2, fun z2 B hB m' e' => ?_, fun z2 => absurd (by rw [← hW]; exact z) z2⟩
    obtain ⟨f1, f2, f3⟩ := u3 z2 B m' hB e'
    exact lw_f0 f1 f2 (hn _ _ _ _ _ _ f3 (by omega))
  · obtain ⟨w1, w2, w3⟩ := w m3 e3
    refine ⟨T, ch_ob M 1 0, w1, lw_y hM, w2, fun z2 => absurd (by rw [hW]; exact z2) z, fun z2 B hB m' e' => ?_⟩
    obtain ⟨f1, f2⟩ := w3 B m' hB e'
    exact lw_f1 f1 (hn _ _ _ _ _ _ f2 (by omega))
set_option maxHeartbeats 1600000 in
theorem lw_c456 (g : ch_G) (R : Room) (E : ch_En) (k : Nat) (hR : ch_RR R 18) (hcs : k + 40 ≤ R.cells ∧ 6 * k + 240 ≤ R.slots) (x5 : Int32) (T : Nat) (hT : T + 800 < 2 ^ 30) (hT0 : 0 < T) (hx1 : vp_in (x5 + 1) (ch_scr g).2.1) (hx2 : vp_in (x5 + 2) (ch_scr g).2.1) (hx3 : vp_in (x5 + 3) (ch_scr g).2.1) (hn : lw_N g R E x5 k (T + 800)) (o6 o7 o8 o9 : Option ch_V) (m : ch_M) (h : lw_inv T m) : ch_J g m_l_law R E 456 (lw_L x5 o6 o7 o8 o9) [] m k := by
  refine g_l_law_456 g R E k hR hcs x5 o6 o7 o8 o9 m ?_
  generalize (ch_scr g).2.2 (Int32.toNatClampNeg (x5 + 1)) = a1
  obtain ⟨M, eM⟩ : ∃ M, M = x_K m 115 a1 0 0 := ⟨_, rfl⟩
  rw [← eM]
  have hM : lw_inv T M := by rw [eM]; exact lw_inv_K h _ _ _ _
  obtain ⟨k1, k2, k3, k4⟩ := lw_K4 m 115 a1 0 0
  rw [← eM] at k1 k2 k3 k4
  obtain ⟨hW, hC⟩ := (lw_RC k1).2.2.2.2.1 rfl
  rw [k2] at hW hC
  obtain ⟨p1, p2, p3, p4⟩ := lw_pre hM (by omega) hT0
  obtain ⟨u, w⟩ := lw_mut (T' := T + 800) hM (by omega) (by omega) hT0 hW hC
  refine ⟨hx1, p1, p2, p3, fun z => (p4 z).2, fun z m3 e3 => ?_, fun z m3 e3 => ?_⟩
  · obtain ⟨-, u1, u2, u3⟩ := u m3 e3
    refine ⟨T, ch_ob M 1 0, u1, lw_y hM, u2, fun z2 B hB m' e' => ?_, fun z2 => absurd (by rw [← hW]; exact z) z2⟩
    obtain ⟨f1, f2, f3⟩ := u3 z2 B m' hB e'
    exact lw_f0 f1 f2 (hn _ _ _ _ _ _ f3 (by omega))
  · obtain ⟨w1, w2, w3⟩ := w m3 e3
    refine ⟨T, ch_ob M 1 0, w1, lw_y hM, w2, fun z2 => absurd (by rw [hW]; exact z2) z, fun z2 B hB m' e' => ?_⟩
    obtain ⟨f1, f2⟩ := w3 B m' hB e'
    exact lw_f1 f1 (hn _ _ _ _ _ _ f2 (by omega))
set_option maxHeartbeats 1600000 in
theorem lw_c512 (g : ch_G) (R : Room) (E : ch_En) (k : Nat) (hR : ch_RR R 18) (hcs : k + 40 ≤ R.cells ∧ 6 * k + 240 ≤ R.slots) (x5 : Int32) (T : Nat) (hT : T + 800 < 2 ^ 30) (hT0 : 0 < T) (hx1 : vp_in (x5 + 1) (ch_scr g).2.1) (hx2 : vp_in (x5 + 2) (ch_scr g).2.1) (hx3 : vp_in (x5 + 3) (ch_scr g).2.1) (hn : lw_N g R E x5 k (T + 800)) (o6 o7 o8 o9 : Option ch_V) (m : ch_M) (h : lw_inv T m) : ch_J g m_l_law R E 512 (lw_L x5 o6 o7 o8 o9) [] m k := by
  refine g_l_law_512 g R E k hR hcs x5 o6 o7 o8 o9 m ?_
  generalize (ch_scr g).2.2 (Int32.toNatClampNeg (x5 + 1)) = a1
  obtain ⟨M, eM⟩ : ∃ M, M = x_K m 114 0 0 a1 := ⟨_, rfl⟩
  rw [← eM]
  have hM : lw_inv T M := by rw [eM]; exact lw_inv_K h _ _ _ _
  obtain ⟨k1, k2, k3, k4⟩ := lw_K4 m 114 0 0 a1
  rw [← eM] at k1 k2 k3 k4
  obtain ⟨hW, hC⟩ := (lw_RC k1).2.2.2.2.2.1 rfl
  rw [k4] at hW hC
  obtain ⟨p1, p2, p3, p4⟩ := lw_pre hM (by omega) hT0
  obtain ⟨u, w⟩ := lw_mut (T' := T + 800) hM (by omega) (by omega) hT0 hW hC
  refine ⟨hx1, p1, p2, p3, fun z => (p4 z).2, fun z m3 e3 => ?_, fun z m3 e3 => ?_⟩
  · obtain ⟨-, u1, u2, u3⟩ := u m3 e3
    refine ⟨T, ch_ob M 1 0, u1, lw_y hM, u2, fun z2 B hB m' e' => ?_, fun z2 => absurd (by rw [← hW]; exact z) z2⟩
    obtain ⟨f1, f2, f3⟩ := u3 z2 B m' hB e'
    exact lw_f0 f1 f2 (hn _ _ _ _ _ _ f3 (by omega))
  · obtain ⟨w1, w2, w3⟩ := w m3 e3
    refine ⟨T, ch_ob M 1 0, w1, lw_y hM, w2, fun z2 => absurd (by rw [hW]; exact z2) z, fun z2 B hB m' e' => ?_⟩
    obtain ⟨f1, f2⟩ := w3 B m' hB e'
    exact lw_f1 f1 (hn _ _ _ _ _ _ f2 (by omega))
set_option maxHeartbeats 1600000 in
theorem lw_c568 (g : ch_G) (R : Room) (E : ch_En) (k : Nat) (hR : ch_RR R 18) (hcs : k + 40 ≤ R.cells ∧ 6 * k + 240 ≤ R.slots) (x5 : Int32) (T : Nat) (hT : T + 800 < 2 ^ 30) (hT0 : 0 < T) (hx1 : vp_in (x5 + 1) (ch_scr g).2.1) (hx2 : vp_in (x5 + 2) (ch_scr g).2.1) (hx3 : vp_in (x5 + 3) (ch_scr g).2.1) (hn : lw_N g R E x5 k (T + 800)) (o6 o7 o8 o9 : Option ch_V) (m : ch_M) (h : lw_inv T m) : ch_J g m_l_law R E 568 (lw_L x5 o6 o7 o8 o9) [] m k := by
  refine g_l_law_568 g R E k hR hcs x5 o6 o7 o8 o9 m ?_
  obtain ⟨M, eM⟩ : ∃ M, M = x_K m 116 0 0 0 := ⟨_, rfl⟩
  rw [← eM]
  have hM : lw_inv T M := by rw [eM]; exact lw_inv_K h _ _ _ _
  obtain ⟨k1, k2, k3, k4⟩ := lw_K4 m 116 0 0 0
  rw [← eM] at k1 k2 k3 k4
  obtain ⟨hW, hC⟩ := (lw_RC k1).2.2.2.2.2.2.1 rfl
  obtain ⟨p1, p2, p3, p4⟩ := lw_pre hM (by omega) hT0
  obtain ⟨u, w⟩ := lw_mut (T' := T + 800) hM (by omega) (by omega) hT0 hW hC
  refine ⟨p1, p2, p3, fun z => (p4 z).2, fun z m3 e3 => ?_, fun z m3 e3 => ?_⟩
  · obtain ⟨-, u1, u2, u3⟩ := u m3 e3
    refine ⟨T, ch_ob M 1 0, u1, lw_y hM, u2, fun z2 B hB m' e' => ?_, fun z2 => absurd (by rw [← hW]; exact z) z2⟩
    obtain ⟨f1, f2, f3⟩ := u3 z2 B m' hB e'
    exact lw_f0 f1 f2 (hn _ _ _ _ _ _ f3 (by omega))
  · obtain ⟨w1, w2, w3⟩ := w m3 e3
    refine ⟨T, ch_ob M 1 0, w1, lw_y hM, w2, fun z2 => absurd (by rw [hW]; exact z2) z, fun z2 B hB m' e' => ?_⟩
    obtain ⟨f1, f2⟩ := w3 B m' hB e'
    exact lw_f1 f1 (hn _ _ _ _ _ _ f2 (by omega))
set_option maxHeartbeats 1600000 in
theorem lw_c612 (g : ch_G) (R : Room) (E : ch_En) (k : Nat) (hR : ch_RR R 18) (hcs : k + 40 ≤ R.cells ∧ 6 * k + 240 ≤ R.slots) (x5 : Int32) (T : Nat) (hT : T + 800 < 2 ^ 30) (hT0 : 0 < T) (hx1 : vp_in (x5 + 1) (ch_scr g).2.1) (hx2 : vp_in (x5 + 2) (ch_scr g).2.1) (hx3 : vp_in (x5 + 3) (ch_scr g).2.1) (hn : lw_N g R E x5 k (T + 800)) (o6 o7 o8 o9 : Option ch_V) (m : ch_M) (h : lw_inv T m) : ch_J g m_l_law R E 612 (lw_L x5 o6 o7 o8 o9) [] m k := by
  refine g_l_law_612 g R E k hR hcs x5 o6 o7 o8 o9 m ?_
  generalize (ch_scr g).2.2 (Int32.toNatClampNeg (x5 + 1)) = a1
  generalize (ch_scr g).2.2 (Int32.toNatClampNeg (x5 + 2)) = a2
  generalize (ch_scr g).2.2 (Int32.toNatClampNeg (x5 + 3)) = a3
  obtain ⟨M, eM⟩ : ∃ M, M = x_K m 103 a1 a2 a3 := ⟨_, rfl⟩
  rw [← eM]
  have hM : lw_inv T M := by rw [eM]; exact lw_inv_K h _ _ _ _
  obtain ⟨k1, k2, k3, k4⟩ := lw_K4 m 103 a1 a2 a3
  rw [← eM] at k1 k2 k3 k4
  obtain ⟨hW, hC⟩ := (lw_RC k1).2.2.2.2.2.2.2 rfl
  rw [k2] at hW hC
  rw [k3] at hW hC
  rw [k4] at hW hC
  obtain ⟨p1, p2, p3, p4⟩ := lw_pre hM (by omega) hT0
  obtain ⟨u, w⟩ := lw_mut (T' := T + 800) hM (by omega) (by omega) hT0 hW hC
  refine ⟨hx1, hx2, hx3, p1, p2, p3, fun z => (p4 z).2, fun z m3 e3 => ?_, fun z m3 e3 => ?_⟩
  · obtain ⟨-, u1, u2, u3⟩ := u m3 e3
    refine ⟨T, ch_ob M 1 0, u1, lw_y hM, u2, fun z2 B hB m' e' => ?_, fun z2 => absurd (by rw [← hW]; exact z) z2⟩
    obtain ⟨f1, f2, f3⟩ := u3 z2 B m' hB e'
    exact lw_f0 f1 f2 (hn _ _ _ _ _ _ f3 (by omega))
  · obtain ⟨w1, w2, w3⟩ := w m3 e3
    refine ⟨T, ch_ob M 1 0, w1, lw_y hM, w2, fun z2 => absurd (by rw [hW]; exact z2) z, fun z2 B hB m' e' => ?_⟩
    obtain ⟨f1, f2⟩ := w3 B m' hB e'
    exact lw_f1 f1 (hn _ _ _ _ _ _ f2 (by omega))
