def y_carP (Y K : ch_B) (n : Int32) : Prop :=
  (K 0 1 = 110 → vp_in (Y 0 8) 5) ∧ (K 0 1 = 99 → vp_in (K 0 2) 5 ∧ vp_in (K 0 4) 12) ∧
  (K 0 1 = 104 → vp_in (K 0 2) 5 ∧ vp_in n 13 ∧ ∀ i, i < 12 → Y 1 i = -1 ∨ vp_in (Y 1 i) 5) ∧
  (K 0 1 = 119 → vp_in (K 0 2) 5 ∧ vp_in (Y 0 9) 5) ∧
  (K 0 1 = 115 → vp_in (K 0 2) 5 ∧ vp_in (Y 0 9) 6 ∧ ∀ i, i < 5 → vp_in (Y 8 i) 5) ∧
  (K 0 1 = 114 → vp_in (Y 0 9) 6 ∧ ∀ i, i < 5 → vp_in (Y 8 i) 5) ∧
  (K 0 1 = 116 → vp_in (Y 0 8) 6) ∧
  (¬ K 0 1 = 110 → ¬ K 0 1 = 99 → ¬ K 0 1 = 104 → ¬ K 0 1 = 119 → ¬ K 0 1 = 115 → ¬ K 0 1 = 114 → ¬ K 0 1 = 116 → vp_in (K 0 2) 5 ∧ vp_in (K 0 3) 5)
noncomputable def y_car (Y K : ch_B) (f : Nat → Int32) (n : Nat) : Int32 × ch_B :=
  if K 0 1 = 110 then (Y 0 8 + 1 - 1, y_briB Y (K 0 4))
  else if K 0 1 = 99 then (y_chv Y (K 0 4), y_chaB Y (K 0 2) (K 0 4))
  else if K 0 1 = 104 then (y_ct Y (K 0 2) f n, y_hopB Y (K 0 2) f n)
  else if K 0 1 = 119 then (if 9 < Y 4 (K 0 2).toNatClampNeg then 9 else Y 4 (K 0 2).toNatClampNeg, y_wriB Y (K 0 2))
  else if K 0 1 = 115 then (Y 3 (K 0 2).toNatClampNeg - Y 5 (K 0 2).toNatClampNeg, y_strB Y (K 0 2))
  else if K 0 1 = 114 then (y_washR Y (K 0 4), y_washB Y (K 0 4))
  else if K 0 1 = 116 then (y_termR Y, y_termB Y)
  else (y_givB Y (K 0 2) (K 0 3) (K 0 4) 3 (K 0 2).toNatClampNeg, y_givB Y (K 0 2) (K 0 3) (K 0 4))
set_option maxHeartbeats 1600000 in
theorem s_y_carryOut (g : ch_G) (q : Int32 → ch_M → Prop) (j : Nat) (m : ch_M) (h : (y_carP (ch_ob m 1 j) (ch_ob m 4 0) (m (5, 0, 0) 1)) ∧ q ((y_car (ch_ob m 1 j) (ch_ob m 4 0) (m (5, 0, 1)) (Int32.toNatClampNeg (m (5, 0, 0) 1))).1) (ch_os m 1 j ((y_car (ch_ob m 1 j) (ch_ob m 4 0) (m (5, 0, 1)) (Int32.toNatClampNeg (m (5, 0, 0) 1))).2))) : ch_C g m_y_carryOut [.inr (1, j, 0), .inr (4, 0, 0)] m (ch_oi q) := by
  refine e_y_carryOut g _ j m ?_
  obtain ⟨⟨pn, pc, ph, pw, ps, pr, pt, pg⟩, hq⟩ := h
  have k1 : ch_ob m 4 0 0 1 = m (4, 0, 0) 1 := rfl
  have k2 : ch_ob m 4 0 0 2 = m (4, 0, 0) 2 := rfl
  have k3 : ch_ob m 4 0 0 3 = m (4, 0, 0) 3 := rfl
  have k4 : ch_ob m 4 0 0 4 = m (4, 0, 0) 4 := rfl
  unfold y_car at hq
  rw [k1] at pn pc ph pw ps pr pt pg hq
  rw [k2] at pc ph pw ps pg hq
  rw [k3] at pg hq
  rw [k4] at pc hq
  clear k1 k2 k3 k4
  have gv : (¬ m (4, 0, 0) 1 = 110 → ¬ m (4, 0, 0) 1 = 99 → ¬ m (4, 0, 0) 1 = 104 → ¬ m (4, 0, 0) 1 = 119 → ¬ m (4, 0, 0) 1 = 115 → ¬ m (4, 0, 0) 1 = 114 → ¬ m (4, 0, 0) 1 = 116 → vp_in (m (4, 0, 0) 2) 5 ∧ vp_in (m (4, 0, 0) 3) 5 ∧ (∀ m2 : ch_M, m2 = ch_os m 1 j (y_givB (ch_ob m 1 j) (m (4, 0, 0) 2) (m (4, 0, 0) 3) (m (4, 0, 0) 4)) → ch_oi q (.inl (some (.inl (.int (y_givB (ch_ob m 1 j) (m (4, 0, 0) 2) (m (4, 0, 0) 3) (m (4, 0, 0) 4) 3 (Int32.toNatClampNeg (m (4, 0, 0) 2))))))) m2)) := by
    intro a b c d e f g'
    rw [if_neg a, if_neg b, if_neg c, if_neg d, if_neg e, if_neg f, if_neg g'] at hq
    obtain ⟨w1, w2⟩ := pg a b c d e f g'
    refine ⟨w1, w2, fun m2 e2 => ?_⟩
    subst e2
    exact ch_oi_iff.mpr hq
  have ng : ∀ {x : Int32}, m (4, 0, 0) 1 = x → ∀ y : Int32, x ≠ y → ¬ m (4, 0, 0) 1 = y := fun h y n z => n (h.symm.trans z)
  refine g_y_carryOut_0 g _ _ _ ?_
  refine ⟨fun c => ?_, ?_⟩
  · rw [if_neg (ng c 110 (by decide)), if_pos c] at hq
    exact ⟨(pc c).1, (pc c).2, fun m2 e2 => by subst e2; exact ch_oi_iff.mpr hq⟩
  refine ⟨fun c => gv (ng c _ (by decide)) (ng c _ (by decide)) (ng c _ (by decide)) (ng c _ (by decide)) (ng c _ (by decide)) (ng c _ (by decide)) (ng c _ (by decide)), ?_⟩
  refine ⟨fun c => gv (ng c _ (by decide)) (ng c _ (by decide)) (ng c _ (by decide)) (ng c _ (by decide)) (ng c _ (by decide)) (ng c _ (by decide)) (ng c _ (by decide)), ?_⟩
  refine ⟨fun c => gv (ng c _ (by decide)) (ng c _ (by decide)) (ng c _ (by decide)) (ng c _ (by decide)) (ng c _ (by decide)) (ng c _ (by decide)) (ng c _ (by decide)), ?_⟩
  refine ⟨fun c => gv (ng c _ (by decide)) (ng c _ (by decide)) (ng c _ (by decide)) (ng c _ (by decide)) (ng c _ (by decide)) (ng c _ (by decide)) (ng c _ (by decide)), ?_⟩
  refine ⟨fun c => ?_, ?_⟩
  · rw [if_neg (ng c 110 (by decide)), if_neg (ng c 99 (by decide)), if_pos c] at hq
    exact ⟨(ph c).1, (ph c).2.1, (ph c).2.2, fun m2 e2 => by subst e2; exact ch_oi_iff.mpr hq⟩
  refine ⟨fun c => gv (ng c _ (by decide)) (ng c _ (by decide)) (ng c _ (by decide)) (ng c _ (by decide)) (ng c _ (by decide)) (ng c _ (by decide)) (ng c _ (by decide)), ?_⟩
  refine ⟨fun c => gv (ng c _ (by decide)) (ng c _ (by decide)) (ng c _ (by decide)) (ng c _ (by decide)) (ng c _ (by decide)) (ng c _ (by decide)) (ng c _ (by decide)), ?_⟩
  refine ⟨fun c => gv (ng c _ (by decide)) (ng c _ (by decide)) (ng c _ (by decide)) (ng c _ (by decide)) (ng c _ (by decide)) (ng c _ (by decide)) (ng c _ (by decide)), ?_⟩
  refine ⟨fun c => gv (ng c _ (by decide)) (ng c _ (by decide)) (ng c _ (by decide)) (ng c _ (by decide)) (ng c _ (by decide)) (ng c _ (by decide)) (ng c _ (by decide)), ?_⟩
  refine ⟨fun c => gv (ng c _ (by decide)) (ng c _ (by decide)) (ng c _ (by decide)) (ng c _ (by decide)) (ng c _ (by decide)) (ng c _ (by decide)) (ng c _ (by decide)), ?_⟩
  refine ⟨fun c => ?_, ?_⟩
  · rw [if_pos c] at hq
    exact ⟨pn c, fun m2 e2 => by subst e2; exact ch_oi_iff.mpr hq⟩
  refine ⟨fun c => gv (ng c _ (by decide)) (ng c _ (by decide)) (ng c _ (by decide)) (ng c _ (by decide)) (ng c _ (by decide)) (ng c _ (by decide)) (ng c _ (by decide)), ?_⟩
  refine ⟨fun c => gv (ng c _ (by decide)) (ng c _ (by decide)) (ng c _ (by decide)) (ng c _ (by decide)) (ng c _ (by decide)) (ng c _ (by decide)) (ng c _ (by decide)), ?_⟩
  refine ⟨fun c => gv (ng c _ (by decide)) (ng c _ (by decide)) (ng c _ (by decide)) (ng c _ (by decide)) (ng c _ (by decide)) (ng c _ (by decide)) (ng c _ (by decide)), ?_⟩
  refine ⟨fun c => ?_, ?_⟩
  · rw [if_neg (ng c 110 (by decide)), if_neg (ng c 99 (by decide)), if_neg (ng c 104 (by decide)), if_neg (ng c 119 (by decide)), if_neg (ng c 115 (by decide)), if_pos c] at hq
    exact ⟨(pr c).1, (pr c).2, fun m2 e2 => by subst e2; exact ch_oi_iff.mpr hq⟩
  refine ⟨fun c => ?_, ?_⟩
  · rw [if_neg (ng c 110 (by decide)), if_neg (ng c 99 (by decide)), if_neg (ng c 104 (by decide)), if_neg (ng c 119 (by decide)), if_pos c] at hq
    exact ⟨(ps c).1, (ps c).2.1, (ps c).2.2, fun m2 e2 => by subst e2; exact ch_oi_iff.mpr hq⟩
  refine ⟨fun c => ?_, ?_⟩
  · rw [if_neg (ng c 110 (by decide)), if_neg (ng c 99 (by decide)), if_neg (ng c 104 (by decide)), if_neg (ng c 119 (by decide)), if_neg (ng c 115 (by decide)), if_neg (ng c 114 (by decide)), if_pos c] at hq
    exact ⟨pt c, fun m2 e2 => by subst e2; exact ch_oi_iff.mpr hq⟩
  refine ⟨fun c => gv (ng c _ (by decide)) (ng c _ (by decide)) (ng c _ (by decide)) (ng c _ (by decide)) (ng c _ (by decide)) (ng c _ (by decide)) (ng c _ (by decide)), ?_⟩
  refine ⟨fun c => gv (ng c _ (by decide)) (ng c _ (by decide)) (ng c _ (by decide)) (ng c _ (by decide)) (ng c _ (by decide)) (ng c _ (by decide)) (ng c _ (by decide)), ?_⟩
  refine ⟨fun c => ?_, fun hx => ?_⟩
  · rw [if_neg (ng c 110 (by decide)), if_neg (ng c 99 (by decide)), if_neg (ng c 104 (by decide)), if_pos c] at hq
    exact ⟨(pw c).1, (pw c).2, fun m2 e2 => by subst e2; exact ch_oi_iff.mpr hq⟩
  · have nz : ∀ y : Int32, 99 ≤ y.toInt ∧ y.toInt ≤ 119 → ¬ m (4, 0, 0) 1 = y := fun y b z => by rw [z] at hx; omega
    exact gv (nz _ (by decide)) (nz _ (by decide)) (nz _ (by decide)) (nz _ (by decide)) (nz _ (by decide)) (nz _ (by decide)) (nz _ (by decide))
def t_putB (B : ch_B) (p : Int32) : ch_B := if 60 ≤ B 0 1 then B else ch_bw (ch_bw B 1 (B 0 1).toNatClampNeg (vp_nar .char p)) 0 1 (B 0 1 + 1)
set_option maxHeartbeats 1600000 in
theorem s_t_put (g : ch_G) (q : ch_M → Prop) (j : Nat) (p1 : Int32) (m : ch_M) (h : (vp_in (m (6, j, 0) 1) 61) ∧ q (ch_os m 6 j (t_putB (ch_ob m 6 j) p1))) : ch_C g m_t_put [.inr (6, j, 0), .inl (.int p1)] m (ch_ov q) := by
  refine e_t_put g _ j p1 m ?_
  obtain ⟨h1, hq⟩ := h
  refine g_t_put_0 g _ _ _ _ ⟨fun c => ?_, fun c => ⟨?_, fun m2 e2 m3 e3 => ?_⟩⟩
  · have e : t_putB (ch_ob m 6 j) p1 = ch_ob m 6 j := if_pos c
    rw [e, ch_os_self] at hq
    exact ch_ov_iff.mpr hq
  · obtain ⟨n, hn, he⟩ := vp_in_of h1 (by decide)
    rw [he] at c ⊢
    have hn2 : n < 60 := by
      by_cases h : n < 60
      · exact h
      · exact absurd (nI_le (a := 60) (b := n) (by omega) (by omega)) c
    exact vp_in_nI hn2 (by decide)
  · have e : t_putB (ch_ob m 6 j) p1 = _ := if_neg c
    rw [e] at hq
    rw [ch_wr_os] at e2
    subst e2
    rw [ch_os_wr, ch_os_at, ch_bw_c (show (0 : Nat) ≠ 1 by decide)] at e3
    subst e3
    exact ch_ov_iff.mpr hq
def s_addB (B : ch_B) (p : Int32) : ch_B := if 12 ≤ B 0 1 then B else ch_bw (ch_bw B 1 (B 0 1).toNatClampNeg p) 0 1 (B 0 1 + 1)
set_option maxHeartbeats 1600000 in
theorem s_s_add (g : ch_G) (q : ch_M → Prop) (j : Nat) (p1 : Int32) (m : ch_M) (h : (vp_in (m (5, j, 0) 1) 13) ∧ q (ch_os m 5 j (s_addB (ch_ob m 5 j) p1))) : ch_C g m_s_add [.inr (5, j, 0), .inl (.int p1)] m (ch_ov q) := by
  refine e_s_add g _ j p1 m ?_
  obtain ⟨h1, hq⟩ := h
  refine g_s_add_0 g _ _ _ _ ⟨fun c => ?_, fun c => ⟨?_, fun m2 e2 m3 e3 => ?_⟩⟩
  · have e : s_addB (ch_ob m 5 j) p1 = ch_ob m 5 j := if_pos c
    rw [e, ch_os_self] at hq
    exact ch_ov_iff.mpr hq
  · obtain ⟨n, hn, he⟩ := vp_in_of h1 (by decide)
    rw [he] at c ⊢
    have hn2 : n < 12 := by
      by_cases h : n < 12
      · exact h
      · exact absurd (nI_le (a := 12) (b := n) (by omega) (by omega)) c
    exact vp_in_nI hn2 (by decide)
  · have e : s_addB (ch_ob m 5 j) p1 = _ := if_neg c
    rw [e] at hq
    rw [ch_wr_os] at e2
    subst e2
    rw [ch_os_wr, ch_os_at, ch_bw_c (show (0 : Nat) ≠ 1 by decide)] at e3
    subst e3
    exact ch_ov_iff.mpr hq
def c_setB (B : ch_B) (a b c d : Int32) : ch_B := ch_bw (ch_bw (ch_bw (ch_bw B 0 1 a) 0 2 b) 0 3 c) 0 4 d
set_option maxHeartbeats 1600000 in
theorem s_c_set (g : ch_G) (q : ch_M → Prop) (p1 : Int32) (p2 : Int32) (p3 : Int32) (p4 : Int32) (m : ch_M) (h : q (ch_os m 4 0 (c_setB (ch_ob m 4 0) p1 p2 p3 p4))) : ch_C g m_c_set [.inr (4, 0, 0), .inl (.int p1), .inl (.int p2), .inl (.int p3), .inl (.int p4)] m (ch_ov q) := by
  refine e_c_set g _ p1 p2 p3 p4 m ?_
  refine g_c_set_0 g _ _ _ _ _ _ ?_
  intro m1 e1 m2 e2 m3 e3 m4 e4
  rw [ch_wr_os] at e1
  subst e1
  rw [ch_os_wr] at e2
  subst e2
  rw [ch_os_wr] at e3
  subst e3
  rw [ch_os_wr] at e4
  subst e4
  exact ch_ov_iff.mpr h
