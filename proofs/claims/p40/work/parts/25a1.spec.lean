def p_kn (P : ch_B) : Nat := if 8 ≤ P 0 1 + 1 then 0 else (P 0 1 + 1).toNatClampNeg
def p_kB (P : ch_B) : ch_B := ch_bw (ch_bw P 0 1 (if 8 ≤ P 0 1 + 1 then 0 else P 0 1 + 1)) 0 2 (if 8 ≤ P 0 2 then P 0 2 else P 0 2 + 1)
theorem ch_ob_o {m : ch_M} {ci j ci' j' : Nat} {B : ch_B} (h : ¬ (ci' = ci ∧ j' = j)) : ch_ob (ch_os m ci j B) ci' j' = ch_ob m ci' j' := by
  funext c k
  exact congrFun (ch_os_ne h) k
theorem ch_ob_c {m : ch_M} {ci j ci' j' : Nat} {B : ch_B} (h : ci' ≠ ci) : ch_ob (ch_os m ci j B) ci' j' = ch_ob m ci' j' := ch_ob_o (fun q => h q.1)
set_option maxHeartbeats 1600000 in
theorem s_p_keep (g : ch_G) (q : ch_M → Prop) (j1 : Nat) (m : ch_M) (h : (vp_in (m (2, 0, 0) 1) 8) ∧ q (ch_os (ch_os m 2 0 (p_kB (ch_ob m 2 0))) 1 (4 + p_kn (ch_ob m 2 0)) (y_cp (ch_ob m 1 j1) (ch_ob m 1 (4 + p_kn (ch_ob m 2 0)))))) : ch_C g m_p_keep [.inr (2, 0, 0), .inr (1, j1, 0)] m (ch_ov q) := by
  refine e_p_keep g _ j1 m ?_
  obtain ⟨h1, hq⟩ := h
  obtain ⟨n, hn, he⟩ := vp_in_of h1 (by decide)
  have fin : ∀ v w : Int32, (v = if 8 ≤ m (2, 0, 0) 1 + 1 then 0 else m (2, 0, 0) 1 + 1) → (w = if 8 ≤ m (2, 0, 0) 2 then m (2, 0, 0) 2 else m (2, 0, 0) 2 + 1) → ∀ m5 m6 : ch_M, m5 = ch_os m 2 0 (ch_bw (ch_bw (ch_ob m 2 0) 0 1 v) 0 2 w) → vp_in (m5 (2, 0, 0) 1) 8 ∧ (m6 = ch_os m5 1 (4 + Int32.toNatClampNeg (m5 (2, 0, 0) 1)) (y_cp (ch_ob m5 1 j1) (ch_ob m5 1 (4 + Int32.toNatClampNeg (m5 (2, 0, 0) 1)))) → q m6) := by
    intro v w hv hw m5 m6 e5
    have e : ch_bw (ch_bw (ch_ob m 2 0) 0 1 v) 0 2 w = p_kB (ch_ob m 2 0) := by
      rw [hv, hw]
      rfl
    have e6 : m5 (2, 0, 0) 1 = v := by
      rw [e5, ch_os_at, ch_bw_k (by decide), ch_bw_at]
    have e7 : v.toNatClampNeg = p_kn (ch_ob m 2 0) := by
      rw [hv]
      unfold p_kn
      show Int32.toNatClampNeg (if 8 ≤ m (2, 0, 0) 1 + 1 then 0 else m (2, 0, 0) 1 + 1) = if 8 ≤ m (2, 0, 0) 1 + 1 then 0 else (m (2, 0, 0) 1 + 1).toNatClampNeg
      split
      · rfl
      · rfl
    rw [e6]
    refine ⟨?_, fun e8 => ?_⟩
    · rw [hv, he, nI_1]
      split
      · exact vp_in_nI (n := 0) (by decide) (by decide)
      · rename_i h
        refine vp_in_nI ?_ (by decide)
        by_cases h2 : n + 1 < 8
        · exact h2
        · exact absurd (nI_le (a := 8) (b := n + 1) (by omega) (by omega)) h
    · rw [e7, e5, e, ch_ob_c (by decide), ch_ob_c (by decide)] at e8
      rw [e8]
      exact hq
  refine g_p_keep_0 g _ _ _ ⟨fun c m1 e1 => ?_, fun c m1 e1 => ?_⟩
  all_goals
    rw [ch_wr_os] at e1
    subst e1
    refine ⟨fun d m2 e2 => ?_, fun d m2 e2 => ?_⟩
    all_goals
      rw [ch_os_wr, ch_os_at, ch_bw_k (show (2 : Nat) ≠ 1 by decide)] at e2
      rw [ch_os_at, ch_bw_k (show (2 : Nat) ≠ 1 by decide)] at d
      have d' : _ := d
      refine ⟨(fin _ _ ?_ ?_ m2 m2 e2).1, fun m5 e5 => ch_ov_iff.mpr ((fin _ _ ?_ ?_ m2 m5 e2).2 e5)⟩
      all_goals first | exact (if_pos c).symm | exact (if_neg c).symm | exact (if_pos d').symm | exact (if_neg d').symm
def p_gB (P : ch_B) : ch_B := ch_bw (ch_bw P 0 1 (if P 0 1 ≤ 0 then 7 else P 0 1 - 1)) 0 2 (P 0 2 - 1)
set_option maxHeartbeats 1600000 in
theorem s_p_giveBack (g : ch_G) (q : ch_M → Prop) (j1 : Nat) (m : ch_M) (h : (vp_in (m (2, 0, 0) 1) 8) ∧ q (ch_os (ch_os m 1 j1 (y_cp (ch_ob m 1 (4 + Int32.toNatClampNeg (m (2, 0, 0) 1))) (ch_ob m 1 j1))) 2 0 (p_gB (ch_ob m 2 0)))) : ch_C g m_p_giveBack [.inr (2, 0, 0), .inr (1, j1, 0)] m (ch_ov q) := by
  refine e_p_giveBack g _ j1 m ?_
  obtain ⟨h1, hq⟩ := h
  refine g_p_giveBack_0 g _ _ _ ⟨h1, fun m3 e3 => ?_⟩
  have r1 : m3 (2, 0, 0) 1 = m (2, 0, 0) 1 := by rw [e3]; exact congrFun (ch_os_ne (fun q => absurd (show (2 : Nat) = 1 from q.1) (by decide))) 1
  have r2 : ch_ob m3 2 0 = ch_ob m 2 0 := by rw [e3, ch_ob_c (by decide)]
  rw [r1]
  refine ⟨fun c m5 e5 m6 e6 => ?_, fun c m5 e5 m6 e6 => ?_⟩
  all_goals
    rw [ch_wr_os, r2] at e5
    subst e5
    rw [ch_os_wr, ch_os_at, ch_bw_k (show (2 : Nat) ≠ 1 by decide)] at e6
    subst e6
    unfold p_gB at hq
    have c' : _ := c
    first | rw [if_pos (show ch_ob m 2 0 0 1 ≤ 0 from c')] at hq | rw [if_neg (show ¬ ch_ob m 2 0 0 1 ≤ 0 from c')] at hq
    rw [← e3] at hq
    exact ch_ov_iff.mpr hq
def r_kp (m : ch_M) (a b : Int32) : ch_M := ch_os m 3 0 (ch_bw (ch_bw (ch_bw (ch_ob m 3 0) 0 0 a) 0 1 b) 0 2 0)
set_option maxHeartbeats 1600000 in
theorem s_r_keep (g : ch_G) (q : Int32 → ch_M → Prop) (p1 : Int32) (p2 : Int32) (m : ch_M) (h : q 1 (r_kp m p1 p2)) : ch_C g m_r_keep [.inr (3, 0, 0), .inl (.int p1), .inl (.int p2)] m (ch_oi q) := by
  refine e_r_keep g _ p1 p2 m ?_
  refine g_r_keep_0 g _ _ _ _ ?_
  intro m1 e1 m2 e2 m3 e3
  rw [ch_wr_os] at e1
  subst e1
  rw [ch_os_wr] at e2
  subst e2
  rw [ch_os_wr] at e3
  subst e3
  exact ch_oi_iff.mpr h
