/-! commands: the memory that the class leaves -/
theorem x_ct_fm (Mb : ch_M) (n : Nat) : ∀ (k : Int32) (Tb : Nat) (Y K S : ch_B) (p : Nat), y_inv Tb Y → 0 < Tb → Tb + 12 * n < 2 ^ 31 → vp_in (S 0 1) 13 → ∃ Y' K' S' p' R', (x_ct n k (d_mk (ch_os Mb 1 0 Y) K S p)).2 = ch_os (d_mk (ch_os Mb 1 0 Y') K' S' p') 3 0 R' ∧ y_inv (Tb + 12 * n) Y' ∧ vp_in (S' 0 1) 13 ∧ (¬ (x_ct n k (d_mk (ch_os Mb 1 0 Y) K S p)).1 = 0 → R' = ch_ob Mb 3 0) := by
  have e3 : ∀ Y K S p, ch_ob (d_mk (ch_os Mb 1 0 Y) K S p) 3 0 = ch_ob Mb 3 0 := fun Y K S p => by
    rw [d_mk_ob (by omega) (by omega) (by omega), ch_ob_ne (by omega)]
  have eself : ∀ Y K S p, d_mk (ch_os Mb 1 0 Y) K S p = ch_os (d_mk (ch_os Mb 1 0 Y) K S p) 3 0 (ch_ob Mb 3 0) := fun Y K S p => by
    have := ch_os_self (d_mk (ch_os Mb 1 0 Y) K S p) 3 0
    rw [e3] at this
    exact this.symm
  induction n with
  | zero =>
    intro k Tb Y K S p hi h0 hT hS
    exact ⟨Y, K, S, p, ch_ob Mb 3 0, eself _ _ _ _, hi, hS, fun _ => rfl⟩
  | succ n ih =>
    intro k Tb Y K S p hi h0 hT hS
    obtain ⟨K0, S0, etc, hok⟩ := d_tc_pt (ch_os Mb 1 0 Y) K S p
    have hS0 := d_okS_v hok hS
    rw [x_ct, etc]
    dsimp only
    by_cases c1 : (d_pt (ch_ob (ch_os Mb 1 0 Y) 6 0) p).1 = true
    · rw [if_pos c1, x_R_mk]
      by_cases c2 : (r_w Y K0 (S0 1) (S0 0 1)).1 = 0
      · rw [if_pos c2, x_nM_mk]
        obtain ⟨v1, -⟩ := y_car_inv (by omega) h0 hi hS0 c2
        obtain ⟨Y', K', S', p', R', a1, a2, a3, a4⟩ := ih (k + 1) (Tb + 12) _ K0 S0 _ v1 (by omega) (by omega) hS0
        exact ⟨Y', K', S', p', R', a1, by rw [show Tb + 12 * (n + 1) = Tb + 12 + 12 * n by omega]; exact a2, a3, a4⟩
      · rw [if_neg c2]
        refine ⟨Y, K0, S0, (d_pt (ch_ob (ch_os Mb 1 0 Y) 6 0) p).2, ch_bw (ch_bw (ch_bw (ch_bw (ch_ob Mb 3 0) 0 0 (r_w Y K0 (S0 1) (S0 0 1)).1) 0 1 (r_w Y K0 (S0 1) (S0 0 1)).2) 0 2 0) 0 2 k, ?_, y_inv_mono (by omega) hi (by omega), hS0, fun z => absurd rfl z⟩
        dsimp only
        unfold r_kp
        rw [ch_os_wr, e3]
    · rw [if_neg c1]
      exact ⟨Y, K0, S0, (d_pt (ch_ob (ch_os Mb 1 0 Y) 6 0) p).2, ch_ob Mb 3 0, eself _ _ _ _, y_inv_mono (by omega) hi (by omega), hS0, fun _ => rfl⟩
/-- behind the first pass -/
theorem x_f1_fm (m : ch_M) : ∃ K' S' p', x_f1 m = ch_wr (d_mk m K' S' p') (0, 0, 0) 13 (x_F m).1 ∧ d_okS (ch_ob m 5 0) S' := by
  obtain ⟨K', S', p', e, h⟩ := d_ff_fp m 60 (ch_ob m 4 0) (ch_ob m 5 0) 0
  have eF : x_F m = (d_fp (ch_ob m 6 0) 60 0, d_mk m K' S' p') := by
    unfold x_F
    rw [x_p0_mk]
    exact e
  refine ⟨K', S', p', ?_, h⟩
  unfold x_f1
  rw [eF]
theorem x_f1_ob {m : ch_M} {a j : Nat} (h : ¬ (a = 0 ∧ j = 0)) (h4 : ¬ (a = 4 ∧ j = 0)) (h5 : ¬ (a = 5 ∧ j = 0)) (h7 : ¬ (a = 7 ∧ j = 0)) : ch_ob (x_f1 m) a j = ch_ob m a j := by
  obtain ⟨K', S', p', e, -⟩ := x_f1_fm m
  rw [e, ch_wr_os, ch_ob_ne h, d_mk_ob h4 h5 h7]
theorem x_f1_0 (m : ch_M) (i : Nat) : x_f1 m (0, 0, 0) i = if i = 13 then (x_F m).1 else m (0, 0, 0) i := by
  obtain ⟨K', S', p', e, -⟩ := x_f1_fm m
  rw [e, ch_wr_at]
  split
  · rfl
  · exact congrFun (congrFun (d_mk_ob (M := m) (K := K') (S := S') (p := p') (a := 0) (j := 0) (by omega) (by omega) (by omega)) 0) i
theorem x_f1_5 {m : ch_M} (hS : vp_in (m (5, 0, 0) 1) 13) : vp_in (x_f1 m (5, 0, 0) 1) 13 := by
  obtain ⟨K', S', p', e, h⟩ := x_f1_fm m
  have : x_f1 m (5, 0, 0) 1 = S' 0 1 := by
    rw [e, ch_wr_ne (by decide)]
    exact congrFun (congrFun (d_mk_5 m K' S' p') 0) 1
  rw [this]
  exact d_okS_v h hS
theorem x_b_11 (m : ch_M) : ch_ob (x_b m) 1 1 = y_cp (ch_ob m 1 0) (ch_ob m 1 1) := by
  unfold x_b
  rw [ch_ob_os, x_f1_ob (by omega) (by omega) (by omega) (by omega), x_f1_ob (by omega) (by omega) (by omega) (by omega)]
/-- behind the second pass -/
theorem x_cc_fm {m : ch_M} {T : Nat} (hi : y_inv T (ch_ob m 1 0)) (h0 : 0 < T) (hT : T + 720 < 2 ^ 31) (hS : vp_in (m (5, 0, 0) 1) 13) : x_ok 60 (x_p0 (x_b m)) ∧ ∃ Y' K' S' p' R', (x_cc m).2 = ch_os (d_mk (ch_os (x_b m) 1 0 Y') K' S' p') 3 0 R' ∧ y_inv (T + 720) Y' ∧ vp_in (S' 0 1) 13 ∧ (¬ (x_cc m).1 = 0 → R' = ch_ob m 3 0) := by
  have e1 : ch_ob (x_b m) 1 0 = ch_ob m 1 0 := x_b_ob (by omega) (by omega) (by omega) (by omega) (by omega)
  have e0 : x_p0 (x_b m) = d_mk (ch_os (x_b m) 1 0 (ch_ob m 1 0)) (ch_ob (x_b m) 4 0) (ch_ob (x_b m) 5 0) 0 := by
    rw [x_p0_mk, ← e1, ch_os_self]
  have h5 : vp_in (ch_ob (x_b m) 5 0 0 1) 13 := x_b_5 hS
  obtain ⟨Y', K', S', p', R', a1, a2, a3, a4⟩ := x_ct_fm (x_b m) 60 0 T (ch_ob m 1 0) (ch_ob (x_b m) 4 0) (ch_ob (x_b m) 5 0) 0 hi h0 (by omega) h5
  rw [← e0] at a1 a4
  refine ⟨by rw [e0]; exact x_ok_mk (x_b m) 60 T _ _ _ _ h0 (by omega) hi h5, Y', K', S', p', R', a1, a2, a3, fun z => ?_⟩
  rw [a4 z]
  exact x_b_ob (by omega) (by omega) (by omega) (by omega) (by omega)
/-- what the class leaves, block by block -/
theorem x_c3_ob {m : ch_M} {Y' K' S' R' : ch_B} {p' : Nat} (e : (x_cc m).2 = ch_os (d_mk (ch_os (x_b m) 1 0 Y') K' S' p') 3 0 R') {a j : Nat} (h : ¬ (a = 0 ∧ j = 0)) (h1 : ¬ (a = 1 ∧ (j = 0 ∨ j = 1))) (h4 : ¬ (a = 4 ∧ j = 0)) (h5 : ¬ (a = 5 ∧ j = 0)) (h7 : ¬ (a = 7 ∧ j = 0)) (h3 : ¬ (a = 3 ∧ j = 0)) (h6 : ¬ (a = 6 ∧ j = 0)) : ch_ob (x_c3 m) a j = ch_ob m a j := by
  unfold x_c3 x_cl
  rw [e, ch_wr_os, ch_ob_ne h6, ch_ob_ne h3, d_mk_ob h4 h5 h7, ch_ob_ne (by omega), x_b_ob h (by omega) h4 h5 h7]
theorem x_c3_1 {m : ch_M} {Y' K' S' R' : ch_B} {p' : Nat} (e : (x_cc m).2 = ch_os (d_mk (ch_os (x_b m) 1 0 Y') K' S' p') 3 0 R') : ch_ob (x_c3 m) 1 0 = Y' ∧ ch_ob (x_c3 m) 1 1 = y_cp (ch_ob m 1 0) (ch_ob m 1 1) ∧ ch_ob (x_c3 m) 3 0 = R' ∧ ch_ob (x_c3 m) 6 0 = ch_bw (ch_ob m 6 0) 0 1 0 ∧ x_c3 m (5, 0, 0) 1 = S' 0 1 ∧ x_c3 m (0, 0, 0) 12 = m (0, 0, 0) 12 ∧ x_c3 m (0, 0, 0) 13 = (x_F m).1 := by
  have e6 : ch_ob (x_b m) 6 0 = ch_ob m 6 0 := x_b_ob (by omega) (by omega) (by omega) (by omega) (by omega)
  have e0 : ∀ i, x_c3 m (0, 0, 0) i = x_f1 m (0, 0, 0) i := fun i => by
    have : ch_ob (x_c3 m) 0 0 = ch_ob (x_f1 m) 0 0 := by
      unfold x_c3 x_cl
      rw [e, ch_wr_os, ch_ob_ne (show ¬ (0 = 6 ∧ 0 = 0) by omega), ch_ob_ne (show ¬ (0 = 3 ∧ 0 = 0) by omega), d_mk_ob (by omega) (by omega) (by omega), ch_ob_ne (show ¬ (0 = 1 ∧ 0 = 0) by omega)]
      unfold x_b
      rw [ch_ob_ne (by omega)]
    exact congrFun (congrFun this 0) i
  refine ⟨?_, ?_, ?_, ?_, ?_, by rw [e0, x_f1_0]; rfl, by rw [e0, x_f1_0]; rfl⟩
  · unfold x_c3 x_cl
    rw [e, ch_wr_os, ch_ob_ne (show ¬ (1 = 6 ∧ 0 = 0) by omega), ch_ob_ne (show ¬ (1 = 3 ∧ 0 = 0) by omega), d_mk_ob (by omega) (by omega) (by omega), ch_ob_os]
  · unfold x_c3 x_cl
    rw [e, ch_wr_os, ch_ob_ne (show ¬ (1 = 6 ∧ 1 = 0) by omega), ch_ob_ne (show ¬ (1 = 3 ∧ 1 = 0) by omega), d_mk_ob (by omega) (by omega) (by omega), ch_ob_ne (show ¬ (1 = 1 ∧ 1 = 0) by omega), x_b_11]
  · unfold x_c3 x_cl
    rw [e, ch_wr_os, ch_ob_ne (show ¬ (3 = 6 ∧ 0 = 0) by omega), ch_ob_os]
  · unfold x_c3 x_cl
    rw [e, ch_wr_os, ch_ob_os, ch_ob_ne (show ¬ (6 = 3 ∧ 0 = 0) by omega), d_mk_ob (by omega) (by omega) (by omega), ch_ob_ne (show ¬ (6 = 1 ∧ 0 = 0) by omega), e6]
  · have : ch_ob (x_c3 m) 5 0 = S' := by
      unfold x_c3 x_cl
      rw [e, ch_wr_os, ch_ob_ne (show ¬ (5 = 6 ∧ 0 = 0) by omega), ch_ob_ne (show ¬ (5 = 3 ∧ 0 = 0) by omega), d_mk_5]
    exact congrFun (congrFun this 0) 1
theorem lw_I_cm {T T' : Nat} {Y Y' Z : ch_B} {K K' : Nat → ch_B} {P P' R R' X W B B' : ch_B} {f fp fp' s s' : Int32} (h : lw_I T Y Z K P R X W B f fp s) (hT : T' < 2 ^ 31) (hl : T ≤ T') (hY : y_inv T' Y') (hr : m_rel Y' (B' 1)) (hR : lw_rs R' B') (hf : fp' = B' 0 14) (hc : m_cmS B B') (hp : lw_past T' K' P' B') (hs : vp_in s' 13) : lw_I T' Y' Z K' P' R' (ch_bw X 0 1 0) W B' f fp' s' := by
  obtain ⟨-, -, -, -, ⟨w1, w2, w3, w4⟩, ⟨v1, v2⟩, -, -⟩ := h
  obtain ⟨c1, c2, c3, c4⟩ := hc
  refine ⟨⟨hY, hr⟩, hR, hf, ⟨?_, ?_, fun k hk => ?_⟩, ⟨w1, c3.symm ▸ w2, fun i hi => ?_, w4⟩, ⟨?_, fun z => ⟨y_inv_mono hT (v2 z).1 hl, m_rel_cong (v2 z).2 (fun i _ => c1 5 i (by omega))⟩⟩, hp, hs⟩
  · rw [ch_bw_at]; exact vp_in_nI (n := 0) (by decide) (by decide)
  · rw [ch_bw_at]; exact c4
  · rw [ch_bw_at] at hk
    have e0 : Int32.toNatClampNeg 0 = 0 := by decide
    rw [e0] at hk
    omega
  · rw [c1 6 i (by omega)]; exact w3 i hi
  · rw [c2]; exact v1
theorem lw_past_mono {T T' : Nat} {K : Nat → ch_B} {P B B' : ch_B} (h : lw_past T K P B) (hT : T' < 2 ^ 31) (hl : T ≤ T') (e4 : B' 0 4 = B 0 4) (e : ∀ i, B' 4 i = B 4 i) : lw_past T' K P B' := by
  obtain ⟨n, c, p1, p2, p3, p4, p5, p6⟩ := h
  exact ⟨n, c, p1, p2, p3, p4, e4.trans p5, fun k hk => ⟨y_inv_mono hT (p6 k hk).1 hl, m_rel_cong (p6 k hk).2 (fun i _ => e _)⟩⟩
