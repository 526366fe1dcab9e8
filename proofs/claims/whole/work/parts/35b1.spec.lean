/-- what reading a command leaves, on both sides -/
def m_par (M : ch_M) (p : Nat) (B B' : ch_B) : Prop := ∃ K S p', (d_tc M 0).2 = d_mk M K S p' ∧ p ≤ p' ∧ p' ≤ (ch_ob M 6 0 0 1).toNatClampNeg ∧ m_pf B B' ∧ B' 0 11 = nI p' ∧ ((d_tc M 0).1 = true → p < p' ∧ m_cmK K S B') ∧ (S = ch_ob M 5 0 ∨ ∃ n, n ≤ 12 ∧ S 0 1 = nI n)
theorem d_tc_mk (M : ch_M) (K S : ch_B) (p : Nat) : d_tc (d_mk M K S p) 0 = if d_kdB (d_sg (ch_ob M 6 0) (nI p)) = true then d_tc1 (d_sg (ch_ob M 6 0) (nI p)) (d_mk M (c_setB K (d_sg (ch_ob M 6 0) (nI p)) 0 0 0) S (p + 1)) 0 else (false, d_mk M K S p) := by
  unfold d_tc d_tcK
  rw [d_mk_6, d_mk_p, d_mk_nx, d_mk_4, d_mk_w4]
theorem c_set_1 (B : ch_B) (a b c d : Int32) : c_setB B a b c d 0 1 = a := by
  unfold c_setB
  rw [ch_bw_k (by decide), ch_bw_k (by decide), ch_bw_k (by decide), ch_bw_at]
set_option maxHeartbeats 1600000 in
theorem s_m_isCommand (g : ch_G) (q : Int32 → ch_M → Prop) (M_ : ch_M) (p_ : Nat) (m : ch_M) (h : (m_tx (ch_ob M_ 6 0) (ch_ob m 9 0) p_) ∧ (M_ (7, 0, 0) 0 = nI p_) ∧ (((d_tc M_ 0).1 = true) → (∀ (B_ : ch_B), (m_par M_ p_ (ch_ob m 9 0) B_) → q 1 (ch_os m 9 0 B_))) ∧ ((¬ (d_tc M_ 0).1 = true) → (∀ (B_ : ch_B), (m_par M_ p_ (ch_ob m 9 0) B_) → q 0 (ch_os m 9 0 B_)))) : ch_C g m_m_isCommand [.inr (9, 0, 0)] m (ch_oi q) := by
  refine e_m_isCommand g _  m ?_
  obtain ⟨ht, h7, ha, hb⟩ := h
  obtain ⟨T, eT⟩ : ∃ T, T = ch_ob M_ 6 0 := ⟨_, rfl⟩
  rw [← eT] at ht
  obtain ⟨L, hL, eL, cL, e10, e11, hp, ht7⟩ := m_txL ht
  have f10 : m (9, 0, 0) 10 = nI L := e10
  have f11 : m (9, 0, 0) 11 = nI p_ := e11
  obtain ⟨K0, eK0⟩ : ∃ K0, K0 = ch_ob M_ 4 0 := ⟨_, rfl⟩
  obtain ⟨S0, eS0⟩ : ∃ S0, S0 = ch_ob M_ 5 0 := ⟨_, rfl⟩
  have eM : d_mk M_ K0 S0 p_ = M_ := by rw [eK0, eS0]; exact d_mk_self h7
  have hL0 : (ch_ob M_ 6 0 0 1).toNatClampNeg = L := by rw [← eT]; exact cL
  have etc : d_tc M_ 0 = d_tc (d_mk M_ K0 S0 p_) 0 := by rw [eM]
  rw [d_tc_mk, ← eT] at etc
  have fin0 : ∀ (K S B' : ch_B) (p' : Nat), d_tc M_ 0 = (false, d_mk M_ K S p') → p_ ≤ p' → p' ≤ L → m_pf (ch_ob m 9 0) B' → B' 0 11 = nI p' → (S = S0 ∨ ∃ n, n ≤ 12 ∧ S 0 1 = nI n) → q 0 (ch_os m 9 0 B') := fun K S B' p' h1 h2 h3 h4 h5 h6 => by
    refine hb (by rw [h1]; exact Bool.false_ne_true) B' ⟨K, S, p', by rw [h1], h2, by rw [hL0]; exact h3, h4, h5, fun z => ?_, by rw [← eS0]; exact h6⟩
    rw [h1] at z
    exact absurd z Bool.false_ne_true
  have fin1 : ∀ (K S B' : ch_B) (p' : Nat), d_tc M_ 0 = (true, d_mk M_ K S p') → p_ < p' → p' ≤ L → m_pf (ch_ob m 9 0) B' → B' 0 11 = nI p' → (S = S0 ∨ ∃ n, n ≤ 12 ∧ S 0 1 = nI n) → m_cmK K S B' → q 1 (ch_os m 9 0 B') := fun K S B' p' h1 h2 h3 h4 h5 h6 h7 => by
    exact ha (by rw [h1]) B' ⟨K, S, p', by rw [h1], by omega, by rw [hL0]; exact h3, h4, h5, fun _ => ⟨h2, h7⟩, by rw [← eS0]; exact h6⟩
  have self : ∀ r, q r (ch_os m 9 0 (ch_ob m 9 0)) → q r m := fun r h => by
    rw [ch_os_self] at h
    exact h
  have pfr : m_pf (ch_ob m 9 0) (ch_ob m 9 0) := fun _ _ _ _ _ => rfl
  have notk : ¬ d_kd (d_sg T (nI p_)) → q 0 m := fun hk => by
    refine self 0 (fin0 K0 S0 _ p_ ?_ (Nat.le_refl _) hp pfr e11 (Or.inl rfl))
    rw [etc, if_neg (fun z => hk ((d_kdB_iff _).mp z))]
  refine g_m_isCommand_0 g _ _ ⟨fun z => ch_oi_iff.mpr (notk ?_), fun z => ⟨?_, fun hk r hr => ⟨fun _ m6 e6 => ?_, fun y => absurd hr y⟩, fun hk => ch_oi_iff.mpr (notk ?_)⟩⟩
  · rw [f10, f11, nI_eq (by omega) (by omega)] at z
    rw [d_sg_out ht.1 (by omega) (by omega)]
    unfold d_kd
    decide
  · rw [f10, f11, nI_eq (by omega) (by omega)] at z
    rw [f11]
    exact vp_in_nI (by omega) (by decide)
  · -- a kind of command
    rw [f10, f11, nI_eq (by omega) (by omega)] at z
    have hlt : p_ < L := by omega
    obtain ⟨c, ec⟩ : ∃ c, c = d_sg T (nI p_) := ⟨_, rfl⟩
    have es : m (9, 0, 7) p_ = c := by
      rw [ec, d_sg_in ht.1 (by rw [cL]; exact hlt)]
      exact ht7 p_ hlt
    have cp : (nI p_).toNatClampNeg = p_ := nI_clamp (by omega)
    rw [f11, cp, es] at hk
    rw [← ec, if_pos ((d_kdB_iff _).mpr hk)] at etc
    rw [f11, nI_1, ch_wr_os] at e6
    subst e6
    have e67 : ch_os m 9 0 (ch_bw (ch_ob m 9 0) 0 11 (nI (p_ + 1))) (9, 0, 7) p_ = c := by
      rw [ch_os_at, ch_bw_c (by decide)]
      exact es
    rw [f11, cp, e67]
    refine ⟨?_, fun m7 e7 => ?_⟩
    · unfold d_kd at hk
      rcases hk with h | h | h | h | h | h | h | h
      all_goals
        rw [h]
        decide
    · have e7' : m7 = ch_os m 9 0 (m_mkB (ch_ob m 9 0) (ch_ob m 9 0 8) c (p_ + 1)) := by
        rw [e7, ch_os_wr]
        congr 1
        funext a i
        unfold ch_bw m_mkB
        grind
      subst e7'
      clear e7
      obtain ⟨B, eB⟩ : ∃ B, B = ch_ob m 9 0 := ⟨_, rfl⟩
      obtain ⟨K1, eK1⟩ : ∃ K1, K1 = c_setB K0 c 0 0 0 := ⟨_, rfl⟩
      have k1 : K1 0 1 = c := by rw [eK1]; exact c_set_1 _ _ _ _ _
      rw [← eK1] at etc
      rw [← eB] at ht fin0 fin1 ⊢
      have tx : ∀ (t : Nat → Int32) (p : Nat), p ≤ L → m_tx T (m_mkB B t c p) p := fun t p h => m_mk_tx ht t c (by rw [cL]; exact h)
      have pf : ∀ (t : Nat → Int32) (p : Nat), m_pf B (m_mkB B t c p) := fun t p => m_mk_pf B t c p
      have dlt : ∀ p, p ≤ L → 0 ≤ d_dg T (nI p) → p + 1 ≤ L := fun p h1 h2 => by
        have := d_dg_lt ht.1 (by omega) h2
        rw [cL] at this
        omega
      have slt : ∀ p (x : Int32), p ≤ L → ¬ x = -1 → d_sg T (nI p) = x → p + 1 ≤ L := fun p x h1 hx h2 => by
        have := d_sg_lt ht.1 (by omega) hx h2
        rw [cL] at this
        omega
      have e2 : ∀ p, p ≤ L → 0 ≤ d_dg T (nI p) → p < d_e2 T p ∧ d_e2 T p ≤ L := fun p h1 h2 => by
        have := dlt p h1 h2
        unfold d_e2
        split
        · rename_i h3
          have := dlt (p + 1) this h3
          omega
        · omega
      have kk : ∀ (K : ch_B) (f : Nat) (v : Int32), f ≠ 1 → K 0 1 = c → ch_bw K 0 f v 0 1 = c := fun K f v h h2 => by
        rw [ch_bw_k (fun y => h y.symm)]
        exact h2
      have cm : ∀ (K S B' : ch_B), K 0 1 = c → B' 0 12 = c → (c = 110 → B' 8 0 = K 0 4) → (c = 99 → B' 8 0 = K 0 2 ∧ B' 8 1 = K 0 4) → (c = 104 → B' 8 0 = K 0 2 ∧ ∃ n, 1 ≤ n ∧ n ≤ 12 ∧ S 0 1 = nI n ∧ B' 0 21 = nI n ∧ ∀ i, i < n → B' 9 i = S 1 i ∧ 1 ≤ S 1 i ∧ S 1 i ≤ 3) → (c = 119 → B' 8 0 = K 0 2) → (c = 115 → B' 8 0 = K 0 2) → (c = 114 → B' 8 0 = K 0 4) → (c = 103 → B' 8 0 = K 0 2 ∧ B' 8 1 = K 0 3 ∧ B' 8 2 = K 0 4) → m_cmK K S B' := fun K S B' h1 h2 h3 h4 h5 h6 h7 h8 h9 => by
        unfold m_cmK
        rw [h1]
        exact ⟨h2, hk, h3, h4, h5, h6, h7, h8, h9⟩
      simp only [forall_eq, ch_oi_iff, ch_os_at, ch_ob_os, ch_os_os, m_mk_w, m_mk_8, m_mk_11, ch_os_wr]
      unfold d_tc1 at etc
      have nm : ∀ x : Nat, x < 300 → ¬ nI x = -1 := fun x hx y => nI_pos (n := x) (by omega) (by rw [y]; decide)
      refine ⟨fun ck => ?_, fun ck => ?_, fun ck => ?_, fun ck => ?_, fun ck => ?_, fun ck => ?_⟩
      · -- 99
        have d1 : ¬ c = 110 := by rw [ck]; decide
        rw [if_neg d1, if_pos ck, d_tk_mk, ← eT] at etc
        unfold d_and at etc
        refine ⟨T, p_ + 1, tx _ _ (by omega), fun g1 => ?_, fun g1 => ⟨T, p_ + 1 + 1, tx _ _ (dlt _ (by omega) g1), by decide, fun g2 => ⟨T, p_ + 1 + 1 + 1, tx _ _ (slt _ _ (dlt _ (by omega) g1) (nm 64 (by decide)) g2), fun g3 => ?_, fun g3 => ?_⟩, fun g2 => ?_⟩⟩
        · rw [if_neg g1, if_neg Bool.false_ne_true] at etc
          exact fin0 _ _ _ _ etc (by omega) (by omega) (pf _ _) (m_mk_a _ _ _ _) (Or.inl rfl)
        · have l2 := slt _ _ (dlt _ (by omega) g1) (nm 64 (by decide)) g2
          rw [if_pos g1, if_pos rfl] at etc
          dsimp only at etc
          rw [d_ts_mk, ← eT, if_pos g2, if_pos rfl] at etc
          dsimp only at etc
          rw [d_tn_mk, ← eT, if_neg g3] at etc
          exact fin0 _ _ _ _ etc (by omega) (by omega) (pf _ _) (m_mk_a _ _ _ _) (Or.inl rfl)
        · have l2 := slt _ _ (dlt _ (by omega) g1) (nm 64 (by decide)) g2
          have l3 := e2 _ l2 g3
          rw [if_pos g1, if_pos rfl] at etc
          dsimp only at etc
          rw [d_ts_mk, ← eT, if_pos g2, if_pos rfl] at etc
          dsimp only at etc
          rw [d_tn_mk, ← eT, if_pos g3] at etc
          refine fin1 _ _ _ _ etc (by omega) (by omega) (pf _ _) (m_mk_a _ _ _ _) (Or.inl rfl) (cm _ _ _ (kk _ _ _ (by decide) (kk _ _ _ (by decide) k1)) (m_mk_w _ _ _ _) ?_ ?_ ?_ ?_ ?_ ?_ ?_)
          all_goals intro ck2
          all_goals first
          | exact absurd (ck.symm.trans ck2) (by decide)
          | skip
          rw [m_mk_t, m_mk_t, ch_bw_k (show (2 : Nat) ≠ 4 by decide), ch_bw_at, ch_bw_at, if_neg (by decide), if_pos rfl, if_pos rfl]
          exact ⟨rfl, rfl⟩
        · have l1 := dlt _ (by omega) g1
          rw [if_pos g1, if_pos rfl] at etc
          dsimp only at etc
          rw [d_ts_mk, ← eT, if_neg g2, if_neg Bool.false_ne_true] at etc
          exact fin0 _ _ _ _ etc (by omega) (by omega) (pf _ _) (m_mk_a _ _ _ _) (Or.inl rfl)
      · -- 103
        have d1 : ¬ c = 110 := by rw [ck]; decide
        have d2 : ¬ c = 99 := by rw [ck]; decide
        have d3 : ¬ c = 104 := by rw [ck]; decide
        have d4 : ¬ c = 114 := by rw [ck]; decide
        have d5 : ¬ c = 116 := by rw [ck]; decide
        rw [if_neg d1, if_neg d2, if_neg d3, if_neg d4, if_neg d5, if_pos ck, d_tk_mk, ← eT] at etc
        unfold d_and at etc
        refine ⟨T, p_ + 1, tx _ _ (by omega), fun g1 => ?_, fun g1 => ⟨T, p_ + 1 + 1, tx _ _ (dlt _ (by omega) g1), by decide, fun g2 => ⟨T, p_ + 1 + 1 + 1, tx _ _ (slt _ _ (dlt _ (by omega) g1) (nm 62 (by decide)) g2), fun g3 => ?_, fun g3 => ⟨T, p_ + 1 + 1 + 1 + 1, tx _ _ (dlt _ (slt _ _ (dlt _ (by omega) g1) (nm 62 (by decide)) g2) g3), by decide, fun g4 => ⟨T, p_ + 1 + 1 + 1 + 1 + 1, tx _ _ (slt _ _ (dlt _ (slt _ _ (dlt _ (by omega) g1) (nm 62 (by decide)) g2) g3) (nm 42 (by decide)) g4), fun g5 => ?_, fun g5 => ?_⟩, fun g4 => ?_⟩⟩, fun g2 => ?_⟩⟩
        · rw [if_neg g1, if_neg Bool.false_ne_true] at etc
          exact fin0 _ _ _ _ etc (by omega) (by omega) (pf _ _) (m_mk_a _ _ _ _) (Or.inl rfl)
        · have l2 := slt _ _ (dlt _ (by omega) g1) (nm 62 (by decide)) g2
          rw [if_pos g1, if_pos rfl] at etc
          dsimp only at etc
          rw [d_ts_mk, ← eT, if_pos g2, if_pos rfl] at etc
          dsimp only at etc
          rw [d_tk_mk, ← eT, if_neg g3, if_neg Bool.false_ne_true] at etc
          exact fin0 _ _ _ _ etc (by omega) (by omega) (pf _ _) (m_mk_a _ _ _ _) (Or.inl rfl)
        · have l2 := slt _ _ (dlt _ (by omega) g1) (nm 62 (by decide)) g2
          have l4 := slt _ _ (dlt _ l2 g3) (nm 42 (by decide)) g4
          rw [if_pos g1, if_pos rfl] at etc
          dsimp only at etc
          rw [d_ts_mk, ← eT, if_pos g2, if_pos rfl] at etc
          dsimp only at etc
          rw [d_tk_mk, ← eT, if_pos g3, if_pos rfl] at etc
          dsimp only at etc
          rw [d_ts_mk, ← eT, if_pos g4, if_pos rfl] at etc
          dsimp only at etc
          rw [d_tn_mk, ← eT, if_neg g5] at etc
          exact fin0 _ _ _ _ etc (by omega) (by omega) (pf _ _) (m_mk_a _ _ _ _) (Or.inl rfl)
        · have l2 := slt _ _ (dlt _ (by omega) g1) (nm 62 (by decide)) g2
          have l4 := slt _ _ (dlt _ l2 g3) (nm 42 (by decide)) g4
          have l5 := e2 _ l4 g5
          rw [if_pos g1, if_pos rfl] at etc
          dsimp only at etc
          rw [d_ts_mk, ← eT, if_pos g2, if_pos rfl] at etc
          dsimp only at etc
          rw [d_tk_mk, ← eT, if_pos g3, if_pos rfl] at etc
          dsimp only at etc
          rw [d_ts_mk, ← eT, if_pos g4, if_pos rfl] at etc
          dsimp only at etc
          rw [d_tn_mk, ← eT, if_pos g5] at etc
          refine fin1 _ _ _ _ etc (by omega) (by omega) (pf _ _) (m_mk_a _ _ _ _) (Or.inl rfl) (cm _ _ _ (kk _ _ _ (by decide) (kk _ _ _ (by decide) (kk _ _ _ (by decide) k1))) (m_mk_w _ _ _ _) ?_ ?_ ?_ ?_ ?_ ?_ ?_)
          all_goals intro ck2
          all_goals first
          | exact absurd (ck.symm.trans ck2) (by decide)
          | skip
          rw [m_mk_t, m_mk_t, m_mk_t, ch_bw_k (show (2 : Nat) ≠ 4 by decide), ch_bw_k (show (2 : Nat) ≠ 3 by decide), ch_bw_at, ch_bw_k (show (3 : Nat) ≠ 4 by decide), ch_bw_at, ch_bw_at]
          exact ⟨by simp, by simp, by simp⟩
        · have l2 := slt _ _ (dlt _ (by omega) g1) (nm 62 (by decide)) g2
          have l3 := dlt _ l2 g3
          rw [if_pos g1, if_pos rfl] at etc
          dsimp only at etc
          rw [d_ts_mk, ← eT, if_pos g2, if_pos rfl] at etc
          dsimp only at etc
          rw [d_tk_mk, ← eT, if_pos g3, if_pos rfl] at etc
          dsimp only at etc
          rw [d_ts_mk, ← eT, if_neg g4, if_neg Bool.false_ne_true] at etc
          exact fin0 _ _ _ _ etc (by omega) (by omega) (pf _ _) (m_mk_a _ _ _ _) (Or.inl rfl)
        · have l1 := dlt _ (by omega) g1
          rw [if_pos g1, if_pos rfl] at etc
          dsimp only at etc
          rw [d_ts_mk, ← eT, if_neg g2, if_neg Bool.false_ne_true] at etc
          exact fin0 _ _ _ _ etc (by omega) (by omega) (pf _ _) (m_mk_a _ _ _ _) (Or.inl rfl)
      · -- 104
        have d1 : ¬ c = 110 := by rw [ck]; decide
        have d2 : ¬ c = 99 := by rw [ck]; decide
        rw [if_neg d1, if_neg d2, if_pos ck, d_tk_mk, ← eT] at etc
        unfold d_and at etc
        refine ⟨T, p_ + 1, tx _ _ (by omega), fun g1 => ?_, fun g1 => ⟨T, p_ + 1 + 1, tx _ _ (dlt _ (by omega) g1), by decide, fun g2 => ⟨T, p_ + 1 + 1 + 1, tx _ _ (slt _ _ (dlt _ (by omega) g1) (nm 58 (by decide)) g2), fun g3 B8 f0 b11 b21 b9 => ?_, fun g3 B8 f0 b11 => ?_⟩, fun g2 => ?_⟩⟩
        · rw [if_neg g1, if_neg Bool.false_ne_true] at etc
          exact fin0 _ _ _ _ etc (by omega) (by omega) (pf _ _) (m_mk_a _ _ _ _) (Or.inl rfl)
        · have l2 := slt _ _ (dlt _ (by omega) g1) (nm 58 (by decide)) g2
          have l3 := d_ns_lt ht.1 12 (p_ + 1 + 1 + 1) (by rw [cL]; exact l2)
          rw [cL] at l3
          have l4 := d_ns_le T 12 (p_ + 1 + 1 + 1)
          rw [if_pos g1, if_pos rfl] at etc
          dsimp only at etc
          rw [d_ts_mk, ← eT, if_pos g2, if_pos rfl] at etc
          dsimp only at etc
          obtain ⟨S', s1, s2, s3⟩ := d_st_mk M_ (ch_bw K1 0 2 (d_dg T (nI (p_ + 1)))) S0 (p_ + 1 + 1 + 1)
          rw [← eT] at s1 s2 s3
          rw [s1, decide_eq_true g3] at etc
          have p8 : m_pf B B8 := fun a i h1 h2 h3 => by
            rw [f0 a i h2 (by omega)]
            exact pf _ _ a i h1 h2 h3
          refine fin1 _ _ _ _ etc (by omega) (by omega) p8 b11 (Or.inr ⟨_, l4, s2⟩) (cm _ _ _ (kk _ _ _ (by decide) k1) ((f0 0 12 (by decide) (by omega)).trans (m_mk_w _ _ _ _)) ?_ ?_ ?_ ?_ ?_ ?_ ?_)
          all_goals intro ck2
          all_goals first
          | exact absurd (ck.symm.trans ck2) (by decide)
          | skip
          refine ⟨?_, _, Nat.pos_of_ne_zero g3, l4, s2, b21, fun i hi => ⟨(b9 i hi).trans (s3 i hi).symm, ?_⟩⟩
          · rw [f0 8 0 (by decide) (by omega), m_mk_t, ch_bw_at, if_pos rfl]
          · rw [s3 i hi]
            exact d_ns_st 12 _ i hi
        · have l2 := slt _ _ (dlt _ (by omega) g1) (nm 58 (by decide)) g2
          rw [if_pos g1, if_pos rfl] at etc
          dsimp only at etc
          rw [d_ts_mk, ← eT, if_pos g2, if_pos rfl] at etc
          dsimp only at etc
          obtain ⟨S', s1, s2, s3⟩ := d_st_mk M_ (ch_bw K1 0 2 (d_dg T (nI (p_ + 1)))) S0 (p_ + 1 + 1 + 1)
          rw [← eT] at s1 s2 s3
          rw [s1, g3, Nat.add_zero] at etc
          have p8 : m_pf B B8 := fun a i h1 h2 h3 => by
            rw [f0 a i h2 (by omega)]
            exact pf _ _ a i h1 h2 h3
          exact fin0 _ _ _ _ etc (by omega) (by omega) p8 b11 (Or.inr ⟨_, by omega, s2⟩)
        · have l1 := dlt _ (by omega) g1
          rw [if_pos g1, if_pos rfl] at etc
          dsimp only at etc
          rw [d_ts_mk, ← eT, if_neg g2, if_neg Bool.false_ne_true] at etc
          exact fin0 _ _ _ _ etc (by omega) (by omega) (pf _ _) (m_mk_a _ _ _ _) (Or.inl rfl)
      · -- 110
        rw [if_pos ck, d_tn_mk, ← eT] at etc
        refine ⟨T, p_ + 1, tx _ _ (by omega), fun g1 => ?_, fun g1 => ?_⟩
        · rw [if_neg g1] at etc
          exact fin0 _ _ _ _ etc (by omega) (by omega) (pf _ _) (m_mk_a _ _ _ _) (Or.inl rfl)
        · have l3 := e2 (p_ + 1) (by omega) g1
          rw [if_pos g1] at etc
          refine fin1 _ _ _ _ etc (by omega) (by omega) (pf _ _) (m_mk_a _ _ _ _) (Or.inl rfl) (cm _ _ _ (kk _ _ _ (by decide) k1) (m_mk_w _ _ _ _) ?_ ?_ ?_ ?_ ?_ ?_ ?_)
          all_goals intro ck2
          all_goals first
          | exact absurd (ck.symm.trans ck2) (by decide)
          | skip
          rw [m_mk_t, ch_bw_at, if_pos rfl]
      · -- 116
        have d1 : ¬ c = 110 := by rw [ck]; decide
        have d2 : ¬ c = 99 := by rw [ck]; decide
        have d3 : ¬ c = 104 := by rw [ck]; decide
        have d4 : ¬ c = 114 := by rw [ck]; decide
        rw [if_neg d1, if_neg d2, if_neg d3, if_neg d4, if_pos ck] at etc
        refine fin1 _ _ _ _ etc (by omega) (by omega) (pf _ _) (m_mk_a _ _ _ _) (Or.inl rfl) (cm _ _ _ k1 (m_mk_w _ _ _ _) ?_ ?_ ?_ ?_ ?_ ?_ ?_)
        all_goals intro ck2
        all_goals exact absurd (ck.symm.trans ck2) (by decide)
      · -- w, s, r
        obtain ⟨d2, d6, d3, d1, d5⟩ := ck
        rw [if_neg d1, if_neg d2, if_neg d3] at etc
        by_cases d4 : c = 114
        · rw [if_pos d4, d_tk_mk, ← eT] at etc
          refine ⟨T, p_ + 1, tx _ _ (by omega), fun g1 => ?_, fun g1 => ?_⟩
          · rw [if_neg g1] at etc
            exact fin0 _ _ _ _ etc (by omega) (by omega) (pf _ _) (m_mk_a _ _ _ _) (Or.inl rfl)
          · have l1 := dlt _ (by omega) g1
            rw [if_pos g1] at etc
            refine fin1 _ _ _ _ etc (by omega) (by omega) (pf _ _) (m_mk_a _ _ _ _) (Or.inl rfl) (cm _ _ _ (kk _ _ _ (by decide) k1) (m_mk_w _ _ _ _) ?_ ?_ ?_ ?_ ?_ ?_ ?_)
            all_goals intro ck2
            all_goals first
            | exact absurd (d4.symm.trans ck2) (by decide)
            | skip
            rw [m_mk_t, ch_bw_at, if_pos rfl]
        · rw [if_neg d4, if_neg d5, if_neg d6, d_tk_mk, ← eT] at etc
          refine ⟨T, p_ + 1, tx _ _ (by omega), fun g1 => ?_, fun g1 => ?_⟩
          · rw [if_neg g1] at etc
            exact fin0 _ _ _ _ etc (by omega) (by omega) (pf _ _) (m_mk_a _ _ _ _) (Or.inl rfl)
          · have l1 := dlt _ (by omega) g1
            rw [if_pos g1] at etc
            refine fin1 _ _ _ _ etc (by omega) (by omega) (pf _ _) (m_mk_a _ _ _ _) (Or.inl rfl) (cm _ _ _ (kk _ _ _ (by decide) k1) (m_mk_w _ _ _ _) (fun y => absurd y d1) (fun y => absurd y d2) (fun y => absurd y d3) (fun _ => ?_) (fun _ => ?_) (fun y => absurd y d4) (fun y => absurd y d6))
            all_goals rw [m_mk_t, ch_bw_at, if_pos rfl]
  · rw [f10, f11, nI_eq (by omega) (by omega)] at z
    have hlt : p_ < L := by omega
    rw [d_sg_in ht.1 (by rw [cL]; exact hlt), ← ht7 p_ hlt]
    rw [f11, nI_clamp (by omega)] at hk
    exact hk
