theorem d_fp_ok {T : ch_B} (h1 : vp_in (T 0 1) 61) {n p : Nat} (hp : p ≤ (T 0 1).toNatClampNeg) (h : d_fp T n p = -1) : (d_pt T p).1 = true ∧ ((d_pt T p).2 = (T 0 1).toNatClampNeg ∨ (d_sg T (nI (d_pt T p).2) = 59 ∧ ∃ n', d_fp T n' ((d_pt T p).2 + 1) = -1)) := by
  obtain ⟨L, hL, eL⟩ := vp_in_of h1 (by decide)
  have cL : (T 0 1).toNatClampNeg = L := by rw [eL, nI_clamp (by omega)]
  have hno : ∀ x, x ≤ L → ¬ nI x = -1 := fun x hx z => nI_pos (n := x) (by omega) (by rw [z]; decide)
  obtain ⟨⟨g1, g2⟩, -⟩ := d_pt_ok h1 hp
  cases n with
  | zero => exact absurd h (hno p (by omega))
  | succ n =>
    rw [d_fp] at h
    by_cases a : (d_pt T p).1 = true
    · rw [if_pos a] at h
      refine ⟨a, ?_⟩
      by_cases b : nI (d_pt T p).2 = T 0 1
      · rw [eL] at b
        exact Or.inl (by rw [cL]; exact (nI_eq (by omega) (by omega)).mp b)
      · rw [if_neg b] at h
        by_cases c : d_sg T (nI (d_pt T p).2) = 59
        · rw [if_pos c] at h
          exact Or.inr ⟨c, n, h⟩
        · rw [if_neg c] at h
          exact absurd h (hno _ (by omega))
    · rw [if_neg a] at h
      exact absurd h (hno _ (by omega))
theorem x_ct_end (M : ch_M) (K S : ch_B) (L N : Nat) (k : Int32) (h : d_sg (ch_ob M 6 0) (nI L) = -1) : x_ct N k (d_mk M K S L) = (k, d_mk M K S L) := by
  cases N with
  | zero => rfl
  | succ N =>
    have e : d_tc (d_mk M K S L) 0 = (false, d_mk M K S L) := by
      rw [d_tc_mk, h, if_neg d_kd_1]
    rw [x_ct, e, if_neg Bool.false_ne_true]
def m_pg (B B' : ch_B) : Prop := ∀ a i, a ≠ 1 → a ≠ 8 → a ≠ 9 → ¬ (a = 0 ∧ (i = 11 ∨ i = 12 ∨ i = 18 ∨ i = 21)) → B' a i = B a i
def m_cmS (B B' : ch_B) : Prop := (∀ a i, a = 5 ∨ a = 6 → B' a i = B a i) ∧ B' 0 6 = B 0 6 ∧ B' 0 8 = B 0 8 ∧ B' 0 10 = 0
def m_same (B B' : ch_B) : Prop := (∀ i, i < 63 → B' 1 i = B 1 i) ∧ B' 0 4 = B 0 4 ∧ ∀ i, B' 4 i = B 4 i
def m_rsM (M : ch_M) (B' : ch_B) : Prop := B' 0 15 = M (3, 0, 0) 0 ∧ B' 0 16 = M (3, 0, 0) 1 ∧ B' 0 17 = M (3, 0, 0) 2
theorem x_b_ob {M : ch_M} {a j : Nat} (h : ¬ (a = 0 ∧ j = 0)) (h1 : ¬ (a = 1 ∧ j = 1)) (h4 : ¬ (a = 4 ∧ j = 0)) (h5 : ¬ (a = 5 ∧ j = 0)) (h7 : ¬ (a = 7 ∧ j = 0)) : ch_ob (x_b M) a j = ch_ob M a j := by
  obtain ⟨K', S', p', e, -⟩ := d_ff_fp M 60 (ch_ob M 4 0) (ch_ob M 5 0) 0
  have eF : x_F M = (d_fp (ch_ob M 6 0) 60 0, d_mk M K' S' p') := by
    unfold x_F
    rw [x_p0_mk]
    exact e
  unfold x_b x_f1
  rw [eF, ch_ob_ne h1, ch_wr_os, ch_ob_ne h, d_mk_ob h4 h5 h7]
theorem x_b_5 {M : ch_M} (hS : vp_in (M (5, 0, 0) 1) 13) : vp_in (ch_ob (x_b M) 5 0 0 1) 13 := by
  obtain ⟨K', S', p', e, h⟩ := d_ff_fp M 60 (ch_ob M 4 0) (ch_ob M 5 0) 0
  have eF : x_F M = (d_fp (ch_ob M 6 0) 60 0, d_mk M K' S' p') := by
    unfold x_F
    rw [x_p0_mk]
    exact e
  unfold x_b x_f1
  rw [eF, ch_ob_ne (by omega), ch_wr_os, ch_ob_ne (by omega), d_mk_5]
  exact d_okS_v h hS
theorem x_F_fp (M : ch_M) : (x_F M).1 = d_fp (ch_ob M 6 0) 60 0 := by
  obtain ⟨K', S', p', e, -⟩ := d_ff_fp M 60 (ch_ob M 4 0) (ch_ob M 5 0) 0
  unfold x_F
  rw [x_p0_mk, e]
set_option maxHeartbeats 1600000 in
theorem s_m_commands (g : ch_G) (q : Int32 → ch_M → Prop) (T_ : Nat) (M_ : ch_M) (m : ch_M) (h : (m_rel (ch_ob M_ 1 0) (m (9, 0, 1))) ∧ (y_inv T_ (ch_ob M_ 1 0)) ∧ (T_ + 800 < 2 ^ 31) ∧ (0 < T_) ∧ (m_txt (ch_ob M_ 6 0) (ch_ob m 9 0)) ∧ (vp_in (m (9, 0, 0) 4) 9) ∧ (vp_in (M_ (5, 0, 0) 1) 13) ∧ (((x_F M_).1 = -1 ∧ ¬ (x_cc M_).1 = 0) → (∀ (B_ : ch_B), (m_rel (ch_ob (x_cc M_).2 1 0) (B_ 1)) → (m_push (ch_ob m 9 0) B_) → (m_cmS (ch_ob m 9 0) B_) → (m_rs (ch_ob m 9 0) B_) → (B_ 0 14 = -1) → (B_ 0 19 = 0) → q ((x_cc M_).1) (ch_os m 9 0 B_))) ∧ ((¬ (x_F M_).1 = -1) → (∀ (B_ : ch_B), (m_cmS (ch_ob m 9 0) B_) → (m_rs (ch_ob m 9 0) B_) → (B_ 0 14 = (x_F M_).1) → (B_ 0 19 = 1) → (m_same (ch_ob m 9 0) B_) → q 0 (ch_os m 9 0 B_))) ∧ (((x_F M_).1 = -1 ∧ (x_cc M_).1 = 0) → (∀ (B_ : ch_B), (m_cmS (ch_ob m 9 0) B_) → (B_ 0 14 = -1) → (B_ 0 19 = 2) → (m_same (ch_ob m 9 0) B_) → (m_rsM (x_cc M_).2 B_) → q 0 (ch_os m 9 0 B_)))) : ch_C g m_m_commands [.inr (9, 0, 0)] m (ch_oi q) := by
  refine e_m_commands g _  m ?_
  obtain ⟨hr, hi, hT, hT0, ht, h4, hS, ha, hb, hc⟩ := h
  obtain ⟨B, eB⟩ : ∃ B, B = ch_ob m 9 0 := ⟨_, rfl⟩
  rw [← eB] at ht ha hb hc
  obtain ⟨T, eT⟩ : ∃ T, T = ch_ob M_ 6 0 := ⟨_, rfl⟩
  rw [← eT] at ht
  obtain ⟨hv, ht10, ht7⟩ := ht
  obtain ⟨L, hL, eL⟩ := vp_in_of hv (by decide)
  have cL : (T 0 1).toNatClampNeg = L := by rw [eL, nI_clamp (by omega)]
  rw [cL] at ht7
  have b4 : B 0 4 = m (9, 0, 0) 4 := by rw [eB]; rfl
  obtain ⟨Bt, eBt⟩ : ∃ Bt, Bt = ch_bw (ch_bw (m_trB B) 0 11 0) 0 14 (-1) := ⟨_, rfl⟩
  have tB : ∀ a i, a ≠ 2 → ¬ (a = 0 ∧ (i = 11 ∨ i = 14 ∨ i = 19)) → Bt a i = B a i := fun a i h1 h2 => by
    rw [eBt]
    unfold ch_bw
    rw [if_neg (by omega), if_neg (by omega)]
    exact m_trB_o (by omega) h1
  have tB2 : ∀ i, i < 63 → Bt 2 i = B 1 i := fun i h => by
    rw [eBt, ch_bw_c (by decide), ch_bw_c (by decide)]
    exact m_trB_2 h
  have tB19 : Bt 0 19 = 0 := by
    rw [eBt, ch_bw_k (by decide), ch_bw_k (by decide)]
    unfold m_trB m_trK
    rw [if_pos ⟨rfl, rfl⟩]
  have tB14 : Bt 0 14 = -1 := by rw [eBt, ch_bw_at]
  have tB11 : Bt 0 11 = nI 0 := by rw [eBt, ch_bw_k (by decide), ch_bw_at]; rfl
  have tx0 : m_tx T Bt 0 := ⟨hv, (tB 0 10 (by decide) (by omega)).trans ht10, fun k hk => (tB 7 k (by decide) (by omega)).trans (ht7 k (by omega)), tB11, Nat.zero_le _⟩
  have txf : ∀ (B' : ch_B) (p : Nat), m_pf Bt B' → B' 0 11 = nI p → p ≤ L → m_tx T B' p := fun B' p h1 h2 h3 => ⟨hv, (h1 0 10 (by decide) (by decide) (by omega)).trans tx0.2.1, fun k hk => (h1 7 k (by decide) (by decide) (by omega)).trans (tx0.2.2.1 k hk), h2, by rw [cL]; exact h3⟩
  have txg : ∀ (B' : ch_B) (p : Nat), m_pg Bt B' → B' 0 11 = nI p → p ≤ L → m_tx T B' p := fun B' p h1 h2 h3 => ⟨hv, (h1 0 10 (by decide) (by decide) (by decide) (by omega)).trans tx0.2.1, fun k hk => (h1 7 k (by decide) (by decide) (by decide) (by omega)).trans (tx0.2.2.1 k hk), h2, by rw [cL]; exact h3⟩
  have eF := x_F_fp M_
  rw [← eT] at eF
  rw [eF] at ha hb hc
  -- the second pass
  have e6b : ch_ob (x_b M_) 6 0 = T := by rw [eT]; exact x_b_ob (by omega) (by omega) (by omega) (by omega) (by omega)
  have e1b : ch_ob (x_b M_) 1 0 = ch_ob M_ 1 0 := x_b_ob (by omega) (by omega) (by omega) (by omega) (by omega)
  obtain ⟨Mb, eMb⟩ : ∃ Mb, Mb = x_b M_ := ⟨_, rfl⟩
  have ecc : x_cc M_ = x_ct 60 (nI 0) (d_mk (ch_os Mb 1 0 (ch_ob M_ 1 0)) (ch_ob Mb 4 0) (ch_ob Mb 5 0) 0) := by
    unfold x_cc
    rw [x_p0_mk, ← eMb, ← e1b, ← eMb, ch_os_self]
    rfl
  rw [← eMb] at e6b
  have hSb : vp_in (ch_ob Mb 5 0 0 1) 13 := by rw [eMb]; exact x_b_5 hS
  have hL6 : ∀ Y : ch_B, ch_ob (ch_os Mb 1 0 Y) 6 0 = T := fun Y => by rw [d_ob6_1]; exact e6b
  have back : d_fp T 60 0 = -1 → (x_cc M_).1 = 0 → ∀ (B'' : ch_B), m_pg Bt B'' ∨ (∀ a i, a ≠ 1 → a ≠ 8 → a ≠ 9 → ¬ (a = 0 ∧ (i = 11 ∨ i = 12 ∨ i = 18 ∨ i = 21 ∨ i = 10 ∨ i = 15 ∨ i = 16 ∨ i = 17)) → B'' a i = Bt a i) → B'' 0 10 = 0 → m_rsM (x_cc M_).2 B'' → ∀ o1 o2 o3 o4, ch_J g m_m_commands (ch_rm m_m_commands) (ch_E g m_m_commands (ch_oi q)) 162 [some (.inr (9, 0, 0)), some (.inl (.int o1)), some (.inl (.int o2)), some (.inl (.int o3)), some (.inl (.int o4)), some (.inl (.int 0))] [] (ch_os m 9 0 B'') 0 := by
    intro hfp hcc B'' hpg0 h10 hrs o1 o2 o3 o4
    have hpg : ∀ a i, a ≠ 1 → a ≠ 8 → a ≠ 9 → ¬ (a = 0 ∧ (i = 11 ∨ i = 12 ∨ i = 18 ∨ i = 21 ∨ i = 10 ∨ i = 15 ∨ i = 16 ∨ i = 17)) → B'' a i = Bt a i := by
      rcases hpg0 with h | h
      · exact fun a i h1 h2 h3 h4 => h a i h1 h2 h3 (by omega)
      · exact h
    have key : ∀ k, k ≤ 63 → ch_J g m_m_commands (ch_rm m_m_commands) (ch_E g m_m_commands (ch_oi q)) 162 [some (.inr (9, 0, 0)), some (.inl (.int o1)), some (.inl (.int o2)), some (.inl (.int o3)), some (.inl (.int o4)), some (.inl (.int (nI k)))] [] (ch_os m 9 0 (fun a i => if a = 1 ∧ i < k then B'' 2 i else B'' a i)) 0 := by
      refine ch_down _ 63 ?_ ?_
      · refine g_m_commands_162 g _ _ _ _ _ _ _ ?_
        refine ⟨fun _ m2 e2 => ?_, fun z => absurd (by decide) z⟩
        rw [ch_os_wr] at e2
        subst e2
        refine ch_oi_iff.mpr (hc ⟨hfp, hcc⟩ _ ⟨fun a i h1 => ?_, ?_, ?_, ?_⟩ ?_ (ch_bw_at _ _ _ _) ⟨fun i hi => ?_, ?_, fun i => ?_⟩ ⟨?_, ?_, ?_⟩)
        · rw [ch_bw_c (by omega), if_neg (by omega), hpg a i (by omega) (by omega) (by omega) (by omega)]
          exact tB a i (by omega) (by omega)
        · rw [ch_bw_k (by decide), if_neg (by omega), hpg 0 6 (by omega) (by omega) (by omega) (by omega)]
          exact tB 0 6 (by omega) (by omega)
        · rw [ch_bw_k (by decide), if_neg (by omega), hpg 0 8 (by omega) (by omega) (by omega) (by omega)]
          exact tB 0 8 (by omega) (by omega)
        · rw [ch_bw_k (by decide), if_neg (by omega)]
          exact h10
        · rw [ch_bw_k (by decide), if_neg (by omega), hpg 0 14 (by omega) (by omega) (by omega) (by omega)]
          exact tB14
        · rw [ch_bw_c (by decide), if_pos ⟨rfl, hi⟩, hpg 2 i (by omega) (by omega) (by omega) (by omega)]
          exact tB2 i hi
        · rw [ch_bw_k (by decide), if_neg (by omega), hpg 0 4 (by omega) (by omega) (by omega) (by omega)]
          exact tB 0 4 (by omega) (by omega)
        · rw [ch_bw_c (by decide), if_neg (by omega), hpg 4 i (by omega) (by omega) (by omega) (by omega)]
          exact tB 4 i (by omega) (by omega)
        · rw [ch_bw_k (by decide), if_neg (by omega)]
          exact hrs.1
        · rw [ch_bw_k (by decide), if_neg (by omega)]
          exact hrs.2.1
        · rw [ch_bw_k (by decide), if_neg (by omega)]
          exact hrs.2.2
      · intro k hk ih
        refine g_m_commands_162 g _ _ _ _ _ _ _ ?_
        have a1 : ¬ (63 : Int32) ≤ nI k := nI_ge (b := 63) hk (by decide)
        refine ⟨fun z => absurd z a1, fun _ => ⟨vp_in_nI hk (by decide), fun m5 e5 => ?_⟩⟩
        rw [ch_os_wr, nI_clamp (by omega), ch_os_at, if_neg (show ¬ (2 = 1 ∧ k < k) by omega)] at e5
        have e3 : ch_bw (fun a i => if a = 1 ∧ i < k then B'' 2 i else B'' a i) 1 k (B'' 2 k) = (fun a i => if a = 1 ∧ i < k + 1 then B'' 2 i else B'' a i) := by
          funext a i
          unfold ch_bw
          grind
        rw [e3] at e5
        subst e5
        rw [nI_1]
        exact ih
    have h0 := key 0 (by omega)
    have e0 : (fun a i => if a = 1 ∧ i < 0 then B'' 2 i else B'' a i) = B'' := by
      funext a i
      rw [if_neg (by omega)]
    rw [e0] at h0
    exact h0
  have pass2 : d_fp T 60 0 = -1 → ∀ (N p k Tb : Nat) (Y K S B' : ch_B) (o1 : Int32) (o5 : Option ch_V), p ≤ L → L ≤ p + N → k ≤ p → (∃ n', d_fp T n' p = -1) → m_rel Y (B' 1) → y_inv Tb Y → 0 < Tb → Tb + 12 * N < 2 ^ 31 → vp_in (S 0 1) 13 → m_pg Bt B' → B' 0 11 = nI p → x_cc M_ = x_ct N (nI k) (d_mk (ch_os Mb 1 0 Y) K S p) → ch_J g m_m_commands (ch_rm m_m_commands) (ch_E g m_m_commands (ch_oi q)) 94 [some (.inr (9, 0, 0)), some (.inl (.int o1)), some (.inl (.int (nI k))), some (.inl (.int 1)), some (.inl (.int 1)), o5] [] (ch_os m 9 0 B') 0 := by
    intro hfp N
    induction N with
    | zero =>
      intro p k Tb Y K S B' o1 o5 hp hN hk ⟨n', hn'⟩
      have hpL : p = L := by omega
      obtain ⟨g1, -⟩ := d_fp_ok hv (by omega) hn'
      have := (d_pt_ok hv (show p ≤ (T 0 1).toNatClampNeg by omega)).2 g1
      have := (d_pt_ok hv (show p ≤ (T 0 1).toNatClampNeg by omega)).1.2
      omega
    | succ N ih =>
      intro p k Tb Y K S B' o1 o5 hp hN hk ⟨n', hn'⟩ hrY hiY hT0 hTb hSv hpg b11 hcc
      obtain ⟨g1, g2⟩ := d_fp_ok hv (by omega) hn'
      obtain ⟨⟨p1, p2⟩, p3⟩ := d_pt_ok hv (show p ≤ (T 0 1).toNatClampNeg by omega)
      have p3 := p3 g1
      rw [cL] at p2
      obtain ⟨K0, S0, etc, -⟩ := d_tc_pt (ch_os Mb 1 0 Y) K S p
      rw [hL6] at etc
      have etc1 : (d_tc (d_mk (ch_os Mb 1 0 Y) K S p) 0).1 = true := by rw [etc]; exact g1
      refine g_m_commands_94 g _ _ _ _ _ _ _ ?_
      simp only [forall_eq, ch_os_p, ch_ob_os, ch_os_os, ch_os_wr]
      refine ⟨fun z => absurd z (by decide), fun _ => ⟨d_mk (ch_os Mb 1 0 Y) K S p, p, by rw [d_mk_6, hL6]; exact txg B' p hpg b11 hp, d_mk_p _ _ _ _, fun _ B9 hpar => ?_, fun z => absurd etc1 z⟩⟩
      obtain ⟨K', S', p'', f1, f2, f3, f4, f5, f6, f7⟩ := hpar
      rw [d_mk_6, hL6, cL] at f3
      obtain ⟨f6a, f6b⟩ := f6 etc1
      have ep : p'' = (d_pt T p).2 := by
        rw [etc] at f1
        have := congrFun (congrFun f1 (7, 0, 0)) 0
        dsimp only at this
        rw [d_mk_p, d_mk_p] at this
        exact ((nI_eq (by omega) (by omega)).mp this).symm
      rw [← ep] at g2 p2 p3
      have hSv' : vp_in (S' 0 1) 13 := by
        rcases f7 with f7 | ⟨n, n1, n2⟩
        · rw [f7, d_mk_5]
          exact hSv
        · rw [n2]
          exact vp_in_nI (by omega) (by decide)
      have pg9 : m_pg Bt B9 := fun a i h1 h2 h3 h4 => (f4 a i h2 h3 (by omega)).trans (hpg a i h1 h2 h3 h4)
      have r9 : m_rel Y (B9 1) := by
        have : B9 1 = B' 1 := by
          funext i
          exact f4 1 i (by decide) (by decide) (by omega)
        rw [this]
        exact hrY
      rw [d_mk_mk] at f1
      rw [x_ct, if_pos etc1, f1, x_R_mk, x_nM_mk, e6b] at hcc
      refine ⟨Tb, Y, K', S', r9, hiY, f6b, fun hw B20 hr20 f20 => ⟨T, p'', ?_, by decide, fun h59 => ?_, fun h59 => ?_⟩, fun hw => ?_⟩
      · have pg20 : m_pg Bt B20 := fun a i h1 h2 h3 h4 => (f20 a i h1 (by omega)).trans (pg9 a i h1 h2 h3 h4)
        exact txg B20 p'' pg20 ((f20 0 11 (by decide) (by omega)).trans f5) f3
      · have pg20 : m_pg Bt B20 := fun a i h1 h2 h3 h4 => (f20 a i h1 (by omega)).trans (pg9 a i h1 h2 h3 h4)
        have hlt := d_sg_lt hv (show p'' < 2 ^ 31 by omega) (by decide) h59
        rw [cL] at hlt
        rw [if_pos hw, if_pos h59, nI_1] at hcc
        obtain ⟨v1, -⟩ := y_car_inv (by omega) hT0 hiY hSv' hw
        rw [nI_1]
        refine ih (p'' + 1) (k + 1) (Tb + 12) _ K' S' _ 1 o5 (by omega) (by omega) (by omega) ?_ ?_ v1 (by omega) (by omega) hSv' ?_ (ch_bw_at _ _ _ _) hcc
        · rcases g2 with g2 | g2
          · rw [cL] at g2
            omega
          · exact g2.2
        · rw [ch_bw1 (by decide)]
          exact hr20
        · intro a i h1 h2 h3 h4
          unfold ch_bw
          rw [if_neg (by omega)]
          exact pg20 a i h1 h2 h3 h4
      · have pg20 : m_pg Bt B20 := fun a i h1 h2 h3 h4 => (f20 a i h1 (by omega)).trans (pg9 a i h1 h2 h3 h4)
        have hpL : p'' = L := by
          rcases g2 with g2 | g2
          · rw [cL] at g2
            exact g2
          · exact absurd g2.1 h59
        rw [if_pos hw, if_neg h59, nI_1, hpL, x_ct_end _ _ _ _ _ _ (by rw [hL6]; exact d_sg_out hv (by omega) (by omega))] at hcc
        refine g_m_commands_94 g _ _ _ _ _ _ _ ?_
        simp only [forall_eq, ch_os_at, ch_ob_os, ch_os_os, ch_os_wr]
        have hk1 : ¬ nI (k + 1) = 0 := nI_ne0 (by omega) (by omega)
        have f4 : ch_bw B20 0 10 0 0 4 = B 0 4 := by
          rw [ch_bw_k (by decide), pg20 0 4 (by decide) (by decide) (by decide) (by omega)]
          exact tB 0 4 (by decide) (by omega)
        refine ⟨fun _ => ⟨fun z => absurd z (by decide), fun _ => ⟨?_, ?_⟩⟩, fun z => absurd trivial z⟩
        · rw [f4, b4]
          exact h4
        · rw [nI_1]
          have hcc1 : (x_cc M_).1 = nI (k + 1) := by rw [hcc]
          have hcc2 : ch_ob (x_cc M_).2 1 0 = (y_car Y K' (S' 1) (S' 0 1).toNatClampNeg).2 := by
            rw [hcc]
            dsimp only
            rw [d_mk_Y, ch_ob_os]
          refine ch_oi_iff.mpr ?_
          rw [← hcc1]
          refine ha ⟨hfp, by rw [hcc1]; exact hk1⟩ _ ?_ (m_kB_push f4 (fun i hi => ?_) (fun i => ?_)) ⟨fun a i h1 => ?_, ?_, ?_, ?_⟩ ⟨?_, ?_, ?_⟩ ?_ ?_
          · have : m_kB (ch_bw B20 0 10 0) 1 = B20 1 := by
              funext i
              rw [m_kB_o (by omega) (by decide), ch_bw_c (by decide)]
            rw [this, hcc2]
            exact hr20
          · rw [ch_bw_c (by decide), pg20 2 i (by decide) (by decide) (by decide) (by omega)]
            exact tB2 i hi
          · rw [ch_bw_c (by decide), pg20 4 i (by decide) (by decide) (by decide) (by omega)]
            exact tB 4 i (by decide) (by omega)
          · rw [m_kB_o (by omega) (by omega), ch_bw_c (by omega), pg20 a i (by omega) (by omega) (by omega) (by omega)]
            exact tB a i (by omega) (by omega)
          · rw [m_kB_o (by omega) (by omega), ch_bw_k (by decide), pg20 0 6 (by omega) (by omega) (by omega) (by omega)]
            exact tB 0 6 (by omega) (by omega)
          · rw [m_kB_o (by omega) (by omega), ch_bw_k (by decide), pg20 0 8 (by omega) (by omega) (by omega) (by omega)]
            exact tB 0 8 (by omega) (by omega)
          · rw [m_kB_o (by omega) (by omega), ch_bw_at]
          · rw [m_kB_o (by omega) (by omega), ch_bw_k (by decide), pg20 0 15 (by omega) (by omega) (by omega) (by omega)]
            exact tB 0 15 (by omega) (by omega)
          · rw [m_kB_o (by omega) (by omega), ch_bw_k (by decide), pg20 0 16 (by omega) (by omega) (by omega) (by omega)]
            exact tB 0 16 (by omega) (by omega)
          · rw [m_kB_o (by omega) (by omega), ch_bw_k (by decide), pg20 0 17 (by omega) (by omega) (by omega) (by omega)]
            exact tB 0 17 (by omega) (by omega)
          · rw [m_kB_o (by omega) (by omega), ch_bw_k (by decide), pg20 0 14 (by omega) (by omega) (by omega) (by omega)]
            exact tB14
          · rw [m_kB_o (by omega) (by omega), ch_bw_k (by decide), pg20 0 19 (by omega) (by omega) (by omega) (by omega)]
            exact tB19
      · rw [if_neg hw] at hcc
        refine g_m_commands_94 g _ _ _ _ _ _ _ ?_
        simp only [forall_eq, ch_os_at, ch_ob_os, ch_os_os, ch_os_wr]
        refine ⟨fun _ => ⟨fun _ => ?_, fun z => absurd trivial z⟩, fun z => absurd trivial z⟩
        refine back hfp (by rw [hcc]) _ (Or.inr (fun a i h1 h2 h3 h4 => ?_)) ?_ ⟨?_, ?_, ?_⟩ _ _ _ _
        · unfold ch_bw
          rw [if_neg (by omega)]
          unfold m_refB ch_bw
          rw [if_neg (by omega), if_neg (by omega), if_neg (by omega), if_neg (by omega)]
          exact pg9 a i h1 h2 h3 (by omega)
        · rw [ch_bw_k (by decide), ch_bw_at]
        · rw [hcc]
          dsimp only
          rw [ch_bw_k (by decide), ch_bw_k (by decide)]
          unfold r_kp
          rw [ch_wr_k (by decide), ch_os_at]
          unfold m_refB
          rw [ch_bw_k (by decide), ch_bw_k (by decide), ch_bw_at, ch_bw_k (by decide), ch_bw_k (by decide), ch_bw_at]
        · rw [hcc]
          dsimp only
          rw [ch_bw_k (by decide), ch_bw_k (by decide)]
          unfold r_kp
          rw [ch_wr_k (by decide), ch_os_at]
          unfold m_refB
          rw [ch_bw_k (by decide), ch_bw_at, ch_bw_k (by decide), ch_bw_at]
        · rw [hcc]
          dsimp only
          rw [ch_bw_at, ch_wr_v]
  -- the first pass
  have pass1 : ∀ (n p : Nat) (B' : ch_B) (o2 o3 o4 o5 : Option ch_V), p ≤ L → ((d_pt T p).1 = true → L ≤ (d_pt T p).2 + n) → m_pf Bt B' → B' 0 11 = nI (d_pt T p).2 → d_fp T (n + 1) p = d_fp T 60 0 → ch_J g m_m_commands (ch_rm m_m_commands) (ch_E g m_m_commands (ch_oi q)) 19 [some (.inr (9, 0, 0)), some (.inl (.int (if (d_pt T p).1 = true then 1 else 0))), o2, o3, o4, o5] [] (ch_os m 9 0 B') 0 := by
    have bad : ∀ (B' : ch_B) (r : Int32), m_pf Bt B' → B' 0 11 = r → d_fp T 60 0 = r → ¬ r = -1 → q 0 (ch_os m 9 0 (ch_bw (ch_bw (ch_bw B' 0 14 (B' 0 11)) 0 10 0) 0 19 1)) := by
      intro B' r hpf b11 hfp hr1
      refine hb (by rw [hfp]; exact hr1) _ ⟨fun a i h1 => ?_, ?_, ?_, ?_⟩ ⟨?_, ?_, ?_⟩ ?_ (ch_bw_at _ _ _ _) ⟨fun i hi => ?_, ?_, fun i => ?_⟩
      · rw [ch_bw_c (by omega), ch_bw_c (by omega), ch_bw_c (by omega), hpf a i (by omega) (by omega) (by omega)]
        exact tB a i (by omega) (by omega)
      · rw [ch_bw_k (by decide), ch_bw_k (by decide), ch_bw_k (by decide), hpf 0 6 (by omega) (by omega) (by omega)]
        exact tB 0 6 (by omega) (by omega)
      · rw [ch_bw_k (by decide), ch_bw_k (by decide), ch_bw_k (by decide), hpf 0 8 (by omega) (by omega) (by omega)]
        exact tB 0 8 (by omega) (by omega)
      · rw [ch_bw_k (by decide), ch_bw_at]
      · rw [ch_bw_k (by decide), ch_bw_k (by decide), ch_bw_k (by decide), hpf 0 15 (by omega) (by omega) (by omega)]
        exact tB 0 15 (by omega) (by omega)
      · rw [ch_bw_k (by decide), ch_bw_k (by decide), ch_bw_k (by decide), hpf 0 16 (by omega) (by omega) (by omega)]
        exact tB 0 16 (by omega) (by omega)
      · rw [ch_bw_k (by decide), ch_bw_k (by decide), ch_bw_k (by decide), hpf 0 17 (by omega) (by omega) (by omega)]
        exact tB 0 17 (by omega) (by omega)
      · rw [ch_bw_k (by decide), ch_bw_k (by decide), ch_bw_at, b11, hfp]
      · rw [ch_bw_c (by omega), ch_bw_c (by omega), ch_bw_c (by omega), hpf 1 i (by omega) (by omega) (by omega)]
        exact tB 1 i (by omega) (by omega)
      · rw [ch_bw_k (by decide), ch_bw_k (by decide), ch_bw_k (by decide), hpf 0 4 (by omega) (by omega) (by omega)]
        exact tB 0 4 (by omega) (by omega)
      · rw [ch_bw_c (by omega), ch_bw_c (by omega), ch_bw_c (by omega), hpf 4 i (by omega) (by omega) (by omega)]
        exact tB 4 i (by omega) (by omega)
    have hno : ∀ x, x ≤ L → ¬ nI x = -1 := fun x hx z => nI_pos (n := x) (by omega) (by rw [z]; decide)
    have fail : ∀ (B' : ch_B) (x : Nat) (o2 o3 o4 o5 : Option ch_V), m_pf Bt B' → B' 0 11 = nI x → x ≤ L → d_fp T 60 0 = nI x → ch_J g m_m_commands (ch_rm m_m_commands) (ch_E g m_m_commands (ch_oi q)) 19 [some (.inr (9, 0, 0)), some (.inl (.int 0)), o2, o3, o4, o5] [] (ch_os m 9 0 B') 0 := by
      intro B' x o2 o3 o4 o5 hpf b11 hx hfp
      refine g_m_commands_19 g _ _ _ _ _ _ _ ?_
      simp only [forall_eq, ch_oi_iff, ch_os_at, ch_ob_os, ch_os_os, ch_os_wr]
      exact ⟨fun _ => ⟨fun z => absurd trivial z, fun _ => bad B' (nI x) hpf b11 hfp (hno x hx)⟩, fun z => absurd trivial z⟩
    intro n
    induction n with
    | zero =>
      intro p B' o2 o3 o4 o5 hp hn hpf b11 hfp
      obtain ⟨⟨p1, p2⟩, p3⟩ := d_pt_ok hv (show p ≤ (T 0 1).toNatClampNeg by omega)
      rw [cL] at p2
      by_cases g1 : (d_pt T p).1 = true
      · have eL2 : (d_pt T p).2 = L := by have := hn g1; omega
        rw [d_fp, if_pos g1, if_pos (by rw [eL2, eL])] at hfp
        rw [if_pos g1]
        refine g_m_commands_19 g _ _ _ _ _ _ _ ?_
        simp only [forall_eq, ch_oi_iff, ch_os_at, ch_ob_os, ch_os_os, ch_os_wr]
        refine ⟨fun z => absurd z (by decide), fun _ => ⟨fun _ => ⟨fun _ => ?_, fun z => absurd z (by decide)⟩, fun z => absurd ?_ z⟩⟩
        · refine pass2 hfp.symm 60 0 0 T_ _ _ _ _ _ _ (by omega) (by omega) (by omega) ⟨60, hfp.symm⟩ ?_ hi hT0 (by omega) hSb (fun a i h1 h2 h3 h4 => ?_) (ch_bw_at _ _ _ _) ecc
          · rw [ch_bw1 (by decide)]
            have : B' 1 = ch_ob m 9 0 1 := by
              funext i
              rw [hpf 1 i (by decide) (by decide) (by omega), tB 1 i (by decide) (by omega), eB]
            rw [this]
            exact hr
          · unfold ch_bw
            rw [if_neg (by omega)]
            exact hpf a i h2 h3 (by omega)
        · rw [b11, eL2, hpf 0 10 (by decide) (by decide) (by omega), tB 0 10 (by decide) (by omega), ht10, eL]
          exact Int32.le_refl _
      · rw [d_fp, if_neg g1] at hfp
        rw [if_neg g1]
        exact fail B' _ _ _ _ _ hpf b11 p2 hfp.symm
    | succ n ih =>
      intro p B' o2 o3 o4 o5 hp hn hpf b11 hfp
      obtain ⟨⟨p1, p2⟩, p3⟩ := d_pt_ok hv (show p ≤ (T 0 1).toNatClampNeg by omega)
      rw [cL] at p2
      by_cases g1 : (d_pt T p).1 = true
      · rw [if_pos g1]
        have b10 : B' 0 10 = nI L := by rw [hpf 0 10 (by decide) (by decide) (by omega), tB 0 10 (by decide) (by omega), ht10, eL]
        rw [d_fp, if_pos g1] at hfp
        refine g_m_commands_19 g _ _ _ _ _ _ _ ?_
        simp only [forall_eq, ch_oi_iff, ch_os_at, ch_ob_os, ch_os_os, ch_os_wr]
        rw [b11, b10]
        refine ⟨fun z => absurd z (by decide), fun _ => ⟨fun hle => ⟨fun _ => ?_, fun z => absurd z (by decide)⟩, fun hgt => ⟨T, (d_pt T p).2, txf B' _ hpf b11 p2, by decide, fun h59 => ?_, fun h59 => ?_⟩⟩⟩
        · have eL2 : (d_pt T p).2 = L := by
            have := (nI_leI (by omega) (by omega)).mp hle
            omega
          rw [if_pos (by rw [eL2, eL])] at hfp
          refine pass2 hfp.symm 60 0 0 T_ _ _ _ _ _ _ (by omega) (by omega) (by omega) ⟨60, hfp.symm⟩ ?_ hi hT0 (by omega) hSb (fun a i h1 h2 h3 h4 => ?_) (ch_bw_at _ _ _ _) ecc
          · rw [ch_bw1 (by decide)]
            have : B' 1 = ch_ob m 9 0 1 := by
              funext i
              rw [hpf 1 i (by decide) (by decide) (by omega), tB 1 i (by decide) (by omega), eB]
            rw [this]
            exact hr
          · unfold ch_bw
            rw [if_neg (by omega)]
            exact hpf a i h2 h3 (by omega)
        · have hlt := d_sg_lt hv (show (d_pt T p).2 < 2 ^ 31 by omega) (by decide) h59
          rw [cL] at hlt
          rw [if_neg (by rw [eL]; exact fun z => absurd ((nI_eq (by omega) (by omega)).mp z) (by omega)), if_pos h59] at hfp
          have pf2 : m_pf Bt (ch_bw B' 0 11 (nI ((d_pt T p).2 + 1))) := fun a i h1 h2 h3 => by
            unfold ch_bw
            rw [if_neg (by omega)]
            exact hpf a i h1 h2 h3
          obtain ⟨K0, S0, etc, -⟩ := d_tc_pt M_ (ch_ob M_ 4 0) (ch_ob M_ 5 0) ((d_pt T p).2 + 1)
          rw [← eT] at etc
          have hn2 : (d_pt T ((d_pt T p).2 + 1)).1 = true → L ≤ (d_pt T ((d_pt T p).2 + 1)).2 + n := fun z => by
            have := (d_pt_ok hv (show (d_pt T p).2 + 1 ≤ (T 0 1).toNatClampNeg by omega)).1.1
            have := hn g1
            omega
          have nxt : ∀ B8 : ch_B, m_par (d_mk M_ (ch_ob M_ 4 0) (ch_ob M_ 5 0) ((d_pt T p).2 + 1)) ((d_pt T p).2 + 1) (ch_bw B' 0 11 (nI ((d_pt T p).2 + 1))) B8 → m_pf Bt B8 ∧ B8 0 11 = nI (d_pt T ((d_pt T p).2 + 1)).2 := by
            intro B8 ⟨K', S', p'', f1, f2, f3, f4, f5, f6, f7⟩
            rw [d_mk_6, ← eT, cL] at f3
            have pb := (d_pt_ok hv (show (d_pt T p).2 + 1 ≤ (T 0 1).toNatClampNeg by omega)).1.2
            have ep : p'' = (d_pt T ((d_pt T p).2 + 1)).2 := by
              rw [etc] at f1
              have := congrFun (congrFun f1 (7, 0, 0)) 0
              dsimp only at this
              rw [d_mk_p, d_mk_p] at this
              exact ((nI_eq (by omega) (by omega)).mp this).symm
            refine ⟨fun a i h1 h2 h3 => (f4 a i h1 h2 h3).trans (pf2 a i h1 h2 h3), ?_⟩
            rw [f5, ep]
          refine ⟨d_mk M_ (ch_ob M_ 4 0) (ch_ob M_ 5 0) ((d_pt T p).2 + 1), (d_pt T p).2 + 1, by rw [d_mk_6, ← eT]; exact txf _ _ pf2 (ch_bw_at _ _ _ _) (by omega), d_mk_p _ _ _ _, fun z B8 hpar => ?_, fun z B8 hpar => ?_⟩
          · obtain ⟨n1, n2⟩ := nxt B8 hpar
            rw [etc] at z
            have := ih ((d_pt T p).2 + 1) B8 o2 o3 o4 o5 (by omega) hn2 n1 n2 hfp
            rw [if_pos z] at this
            exact this
          · obtain ⟨n1, n2⟩ := nxt B8 hpar
            rw [etc] at z
            have := ih ((d_pt T p).2 + 1) B8 o2 o3 o4 o5 (by omega) hn2 n1 n2 hfp
            rw [if_neg z] at this
            exact this
        · rw [if_neg (by
            rw [eL]
            intro z
            exact hgt (by rw [z]; exact Int32.le_refl _)), if_neg h59] at hfp
          exact fail B' _ _ _ _ _ hpf b11 p2 hfp.symm
      · rw [d_fp, if_neg g1] at hfp
        rw [if_neg g1]
        exact fail B' _ _ _ _ _ hpf b11 p2 hfp.symm
  -- the start
  refine g_m_commands_0 g _ _ ?_
  simp only [forall_eq, ch_os_at, ch_ob_os, ch_os_os, ch_os_wr]
  rw [← eB, ← eBt]
  obtain ⟨K0, S0, etc, -⟩ := d_tc_pt M_ (ch_ob M_ 4 0) (ch_ob M_ 5 0) 0
  rw [← eT] at etc
  obtain ⟨⟨p1, p2⟩, p3⟩ := d_pt_ok hv (show 0 ≤ (T 0 1).toNatClampNeg by omega)
  rw [cL] at p2
  have nxt : ∀ B8 : ch_B, m_par (d_mk M_ (ch_ob M_ 4 0) (ch_ob M_ 5 0) 0) 0 Bt B8 → m_pf Bt B8 ∧ B8 0 11 = nI (d_pt T 0).2 := by
    intro B8 ⟨K', S', p'', f1, f2, f3, f4, f5, f6, f7⟩
    rw [d_mk_6, ← eT, cL] at f3
    have ep : p'' = (d_pt T 0).2 := by
      rw [etc] at f1
      have := congrFun (congrFun f1 (7, 0, 0)) 0
      dsimp only at this
      rw [d_mk_p, d_mk_p] at this
      exact ((nI_eq (by omega) (by omega)).mp this).symm
    exact ⟨f4, by rw [f5, ep]⟩
  refine ⟨d_mk M_ (ch_ob M_ 4 0) (ch_ob M_ 5 0) 0, 0, by rw [d_mk_6, ← eT]; exact tx0, d_mk_p _ _ _ _, fun z B8 hpar => ?_, fun z B8 hpar => ?_⟩
  · obtain ⟨n1, n2⟩ := nxt B8 hpar
    rw [etc] at z
    have := pass1 59 0 B8 none none none none (by omega) (fun y => by have := p3 y; omega) n1 n2 rfl
    rw [if_pos z] at this
    exact this
  · obtain ⟨n1, n2⟩ := nxt B8 hpar
    rw [etc] at z
    have := pass1 59 0 B8 none none none none (by omega) (fun y => by have := p3 y; omega) n1 n2 rfl
    rw [if_neg z] at this
    exact this
