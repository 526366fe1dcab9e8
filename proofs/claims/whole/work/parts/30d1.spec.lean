set_option maxHeartbeats 1600000 in
theorem s_m_treadsBy (g : ch_G) (q : Int32 → ch_M → Prop) (Y_ : ch_B) (p1 : Int32) (m : ch_M) (h : (m_rel Y_ (m (9, 0, 1))) ∧ (∀ i_, i_ < 12 → Y_ 1 i_ = -1 ∨ vp_in (Y_ 1 i_) 5) ∧ (vp_in (m (9, 0, 0) 21) 13) ∧ (∀ i_, i_ < (Int32.toNatClampNeg (m (9, 0, 0) 21)) → 1 ≤ m (9, 0, 9) i_ ∧ m (9, 0, 9) i_ ≤ 3) ∧ q (y_ct Y_ p1 (m (9, 0, 9)) (Int32.toNatClampNeg (m (9, 0, 0) 21))) m) : ch_C g m_m_treadsBy [.inr (9, 0, 0), .inl (.int p1)] m (ch_oi q) := by
  refine e_m_treadsBy g _ p1 m ?_
  obtain ⟨hr, ho, h1, hs, hq⟩ := h
  obtain ⟨n, hn, he⟩ := vp_in_of h1 (by decide)
  rw [he, nI_clamp (by omega)] at hq hs
  refine g_m_treadsBy_0 g _ _ _ ?_
  have key : ∀ k, k ≤ n → ch_J g m_m_treadsBy (ch_rm m_m_treadsBy) (ch_E g m_m_treadsBy (ch_oi q)) 7 [some (.inr (9, 0, 0)), some (.inl (.int p1)), some (.inl (.int (y_ct Y_ p1 (m (9, 0, 9)) k))), some (.inl (.int (ch_ps (m (9, 0, 9)) k))), some (.inl (.int (nI k)))] [] m 0 := by
    refine ch_down _ n ?_ ?_
    · refine g_m_treadsBy_7 g _ _ _ _ _ m ?_
      simp only [ch_oi_iff, he]
      exact ⟨fun _ => hq, fun c => absurd (nI_le (Nat.le_refl n) (by omega)) c⟩
    · intro k hk ih
      obtain ⟨a1, a2, a3, a4⟩ := ch_kn hk (by omega)
      have v : vp_in (nI k) 12 := vp_in_nI (by omega) (by decide)
      refine g_m_treadsBy_7 g _ _ _ _ _ m ?_
      simp only [ch_oi_iff, he, a3, a4]
      obtain ⟨j, -, hj, ej⟩ := m_ps1 (m (9, 0, 9)) k (fun i hi => hs i (by omega)) (by omega)
      have ep : ch_ps (m (9, 0, 9)) k + m (9, 0, 9) k = ch_ps (m (9, 0, 9)) (k + 1) := rfl
      rw [ep]
      refine ⟨fun c => absurd c a1, fun _ => ⟨v, Y_, hr, ho, by rw [ej]; exact nI_pos (by omega), fun c => ?_, fun c => ?_⟩⟩
      · rw [y_ct, if_pos ((ch_lineB_iff _ _ _).mpr c)] at ih
        exact ih
      · rw [y_ct, if_neg (fun z => c ((ch_lineB_iff _ _ _).mp z))] at ih
        exact ih
  exact key 0 (by omega)
set_option maxHeartbeats 1600000 in
theorem s_m_childOf (g : ch_G) (q : Int32 → ch_M → Prop) (Y_ : ch_B) (p1 : Int32) (p2 : Int32) (m : ch_M) (h : (m_rel Y_ (m (9, 0, 1))) ∧ (vp_in (Y_ 0 8) 6) ∧ (((0 ≤ p1 ∧ p1 < Y_ 0 8) ∧ 0 ≤ p2 ∧ p2 ≤ 6) → q (x_coR Y_ p1 p2) (ch_wr m (9, 0, 0) 19 0)) ∧ ((¬ (0 ≤ p1 ∧ p1 < Y_ 0 8)) → q 0 (ch_wr m (9, 0, 0) 19 1)) ∧ (((0 ≤ p1 ∧ p1 < Y_ 0 8) ∧ ¬ (0 ≤ p2 ∧ p2 ≤ 6)) → q 0 (ch_wr m (9, 0, 0) 19 2))) : ch_C g m_m_childOf [.inr (9, 0, 0), .inl (.int p1), .inl (.int p2)] m (ch_oi q) := by
  refine e_m_childOf g _ p1 p2 m ?_
  obtain ⟨hr, h1, ha, hb, hc⟩ := h
  refine g_m_childOf_0 g _ _ _ _ ?_
  simp only [forall_eq, ch_oi_iff, m_w1, ch_wr_wr, m_co hr]
  refine ⟨fun c => ?_, fun c => hb (fun z => c ((m_chi h1).mpr z))⟩
  have c2 := (m_chi h1).mp c
  have hv := m_chv h1 c2
  obtain ⟨k, hk, rfl⟩ := vp_in_of hv (by decide)
  unfold x_coR at ha
  rw [nI_clamp (by omega)] at ha ⊢
  refine ⟨fun e => ?_, fun e => ?_, fun e => ?_, fun e => ?_, fun e => ?_, fun e => ?_, fun e => ?_, fun hx => hc ⟨c2, fun z => ?_⟩⟩
  · subst e
    refine ⟨hv, vp_in_nI (n := 0) (by decide) (by decide), ?_⟩
    rw [show Int32.toNatClampNeg 0 = 0 by decide, m_pe hr hk]
    exact ha ⟨c2, by decide, by decide⟩
  · subst e
    refine ⟨hv, vp_in_nI (n := 1) (by decide) (by decide), ?_⟩
    rw [show Int32.toNatClampNeg 1 = 1 by decide, m_tr hr hk]
    exact ha ⟨c2, by decide, by decide⟩
  · subst e
    refine ⟨hv, vp_in_nI (n := 2) (by decide) (by decide), ?_⟩
    rw [show Int32.toNatClampNeg 2 = 2 by decide, m_wa hr hk]
    exact ha ⟨c2, by decide, by decide⟩
  · subst e
    refine ⟨Y_, hr, ?_⟩
    rw [y_bc]
    exact ha ⟨c2, by decide, by decide⟩
  · subst e
    have ha : q (y_scO (Y_ 1) (Y_ 2) (nI k) 12) (ch_wr m (9, 0, 0) 19 0) := ha ⟨c2, by decide, by decide⟩
    refine ch_down (fun i => ch_J g m_m_childOf (ch_rm m_m_childOf) (ch_E g m_m_childOf (ch_oi q)) 83 [some (.inr (9, 0, 0)), some (.inl (.int (nI k))), some (.inl (.int 4)), some (.inl (.int (y_scO (Y_ 1) (Y_ 2) (nI k) i))), some (.inl (.int (nI i)))] [] (ch_wr m (9, 0, 0) 19 0) 0) 12 ?_ ?_ 0 (by decide)
    · refine g_m_childOf_83 g _ _ _ _ _ _ ?_
      simp only [ch_oi_iff]
      exact ⟨fun _ => ha, fun c => absurd (by decide) c⟩
    · intro i hi ih
      obtain ⟨a1, a2, a3, a4⟩ := ch_k12 hi
      refine g_m_childOf_83 g _ _ _ _ _ _ ?_
      simp only [ch_oi_iff, a3, a4, m_w1, m_ow hr hi, m_ck hr hi]
      refine ⟨fun c => absurd c a1, fun _ => ⟨a2, fun c => ?_, fun c => ?_⟩⟩
      · rw [y_scO, if_neg c, Int32.add_zero] at ih
        exact ih
      · rw [y_scO, if_pos c] at ih
        exact ih
  · subst e
    refine ⟨hv, ?_⟩
    rw [m_ho hr hk]
    exact ha ⟨c2, by decide, by decide⟩
  · subst e
    refine ⟨hv, ?_⟩
    rw [m_un hr hk]
    exact ha ⟨c2, by decide, by decide⟩
  · have a := Int32.le_iff_toInt_le.mp z.1
    have b := Int32.le_iff_toInt_le.mp z.2
    have e0 : Int32.toInt 0 = 0 := by decide
    have e6 : Int32.toInt 6 = 6 := by decide
    omega
set_option maxHeartbeats 1600000 in
theorem s_m_squares (g : ch_G) (q : Int32 → ch_M → Prop) (Y_ : ch_B) (p1 : Int32) (m : ch_M) (h : (m_rel Y_ (m (9, 0, 1))) ∧ (vp_in (Y_ 0 8) 6) ∧ ((0 ≤ p1 ∧ p1 < Y_ 0 8) → q (y_ofS (Y_ 1) p1 0 12) (ch_wr m (9, 0, 0) 19 0)) ∧ ((¬ (0 ≤ p1 ∧ p1 < Y_ 0 8)) → q 0 (ch_wr m (9, 0, 0) 19 1))) : ch_C g m_m_squares [.inr (9, 0, 0), .inl (.int p1)] m (ch_oi q) := by
  refine e_m_squares g _ p1 m ?_
  obtain ⟨hr, h1, ha, hb⟩ := h
  refine g_m_squares_0 g _ _ _ ⟨fun c => ?_, fun c => ?_⟩
  · simp only [forall_eq, ch_wr_v, ch_oi_iff, m_w1, m_co hr] at c ⊢
    exact ⟨fun d => absurd trivial d, fun _ => ⟨Y_, hr, ha ((m_chi h1).mp c)⟩⟩
  · simp only [forall_eq, ch_wr_v, ch_oi_iff, m_w1, m_co hr] at c ⊢
    exact ⟨fun _ => hb (fun z => c ((m_chi h1).mpr z)), fun d => absurd d (by decide)⟩
set_option maxHeartbeats 1600000 in
theorem s_m_warrantAt (g : ch_G) (q : Int32 → ch_M → Prop) (Y_ : ch_B) (p1 : Int32) (m : ch_M) (h : (m_rel Y_ (m (9, 0, 1))) ∧ (vp_in (Y_ 0 9) 6) ∧ ((0 ≤ p1 ∧ p1 < Y_ 0 9) → q (Y_ 8 (Int32.toNatClampNeg p1)) (ch_wr m (9, 0, 0) 19 0)) ∧ ((¬ (0 ≤ p1 ∧ p1 < Y_ 0 9)) → q 0 (ch_wr m (9, 0, 0) 19 1))) : ch_C g m_m_warrantAt [.inr (9, 0, 0), .inl (.int p1)] m (ch_oi q) := by
  refine e_m_warrantAt g _ p1 m ?_
  obtain ⟨hr, h1, ha, hb⟩ := h
  obtain ⟨n, hn, he⟩ := vp_in_of h1 (by decide)
  refine g_m_warrantAt_0 g _ _ _ ⟨fun c => ?_, fun c => ?_⟩
  · simp only [forall_eq, ch_wr_v, ch_oi_iff, m_w1, m_st hr] at c ⊢
    have c2 := (m_chi h1).mp c
    refine ⟨fun d => absurd trivial d, fun _ => ?_⟩
    have ha := ha c2
    have hv : vp_in p1 n := ch_vp (by omega) (by have := c2.1; grind) (by rw [← he]; have := c2.2; grind)
    obtain ⟨k, hk, rfl⟩ := vp_in_of hv (by omega)
    have e : (9 : Int32) + nI k = nI (9 + k) := nI_add 9 k
    rw [e, nI_clamp (by omega)]
    rw [nI_clamp (by omega)] at ha
    rw [hr.2.1 k (by omega) (by rw [he, nI_clamp (by omega)]; exact hk)]
    exact ⟨vp_in_nI (by omega) (by decide), ha⟩
  · simp only [forall_eq, ch_wr_v, ch_oi_iff, m_w1, m_st hr] at c ⊢
    exact ⟨fun _ => hb (fun z => c ((m_chi h1).mpr z)), fun d => absurd d (by decide)⟩
set_option maxHeartbeats 1600000 in
theorem s_m_longest (g : ch_G) (q : Int32 → ch_M → Prop) (Y_ : ch_B) (p1 : Int32) (m : ch_M) (h : (m_rel Y_ (m (9, 0, 1))) ∧ (vp_in (Y_ 0 8) 6) ∧ ((0 ≤ p1 ∧ p1 < Y_ 0 8) → q ((y_lr (Y_ 1) p1 12).1) (ch_wr m (9, 0, 0) 19 0)) ∧ ((¬ (0 ≤ p1 ∧ p1 < Y_ 0 8)) → q 0 (ch_wr m (9, 0, 0) 19 1))) : ch_C g m_m_longest [.inr (9, 0, 0), .inl (.int p1)] m (ch_oi q) := by
  refine e_m_longest g _ p1 m ?_
  obtain ⟨hr, h1, ha, hb⟩ := h
  refine g_m_longest_0 g _ _ _ ⟨fun c => ?_, fun c => ?_⟩
  · simp only [forall_eq, ch_wr_v, ch_oi_iff, m_w1, m_co hr] at c ⊢
    exact ⟨fun d => absurd trivial d, fun _ => ⟨Y_, hr, ha ((m_chi h1).mp c)⟩⟩
  · simp only [forall_eq, ch_wr_v, ch_oi_iff, m_w1, m_co hr] at c ⊢
    exact ⟨fun _ => hb (fun z => c ((m_chi h1).mpr z)), fun d => absurd d (by decide)⟩
set_option maxHeartbeats 1600000 in
theorem s_m_gap (g : ch_G) (q : Int32 → ch_M → Prop) (Y_ : ch_B) (m : ch_M) (h : (m_rel Y_ (m (9, 0, 1))) ∧ q ((y_lr (Y_ 1) (-1) 12).1) (ch_wr m (9, 0, 0) 19 0)) : ch_C g m_m_gap [.inr (9, 0, 0)] m (ch_oi q) := by
  refine e_m_gap g _  m ?_
  obtain ⟨hr, hq⟩ := h
  refine g_m_gap_0 g _ _ ?_
  simp only [forall_eq, ch_oi_iff, m_w1]
  exact ⟨Y_, hr, hq⟩
set_option maxHeartbeats 1600000 in
theorem s_m_wouldEnd (g : ch_G) (q : Int32 → ch_M → Prop) (Y_ : ch_B) (p1 : Int32) (m : ch_M) (h : (m_rel Y_ (m (9, 0, 1))) ∧ (vp_in (Y_ 0 8) 6) ∧ ((1 ≤ p1 ∧ p1 ≤ 9) → q (m_ci (Y_ 2) p1 12 + m_ci (Y_ 5) p1 (Int32.toNatClampNeg (Y_ 0 8))) (ch_wr m (9, 0, 0) 19 0)) ∧ ((¬ (1 ≤ p1 ∧ p1 ≤ 9)) → q 0 (ch_wr m (9, 0, 0) 19 1))) : ch_C g m_m_wouldEnd [.inr (9, 0, 0), .inl (.int p1)] m (ch_oi q) := by
  refine e_m_wouldEnd g _ p1 m ?_
  obtain ⟨hr, h1, ha, hb⟩ := h
  refine g_m_wouldEnd_0 g _ _ _ ⟨fun c => ?_, fun c => ?_⟩
  · simp only [forall_eq, ch_wr_v, ch_oi_iff, m_w1]
    exact ⟨fun d => absurd trivial d, fun _ => ⟨Y_, hr, h1, ha c⟩⟩
  · simp only [forall_eq, ch_wr_v, ch_oi_iff, m_w1]
    exact ⟨fun _ => hb c, fun d => absurd d (by decide)⟩
set_option maxHeartbeats 1600000 in
theorem s_m_rainFor (g : ch_G) (q : Int32 → ch_M → Prop) (Y_ : ch_B) (p1 : Int32) (m : ch_M) (h : (m_rel Y_ (m (9, 0, 1))) ∧ (vp_in (Y_ 0 8) 6) ∧ (((0 ≤ p1 ∧ p1 < Y_ 0 8) ∧ ¬ Y_ 5 (Int32.toNatClampNeg p1) = 0) → q (Y_ 5 (Int32.toNatClampNeg p1)) (ch_wr m (9, 0, 0) 19 0)) ∧ ((¬ (0 ≤ p1 ∧ p1 < Y_ 0 8)) → q 0 (ch_wr m (9, 0, 0) 19 1)) ∧ (((0 ≤ p1 ∧ p1 < Y_ 0 8) ∧ Y_ 5 (Int32.toNatClampNeg p1) = 0) → q 0 (ch_wr m (9, 0, 0) 19 2))) : ch_C g m_m_rainFor [.inr (9, 0, 0), .inl (.int p1)] m (ch_oi q) := by
  refine e_m_rainFor g _ p1 m ?_
  obtain ⟨hr, h1, ha, hb, hc⟩ := h
  refine g_m_rainFor_0 g _ _ _ ?_
  simp only [forall_eq, ch_oi_iff, m_w1, ch_wr_wr, m_co hr]
  refine ⟨fun c => ?_, fun c => hb (fun z => c ((m_chi h1).mpr z))⟩
  have c2 := (m_chi h1).mp c
  have hv := m_chv h1 c2
  obtain ⟨k, hk, rfl⟩ := vp_in_of hv (by decide)
  rw [nI_clamp (by omega)] at ha hc ⊢
  rw [m_wa hr hk]
  exact ⟨hv, fun d => ha ⟨c2, d⟩, fun d => hc ⟨c2, d⟩⟩
set_option maxHeartbeats 1600000 in
theorem s_m_wouldLose (g : ch_G) (q : Int32 → ch_M → Prop) (Y_ : ch_B) (p1 : Int32) (m : ch_M) (h : (m_rel Y_ (m (9, 0, 1))) ∧ (vp_in (Y_ 0 8) 6) ∧ (∀ i_, i_ < 5 → vp_in (Y_ 3 i_) 496) ∧ ((0 ≤ p1 ∧ p1 < Y_ 0 8) → q (y_ofS (Y_ 1) p1 (Y_ 3 (Int32.toNatClampNeg p1)) 12) (ch_wr m (9, 0, 0) 19 0)) ∧ ((¬ (0 ≤ p1 ∧ p1 < Y_ 0 8)) → q 0 (ch_wr m (9, 0, 0) 19 1))) : ch_C g m_m_wouldLose [.inr (9, 0, 0), .inl (.int p1)] m (ch_oi q) := by
  refine e_m_wouldLose g _ p1 m ?_
  obtain ⟨hr, h1, hp, ha, hb⟩ := h
  refine g_m_wouldLose_0 g _ _ _ ?_
  simp only [forall_eq, ch_oi_iff, m_w1, ch_wr_wr, m_co hr]
  refine ⟨fun c => ?_, fun c => hb (fun z => c ((m_chi h1).mpr z))⟩
  have c2 := (m_chi h1).mp c
  have hv := m_chv h1 c2
  obtain ⟨k, hk, rfl⟩ := vp_in_of hv (by decide)
  rw [nI_clamp (by omega)] at ha ⊢
  rw [m_pe hr hk]
  refine ⟨hv, ?_⟩
  obtain ⟨p, hp, ep⟩ := vp_in_of (hp k hk) (by decide)
  have ha := ha c2
  rw [ep] at ha ⊢
  have key : ∀ i, i ≤ 12 → ch_J g m_m_wouldLose (ch_rm m_m_wouldLose) (ch_E g m_m_wouldLose (ch_oi q)) 31 [some (.inr (9, 0, 0)), some (.inl (.int (nI k))), some (.inl (.int (y_ofS (Y_ 1) (nI k) (nI p) i))), some (.inl (.int (nI p - ch_cnO (Y_ 1) (nI k) i))), some (.inl (.int (nI i)))] [] (ch_wr m (9, 0, 0) 19 0) 0 := by
    refine ch_down _ 12 ?_ ?_
    · refine g_m_wouldLose_31 g _ _ _ _ _ _ ?_
      simp only [ch_oi_iff]
      exact ⟨fun _ => ha, fun c => absurd (by decide) c⟩
    · intro i hi ih
      obtain ⟨a1, a2, a3, a4⟩ := ch_k12 hi
      refine g_m_wouldLose_31 g _ _ _ _ _ _ ?_
      simp only [ch_oi_iff, a3, a4, m_w1, m_ow hr hi]
      obtain ⟨z, hz, ez⟩ := ch_cnO_nn (Y_ 1) (nI k) i
      have es : (nI p - nI z).toInt = (p : Int) - z := pk_sub_toInt (by omega) (by omega)
      refine ⟨fun c => absurd c a1, fun _ => ⟨a2, fun c => ?_, fun c => ⟨fun d => ?_, fun d => ?_⟩⟩⟩
      · rw [y_ofS, ch_cnO, if_neg c, if_neg c] at ih
        exact ih
      · have e1 : nI p - ch_cnO (Y_ 1) (nI k) i + (-1) = nI p - (ch_cnO (Y_ 1) (nI k) i + 1) := by grind
        rw [y_ofS, ch_cnO, if_pos c, if_pos c, if_pos (by
          rw [ez] at d ⊢
          rw [Int32.lt_iff_toInt_lt, es, show (0 : Int32).toInt = 0 by decide] at d
          exact nI_lt (by omega) (by omega)), Int32.or_zero] at ih
        rw [e1]
        exact ih
      · have e1 : nI p - ch_cnO (Y_ 1) (nI k) i + (-1) = nI p - (ch_cnO (Y_ 1) (nI k) i + 1) := by grind
        rw [y_ofS, ch_cnO, if_pos c, if_pos c, if_neg (by
          rw [ez] at d ⊢
          rw [Int32.lt_iff_toInt_lt, es, show (0 : Int32).toInt = 0 by decide] at d
          exact nI_nlt (by omega) (by omega))] at ih
        rw [e1]
        exact ih
  have h0 := key 0 (by omega)
  have e : nI p - ch_cnO (Y_ 1) (nI k) 0 = nI p := by
    show nI p - 0 = nI p
    grind
  rw [e] at h0
  exact h0
set_option maxHeartbeats 1600000 in
theorem s_m_measure (g : ch_G) (q : Int32 → ch_M → Prop) (Y_ : ch_B) (p1 : Int32) (p2 : Int32) (m : ch_M) (h : (m_rel Y_ (m (9, 0, 1))) ∧ (vp_in p1 5) ∧ (vp_in p2 4) ∧ q (y_ms Y_ p1 p2) m) : ch_C g m_m_measure [.inr (9, 0, 0), .inl (.int p1), .inl (.int p2)] m (ch_oi q) := by
  refine e_m_measure g _ p1 p2 m ?_
  obtain ⟨hr, h1, h2, hq⟩ := h
  obtain ⟨k, hk, rfl⟩ := vp_in_of h1 (by decide)
  unfold y_ms at hq
  refine g_m_measure_0 g _ _ _ _ ?_
  rw [nI_clamp (by omega)] at hq ⊢
  simp only [ch_oi_iff]
  refine ⟨fun c => ⟨fun d => ?_, fun d => ⟨Y_, hr, ?_⟩⟩, fun c => ⟨h1, ?_⟩⟩
  · rw [if_neg c, if_neg d] at hq
    obtain ⟨w, hw, rfl⟩ := vp_in_of h2 (by decide)
    obtain rfl | rfl | rfl | rfl : w = 0 ∨ w = 1 ∨ w = 2 ∨ w = 3 := by omega
    · exact absurd rfl c
    · exact absurd rfl d
    · rw [if_pos (by decide)] at hq
      refine ⟨h1, by rw [show (nI 2 - 1 : Int32) = nI 1 by decide]; exact vp_in_nI (by decide) (by decide), ?_⟩
      rw [show Int32.toNatClampNeg (nI 2 - 1) = 1 by decide, m_tr hr hk]
      exact hq
    · rw [if_neg (by decide)] at hq
      refine ⟨h1, by rw [show (nI 3 - 1 : Int32) = nI 2 by decide]; exact vp_in_nI (by decide) (by decide), ?_⟩
      rw [show Int32.toNatClampNeg (nI 3 - 1) = 2 by decide, m_wa hr hk]
      exact hq
  · rw [if_neg c, if_pos d] at hq
    rw [y_bc]
    exact hq
  · rw [if_pos c] at hq
    rw [m_pe hr hk]
    exact hq
set_option maxHeartbeats 1600000 in
theorem s_m_account (g : ch_G) (q : Int32 → ch_M → Prop) (Y_ : ch_B) (p1 : Int32) (m : ch_M) (h : (m_rel Y_ (m (9, 0, 1))) ∧ (vp_in (Y_ 0 8) 6) ∧ (∀ i_, i_ < 12 → Y_ 1 i_ = -1 ∨ vp_in (Y_ 1 i_) 5) ∧ ((0 ≤ p1 ∧ p1 ≤ 11) → q (x_acR Y_ (m (9, 0, 0) 4) (m (9, 0, 0) 10) p1) (ch_wr m (9, 0, 0) 19 0)) ∧ ((¬ (0 ≤ p1 ∧ p1 ≤ 11)) → q 0 (ch_wr m (9, 0, 0) 19 1))) : ch_C g m_m_account [.inr (9, 0, 0), .inl (.int p1)] m (ch_oi q) := by
  refine e_m_account g _ p1 m ?_
  obtain ⟨hr, h1, ho, ha, hb⟩ := h
  refine g_m_account_0 g _ _ _ ?_
  simp only [forall_eq, ch_oi_iff, m_w1, ch_wr_wr, m_co hr, m_st hr, ch_wr_k (show (4 : Nat) ≠ 19 by decide), ch_wr_k (show (10 : Nat) ≠ 19 by decide)]
  obtain ⟨⟨-, e1, e2, e3, e4, e5, e6, e7, -⟩, -, -, -⟩ := id hr
  rw [e1, e3, e4, e5, e6, e7]
  unfold x_acR at ha
  refine ⟨fun e => ?_, fun e => ?_, fun e => ?_, fun e => ?_, fun e => ?_, fun e => ?_, fun e => ?_, fun e => ?_, fun e => ?_, fun e => ?_, fun e => ?_, fun e => ?_, fun hx => hb (fun z => ?_)⟩
  · subst e; exact ha ⟨by decide, by decide⟩
  · subst e
    obtain ⟨n, hn, he⟩ := vp_in_of h1 (by decide)
    have ha : q (y_sum (Y_ 3) (Int32.toNatClampNeg (Y_ 0 8))) (ch_wr m (9, 0, 0) 19 0) := ha ⟨by decide, by decide⟩
    rw [he, nI_clamp (by omega)] at ha
    have e0 : m (9, 0, 1) 0 = nI n := (m_co hr).trans he
    refine ch_down (fun i => ch_J g m_m_account (ch_rm m_m_account) (ch_E g m_m_account (ch_oi q)) 81 [some (.inr (9, 0, 0)), some (.inl (.int 1)), some (.inl (.int (y_sum (Y_ 3) i))), some (.inl (.int (nI i)))] [] (ch_wr m (9, 0, 0) 19 0) 0) n ?_ ?_ 0 (by omega)
    · refine g_m_account_81 g _ _ _ _ _ ?_
      simp only [ch_oi_iff, m_w1, e0]
      exact ⟨fun _ => ha, fun c => absurd (nI_le (Nat.le_refl n) (by omega)) c⟩
    · intro i hi ih
      obtain ⟨a1, a2, a3, a4⟩ := ch_kn hi (by omega)
      refine g_m_account_81 g _ _ _ _ _ ?_
      simp only [ch_oi_iff, a3, a4, m_w1, e0, m_pe hr (show i < 5 by omega)]
      refine ⟨fun c => absurd c a1, fun _ => ⟨vp_in_nI (by omega) (by decide), ih⟩⟩
  · subst e; exact ha ⟨by decide, by decide⟩
  · subst e; exact ⟨Y_, hr, ho, ha ⟨by decide, by decide⟩⟩
  · subst e; exact ha ⟨by decide, by decide⟩
  · subst e; exact ha ⟨by decide, by decide⟩
  · subst e; exact ha ⟨by decide, by decide⟩
  · subst e; exact ha ⟨by decide, by decide⟩
  · subst e; exact ha ⟨by decide, by decide⟩
  · subst e; exact ha ⟨by decide, by decide⟩
  · subst e; exact ha ⟨by decide, by decide⟩
  · subst e; exact ha ⟨by decide, by decide⟩
  · have a := Int32.le_iff_toInt_le.mp z.1
    have b := Int32.le_iff_toInt_le.mp z.2
    have e0 : Int32.toInt 0 = 0 := by decide
    have e11 : Int32.toInt 11 = 11 := by decide
    omega
set_option maxHeartbeats 1600000 in
theorem s_m_isEven (g : ch_G) (q : Int32 → ch_M → Prop)  (m : ch_M) (h : q 1 (ch_wr m (9, 0, 0) 19 0)) : ch_C g m_m_isEven [.inr (9, 0, 0)] m (ch_oi q) := by
  refine e_m_isEven g _  m ?_
  refine g_m_isEven_0 g _ _ ?_
  simp only [forall_eq, ch_oi_iff]
  exact h
set_option maxHeartbeats 1600000 in
theorem s_m_faultPosition (g : ch_G) (q : Int32 → ch_M → Prop)  (m : ch_M) (h : q (m (9, 0, 0) 14) (ch_wr m (9, 0, 0) 19 0)) : ch_C g m_m_faultPosition [.inr (9, 0, 0)] m (ch_oi q) := by
  refine e_m_faultPosition g _  m ?_
  refine g_m_faultPosition_0 g _ _ ?_
  simp only [forall_eq, ch_oi_iff, ch_wr_k (show (14 : Nat) ≠ 19 by decide)]
  exact h
set_option maxHeartbeats 1600000 in
theorem s_m_reason (g : ch_G) (q : Int32 → ch_M → Prop) (p1 : Int32) (m : ch_M) (h : (((0 ≤ p1 ∧ p1 ≤ 2) ∧ ¬ m (9, 0, 0) 15 = 0) → q (if p1 = 0 then m (9, 0, 0) 15 else if p1 = 1 then m (9, 0, 0) 16 else m (9, 0, 0) 17) (ch_wr m (9, 0, 0) 19 0)) ∧ ((¬ (0 ≤ p1 ∧ p1 ≤ 2)) → q 0 (ch_wr m (9, 0, 0) 19 1)) ∧ (((0 ≤ p1 ∧ p1 ≤ 2) ∧ m (9, 0, 0) 15 = 0) → q 0 (ch_wr m (9, 0, 0) 19 2))) : ch_C g m_m_reason [.inr (9, 0, 0), .inl (.int p1)] m (ch_oi q) := by
  refine e_m_reason g _ p1 m ?_
  obtain ⟨ha, hb, hc⟩ := h
  refine g_m_reason_0 g _ _ _ ?_
  simp only [forall_eq, ch_oi_iff, ch_wr_wr, ch_wr_k (show (15 : Nat) ≠ 19 by decide), ch_wr_k (show (16 : Nat) ≠ 19 by decide), ch_wr_k (show (17 : Nat) ≠ 19 by decide)]
  grind
set_option maxHeartbeats 1600000 in
theorem s_m_append (g : ch_G) (q : Int32 → ch_M → Prop) (p1 : Int32) (m : ch_M) (h : (vp_in (m (9, 0, 0) 10) 61) ∧ ((¬ m (9, 0, 0) 10 = 60) → q (m (9, 0, 0) 10 + 1) (ch_wr (ch_wr (ch_wr m (9, 0, 0) 19 0) (9, 0, 0) 10 (m (9, 0, 0) 10 + 1)) (9, 0, 7) (Int32.toNatClampNeg (m (9, 0, 0) 10)) (vp_nar .char p1))) ∧ ((m (9, 0, 0) 10 = 60) → q 0 (ch_wr m (9, 0, 0) 19 1))) : ch_C g m_m_append [.inr (9, 0, 0), .inl (.int p1)] m (ch_oi q) := by
  refine e_m_append g _ p1 m ?_
  obtain ⟨h1, ha, hb⟩ := h
  obtain ⟨n, hn, he⟩ := vp_in_of h1 (by decide)
  refine g_m_append_0 g _ _ _ ?_
  simp only [forall_eq, ch_oi_iff, ch_wr_wr, ch_wr_k (show (10 : Nat) ≠ 19 by decide)]
  refine ⟨fun c => ⟨?_, ?_⟩, fun c => hb c⟩
  · rw [he] at c ⊢
    exact vp_in_nI (by have : n ≠ 60 := fun z => c (by rw [z]; decide)
                       omega) (by decide)
  · rw [ch_wr_ne (show ((9, 0, 0) : ch_Ad) ≠ (9, 0, 7) by decide), ch_wr_v]
    exact ha c
theorem m_chN {n c : Int32} {N : Nat} (hN : N < 100) (h : vp_in n N) : (0 ≤ c ∧ c ≤ n - 1) ↔ (0 ≤ c ∧ c < n) := by
  obtain ⟨k, hk, rfl⟩ := vp_in_of h (by omega)
  have e1 : (nI k - 1).toInt = (k : Int) - 1 := pk_sub_toInt (b := 1) (by omega) (by decide)
  have e2 : (nI k).toInt = (k : Int) := nI_toInt (by omega)
  rw [Int32.le_iff_toInt_le, Int32.le_iff_toInt_le, Int32.lt_iff_toInt_lt, e1, e2]
  omega
set_option maxHeartbeats 1600000 in
theorem s_m_character (g : ch_G) (q : Int32 → ch_M → Prop) (p1 : Int32) (m : ch_M) (h : (vp_in (m (9, 0, 0) 8) 61) ∧ (∀ i_, i_ < Int32.toNatClampNeg (m (9, 0, 0) 8) → narrow .char (.int (m (9, 0, 6) i_)) = .int (m (9, 0, 6) i_)) ∧ ((0 ≤ p1 ∧ p1 < m (9, 0, 0) 8) → q (m (9, 0, 6) (Int32.toNatClampNeg p1)) (ch_wr m (9, 0, 0) 19 0)) ∧ ((¬ (0 ≤ p1 ∧ p1 < m (9, 0, 0) 8)) → q 97 (ch_wr m (9, 0, 0) 19 1))) : ch_C g m_m_character [.inr (9, 0, 0), .inl (.int p1)] m (ch_oi q) := by
  refine e_m_character g _ p1 m ?_
  obtain ⟨h1, hn, ha, hb⟩ := h
  obtain ⟨n, hn2, he⟩ := vp_in_of h1 (by decide)
  refine g_m_character_0 g _ _ _ ⟨fun c => ?_, fun c => ?_⟩
  · simp only [forall_eq, ch_oi_iff, ch_wr_v, m_w6]
    refine ⟨fun d => absurd trivial d, fun _ => ?_⟩
    have c2 : 0 ≤ p1 ∧ p1 < m (9, 0, 0) 8 := (m_chN (by decide) h1).mp c
    have hv : vp_in p1 n := ch_vp (by omega) (by have := c2.1; grind) (by rw [← he]; have := c2.2; grind)
    obtain ⟨k, hk, rfl⟩ := vp_in_of hv (by omega)
    have ha := ha c2
    rw [nI_clamp (by omega)] at ha ⊢
    exact ⟨vp_in_nI (by omega) (by decide), hn k (by rw [he, nI_clamp (by omega)]; exact hk), ha⟩
  · simp only [forall_eq, ch_oi_iff, ch_wr_v, m_w6]
    exact ⟨fun _ => hb (fun z => c ((m_chN (by decide) h1).mpr z)), fun d => absurd d (by decide)⟩
