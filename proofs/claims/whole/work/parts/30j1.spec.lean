/-- the squares that got free between two yards -/
def m_lb (Y Z : ch_B) : Nat → Bool := fun i => !decide (Y 1 i = -1) && decide (Z 1 i = -1)
theorem b_sc_up (b b' : Nat → Bool) (q : Nat) (h0 : b q = false) (h1 : b' q = true) (h : ∀ i, i ≠ q → b' i = b i) (n : Nat) : b_sc b' n = if q < n then b_sc b n + 1 else b_sc b n := by
  induction n with
  | zero => rfl
  | succ n ih =>
    unfold b_sc
    by_cases e : n = q
    · subst e
      rw [h0, h1, if_pos rfl, ih, if_neg (by omega), if_pos (by omega), if_neg Bool.false_ne_true]
    · rw [h n e, ih]
      by_cases l : q < n
      · rw [if_pos l, if_pos (show q < n + 1 by omega)]
        split <;> rfl
      · rw [if_neg l, if_neg (show ¬ q < n + 1 by omega)]
theorem b_st_up (b b' : Nat → Bool) (q : Nat) (hq : q < 12) (h1 : b' q = true) (h : ∀ i, i ≠ q → b' i = b i) : b_st b 12 ||| (1 <<< (nI q &&& 31)) = b_st b' 12 := by
  apply Int32.toBitVec_inj.mp
  apply BitVec.eq_of_getLsbD_eq
  intro i hi
  have e := m_1s ⟨q, hq⟩
  dsimp only at e
  rw [Int32.toBitVec_or, BitVec.getLsbD_or, b_st_bit _ _ _ (by omega), b_st_bit _ _ _ (by omega), e, BitVec.getLsbD_twoPow]
  by_cases l : i = q
  · subst l
    simp [h1, hq, hi]
  · have l2 : ¬ q = i := fun z => l z.symm
    rw [h i l]
    simp [l2]
/-- what a term leaves of the squares: owners as they were or none, so many got free -/
def m_F (Y Z : ch_B) (n : Int32) : Prop := (∀ q, q < 12 → Z 1 q = Y 1 q ∨ Z 1 q = -1) ∧ (∀ q, q < 12 → vp_in (Z 2 q) 10) ∧ n = b_sc (m_lb Y Z) 12
theorem y_tk9 {Z : ch_B} {q : Nat} (hq : q < 12) (h : vp_in (Z 2 q) 10) : y_tk Z (nI q) 9 = ch_bw (ch_bw Z 2 q 0) 1 q (-1) := by
  have e : y_tkv Z (nI q) 9 = 0 := by
    unfold y_tkv
    rw [nI_clamp (by omega)]
    obtain ⟨v, hv, ev⟩ := vp_in_of h (by decide)
    rw [ev]
    obtain rfl | h9 : v = 9 ∨ v < 9 := by omega
    · decide
    · exact if_pos (pk_sneg (b := 9) (by decide) h9)
  unfold y_tk
  rw [if_pos e, e, nI_clamp (by omega)]
theorem m_nc {c : Nat} (hc : c < 5) : ¬ nI c = -1 := fun z => nI_pos (n := c) (by omega) (by rw [z]; decide)
theorem m_lb_up {Y Z : ch_B} {q c : Nat} (hc : c < 5) (e : Z 1 q = nI c) (h : Z 1 q = Y 1 q ∨ Z 1 q = -1) : m_lb Y Z q = false ∧ m_lb Y (ch_bw (ch_bw Z 2 q 0) 1 q (-1)) q = true ∧ ∀ i, i ≠ q → m_lb Y (ch_bw (ch_bw Z 2 q 0) 1 q (-1)) i = m_lb Y Z i := by
  have hn := m_nc hc
  have e2 : ¬ Z 1 q = -1 := by rw [e]; exact hn
  have e1 : ¬ Y 1 q = -1 := by rw [← h.resolve_right e2]; exact e2
  unfold m_lb
  refine ⟨by simp [e2], by rw [ch_bw_at]; simp [e1], fun i hi => by rw [ch_bw_k hi, ch_bw_c (by decide)]⟩
theorem m_F_pk {Y Z : ch_B} {n : Int32} {c : Nat} (hc : c < 5) (h : m_F Y Z n) (k : Nat) : k ≤ 12 → m_F Y (y_pk Z (nI c) k).1 (n + (y_pk Z (nI c) k).2) := by
  induction k with
  | zero => exact fun _ => by rw [show n + (y_pk Z (nI c) 0).2 = n from Int32.add_zero n]; exact h
  | succ k ih =>
    intro hk
    obtain ⟨f1, f2, f3⟩ := ih (by omega)
    rw [y_pk, nI_clamp (by omega)]
    split
    · rename_i ho
      split
      · dsimp only
        rw [y_tk9 (by omega) (f2 k (by omega))]
        obtain ⟨u1, u2, u3⟩ := m_lb_up hc ho (f1 k (by omega))
        refine ⟨fun q hq => ?_, fun q hq => ?_, ?_⟩
        · by_cases e : q = k
          · subst e
            exact Or.inr (ch_bw_at _ _ _ _)
          · rw [ch_bw_k e, ch_bw_c (by decide)]
            exact f1 q hq
        · rw [ch_bw_c (by decide)]
          by_cases e : q = k
          · subst e
            rw [ch_bw_at]
            exact vp_in_nI (n := 0) (by decide) (by decide)
          · rw [ch_bw_k e]
            exact f2 q hq
        · rw [b_sc_up _ _ k u1 u2 u3, if_pos (by omega), ← f3, Int32.add_assoc]
      · dsimp only
        refine ⟨fun q hq => ?_, fun q hq => ?_, ?_⟩
        · rw [ch_bw_c (by decide), ch_bw_c (by decide)]
          exact f1 q hq
        · rw [ch_bw_c (by decide), ch_bw_c (by decide)]
          exact f2 q hq
        · exact f3
    · exact ⟨f1, f2, f3⟩
theorem m_F_tc {T : Nat} {Y : ch_B} (hi : y_inv T Y) (n : Nat) : n ≤ 5 → m_F Y (y_tc Y n).1 (y_tc Y n).2 := by
  induction n with
  | zero =>
    intro _
    refine ⟨fun q hq => Or.inl rfl, fun q hq => y_i2 hi hq, ?_⟩
    have e : ∀ k, b_sc (m_lb Y Y) k = 0 := by
      intro k
      induction k with
      | zero => rfl
      | succ k ih =>
        unfold b_sc
        rw [if_neg (by unfold m_lb; simp)]
        exact ih
    exact (e 12).symm
  | succ n ih =>
    intro hn
    rw [y_tc]
    dsimp only
    rw [y_p12_eq]
    exact m_F_pk (by omega) (ih (by omega)) 12 (by omega)
set_option maxHeartbeats 1600000 in
theorem s_m_goesBy (g : ch_G) (q : Int32 → ch_M → Prop) (T_ : Nat) (Y_ : ch_B) (m : ch_M) (h : (m_rel Y_ (m (9, 0, 1))) ∧ (y_inv T_ Y_) ∧ (∀ (B_ : ch_B), (m_rel (y_termB Y_) (B_ 1)) → (∀ a_ i_, a_ ≠ 1 → B_ a_ i_ = ch_ob m 9 0 a_ i_) → q (b_st (m_lb Y_ (y_termB Y_)) 12) (ch_os m 9 0 B_))) : ch_C g m_m_goesBy [.inr (9, 0, 0)] m (ch_oi q) := by
  refine e_m_goesBy g _  m ?_
  obtain ⟨hr, hi, hq⟩ := h
  obtain ⟨n, hn, en⟩ := vp_in_of (y_i8 hi) (by decide)
  have cn : (Y_ 0 8).toNatClampNeg = n := by rw [en, nI_clamp (by omega)]
  obtain ⟨S, eS⟩ : ∃ S, S = b_st (m_lb Y_ (y_tc Y_ n).1) 12 := ⟨_, rfl⟩
  have eZ : y_tZ Y_ = y_tg (y_tc Y_ n).1 n := by unfold y_tZ; rw [cn]
  have eR : y_termR Y_ = (y_tc Y_ n).2 := by unfold y_termR; rw [cn]
  have eS2 : b_st (m_lb Y_ (y_termB Y_)) 12 = S := by
    rw [eS]
    refine b_st_cg 12 (fun k hk => ?_)
    unfold m_lb y_termB
    rw [ch_bw_c (by decide), ch_bw_c (by decide), eZ, y_tg_o _ _ _ _ (by decide) (fun z => absurd z (by decide))]
  have ebc : i_bc S = y_termR Y_ := by
    rw [eS, m_bc, eR]
    exact (m_F_tc hi n (by omega)).2.2.symm
  rw [eS2] at hq
  have N8 : ∀ Z : ch_B, Z 0 8 = Y_ 0 8 → ∀ B' : ch_B, m_rel Z (B' 1) → B' 1 0 = nI n := fun Z h B' r => (m_co r).trans (h.trans en)
  have exit : ∀ B' : ch_B, m_rel (y_tZ Y_) (B' 1) → (∀ a i, a ≠ 1 → B' a i = ch_ob m 9 0 a i) → q S (ch_os m 9 0 (ch_bw (ch_bw B' 1 6 (B' 1 6 + i_bc S)) 1 7 (ch_bw B' 1 6 (B' 1 6 + i_bc S) 1 7 + 1))) := by
    intro B' r f0
    have w1 := r.1.2.2.2.2.2.2.1
    have r1 := m_rel_0 (i := 6) (v := y_tZ Y_ 0 15 + y_termR Y_) r (by omega)
    have w2 := (r1.1.2.2.2.2.2.2.2.1).trans (ch_bw_k (by decide))
    have r2 := m_rel_0 (i := 7) (v := y_tZ Y_ 0 16 + 1) r1 (by omega)
    rw [ebc, w1, w2]
    refine hq _ (m_rel_cast r2 ?_) ?_
    · have e15 : y_tZ Y_ 0 15 = Y_ 0 15 := by rw [eZ, y_tg_o _ _ _ _ (by decide) (fun _ => by decide), y_tc_o _ _ _ _ (by decide) (by decide) (by decide) (fun _ => by decide)]
      have e16 : y_tZ Y_ 0 16 = Y_ 0 16 := by rw [eZ, y_tg_o _ _ _ _ (by decide) (fun _ => by decide), y_tc_o _ _ _ _ (by decide) (by decide) (by decide) (fun _ => by decide)]
      rw [e15, e16]
      rfl
    · intro a i h1
      rw [ch_bw_c h1, ch_bw_c h1]
      exact f0 a i h1
  have key3 : ∀ c, c ≤ n → ∀ B' : ch_B, ∀ o3, m_rel (y_tg (y_tc Y_ n).1 c) (B' 1) → (∀ a i, a ≠ 1 → B' a i = ch_ob m 9 0 a i) → ch_J g m_m_goesBy (ch_rm m_m_goesBy) (ch_E g m_m_goesBy (ch_oi q)) 95 [some (.inr (9, 0, 0)), some (.inl (.int S)), some (.inl (.int (nI c))), o3] [] (ch_os m 9 0 B') 0 := by
    have e8 : ∀ c, y_tg (y_tc Y_ n).1 c 0 8 = Y_ 0 8 := fun c => by rw [y_tg_o _ _ _ _ (by decide) (fun _ => by decide), y_tc_o _ _ _ _ (by decide) (by decide) (by decide) (fun _ => by decide)]
    refine ch_down _ n ?_ ?_
    · intro B' o3 r f0
      refine g_m_goesBy_95 g _ _ _ _ _ ?_
      simp only [ch_oi_iff, forall_eq, ch_os_at, ch_os_wr, N8 _ (e8 n) _ r]
      exact ⟨fun _ => exit B' (by rw [eZ]; exact r) f0, fun z => absurd (nI_le (Nat.le_refl n) (by omega)) z⟩
    · intro c hc ih B' o3 r f0
      obtain ⟨a1, a2, a3, a4⟩ := ch_kn hc (by omega)
      refine g_m_goesBy_95 g _ _ _ _ _ ?_
      have w1 := r.1.2.1
      simp only [ch_oi_iff, forall_eq, ch_os_at, ch_os_wr, N8 _ (e8 c) _ r, a3, a4]
      refine ⟨fun z => absurd z a1, fun _ => ⟨fun d => ?_, fun d => ⟨vp_in_nI (by omega) (by decide), ?_⟩⟩⟩
      · refine exit B' ?_ f0
        rw [eZ, y_tg_s _ c n (by omega) (by rw [← w1]; exact d)]
        exact r
      · rw [w1] at d ⊢
        have r1 := m_rel_0 (i := 1) (v := y_tg (y_tc Y_ n).1 c 0 10 - 1) r (by omega)
        have w2 := (m_pe r1 (show c < 5 by omega)).trans (ch_bw_c (by decide))
        have r2 := m_rel_w (f := 0) (v := y_tg (y_tc Y_ n).1 c 3 c + 1) r1 (by omega) (show c < 5 by omega)
        rw [w2]
        refine ih _ o3 (m_rel_cast r2 ?_) ?_
        · rw [y_tg, if_neg d]
          rfl
        · intro a i h1
          rw [ch_bw_c h1, ch_bw_c h1]
          exact f0 a i h1
  refine g_m_goesBy_0 g _ _ ?_
  have key1 : ∀ c, c ≤ n → ∀ B' : ch_B, ∀ o3, m_rel (y_tc Y_ c).1 (B' 1) → (∀ a i, a ≠ 1 → B' a i = ch_ob m 9 0 a i) → ch_J g m_m_goesBy (ch_rm m_m_goesBy) (ch_E g m_m_goesBy (ch_oi q)) 4 [some (.inr (9, 0, 0)), some (.inl (.int (b_st (m_lb Y_ (y_tc Y_ c).1) 12))), some (.inl (.int (nI c))), o3] [] (ch_os m 9 0 B') 0 := by
    have e8 : ∀ c, (y_tc Y_ c).1 0 8 = Y_ 0 8 := fun c => y_tc_o _ _ _ _ (by decide) (by decide) (by decide) (fun _ => by decide)
    refine ch_down _ n ?_ ?_
    · intro B' o3 r f0
      refine g_m_goesBy_4 g _ _ _ _ _ ?_
      simp only [ch_os_at, N8 _ (e8 n) _ r]
      refine ⟨fun _ => ?_, fun z => absurd (nI_le (Nat.le_refl n) (by omega)) z⟩
      rw [← eS]
      exact key3 0 (by omega) B' o3 r f0
    · intro c hc ih B' o3 r f0
      obtain ⟨a1, a2, a3, a4⟩ := ch_kn hc (by omega)
      have hF := m_F_tc hi c (by omega)
      have key2 : ∀ k, k ≤ 12 → ∀ B' : ch_B, m_rel (y_pk (y_tc Y_ c).1 (nI c) k).1 (B' 1) → (∀ a i, a ≠ 1 → B' a i = ch_ob m 9 0 a i) → ch_J g m_m_goesBy (ch_rm m_m_goesBy) (ch_E g m_m_goesBy (ch_oi q)) 16 [some (.inr (9, 0, 0)), some (.inl (.int (b_st (m_lb Y_ (y_pk (y_tc Y_ c).1 (nI c) k).1) 12))), some (.inl (.int (nI c))), some (.inl (.int (nI k)))] [] (ch_os m 9 0 B') 0 := by
        refine ch_down _ 12 ?_ ?_
        · intro B' r f0
          refine g_m_goesBy_16 g _ _ _ _ _ ?_
          refine ⟨fun _ => ?_, fun z => absurd (by decide) z⟩
          have e : (y_tc Y_ (c + 1)).1 = (y_pk (y_tc Y_ c).1 (nI c) 12).1 := by
            rw [y_tc]
            dsimp only
            rw [y_p12_eq]
          have := ih B' (some (.inl (.int (nI 12)))) (by rw [e]; exact r) f0
          rw [e] at this
          rw [a4]
          exact this
        · intro k hk ih2 B' r f0
          obtain ⟨b1, b2, b3, b4⟩ := ch_k12 hk
          have hFk := m_F_pk (show c < 5 by omega) hF k (by omega)
          refine g_m_goesBy_16 g _ _ _ _ _ ?_
          simp only [forall_eq, ch_os_at, ch_os_wr, a3, b3, b4, m_ow r hk, m_pe r (show c < 5 by omega)]
          rw [y_pk, nI_clamp (show c < 2 ^ 31 by omega)] at ih2
          refine ⟨fun z => absurd z b1, fun _ => ⟨b2, fun d => ⟨vp_in_nI (by omega) (by decide), fun e => ?_, fun e => ?_⟩, fun d => ?_⟩⟩
          · rw [if_pos d, if_pos e] at ih2
            dsimp only at ih2
            rw [y_tk9 hk (hFk.2.1 k hk)] at ih2
            obtain ⟨u1, u2, u3⟩ := m_lb_up (show c < 5 by omega) d (hFk.1 k hk)
            rw [b_st_up _ _ k hk u2 u3]
            refine ih2 _ ?_ ?_
            · have r3 := m_rel_2 (v := 0) (m_rel_1 (v := -1) (w := 0) r hk (by decide)) hk
              refine m_rel_cast r3 ?_
              funext a i
              unfold ch_bw
              grind
            · intro a i h1
              rw [ch_bw_c h1, ch_bw_c h1]
              exact f0 a i h1
          · rw [if_pos d, if_neg e] at ih2
            dsimp only at ih2
            have r1 := m_rel_w (f := 0) (v := (y_pk (y_tc Y_ c).1 (nI c) k).1 3 c - 1) r (by omega) (show c < 5 by omega)
            have w2 := (r1.1.2.1).trans (ch_bw_c (by decide))
            have r2 := m_rel_0 (i := 1) (v := (y_pk (y_tc Y_ c).1 (nI c) k).1 0 10 + 1) r1 (by omega)
            rw [w2]
            refine ih2 _ r2 ?_
            intro a i h1
            rw [ch_bw_c h1, ch_bw_c h1]
            exact f0 a i h1
          · rw [if_neg d] at ih2
            exact ih2 B' r f0
      refine g_m_goesBy_4 g _ _ _ _ _ ?_
      simp only [ch_os_at, N8 _ (e8 c) _ r]
      refine ⟨fun z => absurd z a1, fun _ => ?_⟩
      exact key2 0 (by omega) B' r f0
  have h0 := key1 0 (by omega) (ch_ob m 9 0) none hr (fun _ _ _ => rfl)
  rw [ch_os_self] at h0
  have e : b_st (m_lb Y_ (y_tc Y_ 0).1) 12 = 0 := by
    have e : ∀ k, b_st (m_lb Y_ (y_tc Y_ 0).1) k = 0 := by
      intro k
      induction k with
      | zero => rfl
      | succ k ih =>
        unfold b_st
        rw [if_neg (by
          show ¬ m_lb Y_ Y_ k = true
          unfold m_lb
          simp)]
        exact ih
    exact e 12
  rw [e] at h0
  exact h0
