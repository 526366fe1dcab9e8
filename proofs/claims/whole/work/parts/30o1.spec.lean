theorem s_ok_iff (f : Nat → Int32) (n : Nat) : s_ok f n = true ↔ ∀ k, k < n → 1 ≤ f k ∧ f k ≤ 3 := by
  induction n with
  | zero => exact ⟨fun _ k h => absurd h (by omega), fun _ => rfl⟩
  | succ n ih =>
    rw [s_ok, Bool.and_eq_true, ih]
    have e : (!decide (f n < 1) && decide (f n ≤ 3)) = true ↔ (1 ≤ f n ∧ f n ≤ 3) := by
      simp
    rw [e]
    refine ⟨fun h k hk => ?_, fun h => ⟨fun k hk => h k (by omega), h n (by omega)⟩⟩
    by_cases el : k = n
    · rw [el]; exact h.2
    · exact h.1 k (by omega)
theorem s_rr_n {X : Nat} (hX : X < 2 ^ 31) (t : Nat) : s_rr (nI X) t = nI (X / 10 ^ t) := by
  induction t with
  | zero => rw [s_rr, Nat.pow_zero, Nat.div_one]
  | succ t ih =>
    have : X / 10 ^ t ≤ X := Nat.div_le_self _ _
    rw [s_rr, ih, show (10 : Int32) = nI 10 from rfl, pk_div (by omega) (by decide) (by decide), Nat.div_div_eq_div_mul, Nat.pow_succ]
theorem m_digs {X : Nat} (hX : X < 2 ^ 31) : ∃ D, D ≤ 10 ∧ X / 10 ^ D = 0 ∧ ∀ t, t < D → ¬ X / 10 ^ t = 0 := by
  have h10 : X / 10 ^ 10 = 0 := Nat.div_eq_of_lt (Nat.lt_trans hX (by decide))
  obtain ⟨D, h1, h2⟩ := pk_least (fun t => X / 10 ^ t = 0) ⟨10, h10⟩
  refine ⟨D, ?_, h1, h2⟩
  by_cases h : D ≤ 10
  · exact h
  · exact absurd h10 (h2 10 (by omega))
theorem s_rnF_n {X D : Nat} (hX : X < 2 ^ 31) (h1 : X / 10 ^ D = 0) (h2 : ∀ t, t < D → ¬ X / 10 ^ t = 0) (n t : Nat) (ht : t ≤ D) : s_rnF (nI X) n t = if t + n ≤ D then t + n else D := by
  induction n generalizing t with
  | zero => rw [s_rnF, if_pos (by omega)]; rfl
  | succ n ih =>
    have : X / 10 ^ t ≤ X := Nat.div_le_self _ _
    rw [s_rnF, s_rr_n hX]
    by_cases e : t = D
    · rw [e, h1, if_pos (by decide), if_neg (by omega)]
    · rw [if_neg (nI_nle (Nat.pos_of_ne_zero (h2 t (by omega))) (by omega)), ih (t + 1) (by omega)]
      by_cases l : t + 1 + n ≤ D
      · rw [if_pos l, if_pos (by omega)]; omega
      · rw [if_neg l, if_neg (by omega)]
theorem s_rw_n {B : ch_B} {X : Nat} (hX : X < 2 ^ 31) (n j : Nat) (hj : j < n) (hn : n ≤ 9) : s_rw B (nI X) n 1 (8 - j) = nI (X / 10 ^ j % 10) := by
  induction n with
  | zero => omega
  | succ n ih =>
    have : X / 10 ^ n ≤ X := Nat.div_le_self _ _
    rw [s_rw]
    by_cases e : j = n
    · subst e
      rw [ch_bw_at, s_rr_n hX, show (10 : Int32) = nI 10 from rfl, pk_rem (by omega) (by decide) (by decide)]
    · rw [ch_bw_k (by omega)]
      exact ih (by omega) (by omega)
/-- what the class reads of a number, by its digits -/
theorem s_rfB_d (A : ch_B) {X D : Nat} (hX : X < 2 ^ 31) (h1 : X / 10 ^ D = 0) (h2 : ∀ t, t < D → ¬ X / 10 ^ t = 0) (hD : D ≤ 10) :
    (D ≤ 9 → (∀ k, k < D → s_rfB A (nI X) 1 k = nI (X / 10 ^ (D - 1 - k) % 10)) ∧ s_rfB A (nI X) 0 1 = if s_ok (s_rfB A (nI X) 1) D = true then nI D else 0) ∧ (D = 10 → s_rfB A (nI X) 0 1 = 0) := by
  have e0 : s_rn (nI X) = if 9 ≤ D then 9 else D := by
    unfold s_rn
    rw [s_rnF_n hX h1 h2 9 0 (by omega)]
  refine ⟨fun h9 => ?_, fun h => ?_⟩
  · have e1 : s_rn (nI X) = D := by
      rw [e0]
      split <;> omega
    have e2 : s_rc (nI X) = D := by
      unfold s_rc
      rw [e1, s_rr_n hX, h1, if_pos (by decide)]
    have er : ∀ k, k < D → s_rfB A (nI X) 1 k = nI (X / 10 ^ (D - 1 - k) % 10) := by
      intro k hk
      show s_rf A (nI X) k = _
      unfold s_rf
      rw [e2, if_pos hk, e1, show 9 - D + k = 8 - (D - 1 - k) by omega]
      exact s_rw_n hX D (D - 1 - k) (by omega) h9
    refine ⟨er, ?_⟩
    show (if s_ok (s_rf A (nI X)) (s_rc (nI X)) = true then nI (s_rc (nI X)) else 0) = _
    rw [e2]
    rfl
  · have e1 : s_rn (nI X) = 9 := by
      rw [e0, if_pos (by omega)]
    have h9 := h2 9 (by omega)
    have : X / 10 ^ 9 ≤ X := Nat.div_le_self _ _
    have e2 : s_rc (nI X) = 0 := by
      unfold s_rc
      rw [e1, s_rr_n hX, if_neg (nI_ne0 (Nat.pos_of_ne_zero h9) (by omega))]
    show (if s_ok (s_rf A (nI X)) (s_rc (nI X)) = true then nI (s_rc (nI X)) else 0) = _
    rw [e2]
    rfl
theorem s_rfB_deg (A : ch_B) {x : Int32} (h : ¬ 1 ≤ x) : s_rfB A x 0 1 = 0 := by
  have h0 : x ≤ 0 := by
    rw [Int32.le_iff_toInt_le, show (1 : Int32).toInt = 1 by decide] at h
    rw [Int32.le_iff_toInt_le, show (0 : Int32).toInt = 0 by decide]
    omega
  have e1 : s_rn x = 0 := by
    show (if s_rr x 0 ≤ 0 then 0 else s_rnF x 8 (0 + 1)) = 0
    exact if_pos h0
  have e2 : s_rc x = 0 := by
    unfold s_rc
    rw [e1]
    split <;> rfl
  show (if s_ok (s_rf A x) (s_rc x) = true then nI (s_rc x) else 0) = _
  rw [e2]
  rfl
set_option maxHeartbeats 1600000 in
theorem s_m_areSteps (g : ch_G) (q : Int32 → ch_M → Prop) (A_ : ch_B) (p1 : Int32) (m : ch_M) (h : ((¬ s_rfB A_ p1 0 1 = 0) → (∀ (B_ : ch_B), (∀ a_ i_, a_ ≠ 9 → ¬ (a_ = 0 ∧ i_ = 21) → B_ a_ i_ = ch_ob m 9 0 a_ i_) → (B_ 0 21 = s_rfB A_ p1 0 1) → (∀ k_, k_ < Int32.toNatClampNeg (s_rfB A_ p1 0 1) → B_ 9 k_ = s_rfB A_ p1 1 k_) → q 1 (ch_os m 9 0 B_))) ∧ ((s_rfB A_ p1 0 1 = 0) → (∀ (B_ : ch_B), (∀ a_ i_, a_ ≠ 9 → ¬ (a_ = 0 ∧ i_ = 21) → B_ a_ i_ = ch_ob m 9 0 a_ i_) → q 0 (ch_os m 9 0 B_)))) : ch_C g m_m_areSteps [.inr (9, 0, 0), .inl (.int p1)] m (ch_oi q) := by
  refine e_m_areSteps g _ p1 m ?_
  obtain ⟨ha, hb⟩ := h
  refine g_m_areSteps_0 g _ _ _ ?_
  intro m1 e1
  rw [ch_wr_os] at e1
  refine ⟨fun c => ?_, fun c => ?_⟩
  · have hx0 : ¬ p1 < 0 := by
      rw [Int32.le_iff_toInt_le, show (1 : Int32).toInt = 1 by decide] at c
      rw [Int32.lt_iff_toInt_lt, show (0 : Int32).toInt = 0 by decide]
      omega
    obtain ⟨X, hX, rfl⟩ := nI_of hx0
    have hX1 : 1 ≤ X := (nI_leI (by decide) hX).mp c
    obtain ⟨D, hD, h1, h2⟩ := m_digs hX
    have hD1 : 1 ≤ D := by
      by_cases l : 1 ≤ D
      · exact l
      · have : D = 0 := by omega
        rw [this, Nat.pow_zero, Nat.div_one] at h1
        omega
    obtain ⟨r1, r2⟩ := s_rfB_d A_ hX h1 h2 hD
    subst e1
    have key2 : D ≤ 9 → ∀ j, j ≤ D → ∀ B' : ch_B, (∀ i, j ≤ i → i < D → B' 9 i = nI (X / 10 ^ (D - 1 - i) % 10) ∧ 1 ≤ nI (X / 10 ^ (D - 1 - i) % 10) ∧ nI (X / 10 ^ (D - 1 - i) % 10) ≤ 3) → (∀ a i, a ≠ 9 → ¬ (a = 0 ∧ i = 21) → B' a i = ch_ob m 9 0 a i) → ch_J g m_m_areSteps (ch_rm m_m_areSteps) (ch_E g m_m_areSteps (ch_oi q)) 46 [some (.inr (9, 0, 0)), some (.inl (.int (nI X))), some (.inl (.int (nI D))), some (.inl (.int (nI (X / 10 ^ (D - j))))), some (.inl (.int (nI j - 1)))] [] (ch_os m 9 0 B') 0 := by
      intro h9
      obtain ⟨er, ec⟩ := r1 h9
      intro j
      induction j with
      | zero =>
        intro _ B' hd f0
        refine g_m_areSteps_46 g _ _ _ _ _ _ ?_
        refine ⟨fun _ m1 e1 => ?_, fun z => absurd (by decide) z⟩
        rw [ch_os_wr] at e1
        subst e1
        have hok : s_ok (s_rfB A_ (nI X) 1) D = true := (s_ok_iff _ _).mpr (fun k hk => by
          rw [er k hk]
          exact (hd k (by omega) hk).2)
        rw [if_pos hok] at ec
        refine ch_oi_iff.mpr (ha (by rw [ec]; exact nI_ne0 (by omega) (by omega)) _ ?_ ?_ ?_)
        · intro a i h5 h6
          unfold ch_bw
          rw [if_neg h6]
          exact f0 a i h5 h6
        · rw [ch_bw_at, ec]
        · intro k hk
          rw [ec, nI_clamp (by omega)] at hk
          rw [ch_bw_c (by decide), er k hk]
          exact (hd k (by omega) hk).1
      | succ j ih =>
        intro hj B' hd f0
        have hle : X / 10 ^ (D - (j + 1)) ≤ X := Nat.div_le_self _ _
        have e46 : (nI (j + 1) - 1 : Int32) = nI j := nI_pred j
        rw [e46]
        refine g_m_areSteps_46 g _ _ _ _ _ _ ?_
        have edg : (nI (X / 10 ^ (D - (j + 1))) - nI (X / 10 ^ (D - (j + 1))) / 10 * 10 : Int32) = nI (X / 10 ^ (D - (j + 1)) % 10) := pk_rem (d := 10) (by omega) (by decide) (by decide)
        have edv : (nI (X / 10 ^ (D - (j + 1))) / 10 : Int32) = nI (X / 10 ^ (D - j)) := by
          rw [show (10 : Int32) = nI 10 from rfl, pk_div (by omega) (by decide) (by decide), Nat.div_div_eq_div_mul, ← Nat.pow_succ, show (D - (j + 1)).succ = D - j by omega]
        have eidx : D - (j + 1) = D - 1 - j := by omega
        refine ⟨fun z => absurd z (nI_pos (by omega)), fun _ => ⟨vp_in_nI (by omega) (by decide), fun m3 e3 => ?_⟩⟩
        rw [edg, ch_os_wr, nI_clamp (by omega)] at e3
        subst e3
        rw [nI_clamp (by omega), ch_os_at, ch_bw_at, edv]
        refine ⟨fun z => ?_, fun z => ?_⟩
        · have em : (nI j + (-1) : Int32) = nI j - 1 := by grind
          rw [em]
          refine ih (by omega) _ ?_ ?_
          · intro i hi1 hi2
            by_cases e : i = j
            · subst e
              rw [ch_bw_at, ← eidx]
              exact ⟨rfl, z⟩
            · rw [ch_bw_k e]
              exact hd i (by omega) hi2
          · intro a i h5 h6
            rw [ch_bw_c h5]
            exact f0 a i h5 h6
        · have hok : ¬ s_ok (s_rfB A_ (nI X) 1) D = true := fun y => z (by
            have := (s_ok_iff _ _).mp y j (by omega)
            rw [er j (by omega), ← eidx] at this
            exact this)
          rw [if_neg hok] at ec
          refine ch_oi_iff.mpr (hb ec _ ?_)
          intro a i h5 h6
          rw [ch_bw_c h5]
          exact f0 a i h5 h6
    have key1 : ∀ t, t ≤ D → ∀ o4, ch_J g m_m_areSteps (ch_rm m_m_areSteps) (ch_E g m_m_areSteps (ch_oi q)) 16 [some (.inr (9, 0, 0)), some (.inl (.int (nI X))), some (.inl (.int (nI t))), some (.inl (.int (nI (X / 10 ^ t)))), o4] [] (ch_os m 9 0 (ch_bw (ch_ob m 9 0) 0 21 0)) 0 := by
      refine ch_down _ D ?_ ?_
      · intro o4
        refine g_m_areSteps_16 g _ _ _ _ _ _ ?_
        refine ⟨fun _ => ⟨fun l => ?_, fun l => ?_⟩, fun z => absurd (by rw [h1]; decide) z⟩
        · have l9 : D ≤ 9 := (nI_leI (b := 9) (by omega) (by decide)).mp l
          have := key2 l9 D (Nat.le_refl D) (ch_bw (ch_ob m 9 0) 0 21 0) (fun i h5 h6 => absurd h6 (by omega)) (fun a i h5 h6 => by
            unfold ch_bw
            rw [if_neg h6])
          rw [Nat.sub_self, Nat.pow_zero, Nat.div_one] at this
          exact this
        · have l10 : D = 10 := by
            by_cases e : D ≤ 9
            · exact absurd (nI_le (b := 9) e (by decide)) l
            · omega
          refine ch_oi_iff.mpr (hb (r2 l10) _ ?_)
          intro a i h5 h6
          unfold ch_bw
          rw [if_neg h6]
      · intro t ht ih o4
        have hle : X / 10 ^ t ≤ X := Nat.div_le_self _ _
        have h0 := h2 t ht
        refine g_m_areSteps_16 g _ _ _ _ _ _ ?_
        refine ⟨fun z => absurd z (nI_nle (Nat.pos_of_ne_zero h0) (by omega)), fun _ => ?_⟩
        rw [nI_1, show (10 : Int32) = nI 10 from rfl, pk_div (by omega) (by decide) (by decide), Nat.div_div_eq_div_mul, ← Nat.pow_succ]
        exact ih o4
    have h0 := key1 0 (by omega) none
    rw [Nat.pow_zero, Nat.div_one] at h0
    exact h0
  · subst e1
    refine ch_oi_iff.mpr (hb (s_rfB_deg A_ c) _ ?_)
    intro a i h5 h6
    unfold ch_bw
    rw [if_neg h6]
theorem m_term_bc {T : Nat} {Y : ch_B} (hi : y_inv T Y) : i_bc (b_st (m_lb Y (y_termB Y)) 12) = y_termR Y := by
  obtain ⟨n, hn, en⟩ := vp_in_of (y_i8 hi) (by decide)
  have cn : (Y 0 8).toNatClampNeg = n := by rw [en, nI_clamp (by omega)]
  have e : b_st (m_lb Y (y_termB Y)) 12 = b_st (m_lb Y (y_tc Y n).1) 12 := by
    refine b_st_cg 12 (fun k hk => ?_)
    unfold m_lb y_termB y_tZ
    rw [ch_bw_c (by decide), ch_bw_c (by decide), cn, y_tg_o _ _ _ _ (by decide) (fun z => absurd z (by decide))]
  rw [e, m_bc]
  unfold y_termR
  rw [cn]
  exact (m_F_tc hi n (by omega)).2.2.symm
set_option maxHeartbeats 1600000 in
theorem s_m_term (g : ch_G) (q : Int32 → ch_M → Prop) (T_ : Nat) (Y_ : ch_B) (m : ch_M) (h : (m_rel Y_ (m (9, 0, 1))) ∧ (y_inv T_ Y_) ∧ (vp_in (m (9, 0, 0) 4) 9) ∧ (((r_wt Y_).1 = 0) → (∀ (B_ : ch_B), (m_done (ch_ob m 9 0) B_ (y_termB Y_)) → q (y_termR Y_) (ch_os m 9 0 B_))) ∧ ((¬ (r_wt Y_).1 = 0) → (∀ (B_ : ch_B), (m_rfd (ch_ob m 9 0) B_ (r_wt Y_).1 (r_wt Y_).2) → q 0 (ch_os m 9 0 B_)))) : ch_C g m_m_term [.inr (9, 0, 0)] m (ch_oi q) := by
  refine e_m_term g _  m ?_
  obtain ⟨hr, hi, h4, ha, hb⟩ := h
  have e1 : m_trB (ch_ob m 9 0) 1 = ch_ob m 9 0 1 := m_trB_1 _
  have e0 : ch_ob m 9 0 1 0 = Y_ 0 8 := m_co hr
  unfold r_wt at ha hb
  refine g_m_term_0 g _ _ ?_
  simp only [forall_eq, ch_oi_iff, ch_ob_os, ch_os_os, ch_os_at, e1, e0, ch_wr_os, ch_os_wr]
  refine ⟨fun c => ?_, fun c => ?_⟩
  · rw [if_neg c] at ha
    refine ⟨T_, Y_, by rw [show ch_os m 9 0 (m_trB (ch_ob m 9 0)) (9, 0, 1) = m_trB (ch_ob m 9 0) 1 from rfl, m_trB_1]; exact hr, hi, fun B h1 h2 => ⟨?_, ?_⟩⟩
    · rw [ch_bw_k (by decide), h2 0 4 (by decide), m_trB_o (by omega) (by omega)]
      exact h4
    · rw [ch_bw_at, m_term_bc hi]
      refine ha rfl _ (m_done_of (a := y_termR Y_) ⟨?_, ch_bw_at _ _ _ _, ?_⟩)
      · rw [ch_bw1 (by decide)]
        exact h1
      · intro a i h5 h6
        unfold ch_bw
        rw [if_neg h6]
        exact h2 a i h5
  · rw [if_pos c] at hb
    exact hb (m_nz (by decide)) _ (m_rfd_of _ _ _)
