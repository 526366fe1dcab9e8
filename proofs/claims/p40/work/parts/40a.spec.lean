/-- a call that changes answers 0 or more if it did, else less and all is as it was -/
def a_R (A : a_G) (m : ch_M) (r : Int32) (M : ch_M) : Prop := (∀ k, M (14, 0, 1) k = m (14, 0, 1) k) ∧ ((0 ≤ r ∧ a_S (a_up A (A.1 + 720) (ch_ob m 1 0)) M) ∨ (¬ 0 ≤ r ∧ a_S A M ∧ y_sm (ch_ob m 1 0) (ch_ob M 1 0)))
theorem v_pos {x : Int32} {n : Nat} (h : vp_in x n) (hn : n < 2 ^ 31) : 0 ≤ x := by
  obtain ⟨k, hk, e⟩ := vp_in_of h hn
  rw [e]
  exact nI_pos' (by omega)
theorem v_idx {x : Int32} {n : Nat} (hn : n < 2 ^ 31) (h0 : 0 ≤ x) (h : x < nI n) : ∃ k, k < n ∧ x = nI k := by
  have e := Int32.le_iff_toInt_le.mp h0
  have e2 := Int32.lt_iff_toInt_lt.mp h
  rw [nI_toInt hn] at e2
  have e0 : (0 : Int32).toInt = 0 := by decide
  rw [e0] at e
  refine ⟨x.toInt.toNat, by omega, Int32.toInt_inj.mp ?_⟩
  rw [nI_toInt (by omega)]
  omega
theorem v_child {T : Nat} {Y : ch_B} (hi : y_inv T Y) {c : Int32} (h : 0 ≤ c ∧ c < Y 0 8) : ∃ k, k < 5 ∧ c = nI k := by
  obtain ⟨n, hn, e⟩ := vp_in_of (y_i8 hi) (by decide)
  rw [e] at h
  obtain ⟨k, hk, e2⟩ := v_idx (by omega) h.1 h.2
  exact ⟨k, by omega, e2⟩
theorem v_bri {T : Nat} {Y : ch_B} (hi : y_inv T Y) {p : Int32} (hT : T < 2 ^ 31) (h : (r_wn Y p).1 = 0) : 0 ≤ Y 0 8 + 1 - 1 := by
  rw [show Y 0 8 + 1 - 1 = Y 0 8 from Int32.add_sub_cancel _ _]
  exact v_pos (y_i8 hi) (by decide)
theorem v_cha {T : Nat} {Y : ch_B} (hi : y_inv T Y) {c p : Int32} (hT : T < 2 ^ 31) (h : (r_wc Y c p).1 = 0) : 0 ≤ y_chv Y p := by
  unfold r_wc at h
  by_cases c1 : 0 ≤ c ∧ c < Y 0 8
  · rw [if_pos c1] at h
    by_cases c2 : 0 ≤ p ∧ p ≤ 11
    · obtain ⟨k, hk, e⟩ := v_idx (n := 12) (by decide) c2.1 (Int32.lt_iff_toInt_lt.mpr (by
        have := Int32.le_iff_toInt_le.mp c2.2
        have e1 : (11 : Int32).toInt = 11 := by decide
        have e2 : (nI 12).toInt = 12 := by decide
        omega))
      rw [e]
      obtain ⟨v, hv, ev⟩ := vp_in_of (y_i2 hi hk) (by decide)
      unfold y_chv
      rw [nI_clamp (by omega), ev]
      split
      · decide
      · split
        · decide
        · obtain rfl | rfl | rfl | rfl | rfl | rfl | rfl | rfl | rfl | rfl : v = 0 ∨ v = 1 ∨ v = 2 ∨ v = 3 ∨ v = 4 ∨ v = 5 ∨ v = 6 ∨ v = 7 ∨ v = 8 ∨ v = 9 := by omega
          all_goals decide
    · rw [if_neg c2] at h
      exact absurd h (show ¬ (1 : Int32) = 0 by decide)
  · rw [if_neg c1] at h
    exact absurd h (show ¬ (3 : Int32) = 0 by decide)
theorem v_hop {T : Nat} {Y : ch_B} (hi : y_inv T Y) {c : Int32} {f : Nat → Int32} {n : Int32} (hn : vp_in n 13) : 0 ≤ y_ct Y c f n.toNatClampNeg := by
  obtain ⟨s, hs, es⟩ := vp_in_of hn (by decide)
  obtain ⟨t, ht, et⟩ := y_ct_n Y c f n.toNatClampNeg
  rw [et]
  rw [es, nI_clamp (by omega)] at ht
  exact nI_pos' (by omega)
theorem v_wri {T : Nat} {Y : ch_B} (hi : y_inv T Y) {c : Int32} (hT : T < 2 ^ 31) (h : (r_ww Y c).1 = 0) : 0 ≤ (if 9 < Y 4 c.toNatClampNeg then (9 : Int32) else Y 4 c.toNatClampNeg) := by
  unfold r_ww at h
  by_cases c1 : 0 ≤ c ∧ c < Y 0 8
  · obtain ⟨k, hk, e⟩ := v_child hi c1
    rw [e, nI_clamp (by omega)]
    split
    · decide
    · exact v_pos (y_i4 hi hk) hT
  · rw [if_neg c1] at h
    exact absurd h (show ¬ (3 : Int32) = 0 by decide)
theorem v_str {T : Nat} {Y : ch_B} (hi : y_inv T Y) {c : Int32} (hT : T < 2 ^ 31) (h : (r_ws Y c).1 = 0) : 0 ≤ Y 3 c.toNatClampNeg - Y 5 c.toNatClampNeg := by
  unfold r_ws at h
  by_cases c1 : 0 ≤ c ∧ c < Y 0 8
  · rw [if_pos c1] at h
    obtain ⟨k, hk, e⟩ := v_child hi c1
    rw [e, nI_clamp (by omega)] at h ⊢
    by_cases c2 : Y 5 k = 0
    · rw [if_pos c2] at h
      exact absurd h (show ¬ (10 : Int32) = 0 by decide)
    · rw [if_neg c2] at h
      by_cases c3 : Y 5 k ≤ Y 3 k
      · obtain ⟨a, ha, ea⟩ := vp_in_of (y_i3 hi hk) (by decide)
        obtain ⟨b, hb, eb⟩ := vp_in_of (y_i5 hi hk) (by decide)
        rw [ea, eb] at c3 ⊢
        have hab := (nI_leI (a := b) (b := a) (by omega) (by omega)).mp c3
        rw [show nI a = nI (a - b) + nI b from by rw [nI_add, show a - b + b = a by omega]]
        rw [Int32.add_sub_cancel]
        exact nI_pos' (by omega)
      · rw [if_neg c3] at h
        exact absurd h (show ¬ (5 : Int32) = 0 by decide)
  · rw [if_neg c1] at h
    exact absurd h (show ¬ (3 : Int32) = 0 by decide)
theorem m_ci_n (f : Nat → Int32) (r : Int32) (n : Nat) : ∃ a, a ≤ n ∧ m_ci f r n = nI a := by
  induction n with
  | zero => exact ⟨0, Nat.le_refl _, rfl⟩
  | succ n ih =>
    obtain ⟨a, ha, e⟩ := ih
    rw [m_ci]
    split
    · exact ⟨a + 1, by omega, by rw [e, nI_1]⟩
    · exact ⟨a, by omega, e⟩
theorem v_was {T : Nat} {Y : ch_B} (hi : y_inv T Y) {p : Int32} (hT : T < 2 ^ 31) (h : (r_wr Y p).1 = 0) : 0 ≤ y_washR Y p := by
  unfold r_wr at h
  by_cases c1 : 1 ≤ p ∧ p ≤ 9
  · obtain ⟨k, hk, e⟩ := v_idx (x := p) (n := 10) (by decide) (Int32.le_trans (by decide) c1.1) (Int32.lt_iff_toInt_lt.mpr (by
        have := Int32.le_iff_toInt_le.mp c1.2
        have e1 : (9 : Int32).toInt = 9 := by decide
        have e2 : (nI 10).toInt = 10 := by decide
        omega))
    obtain ⟨n, hn, en⟩ := vp_in_of (y_i8 hi) (by decide)
    rw [e, (m_wash hi hk hn en).2]
    obtain ⟨a, ha, ea⟩ := m_ci_n (Y 2) (nI k) 12
    obtain ⟨b, hb, eb⟩ := m_ci_n (Y 5) (nI k) n
    rw [ea, eb, nI_add]
    exact nI_pos' (by omega)
  · rw [if_neg c1] at h
    exact absurd h (show ¬ (1 : Int32) = 0 by decide)
theorem y_pk_n (Y : ch_B) (c : Int32) (n : Nat) : ∃ a, a ≤ n ∧ (y_pk Y c n).2 = nI a := by
  induction n with
  | zero => exact ⟨0, Nat.le_refl _, rfl⟩
  | succ n ih =>
    obtain ⟨a, ha, e⟩ := ih
    rw [y_pk]
    split
    · split
      · exact ⟨a + 1, by omega, by show (y_pk Y c n).2 + 1 = _; rw [e, nI_1]⟩
      · exact ⟨a, by omega, e⟩
    · exact ⟨a, by omega, e⟩
theorem y_tc_n (Y : ch_B) (n : Nat) : ∃ a, a ≤ 12 * n ∧ (y_tc Y n).2 = nI a := by
  induction n with
  | zero => exact ⟨0, Nat.le_refl _, rfl⟩
  | succ n ih =>
    obtain ⟨a, ha, e⟩ := ih
    rw [y_tc]
    dsimp only
    rw [y_p12_eq]
    obtain ⟨b, hb, eb⟩ := y_pk_n (y_tc Y n).1 (nI n) 12
    exact ⟨a + b, by omega, by rw [e, eb, nI_add]⟩
theorem v_ter {T : Nat} {Y : ch_B} (hi : y_inv T Y) (hT : T < 2 ^ 31) (h : (r_wt Y).1 = 0) : 0 ≤ y_termR Y := by
  unfold y_termR
  obtain ⟨n, hn, en⟩ := vp_in_of (y_i8 hi) (by decide)
  rw [en, nI_clamp (by omega)]
  obtain ⟨a, ha, ea⟩ := y_tc_n Y n
  rw [ea]
  exact nI_pos' (by omega)
set_option maxHeartbeats 1600000 in
theorem v_l_child (g : ch_G) (q : Int32 → ch_M → Prop) (A_ : a_G) (p1 : Int32) (m : ch_M) (h : (a_S A_ m) ∧ (A_.1 + 720 < 2 ^ 31) ∧ (0 < A_.1) ∧ (∀ (R_ : Int32) (M_ : ch_M), (a_R A_ m R_ M_) → q R_ (M_))) : ch_C g m_l_child [.inr (0, 0, 0), .inl (.int p1)] m (ch_oi q) := by
  obtain ⟨hA, hT, hT0, hq⟩ := h
  refine t_l_child g q A_ p1 m ⟨hA, by omega, hT0, fun z M h1 h2 h14 => ?_, fun z M h1 h2 _ _ _ h14 => hq _ M ⟨h14, Or.inr ⟨by decide, h1, by rw [h2]; exact y_sm_refl _⟩⟩⟩
  have h0 := v_bri hA.1 (by omega) z
  exact hq _ M ⟨h14, Or.inl ⟨h0, a_S_mono h1 hT (by show A_.1 + 12 ≤ A_.1 + 720; omega)⟩⟩
set_option maxHeartbeats 1600000 in
theorem v_l_chalk (g : ch_G) (q : Int32 → ch_M → Prop) (A_ : a_G) (p1 : Int32) (p2 : Int32) (m : ch_M) (h : (a_S A_ m) ∧ (A_.1 + 720 < 2 ^ 31) ∧ (0 < A_.1) ∧ (∀ (R_ : Int32) (M_ : ch_M), (a_R A_ m R_ M_) → q R_ (M_))) : ch_C g m_l_chalk [.inr (0, 0, 0), .inl (.int p1), .inl (.int p2)] m (ch_oi q) := by
  obtain ⟨hA, hT, hT0, hq⟩ := h
  refine t_l_chalk g q A_ p1 p2 m ⟨hA, by omega, hT0, fun z M h1 h2 h14 => ?_, fun z M h1 h2 _ _ _ h14 => hq _ M ⟨h14, Or.inr ⟨by decide, h1, by rw [h2]; exact y_sm_refl _⟩⟩⟩
  have h0 := v_cha hA.1 (by omega) z
  exact hq _ M ⟨h14, Or.inl ⟨h0, a_S_mono h1 hT (by show A_.1 + 12 ≤ A_.1 + 720; omega)⟩⟩
set_option maxHeartbeats 1600000 in
theorem v_l_hop (g : ch_G) (q : Int32 → ch_M → Prop) (A_ : a_G) (p1 : Int32) (p2 : Int32) (m : ch_M) (h : (a_S A_ m) ∧ (A_.1 + 720 < 2 ^ 31) ∧ (0 < A_.1) ∧ (∀ (R_ : Int32) (M_ : ch_M), (a_R A_ m R_ M_) → q R_ (M_))) : ch_C g m_l_hop [.inr (0, 0, 0), .inl (.int p1), .inl (.int p2)] m (ch_oi q) := by
  obtain ⟨hA, hT, hT0, hq⟩ := h
  refine t_l_hop g q A_ p1 p2 m ⟨hA, by omega, hT0, fun z M h1 h2 h14 => ?_, fun z M h1 h2 _ _ _ h14 => hq _ M ⟨h14, Or.inr ⟨by decide, h1, by rw [h2]; exact y_sm_refl _⟩⟩⟩
  have h0 := v_hop (T := A_.1) (Y := ch_ob m 1 0) (c := p1) (f := s_rf (ch_ob m 5 0) p2) hA.1 (s_rfB_n (ch_ob m 5 0) p2)
  exact hq _ M ⟨h14, Or.inl ⟨h0, a_S_mono h1 hT (by show A_.1 + 12 ≤ A_.1 + 720; omega)⟩⟩
set_option maxHeartbeats 1600000 in
theorem v_l_warrant (g : ch_G) (q : Int32 → ch_M → Prop) (A_ : a_G) (p1 : Int32) (m : ch_M) (h : (a_S A_ m) ∧ (A_.1 + 720 < 2 ^ 31) ∧ (0 < A_.1) ∧ (∀ (R_ : Int32) (M_ : ch_M), (a_R A_ m R_ M_) → q R_ (M_))) : ch_C g m_l_warrant [.inr (0, 0, 0), .inl (.int p1)] m (ch_oi q) := by
  obtain ⟨hA, hT, hT0, hq⟩ := h
  refine t_l_warrant g q A_ p1 m ⟨hA, by omega, hT0, fun z M h1 h2 h14 => ?_, fun z M h1 h2 _ _ _ h14 => hq _ M ⟨h14, Or.inr ⟨by decide, h1, by rw [h2]; exact y_sm_refl _⟩⟩⟩
  have h0 := v_wri hA.1 (by omega) z
  exact hq _ M ⟨h14, Or.inl ⟨h0, a_S_mono h1 hT (by show A_.1 + 12 ≤ A_.1 + 720; omega)⟩⟩
set_option maxHeartbeats 1600000 in
theorem v_l_strike (g : ch_G) (q : Int32 → ch_M → Prop) (A_ : a_G) (p1 : Int32) (m : ch_M) (h : (a_S A_ m) ∧ (A_.1 + 720 < 2 ^ 31) ∧ (0 < A_.1) ∧ (∀ (R_ : Int32) (M_ : ch_M), (a_R A_ m R_ M_) → q R_ (M_))) : ch_C g m_l_strike [.inr (0, 0, 0), .inl (.int p1)] m (ch_oi q) := by
  obtain ⟨hA, hT, hT0, hq⟩ := h
  refine t_l_strike g q A_ p1 m ⟨hA, by omega, hT0, fun z M h1 h2 h14 => ?_, fun z M h1 h2 _ _ _ h14 => hq _ M ⟨h14, Or.inr ⟨by decide, h1, by rw [h2]; exact y_sm_refl _⟩⟩⟩
  have h0 := v_str hA.1 (by omega) z
  exact hq _ M ⟨h14, Or.inl ⟨h0, a_S_mono h1 hT (by show A_.1 + 12 ≤ A_.1 + 720; omega)⟩⟩
set_option maxHeartbeats 1600000 in
theorem v_l_rain (g : ch_G) (q : Int32 → ch_M → Prop) (A_ : a_G) (p1 : Int32) (m : ch_M) (h : (a_S A_ m) ∧ (A_.1 + 720 < 2 ^ 31) ∧ (0 < A_.1) ∧ (∀ (R_ : Int32) (M_ : ch_M), (a_R A_ m R_ M_) → q R_ (M_))) : ch_C g m_l_rain [.inr (0, 0, 0), .inl (.int p1)] m (ch_oi q) := by
  obtain ⟨hA, hT, hT0, hq⟩ := h
  refine t_l_rain g q A_ p1 m ⟨hA, by omega, hT0, fun z M h1 h2 h14 => ?_, fun z M h1 h2 _ _ _ h14 => hq _ M ⟨h14, Or.inr ⟨by decide, h1, by rw [h2]; exact y_sm_refl _⟩⟩⟩
  have h0 := v_was hA.1 (by omega) z
  exact hq _ M ⟨h14, Or.inl ⟨h0, a_S_mono h1 hT (by show A_.1 + 12 ≤ A_.1 + 720; omega)⟩⟩
set_option maxHeartbeats 1600000 in
theorem v_l_term (g : ch_G) (q : Int32 → ch_M → Prop) (A_ : a_G) (m : ch_M) (h : (a_S A_ m) ∧ (A_.1 + 720 < 2 ^ 31) ∧ (0 < A_.1) ∧ (∀ (R_ : Int32) (M_ : ch_M), (a_R A_ m R_ M_) → q R_ (M_))) : ch_C g m_l_term [.inr (0, 0, 0)] m (ch_oi q) := by
  obtain ⟨hA, hT, hT0, hq⟩ := h
  refine t_l_term g q A_  m ⟨hA, by omega, hT0, fun z M h1 h2 h14 => ?_, fun z M h1 h2 _ _ _ h14 => hq _ M ⟨h14, Or.inr ⟨by decide, h1, by rw [h2]; exact y_sm_refl _⟩⟩⟩
  have h0 := v_ter hA.1 (by omega) z
  exact hq _ M ⟨h14, Or.inl ⟨h0, a_S_mono h1 hT (by show A_.1 + 12 ≤ A_.1 + 720; omega)⟩⟩
set_option maxHeartbeats 1600000 in
theorem v_l_give (g : ch_G) (q : Int32 → ch_M → Prop) (A_ : a_G) (p1 : Int32) (p2 : Int32) (p3 : Int32) (m : ch_M) (h : (a_S A_ m) ∧ (A_.1 + 720 < 2 ^ 31) ∧ (0 < A_.1) ∧ (∀ (R_ : Int32) (M_ : ch_M), (a_R A_ m R_ M_) → q R_ (M_))) : ch_C g m_l_give [.inr (0, 0, 0), .inl (.int p1), .inl (.int p2), .inl (.int p3)] m (ch_oi q) := by
  obtain ⟨hA, hT, hT0, hq⟩ := h
  refine t_l_give g q A_ p1 p2 p3 m ⟨hA, by omega, hT0, fun z M h1 h2 h14 => ?_, fun z M h1 h2 _ _ _ h14 => hq _ M ⟨h14, Or.inr ⟨by decide, h1, by rw [h2]; exact y_sm_refl _⟩⟩⟩
  have h0 : 0 ≤ y_givB (ch_ob m 1 0) p1 p2 p3 3 p1.toNatClampNeg := by
    unfold r_wg at z
    by_cases c1 : 0 ≤ p1 ∧ p1 < ch_ob m 1 0 0 8
    · obtain ⟨k, hk, e⟩ := v_child hA.1 c1
      have h5 := y_i3 h1.1 (c := k) hk
      rw [h2] at h5
      rw [e, nI_clamp (by omega)]
      rw [e] at h5
      exact v_pos h5 (by decide)
    · rw [if_neg c1] at z
      exact absurd z (show ¬ (3 : Int32) = 0 by decide)
  exact hq _ M ⟨h14, Or.inl ⟨h0, a_S_mono h1 hT (by show A_.1 + 12 ≤ A_.1 + 720; omega)⟩⟩
