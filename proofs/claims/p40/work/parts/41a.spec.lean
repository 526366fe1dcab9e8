/-- between the questions of refused -/
def a_W (A : a_G) (Y : ch_B) (R : Int32 × Int32 × Int32) (m : ch_M) : Prop := a_S A m ∧ (A.2.2.2.2 = 0 ∧ A.1 + 720 < 2 ^ 31 ∧ 0 < A.1) ∧ y_sm Y (ch_ob m 1 0) ∧ m (3, 0, 0) 0 = R.1 ∧ m (3, 0, 0) 1 = R.2.1 ∧ m (3, 0, 0) 2 = R.2.2
theorem a_W_same {A : a_G} {Y : ch_B} {R : Int32 × Int32 × Int32} {m M : ch_M} (h : a_W A Y R m) (e : a_same m M) (hw : a_wr M) : a_W A Y R M := by
  obtain ⟨b1, b2, b3, b4, b5, b6⟩ := h
  have r : ∀ i, i < 3 → M (3, 0, 0) i = m (3, 0, 0) i := fun i hi => e 3 0 0 i (by unfold a_sc; omega) (by
    obtain rfl | rfl | rfl : i = 0 ∨ i = 1 ∨ i = 2 := by omega
    all_goals decide)
  exact ⟨a_S_same b1 e hw, b2, y_sm_tr b3 (a_same_sm e (by decide)), (r 0 (by omega)).trans b4, (r 1 (by omega)).trans b5, (r 2 (by omega)).trans b6⟩
theorem a_W_8 {A : a_G} {Y : ch_B} {R : Int32 × Int32 × Int32} {m : ch_M} (h : a_W A Y R m) : m (1, 0, 0) 8 = Y 0 8 := h.2.2.1 0 8 (by decide)
theorem a_W_9 {A : a_G} {Y : ch_B} {R : Int32 × Int32 × Int32} {m : ch_M} (h : a_W A Y R m) : m (1, 0, 0) 9 = Y 0 9 := h.2.2.1 0 9 (by decide)
theorem a_W_i {A : a_G} {Y : ch_B} {R : Int32 × Int32 × Int32} {m : ch_M} (h : a_W A Y R m) : a_inv A.1 m := a_S_inv h.1 h.2.1.1
theorem a_W_c {A : a_G} {Y : ch_B} {R : Int32 × Int32 × Int32} {m : ch_M} (h : a_W A Y R m) : y_can (ch_ob m 1 0) = y_can Y := y_can_sm h.2.2.1
/-- how a hop by a number is looked at -/
def r_hx (Y : ch_B) (c x : Int32) : Int32 × Int32 := if 0 ≤ c ∧ c < Y 0 8 then (if Y 5 c.toNatClampNeg ≤ 0 then (if l_hn x = 0 then (1, 0) else if l_hm x = -1 then (0, 0) else (8, l_hm x)) else (7, Y 5 c.toNatClampNeg)) else (3, Y 0 8)
def l_sq (Y : ch_B) (p b : Int32) : Int32 := if b = 0 then Y 1 p.toNatClampNeg else Y 2 p.toNatClampNeg
theorem x_wtP_f (B : ch_B) (x : Int32) (h : l_gd x = false) : ¬ x_wtP (s_rfB B x) = true := by
  intro z
  unfold x_wtP at z
  rw [s_hn, show s_rfB B x 1 = s_rf B x from rfl, s_hm] at z
  exact absurd (z.symm.trans h) (by decide)
set_option maxHeartbeats 1600000 in
theorem r_l_child (g : ch_G) (q : Int32 → ch_M → Prop) (A_ : a_G) (Y_ : ch_B) (R_ : Int32 × Int32 × Int32) (w_ : Int32) (e_ : Int32) (p1 : Int32) (m : ch_M) (h : (a_W A_ Y_ R_ m) ∧ (∀ Z_, y_sm Y_ Z_ → r_wn Z_ p1 = (w_, e_)) ∧ (¬ w_ = 0) ∧ (∀ (M_ : ch_M), (a_W A_ Y_ (w_, e_, 0) M_) → q (-1001) (M_))) : ch_C g m_l_child [.inr (0, 0, 0), .inl (.int p1)] m (ch_oi q) := by
  obtain ⟨hW, hw, h0, hq⟩ := h
  have hw0 := hw _ hW.2.2.1
  have hw1 := hw0
  obtain ⟨b1, b2, b3, -⟩ := hW
  refine t_l_child g q A_ p1 m ⟨b1, by omega, b2.2.2, fun z => absurd z (by rw [hw1]; exact h0), fun _ M h1 h2 u0 u1 u2 _ => hq M ⟨h1, b2, by rw [h2]; exact b3, u0.trans (by rw [hw1]), u1.trans (by rw [hw1]), u2⟩⟩
set_option maxHeartbeats 1600000 in
theorem r_l_chalk (g : ch_G) (q : Int32 → ch_M → Prop) (A_ : a_G) (Y_ : ch_B) (R_ : Int32 × Int32 × Int32) (w_ : Int32) (e_ : Int32) (p1 : Int32) (p2 : Int32) (m : ch_M) (h : (a_W A_ Y_ R_ m) ∧ (∀ Z_, y_sm Y_ Z_ → r_wc Z_ p1 p2 = (w_, e_)) ∧ (¬ w_ = 0) ∧ (∀ (M_ : ch_M), (a_W A_ Y_ (w_, e_, 0) M_) → q (-1001) (M_))) : ch_C g m_l_chalk [.inr (0, 0, 0), .inl (.int p1), .inl (.int p2)] m (ch_oi q) := by
  obtain ⟨hW, hw, h0, hq⟩ := h
  have hw0 := hw _ hW.2.2.1
  have hw1 := hw0
  obtain ⟨b1, b2, b3, -⟩ := hW
  refine t_l_chalk g q A_ p1 p2 m ⟨b1, by omega, b2.2.2, fun z => absurd z (by rw [hw1]; exact h0), fun _ M h1 h2 u0 u1 u2 _ => hq M ⟨h1, b2, by rw [h2]; exact b3, u0.trans (by rw [hw1]), u1.trans (by rw [hw1]), u2⟩⟩
set_option maxHeartbeats 1600000 in
theorem r_l_hop (g : ch_G) (q : Int32 → ch_M → Prop) (A_ : a_G) (Y_ : ch_B) (R_ : Int32 × Int32 × Int32) (w_ : Int32) (e_ : Int32) (p1 : Int32) (p2 : Int32) (m : ch_M) (h : (a_W A_ Y_ R_ m) ∧ (∀ Z_, y_sm Y_ Z_ → r_hx Z_ p1 p2 = (w_, e_)) ∧ (¬ w_ = 0) ∧ (∀ (M_ : ch_M), (a_W A_ Y_ (w_, e_, 0) M_) → q (-1001) (M_))) : ch_C g m_l_hop [.inr (0, 0, 0), .inl (.int p1), .inl (.int p2)] m (ch_oi q) := by
  obtain ⟨hW, hw, h0, hq⟩ := h
  have hw0 := hw _ hW.2.2.1
  have hw1 : r_wh (ch_ob m 1 0) p1 (s_rf (ch_ob m 5 0) p2) (s_rfB (ch_ob m 5 0) p2 0 1) = (w_, e_) := (r_wh_x _ _ _ _).trans hw0
  obtain ⟨b1, b2, b3, -⟩ := hW
  refine t_l_hop g q A_ p1 p2 m ⟨b1, by omega, b2.2.2, fun z => absurd z (by rw [hw1]; exact h0), fun _ M h1 h2 u0 u1 u2 _ => hq M ⟨h1, b2, by rw [h2]; exact b3, u0.trans (by rw [hw1]), u1.trans (by rw [hw1]), u2⟩⟩
set_option maxHeartbeats 1600000 in
theorem r_l_warrant (g : ch_G) (q : Int32 → ch_M → Prop) (A_ : a_G) (Y_ : ch_B) (R_ : Int32 × Int32 × Int32) (w_ : Int32) (e_ : Int32) (p1 : Int32) (m : ch_M) (h : (a_W A_ Y_ R_ m) ∧ (∀ Z_, y_sm Y_ Z_ → r_ww Z_ p1 = (w_, e_)) ∧ (¬ w_ = 0) ∧ (∀ (M_ : ch_M), (a_W A_ Y_ (w_, e_, 0) M_) → q (-1001) (M_))) : ch_C g m_l_warrant [.inr (0, 0, 0), .inl (.int p1)] m (ch_oi q) := by
  obtain ⟨hW, hw, h0, hq⟩ := h
  have hw0 := hw _ hW.2.2.1
  have hw1 := hw0
  obtain ⟨b1, b2, b3, -⟩ := hW
  refine t_l_warrant g q A_ p1 m ⟨b1, by omega, b2.2.2, fun z => absurd z (by rw [hw1]; exact h0), fun _ M h1 h2 u0 u1 u2 _ => hq M ⟨h1, b2, by rw [h2]; exact b3, u0.trans (by rw [hw1]), u1.trans (by rw [hw1]), u2⟩⟩
set_option maxHeartbeats 1600000 in
theorem r_l_strike (g : ch_G) (q : Int32 → ch_M → Prop) (A_ : a_G) (Y_ : ch_B) (R_ : Int32 × Int32 × Int32) (w_ : Int32) (e_ : Int32) (p1 : Int32) (m : ch_M) (h : (a_W A_ Y_ R_ m) ∧ (∀ Z_, y_sm Y_ Z_ → r_ws Z_ p1 = (w_, e_)) ∧ (¬ w_ = 0) ∧ (∀ (M_ : ch_M), (a_W A_ Y_ (w_, e_, 0) M_) → q (-1001) (M_))) : ch_C g m_l_strike [.inr (0, 0, 0), .inl (.int p1)] m (ch_oi q) := by
  obtain ⟨hW, hw, h0, hq⟩ := h
  have hw0 := hw _ hW.2.2.1
  have hw1 := hw0
  obtain ⟨b1, b2, b3, -⟩ := hW
  refine t_l_strike g q A_ p1 m ⟨b1, by omega, b2.2.2, fun z => absurd z (by rw [hw1]; exact h0), fun _ M h1 h2 u0 u1 u2 _ => hq M ⟨h1, b2, by rw [h2]; exact b3, u0.trans (by rw [hw1]), u1.trans (by rw [hw1]), u2⟩⟩
set_option maxHeartbeats 1600000 in
theorem r_l_rain (g : ch_G) (q : Int32 → ch_M → Prop) (A_ : a_G) (Y_ : ch_B) (R_ : Int32 × Int32 × Int32) (w_ : Int32) (e_ : Int32) (p1 : Int32) (m : ch_M) (h : (a_W A_ Y_ R_ m) ∧ (∀ Z_, y_sm Y_ Z_ → r_wr Z_ p1 = (w_, e_)) ∧ (¬ w_ = 0) ∧ (∀ (M_ : ch_M), (a_W A_ Y_ (w_, e_, 0) M_) → q (-1001) (M_))) : ch_C g m_l_rain [.inr (0, 0, 0), .inl (.int p1)] m (ch_oi q) := by
  obtain ⟨hW, hw, h0, hq⟩ := h
  have hw0 := hw _ hW.2.2.1
  have hw1 := hw0
  obtain ⟨b1, b2, b3, -⟩ := hW
  refine t_l_rain g q A_ p1 m ⟨b1, by omega, b2.2.2, fun z => absurd z (by rw [hw1]; exact h0), fun _ M h1 h2 u0 u1 u2 _ => hq M ⟨h1, b2, by rw [h2]; exact b3, u0.trans (by rw [hw1]), u1.trans (by rw [hw1]), u2⟩⟩
set_option maxHeartbeats 1600000 in
theorem r_l_give (g : ch_G) (q : Int32 → ch_M → Prop) (A_ : a_G) (Y_ : ch_B) (R_ : Int32 × Int32 × Int32) (w_ : Int32) (e_ : Int32) (p1 : Int32) (p2 : Int32) (p3 : Int32) (m : ch_M) (h : (a_W A_ Y_ R_ m) ∧ (∀ Z_, y_sm Y_ Z_ → r_wg Z_ p1 p2 p3 = (w_, e_)) ∧ (¬ w_ = 0) ∧ (∀ (M_ : ch_M), (a_W A_ Y_ (w_, e_, 0) M_) → q (-1001) (M_))) : ch_C g m_l_give [.inr (0, 0, 0), .inl (.int p1), .inl (.int p2), .inl (.int p3)] m (ch_oi q) := by
  obtain ⟨hW, hw, h0, hq⟩ := h
  have hw0 := hw _ hW.2.2.1
  have hw1 := hw0
  obtain ⟨b1, b2, b3, -⟩ := hW
  refine t_l_give g q A_ p1 p2 p3 m ⟨b1, by omega, b2.2.2, fun z => absurd z (by rw [hw1]; exact h0), fun _ M h1 h2 u0 u1 u2 _ => hq M ⟨h1, b2, by rw [h2]; exact b3, u0.trans (by rw [hw1]), u1.trans (by rw [hw1]), u2⟩⟩
set_option maxHeartbeats 1600000 in
theorem r_l_is (g : ch_G) (q : Int32 → ch_M → Prop) (A_ : a_G) (Y_ : ch_B) (p1 : Int32) (p2 : Int32) (m : ch_M) (h : (a_W A_ Y_ (p1, p2, 0) m) ∧ (¬ p1 = (0 : Int32)) ∧ q 1 m) : ch_C g m_l_is [.inr (0, 0, 0), .inl (.int p1), .inl (.int p2)] m (ch_oi q) := by
  obtain ⟨hW, h0, hq⟩ := h
  refine s_l_is g q p1 p2 m ⟨by rw [hW.2.2.2.1]; exact h0, ?_⟩
  have e : l_is3 m 0 p1 p2 = 1 := if_pos ⟨hW.2.2.2.1, hW.2.2.2.2.1, hW.2.2.2.2.2⟩
  rw [e]
  exact hq
set_option maxHeartbeats 1600000 in
theorem r_l_isAt (g : ch_G) (q : Int32 → ch_M → Prop) (A_ : a_G) (Y_ : ch_B) (p1 : Int32) (p2 : Int32) (p3 : Int32) (m : ch_M) (h : (a_W A_ Y_ (p2, p3, p1) m) ∧ (¬ p2 = (0 : Int32)) ∧ q 1 m) : ch_C g m_l_isAt [.inr (0, 0, 0), .inl (.int p1), .inl (.int p2), .inl (.int p3)] m (ch_oi q) := by
  obtain ⟨hW, h0, hq⟩ := h
  refine s_l_isAt g q p1 p2 p3 m ⟨by rw [hW.2.2.2.1]; exact h0, ?_⟩
  have e : l_is3 m p1 p2 p3 = 1 := if_pos ⟨hW.2.2.2.1, hW.2.2.2.2.1, hW.2.2.2.2.2⟩
  rw [e]
  exact hq
set_option maxHeartbeats 1600000 in
theorem r_l_of (g : ch_G) (q : Int32 → ch_M → Prop) (A_ : a_G) (Y_ : ch_B) (R_ : Int32 × Int32 × Int32) (p1 : Int32) (p2 : Int32) (m : ch_M) (h : (a_W A_ Y_ R_ m) ∧ ((0 : Int32) ≤ p1 ∧ p1 < Y_ 0 8) ∧ ((0 : Int32) ≤ p2 ∧ p2 ≤ (6 : Int32)) ∧ (∀ (M_ : ch_M), (a_W A_ Y_ R_ M_) → q (x_coR (y_can Y_) p1 p2) (M_))) : ch_C g m_l_of [.inr (0, 0, 0), .inl (.int p1), .inl (.int p2)] m (ch_oi q) := by
  obtain ⟨hW, hc, hp, hq⟩ := h
  refine t_l_of g q A_.1 p1 p2 m ⟨a_W_i hW, by rw [a_W_8 hW]; exact hc, hp, fun M e hw => ?_⟩
  rw [a_W_c hW]
  exact hq M (a_W_same hW e hw)
set_option maxHeartbeats 1600000 in
theorem r_l_account (g : ch_G) (q : Int32 → ch_M → Prop) (A_ : a_G) (Y_ : ch_B) (R_ : Int32 × Int32 × Int32) (p1 : Int32) (m : ch_M) (h : (a_W A_ Y_ R_ m) ∧ ((0 : Int32) ≤ p1 ∧ p1 ≤ (9 : Int32)) ∧ (∀ (M_ : ch_M), (a_W A_ Y_ R_ M_) → q (x_acR (y_can Y_) 0 0 p1) (M_))) : ch_C g m_l_account [.inr (0, 0, 0), .inl (.int p1)] m (ch_oi q) := by
  obtain ⟨hW, hp, hq⟩ := h
  refine t_l_account g q A_.1 p1 m ⟨a_W_i hW, hp, fun M e hw => ?_⟩
  rw [a_W_c hW]
  exact hq M (a_W_same hW e hw)
set_option maxHeartbeats 1600000 in
theorem r_l_squareOf (g : ch_G) (q : Int32 → ch_M → Prop) (A_ : a_G) (Y_ : ch_B) (R_ : Int32 × Int32 × Int32) (p1 : Int32) (p2 : Int32) (m : ch_M) (h : (a_W A_ Y_ R_ m) ∧ ((0 : Int32) ≤ p1 ∧ p1 < (12 : Int32)) ∧ (∀ (M_ : ch_M), (a_W A_ Y_ R_ M_) → q (l_sq Y_ p1 p2) (M_))) : ch_C g m_l_squareOf [.inr (0, 0, 0), .inl (.int p1), .inl (.int p2)] m (ch_oi q) := by
  obtain ⟨hW, hp, hq⟩ := h
  refine s_l_squareOf g q p1 p2 m ⟨fun _ => ?_, fun z => absurd hp z⟩
  obtain ⟨k, hk, e⟩ := v_idx (n := 12) (by decide) hp.1 hp.2
  have h1 : ∀ c, c = 1 ∨ c = 2 → m (1, 0, c) p1.toNatClampNeg = Y_ c p1.toNatClampNeg := fun c hc => hW.2.2.1 c _ (by
    rw [e, nI_clamp (by omega)]
    exact y_rl.mpr (Or.inr (Or.inl ⟨hc, hk⟩)))
  rw [h1 1 (Or.inl rfl), h1 2 (Or.inr rfl)]
  exact hq m hW
set_option maxHeartbeats 1600000 in
theorem r_l_asks (g : ch_G) (q : Int64 → ch_M → Prop) (A_ : a_G) (Y_ : ch_B) (R_ : Int32 × Int32 × Int32) (m : ch_M) (h : (a_W A_ Y_ R_ m) ∧ (∀ (M_ : ch_M), (a_W A_ Y_ R_ M_) → q (a_V (y_can Y_)) (M_))) : ch_C g m_l_asks [.inr (0, 0, 0)] m (ch_ol q) := by
  obtain ⟨hW, hq⟩ := h
  refine t_l_asks g q A_.1 m ⟨a_W_i hW, fun M e hw => ?_⟩
  rw [a_W_c hW]
  exact hq M (a_W_same hW e hw)
set_option maxHeartbeats 1600000 in
theorem f_l_squareOf (g : ch_G) (q : Int32 → ch_M → Prop) (A_ : a_G) (Y_ : ch_B) (R_ : Int32 × Int32 × Int32) (p1 : Int32) (p2 : Int32) (m : ch_M) (h : (a_W A_ Y_ R_ m) ∧ (¬ ((0 : Int32) ≤ p1 ∧ p1 < (12 : Int32))) ∧ (∀ (M_ : ch_M), (a_W A_ Y_ R_ M_) → q (-1001) (M_))) : ch_C g m_l_squareOf [.inr (0, 0, 0), .inl (.int p1), .inl (.int p2)] m (ch_oi q) := by
  obtain ⟨hW, hc, hq⟩ := h
  exact s_l_squareOf g q p1 p2 m ⟨fun z => absurd z hc, fun _ => hq m hW⟩
set_option maxHeartbeats 1600000 in
theorem f_l_of (g : ch_G) (q : Int32 → ch_M → Prop) (A_ : a_G) (Y_ : ch_B) (R_ : Int32 × Int32 × Int32) (p1 : Int32) (p2 : Int32) (m : ch_M) (h : (a_W A_ Y_ R_ m) ∧ (¬ ((0 : Int32) ≤ p1 ∧ p1 < Y_ 0 8)) ∧ (∀ (M_ : ch_M), (a_W A_ Y_ R_ M_) → q (-1001) (M_))) : ch_C g m_l_of [.inr (0, 0, 0), .inl (.int p1), .inl (.int p2)] m (ch_oi q) := by
  obtain ⟨hW, hc, hq⟩ := h
  have h8 : ¬ (0 ≤ p1 ∧ p1 < m (1, 0, 0) 8) := by
    rw [a_W_8 hW]
    exact hc
  exact s_l_of g q p1 p2 m ⟨y_i8 hW.1.1, fun z => absurd z.1 h8, fun _ => hq m hW, fun z => absurd z.1 h8⟩
set_option maxHeartbeats 1600000 in
theorem f_l_squares (g : ch_G) (q : Int32 → ch_M → Prop) (A_ : a_G) (Y_ : ch_B) (R_ : Int32 × Int32 × Int32) (p1 : Int32) (m : ch_M) (h : (a_W A_ Y_ R_ m) ∧ (¬ ((0 : Int32) ≤ p1 ∧ p1 < Y_ 0 8)) ∧ (∀ (M_ : ch_M), (a_W A_ Y_ R_ M_) → q (-1001) (M_))) : ch_C g m_l_squares [.inr (0, 0, 0), .inl (.int p1)] m (ch_oi q) := by
  obtain ⟨hW, hc, hq⟩ := h
  have h8 : ¬ (0 ≤ p1 ∧ p1 < m (1, 0, 0) 8) := by
    rw [a_W_8 hW]
    exact hc
  exact s_l_squares g q p1 m ⟨fun z => absurd z h8, fun _ => hq m hW⟩
set_option maxHeartbeats 1600000 in
theorem f_l_fewest (g : ch_G) (q : Int32 → ch_M → Prop) (A_ : a_G) (Y_ : ch_B) (R_ : Int32 × Int32 × Int32) (p1 : Int32) (m : ch_M) (h : (a_W A_ Y_ R_ m) ∧ (¬ ((0 : Int32) ≤ p1 ∧ p1 < Y_ 0 8)) ∧ (∀ (M_ : ch_M), (a_W A_ Y_ R_ M_) → q (-1001) (M_))) : ch_C g m_l_fewest [.inr (0, 0, 0), .inl (.int p1)] m (ch_oi q) := by
  obtain ⟨hW, hc, hq⟩ := h
  have h8 : ¬ (0 ≤ p1 ∧ p1 < m (1, 0, 0) 8) := by
    rw [a_W_8 hW]
    exact hc
  exact s_l_fewest g q p1 m ⟨fun z => absurd z h8, fun _ => hq m hW⟩
set_option maxHeartbeats 1600000 in
theorem f_l_fewestAgain (g : ch_G) (q : Int32 → ch_M → Prop) (A_ : a_G) (Y_ : ch_B) (R_ : Int32 × Int32 × Int32) (p1 : Int32) (m : ch_M) (h : (a_W A_ Y_ R_ m) ∧ (¬ ((0 : Int32) ≤ p1 ∧ p1 < Y_ 0 8)) ∧ (∀ (M_ : ch_M), (a_W A_ Y_ R_ M_) → q (-1001) (M_))) : ch_C g m_l_fewestAgain [.inr (0, 0, 0), .inl (.int p1)] m (ch_oi q) := by
  obtain ⟨hW, hc, hq⟩ := h
  have h8 : ¬ (0 ≤ p1 ∧ p1 < m (1, 0, 0) 8) := by
    rw [a_W_8 hW]
    exact hc
  exact s_l_fewestAgain g q p1 m ⟨fun z => absurd z h8, fun _ => hq m hW⟩
set_option maxHeartbeats 1600000 in
theorem f_l_step (g : ch_G) (q : Int32 → ch_M → Prop) (A_ : a_G) (Y_ : ch_B) (R_ : Int32 × Int32 × Int32) (p1 : Int32) (p2 : Int32) (m : ch_M) (h : (a_W A_ Y_ R_ m) ∧ (¬ ((0 : Int32) ≤ p1 ∧ p1 < Y_ 0 8)) ∧ (∀ (M_ : ch_M), (a_W A_ Y_ R_ M_) → q (-1001) (M_))) : ch_C g m_l_step [.inr (0, 0, 0), .inl (.int p1), .inl (.int p2)] m (ch_oi q) := by
  obtain ⟨hW, hc, hq⟩ := h
  have h8 : ¬ (0 ≤ p1 ∧ p1 < m (1, 0, 0) 8) := by
    rw [a_W_8 hW]
    exact hc
  exact s_l_step g q p1 p2 m ⟨fun z => absurd z.1 h8, fun _ => hq m hW, fun z => absurd z.1 h8⟩
set_option maxHeartbeats 1600000 in
theorem f_l_wouldTread (g : ch_G) (q : Int32 → ch_M → Prop) (A_ : a_G) (Y_ : ch_B) (R_ : Int32 × Int32 × Int32) (p1 : Int32) (p2 : Int32) (m : ch_M) (h : (a_W A_ Y_ R_ m) ∧ (¬ ((0 : Int32) ≤ p1 ∧ p1 < Y_ 0 8)) ∧ (∀ (M_ : ch_M), (a_W A_ Y_ R_ M_) → q (-1001) (M_))) : ch_C g m_l_wouldTread [.inr (0, 0, 0), .inl (.int p1), .inl (.int p2)] m (ch_oi q) := by
  obtain ⟨hW, hc, hq⟩ := h
  have h8 : ¬ (0 ≤ p1 ∧ p1 < m (1, 0, 0) 8) := by
    rw [a_W_8 hW]
    exact hc
  exact s_l_wouldTread g q p1 p2 m ⟨fun z => absurd z.1 h8, fun _ => hq m hW, fun z => absurd z.1 h8⟩
set_option maxHeartbeats 1600000 in
theorem f_l_longest (g : ch_G) (q : Int32 → ch_M → Prop) (A_ : a_G) (Y_ : ch_B) (R_ : Int32 × Int32 × Int32) (p1 : Int32) (m : ch_M) (h : (a_W A_ Y_ R_ m) ∧ (¬ ((0 : Int32) ≤ p1 ∧ p1 < Y_ 0 8)) ∧ (∀ (M_ : ch_M), (a_W A_ Y_ R_ M_) → q (-1001) (M_))) : ch_C g m_l_longest [.inr (0, 0, 0), .inl (.int p1)] m (ch_oi q) := by
  obtain ⟨hW, hc, hq⟩ := h
  have h8 : ¬ (0 ≤ p1 ∧ p1 < m (1, 0, 0) 8) := by
    rw [a_W_8 hW]
    exact hc
  exact s_l_longest g q p1 m ⟨fun z => absurd z h8, fun _ => hq m hW⟩
set_option maxHeartbeats 1600000 in
theorem f_l_rainFor (g : ch_G) (q : Int32 → ch_M → Prop) (A_ : a_G) (Y_ : ch_B) (R_ : Int32 × Int32 × Int32) (p1 : Int32) (m : ch_M) (h : (a_W A_ Y_ R_ m) ∧ (¬ ((0 : Int32) ≤ p1 ∧ p1 < Y_ 0 8)) ∧ (∀ (M_ : ch_M), (a_W A_ Y_ R_ M_) → q (-1001) (M_))) : ch_C g m_l_rainFor [.inr (0, 0, 0), .inl (.int p1)] m (ch_oi q) := by
  obtain ⟨hW, hc, hq⟩ := h
  have h8 : ¬ (0 ≤ p1 ∧ p1 < m (1, 0, 0) 8) := by
    rw [a_W_8 hW]
    exact hc
  exact s_l_rainFor g q p1 m ⟨y_i8 hW.1.1, fun z => absurd z.1 h8, fun _ => hq m hW, fun z => absurd z.1 h8⟩
set_option maxHeartbeats 1600000 in
theorem f_l_wouldLose (g : ch_G) (q : Int32 → ch_M → Prop) (A_ : a_G) (Y_ : ch_B) (R_ : Int32 × Int32 × Int32) (p1 : Int32) (m : ch_M) (h : (a_W A_ Y_ R_ m) ∧ (¬ ((0 : Int32) ≤ p1 ∧ p1 < Y_ 0 8)) ∧ (∀ (M_ : ch_M), (a_W A_ Y_ R_ M_) → q (-1001) (M_))) : ch_C g m_l_wouldLose [.inr (0, 0, 0), .inl (.int p1)] m (ch_oi q) := by
  obtain ⟨hW, hc, hq⟩ := h
  have h8 : ¬ (0 ≤ p1 ∧ p1 < m (1, 0, 0) 8) := by
    rw [a_W_8 hW]
    exact hc
  exact s_l_wouldLose g q p1 m ⟨y_i8 hW.1.1, fun z => absurd z h8, fun _ => hq m hW⟩
set_option maxHeartbeats 1600000 in
theorem f_l_termsFor (g : ch_G) (q : Int32 → ch_M → Prop) (A_ : a_G) (Y_ : ch_B) (R_ : Int32 × Int32 × Int32) (p1 : Int32) (m : ch_M) (h : (a_W A_ Y_ R_ m) ∧ (¬ ((0 : Int32) ≤ p1 ∧ p1 < Y_ 0 8)) ∧ (∀ (M_ : ch_M), (a_W A_ Y_ R_ M_) → q (-1001) (M_))) : ch_C g m_l_termsFor [.inr (0, 0, 0), .inl (.int p1)] m (ch_oi q) := by
  obtain ⟨hW, hc, hq⟩ := h
  have h8 : ¬ (0 ≤ p1 ∧ p1 < m (1, 0, 0) 8) := by
    rw [a_W_8 hW]
    exact hc
  exact s_l_termsFor g q p1 m ⟨y_i8 hW.1.1, fun z => absurd z.1 h8, fun _ => hq m hW, fun z => absurd z.1 h8⟩
set_option maxHeartbeats 1600000 in
theorem f2_l_of (g : ch_G) (q : Int32 → ch_M → Prop) (A_ : a_G) (Y_ : ch_B) (R_ : Int32 × Int32 × Int32) (p1 : Int32) (p2 : Int32) (m : ch_M) (h : (a_W A_ Y_ R_ m) ∧ (((0 : Int32) ≤ p1 ∧ p1 < Y_ 0 8) ∧ ¬ ((0 : Int32) ≤ p2 ∧ p2 ≤ (6 : Int32))) ∧ (∀ (M_ : ch_M), (a_W A_ Y_ R_ M_) → q (-1002) (M_))) : ch_C g m_l_of [.inr (0, 0, 0), .inl (.int p1), .inl (.int p2)] m (ch_oi q) := by
  obtain ⟨hW, hc, hq⟩ := h
  exact s_l_of g q p1 p2 m ⟨y_i8 hW.1.1, fun z => absurd z.2 hc.2, fun z => absurd (by rw [a_W_8 hW]; exact hc.1) z, fun _ => hq m hW⟩
set_option maxHeartbeats 1600000 in
theorem f_l_warrantAt (g : ch_G) (q : Int32 → ch_M → Prop) (A_ : a_G) (Y_ : ch_B) (R_ : Int32 × Int32 × Int32) (p1 : Int32) (m : ch_M) (h : (a_W A_ Y_ R_ m) ∧ (¬ ((0 : Int32) ≤ p1 ∧ p1 < Y_ 0 9)) ∧ (∀ (M_ : ch_M), (a_W A_ Y_ R_ M_) → q (-1001) (M_))) : ch_C g m_l_warrantAt [.inr (0, 0, 0), .inl (.int p1)] m (ch_oi q) := by
  obtain ⟨hW, hc, hq⟩ := h
  exact s_l_warrantAt g q p1 m ⟨y_i9 hW.1.1, fun z => absurd (by rw [← a_W_9 hW]; exact z) hc, fun _ => hq m hW⟩
set_option maxHeartbeats 1600000 in
theorem f2_l_step (g : ch_G) (q : Int32 → ch_M → Prop) (A_ : a_G) (Y_ : ch_B) (R_ : Int32 × Int32 × Int32) (p1 : Int32) (p2 : Int32) (m : ch_M) (h : (a_W A_ Y_ R_ m) ∧ (((0 : Int32) ≤ p1 ∧ p1 < Y_ 0 8) ∧ ¬ ((0 : Int32) ≤ p2 ∧ p2 < (12 : Int32))) ∧ (∀ (M_ : ch_M), (a_W A_ Y_ R_ M_) → q (-1002) (M_))) : ch_C g m_l_step [.inr (0, 0, 0), .inl (.int p1), .inl (.int p2)] m (ch_oi q) := by
  obtain ⟨hW, hc, hq⟩ := h
  refine s_l_step g q p1 p2 m ⟨fun z => ?_, fun z => absurd (by rw [a_W_8 hW]; exact hc.1) z, fun _ => ?_⟩
  · have hn : vp_in (x_sT (ch_ob m 5 1) (x_sW m p1) 0 1) 13 := w_tl_n _ _ _ _ (by rw [ch_bw_at]; exact vp_in_nI (n := 0) (by decide) (by decide))
    obtain ⟨n, hn, e⟩ := vp_in_of hn (by decide)
    rw [e] at z
    obtain ⟨k, hk, e2⟩ := v_idx (by omega) z.2.1 z.2.2
    rw [e2] at hc
    exact absurd ⟨nI_pos' (by omega), nI_lt (b := 12) (by omega) (by decide)⟩ hc.2
  · refine hq _ (a_W_same hW (a_same_tr (a_same_os _ (Or.inr (Or.inl rfl))) (a_same_os _ (Or.inr (Or.inr (Or.inl ⟨rfl, rfl⟩))))) (a_wr_os _ (by omega) (a_wr_os _ (by omega) hW.1.2.1)))
set_option maxHeartbeats 1600000 in
theorem f2_l_wouldTread (g : ch_G) (q : Int32 → ch_M → Prop) (A_ : a_G) (Y_ : ch_B) (R_ : Int32 × Int32 × Int32) (p1 : Int32) (p2 : Int32) (m : ch_M) (h : (a_W A_ Y_ R_ m) ∧ (((0 : Int32) ≤ p1 ∧ p1 < Y_ 0 8) ∧ l_gd p2 = false) ∧ (∀ (M_ : ch_M), (a_W A_ Y_ R_ M_) → q (-1002) (M_))) : ch_C g m_l_wouldTread [.inr (0, 0, 0), .inl (.int p1), .inl (.int p2)] m (ch_oi q) := by
  obtain ⟨hW, hc, hq⟩ := h
  refine s_l_wouldTread g q p1 p2 m ⟨fun z => absurd z.2 (x_wtP_f _ _ hc.2), fun z => absurd (by rw [a_W_8 hW]; exact hc.1) z, fun _ => ?_⟩
  exact hq _ (a_W_same hW (a_same_os _ (Or.inr (Or.inr (Or.inl ⟨rfl, rfl⟩)))) (a_wr_os _ (by omega) hW.1.2.1))
set_option maxHeartbeats 1600000 in
theorem f_l_wouldEnd (g : ch_G) (q : Int32 → ch_M → Prop) (A_ : a_G) (Y_ : ch_B) (R_ : Int32 × Int32 × Int32) (p1 : Int32) (m : ch_M) (h : (a_W A_ Y_ R_ m) ∧ (¬ ((1 : Int32) ≤ p1 ∧ p1 ≤ (9 : Int32))) ∧ (∀ (M_ : ch_M), (a_W A_ Y_ R_ M_) → q (-1001) (M_))) : ch_C g m_l_wouldEnd [.inr (0, 0, 0), .inl (.int p1)] m (ch_oi q) := by
  obtain ⟨hW, hc, hq⟩ := h
  exact s_l_wouldEnd g q p1 m ⟨y_i9 hW.1.1, fun i hi => y_i8k hW.1.1 i hi, fun z => absurd z hc, fun _ => hq m hW⟩
set_option maxHeartbeats 1600000 in
theorem f_l_ranked (g : ch_G) (q : Int32 → ch_M → Prop) (A_ : a_G) (Y_ : ch_B) (R_ : Int32 × Int32 × Int32) (p1 : Int32) (p2 : Int32) (m : ch_M) (h : (a_W A_ Y_ R_ m) ∧ (¬ ((0 : Int32) ≤ p1 ∧ p1 ≤ (3 : Int32))) ∧ (∀ (M_ : ch_M), (a_W A_ Y_ R_ M_) → q (-1001) (M_))) : ch_C g m_l_ranked [.inr (0, 0, 0), .inl (.int p1), .inl (.int p2)] m (ch_oi q) := by
  obtain ⟨hW, hc, hq⟩ := h
  exact s_l_ranked g q p1 p2 m ⟨y_i8 hW.1.1, fun z => absurd z.1 hc, fun _ => hq m hW, fun z => absurd z.1 hc⟩
set_option maxHeartbeats 1600000 in
theorem f2_l_ranked (g : ch_G) (q : Int32 → ch_M → Prop) (A_ : a_G) (Y_ : ch_B) (R_ : Int32 × Int32 × Int32) (p1 : Int32) (p2 : Int32) (m : ch_M) (h : (a_W A_ Y_ R_ m) ∧ (((0 : Int32) ≤ p1 ∧ p1 ≤ (3 : Int32)) ∧ ¬ ((0 : Int32) ≤ p2 ∧ p2 < Y_ 0 8)) ∧ (∀ (M_ : ch_M), (a_W A_ Y_ R_ M_) → q (-1002) (M_))) : ch_C g m_l_ranked [.inr (0, 0, 0), .inl (.int p1), .inl (.int p2)] m (ch_oi q) := by
  obtain ⟨hW, hc, hq⟩ := h
  exact s_l_ranked g q p1 p2 m ⟨y_i8 hW.1.1, fun z => absurd (by rw [← a_W_8 hW]; exact z.2) hc.2, fun z => absurd hc.1 z, fun _ => hq m hW⟩
set_option maxHeartbeats 1600000 in
theorem f_l_character (g : ch_G) (q : Int32 → ch_M → Prop) (A_ : a_G) (Y_ : ch_B) (R_ : Int32 × Int32 × Int32) (p1 : Int32) (m : ch_M) (h : (a_W A_ Y_ R_ m) ∧ (p1 < (0 : Int32) ∨ (60 : Int32) < p1) ∧ (∀ (M_ : ch_M), (a_W A_ Y_ R_ M_) → q (-1001) (M_))) : ch_C g m_l_character [.inr (0, 0, 0), .inl (.int p1)] m (ch_oi q) := by
  obtain ⟨hW, hc, hq⟩ := h
  refine s_l_character g q p1 m ⟨hW.1.2.1.1, hW.1.2.1.2, fun z => ?_, fun _ => hq m hW⟩
  obtain ⟨n, hn, e⟩ := vp_in_of hW.1.2.1.1 (by decide)
  rw [e] at z
  obtain ⟨k, hk, e2⟩ := v_idx (by omega) z.1 z.2
  rw [e2] at hc
  rcases hc with c | c
  · exact absurd (nI_pos' (n := k) (by omega)) (Int32.not_le.mpr c)
  · exact absurd c (nI_nlt (a := 60) (b := k) (by omega) (by decide))
set_option maxHeartbeats 1600000 in
theorem f_l_account (g : ch_G) (q : Int32 → ch_M → Prop) (A_ : a_G) (Y_ : ch_B) (R_ : Int32 × Int32 × Int32) (p1 : Int32) (m : ch_M) (h : (a_W A_ Y_ R_ m) ∧ (¬ ((0 : Int32) ≤ p1 ∧ p1 ≤ (11 : Int32))) ∧ (∀ (M_ : ch_M), (a_W A_ Y_ R_ M_) → q (-1001) (M_))) : ch_C g m_l_account [.inr (0, 0, 0), .inl (.int p1)] m (ch_oi q) := by
  obtain ⟨hW, hc, hq⟩ := h
  exact s_l_account g q p1 m ⟨y_i8 hW.1.1, fun z => absurd z hc, fun _ => hq m hW⟩
set_option maxHeartbeats 1600000 in
theorem f_l_reason (g : ch_G) (q : Int32 → ch_M → Prop) (A_ : a_G) (Y_ : ch_B) (R_ : Int32 × Int32 × Int32) (p1 : Int32) (m : ch_M) (h : (a_W A_ Y_ R_ m) ∧ (¬ ((0 : Int32) ≤ p1 ∧ p1 ≤ (2 : Int32))) ∧ (∀ (M_ : ch_M), (a_W A_ Y_ R_ M_) → q (-1001) (M_))) : ch_C g m_l_reason [.inr (0, 0, 0), .inl (.int p1)] m (ch_oi q) := by
  obtain ⟨hW, hc, hq⟩ := h
  exact s_l_reason g q p1 m ⟨fun z => absurd z.1 hc, fun _ => hq m hW, fun z => absurd z.1 hc⟩
