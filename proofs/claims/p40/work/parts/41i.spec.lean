theorem a_S_svY {A : a_G} {Y Y' : ch_B} {m : ch_M} (h : a_S (a_sv A Y') m) (hY : y_inv A.1 Y) (e : y_sm Y Y') : a_S (a_sv A Y) m := by
  obtain ⟨b1, b2, b3, ⟨b9, b10⟩, b11, b12⟩ := h
  exact ⟨b1, b2, b3, ⟨b9, fun z => ⟨hY, y_sm_tr e (b10 z).2⟩⟩, b11, b12⟩
set_option maxHeartbeats 1600000 in
theorem c_l_undo (g : ch_G) (q : Int32 → ch_M → Prop) (A_ : a_G) (Y_ : ch_B) (R_ : Int32 × Int32 × Int32) (m : ch_M) (h : (a_W A_ Y_ R_ m) ∧ (¬ A_.2.1 = 0) ∧ (∀ (M_ : ch_M), (a_W (a_dn A_) (A_.2.2.1 0) (M_ (3, 0, 0) 0, M_ (3, 0, 0) 1, M_ (3, 0, 0) 2) M_) → (∀ k_, M_ (14, 0, 1) k_ = m (14, 0, 1) k_) → q (nI (A_.2.1 - 1)) (M_))) : ch_C g m_l_undo [.inr (0, 0, 0)] m (ch_oi q) := by
  obtain ⟨hW, h0, hq⟩ := h
  refine t_l_undo g q A_ m ⟨hW.1, fun _ M h1 h2 h14 => hq M ⟨h1, hW.2.1, h2, rfl, rfl, rfl⟩ h14, fun z => absurd z h0⟩
set_option maxHeartbeats 1600000 in
theorem f_l_undo (g : ch_G) (q : Int32 → ch_M → Prop) (A_ : a_G) (Y_ : ch_B) (R_ : Int32 × Int32 × Int32) (m : ch_M) (h : (a_W A_ Y_ R_ m) ∧ (A_.2.1 = 0) ∧ q (-1001) m) : ch_C g m_l_undo [.inr (0, 0, 0)] m (ch_oi q) := by
  obtain ⟨hW, h0, hq⟩ := h
  exact t_l_undo g q A_ m ⟨hW.1, fun z => absurd h0 z, fun _ => hq⟩
set_option maxHeartbeats 1600000 in
theorem c_l_restore (g : ch_G) (q : Int32 → ch_M → Prop) (A_ : a_G) (Y_ : ch_B) (R_ : Int32 × Int32 × Int32) (m : ch_M) (h : (a_W A_ Y_ R_ m) ∧ (¬ A_.2.2.2.1.1 = 0) ∧ (∀ (M_ : ch_M), (a_W (a_re A_) A_.2.2.2.1.2 (M_ (3, 0, 0) 0, M_ (3, 0, 0) 1, M_ (3, 0, 0) 2) M_) → (∀ k_, M_ (14, 0, 1) k_ = m (14, 0, 1) k_) → q (A_.2.2.2.1.2 0 8) (M_))) : ch_C g m_l_restore [.inr (0, 0, 0)] m (ch_oi q) := by
  obtain ⟨hW, h0, hq⟩ := h
  refine t_l_restore g q A_ m ⟨hW.1, fun _ M h1 h2 h14 => hq M ⟨h1, hW.2.1, h2, rfl, rfl, rfl⟩ h14, fun z => absurd z h0⟩
set_option maxHeartbeats 1600000 in
theorem f_l_restore (g : ch_G) (q : Int32 → ch_M → Prop) (A_ : a_G) (Y_ : ch_B) (R_ : Int32 × Int32 × Int32) (m : ch_M) (h : (a_W A_ Y_ R_ m) ∧ (A_.2.2.2.1.1 = 0) ∧ q (-1001) m) : ch_C g m_l_restore [.inr (0, 0, 0)] m (ch_oi q) := by
  obtain ⟨hW, h0, hq⟩ := h
  exact t_l_restore g q A_ m ⟨hW.1, fun z => absurd h0 z, fun _ => hq⟩
set_option maxHeartbeats 1600000 in
theorem c_x_save (g : ch_G) (q : Int32 → ch_M → Prop) (A_ : a_G) (Y_ : ch_B) (R_ : Int32 × Int32 × Int32) (m : ch_M) (h : (a_W A_ Y_ R_ m) ∧ (∀ (M_ : ch_M), (a_W (a_sv A_ Y_) Y_ (M_ (3, 0, 0) 0, M_ (3, 0, 0) 1, M_ (3, 0, 0) 2) M_) → q (Y_ 0 8) (M_))) : ch_C g m_x_save [.inr (0, 0, 0)] m (ch_oi q) := by
  obtain ⟨hW, hq⟩ := h
  refine t_x_save g q A_ m ⟨hW.1, fun M h1 h2 _ => ?_⟩
  rw [a_W_8 hW]
  exact hq M ⟨a_S_svY h1 (y_inv_sm hW.1.1 (y_sm_sym hW.2.2.1)) hW.2.2.1, hW.2.1, by rw [h2]; exact hW.2.2.1, rfl, rfl, rfl⟩
set_option maxHeartbeats 1600000 in
theorem c_l_child (g : ch_G) (q : Int32 → ch_M → Prop) (A_ : a_G) (Y_ : ch_B) (R_ : Int32 × Int32 × Int32) (X_ : ch_B) (v_ : Int32) (p1 : Int32) (m : ch_M) (h : (a_W A_ Y_ R_ m) ∧ (A_.1 + 732 < 2 ^ 31) ∧ (∀ Z_, y_sm Y_ Z_ → r_wn Z_ p1 = (0, 0) ∧ y_sm X_ (y_briB Z_ p1) ∧ Z_ 0 8 + 1 - 1 = v_) ∧ (∀ (M_ : ch_M), (a_W (a_up A_ (A_.1 + 12) Y_) X_ (M_ (3, 0, 0) 0, M_ (3, 0, 0) 1, M_ (3, 0, 0) 2) M_) → q v_ (M_))) : ch_C g m_l_child [.inr (0, 0, 0), .inl (.int p1)] m (ch_oi q) := by
  obtain ⟨hW, hT, hz, hq⟩ := h
  obtain ⟨z1, z2, z3⟩ := hz _ hW.2.2.1
  refine t_l_child g q A_ p1 m ⟨hW.1, by have := hW.2.1.2.1; omega, hW.2.1.2.2, fun _ M h1 h2 _ => ?_, fun w => absurd (by rw [z1]) w⟩
  rw [z3]
  refine hq M ⟨a_S_upY h1 hW.2.2.1, ⟨hW.2.1.1, ?_, ?_⟩, by rw [h2]; exact z2, rfl, rfl, rfl⟩
  · show A_.1 + 12 + 720 < 2 ^ 31
    omega
  · show 0 < A_.1 + 12
    omega
set_option maxHeartbeats 1600000 in
theorem c_l_chalk (g : ch_G) (q : Int32 → ch_M → Prop) (A_ : a_G) (Y_ : ch_B) (R_ : Int32 × Int32 × Int32) (X_ : ch_B) (v_ : Int32) (p1 : Int32) (p2 : Int32) (m : ch_M) (h : (a_W A_ Y_ R_ m) ∧ (A_.1 + 732 < 2 ^ 31) ∧ (∀ Z_, y_sm Y_ Z_ → r_wc Z_ p1 p2 = (0, 0) ∧ y_sm X_ (y_chaB Z_ p1 p2) ∧ y_chv Z_ p2 = v_) ∧ (∀ (M_ : ch_M), (a_W (a_up A_ (A_.1 + 12) Y_) X_ (M_ (3, 0, 0) 0, M_ (3, 0, 0) 1, M_ (3, 0, 0) 2) M_) → q v_ (M_))) : ch_C g m_l_chalk [.inr (0, 0, 0), .inl (.int p1), .inl (.int p2)] m (ch_oi q) := by
  obtain ⟨hW, hT, hz, hq⟩ := h
  obtain ⟨z1, z2, z3⟩ := hz _ hW.2.2.1
  refine t_l_chalk g q A_ p1 p2 m ⟨hW.1, by have := hW.2.1.2.1; omega, hW.2.1.2.2, fun _ M h1 h2 _ => ?_, fun w => absurd (by rw [z1]) w⟩
  rw [z3]
  refine hq M ⟨a_S_upY h1 hW.2.2.1, ⟨hW.2.1.1, ?_, ?_⟩, by rw [h2]; exact z2, rfl, rfl, rfl⟩
  · show A_.1 + 12 + 720 < 2 ^ 31
    omega
  · show 0 < A_.1 + 12
    omega
set_option maxHeartbeats 1600000 in
theorem r_l_fewest (g : ch_G) (q : Int32 → ch_M → Prop) (A_ : a_G) (Y_ : ch_B) (R_ : Int32 × Int32 × Int32) (p1 : Int32) (m : ch_M) (h : (a_W A_ Y_ R_ m) ∧ ((0 : Int32) ≤ p1 ∧ p1 < Y_ 0 8) ∧ (∀ (M_ : ch_M), (a_W A_ Y_ R_ M_) → q (w_fl z_B (w_l (y_can Y_) p1) 12 1 0) (M_))) : ch_C g m_l_fewest [.inr (0, 0, 0), .inl (.int p1)] m (ch_oi q) := by
  obtain ⟨hW, hc, hq⟩ := h
  refine t_l_fewest g q A_.1 p1 m ⟨a_W_i hW, by rw [a_W_8 hW]; exact hc, fun M e hw => ?_⟩
  rw [a_W_c hW]
  exact hq M (a_W_same hW e hw)
set_option maxHeartbeats 1600000 in
theorem r_l_longest (g : ch_G) (q : Int32 → ch_M → Prop) (A_ : a_G) (Y_ : ch_B) (R_ : Int32 × Int32 × Int32) (p1 : Int32) (m : ch_M) (h : (a_W A_ Y_ R_ m) ∧ ((0 : Int32) ≤ p1 ∧ p1 < Y_ 0 8) ∧ (∀ (M_ : ch_M), (a_W A_ Y_ R_ M_) → q ((y_lr ((y_can Y_) 1) p1 12).1) (M_))) : ch_C g m_l_longest [.inr (0, 0, 0), .inl (.int p1)] m (ch_oi q) := by
  obtain ⟨hW, hc, hq⟩ := h
  refine t_l_longest g q A_.1 p1 m ⟨a_W_i hW, by rw [a_W_8 hW]; exact hc, fun M e hw => ?_⟩
  rw [a_W_c hW]
  exact hq M (a_W_same hW e hw)
set_option maxHeartbeats 1600000 in
theorem r_l_step (g : ch_G) (q : Int32 → ch_M → Prop) (A_ : a_G) (Y_ : ch_B) (R_ : Int32 × Int32 × Int32) (p1 : Int32) (p2 : Int32) (m : ch_M) (h : (a_W A_ Y_ R_ m) ∧ ((0 : Int32) ≤ p1 ∧ p1 < Y_ 0 8) ∧ (∀ (M_ : ch_M), (a_W A_ Y_ R_ M_) → q (V_st (y_can Y_) p1 p2) (M_))) : ch_C g m_l_step [.inr (0, 0, 0), .inl (.int p1), .inl (.int p2)] m (ch_oi q) := by
  obtain ⟨hW, hc, hq⟩ := h
  refine t_l_step g q A_.1 p1 p2 m ⟨a_W_i hW, by rw [a_W_8 hW]; exact hc, fun M e hw => ?_⟩
  rw [a_W_c hW]
  exact hq M (a_W_same hW e hw)
set_option maxHeartbeats 1600000 in
theorem r_x_gap (g : ch_G) (q : Int32 → ch_M → Prop) (A_ : a_G) (Y_ : ch_B) (R_ : Int32 × Int32 × Int32) (m : ch_M) (h : (a_W A_ Y_ R_ m) ∧ (∀ (M_ : ch_M), (a_W A_ Y_ R_ M_) → q ((y_lr ((y_can Y_) 1) (-1) 12).1) (M_))) : ch_C g m_x_gap [.inr (0, 0, 0)] m (ch_oi q) := by
  obtain ⟨hW, hq⟩ := h
  refine t_x_gap g q A_.1 m ⟨a_W_i hW, fun M e hw => ?_⟩
  rw [a_W_c hW]
  exact hq M (a_W_same hW e hw)
set_option maxHeartbeats 1600000 in
theorem k_l_account (g : ch_G) (q : Int32 → ch_M → Prop) (A_ : a_G) (Y_ : ch_B) (R_ : Int32 × Int32 × Int32) (p1 : Int32) (m : ch_M) (h : (a_W A_ Y_ R_ m) ∧ (p1 = (10 : Int32)) ∧ q (nI A_.2.1) m) : ch_C g m_l_account [.inr (0, 0, 0), .inl (.int p1)] m (ch_oi q) := by
  obtain ⟨hW, rfl, hq⟩ := h
  refine s_l_account g q 10 m ⟨y_i8 hW.1.1, fun _ => ?_, fun z => absurd (by decide) z⟩
  obtain ⟨n, -, -, b6, -⟩ := hW.1.2.2.1.1.2
  have e : x_acR (ch_ob m 1 0) (m (2, 0, 0) 2) (m (6, 0, 0) 1) 10 = m (2, 0, 0) 2 := rfl
  rw [e, b6]
  exact hq
set_option maxHeartbeats 1600000 in
theorem t2_l_account (g : ch_G) (q : Int32 → ch_M → Prop) (p1 : Int32) (m : ch_M) (h : (vp_in (m (1, 0, 0) 8) 6) ∧ (p1 = (11 : Int32)) ∧ q (m (6, 0, 0) 1) m) : ch_C g m_l_account [.inr (0, 0, 0), .inl (.int p1)] m (ch_oi q) := by
  obtain ⟨h8, rfl, hq⟩ := h
  exact s_l_account g q 11 m ⟨h8, fun _ => hq, fun z => absurd (by decide) z⟩
set_option maxHeartbeats 1600000 in
theorem q_l_asks (g : ch_G) (q : Int64 → ch_M → Prop) (A_ : a_G) (Y_ : ch_B) (R_ : Int32 × Int32 × Int32) (m : ch_M) (h : (a_W A_ Y_ R_ m) ∧ (∀ (M_ : ch_M), (a_W A_ Y_ R_ M_) → (∀ k_, k_ < 18 → M_ (14, 0, 1) k_ = m (14, 0, 1) k_) → q (a_V (y_can Y_)) (M_))) : ch_C g m_l_asks [.inr (0, 0, 0)] m (ch_ol q) := by
  obtain ⟨hW, hq⟩ := h
  refine t_l_asks g q A_.1 m ⟨a_W_i hW, fun M e hw => ?_⟩
  rw [a_W_c hW]
  exact hq M (a_W_same hW e hw) (fun k hk => e 14 0 1 k (by unfold a_sc; omega) (a_rl14 hk))
/-- what changes does -/
def l_CH (g : ch_G) : Prop := ∀ (q : Int32 → ch_M → Prop) (A_ : a_G) (p1 : Int32) (m : ch_M), ((a_S A_ m) ∧ (A_.2.2.2.2 = 0) ∧ (A_.1 + 720 < 2 ^ 31) ∧ (0 < A_.1) ∧ (∀ (M_ : ch_M), (a_S (a_up A_ (A_.1 + 720) (ch_ob m 1 0)) M_) → (∀ k_, k_ < 18 → M_ (14, 0, 1) k_ = m (14, 0, 1) k_) → q 1 (M_)) ∧ (∀ (M_ : ch_M), (a_S A_ M_) → (y_sm (ch_ob m 1 0) (ch_ob M_ 1 0)) → (∀ k_, k_ < 18 → M_ (14, 0, 1) k_ = m (14, 0, 1) k_) → q 0 (M_))) → ch_C g m_l_changes [.inr (0, 0, 0), .inl (.int p1)] m (ch_oi q)
theorem c_l_changes (g : ch_G) (hch : l_CH g) (q : Int32 → ch_M → Prop) (A_ : a_G) (Y_ : ch_B) (R_ : Int32 × Int32 × Int32) (p1 : Int32) (m : ch_M) (h : (a_W A_ Y_ R_ m) ∧ (A_.1 + 1440 < 2 ^ 31) ∧ (∀ (M_ : ch_M), (a_W (a_up A_ (A_.1 + 720) Y_) (ch_ob M_ 1 0) (M_ (3, 0, 0) 0, M_ (3, 0, 0) 1, M_ (3, 0, 0) 2) M_) → (∀ k_, k_ < 18 → M_ (14, 0, 1) k_ = m (14, 0, 1) k_) → q 1 (M_)) ∧ (∀ (M_ : ch_M), (a_W A_ Y_ (M_ (3, 0, 0) 0, M_ (3, 0, 0) 1, M_ (3, 0, 0) 2) M_) → (∀ k_, k_ < 18 → M_ (14, 0, 1) k_ = m (14, 0, 1) k_) → q 0 (M_))) : ch_C g m_l_changes [.inr (0, 0, 0), .inl (.int p1)] m (ch_oi q) := by
  obtain ⟨hW, hT, hq1, hq0⟩ := h
  refine hch q A_ p1 m ⟨hW.1, hW.2.1.1, hW.2.1.2.1, hW.2.1.2.2, fun M h1 h14 => ?_, fun M h1 h2 h14 => ?_⟩
  · exact hq1 M ⟨a_S_upY h1 hW.2.2.1, ⟨hW.2.1.1, by show A_.1 + 720 + 720 < 2 ^ 31; omega, by show 0 < A_.1 + 720; omega⟩, y_sm_refl _, rfl, rfl, rfl⟩ h14
  · exact hq0 M ⟨h1, hW.2.1, y_sm_tr hW.2.2.1 h2, rfl, rfl, rfl⟩ h14
