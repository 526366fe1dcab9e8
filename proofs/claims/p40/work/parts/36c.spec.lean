set_option maxHeartbeats 1600000 in
theorem t_l_child (g : ch_G) (q : Int32 → ch_M → Prop) (A_ : a_G) (p1 : Int32) (m : ch_M) (h : (a_S A_ m) ∧ (A_.1 + 12 < 2 ^ 31) ∧ (0 < A_.1) ∧ (((r_wn (ch_ob m 1 0) p1).1 = 0) → (∀ (M_ : ch_M), (a_S (a_up A_ (A_.1 + 12) (ch_ob m 1 0)) M_) → (ch_ob M_ 1 0 = y_briB (ch_ob m 1 0) p1) → (∀ k_, M_ (14, 0, 1) k_ = m (14, 0, 1) k_) → q ((ch_ob m 1 0) 0 8 + 1 - 1) (M_))) ∧ ((¬ (r_wn (ch_ob m 1 0) p1).1 = 0) → (∀ (M_ : ch_M), (a_S A_ M_) → (ch_ob M_ 1 0 = (ch_ob m 1 0)) → (M_ (3, 0, 0) 0 = (r_wn (ch_ob m 1 0) p1).1) → (M_ (3, 0, 0) 1 = (r_wn (ch_ob m 1 0) p1).2) → (M_ (3, 0, 0) 2 = 0) → (∀ k_, M_ (14, 0, 1) k_ = m (14, 0, 1) k_) → q (-1001) (M_)))) : ch_C g m_l_child [.inr (0, 0, 0), .inl (.int p1)] m (ch_oi q) := by
  obtain ⟨hA, hT, hT0, hq1, hq2⟩ := h
  obtain ⟨hM, e1⟩ := a_S_K hA 110 0 0 p1
  have h14 := a_14K m 110 0 0 p1
  obtain ⟨k1, k2, k3, k4⟩ := lw_K4 m 110 0 0 p1
  obtain ⟨hR, hC⟩ := (lw_RC k1).1 rfl
  simp only [e1, k2, k3, k4] at hR hC
  obtain ⟨⟨f1, f2, f3, f4⟩, hd, hr1, hr2, hr3, hr4, hr5⟩ := a_mut hM e1 hT hT0 hR hC
  refine s_l_child g q p1 m ⟨f1, f2, f3, f4, fun z => ?_, fun z => ?_⟩
  · rw [hR] at z
    have hh := hq1 z _ (hd z).1 (hd z).2 (fun k => (a_14p _ _ k).trans (h14 k))
    have ev := congrArg Prod.fst hC
    dsimp only at ev
    rw [ev]
    exact hh
  · rw [hR] at z
    exact hq2 z _ hr1 hr2 hr3 hr4 hr5 (fun k => (a_14r _ _ _ k).trans (h14 k))
set_option maxHeartbeats 1600000 in
theorem t_l_chalk (g : ch_G) (q : Int32 → ch_M → Prop) (A_ : a_G) (p1 : Int32) (p2 : Int32) (m : ch_M) (h : (a_S A_ m) ∧ (A_.1 + 12 < 2 ^ 31) ∧ (0 < A_.1) ∧ (((r_wc (ch_ob m 1 0) p1 p2).1 = 0) → (∀ (M_ : ch_M), (a_S (a_up A_ (A_.1 + 12) (ch_ob m 1 0)) M_) → (ch_ob M_ 1 0 = y_chaB (ch_ob m 1 0) p1 p2) → (∀ k_, M_ (14, 0, 1) k_ = m (14, 0, 1) k_) → q (y_chv (ch_ob m 1 0) p2) (M_))) ∧ ((¬ (r_wc (ch_ob m 1 0) p1 p2).1 = 0) → (∀ (M_ : ch_M), (a_S A_ M_) → (ch_ob M_ 1 0 = (ch_ob m 1 0)) → (M_ (3, 0, 0) 0 = (r_wc (ch_ob m 1 0) p1 p2).1) → (M_ (3, 0, 0) 1 = (r_wc (ch_ob m 1 0) p1 p2).2) → (M_ (3, 0, 0) 2 = 0) → (∀ k_, M_ (14, 0, 1) k_ = m (14, 0, 1) k_) → q (-1001) (M_)))) : ch_C g m_l_chalk [.inr (0, 0, 0), .inl (.int p1), .inl (.int p2)] m (ch_oi q) := by
  obtain ⟨hA, hT, hT0, hq1, hq2⟩ := h
  obtain ⟨hM, e1⟩ := a_S_K hA 99 p1 0 p2
  have h14 := a_14K m 99 p1 0 p2
  obtain ⟨k1, k2, k3, k4⟩ := lw_K4 m 99 p1 0 p2
  obtain ⟨hR, hC⟩ := (lw_RC k1).2.1 rfl
  simp only [e1, k2, k3, k4] at hR hC
  obtain ⟨⟨f1, f2, f3, f4⟩, hd, hr1, hr2, hr3, hr4, hr5⟩ := a_mut hM e1 hT hT0 hR hC
  refine s_l_chalk g q p1 p2 m ⟨f1, f2, f3, f4, fun z => ?_, fun z => ?_⟩
  · rw [hR] at z
    have hh := hq1 z _ (hd z).1 (hd z).2 (fun k => (a_14p _ _ k).trans (h14 k))
    have ev := congrArg Prod.fst hC
    dsimp only at ev
    rw [ev]
    exact hh
  · rw [hR] at z
    exact hq2 z _ hr1 hr2 hr3 hr4 hr5 (fun k => (a_14r _ _ _ k).trans (h14 k))
set_option maxHeartbeats 1600000 in
theorem t_l_hop (g : ch_G) (q : Int32 → ch_M → Prop) (A_ : a_G) (p1 : Int32) (p2 : Int32) (m : ch_M) (h : (a_S A_ m) ∧ (A_.1 + 12 < 2 ^ 31) ∧ (0 < A_.1) ∧ (((r_wh (ch_ob m 1 0) p1 (s_rf (ch_ob m 5 0) p2) (s_rfB (ch_ob m 5 0) p2 0 1)).1 = 0) → (∀ (M_ : ch_M), (a_S (a_up A_ (A_.1 + 12) (ch_ob m 1 0)) M_) → (ch_ob M_ 1 0 = y_hopB (ch_ob m 1 0) p1 (s_rf (ch_ob m 5 0) p2) (Int32.toNatClampNeg (s_rfB (ch_ob m 5 0) p2 0 1))) → (∀ k_, M_ (14, 0, 1) k_ = m (14, 0, 1) k_) → q (y_ct (ch_ob m 1 0) p1 (s_rf (ch_ob m 5 0) p2) (Int32.toNatClampNeg (s_rfB (ch_ob m 5 0) p2 0 1))) (M_))) ∧ ((¬ (r_wh (ch_ob m 1 0) p1 (s_rf (ch_ob m 5 0) p2) (s_rfB (ch_ob m 5 0) p2 0 1)).1 = 0) → (∀ (M_ : ch_M), (a_S A_ M_) → (ch_ob M_ 1 0 = (ch_ob m 1 0)) → (M_ (3, 0, 0) 0 = (r_wh (ch_ob m 1 0) p1 (s_rf (ch_ob m 5 0) p2) (s_rfB (ch_ob m 5 0) p2 0 1)).1) → (M_ (3, 0, 0) 1 = (r_wh (ch_ob m 1 0) p1 (s_rf (ch_ob m 5 0) p2) (s_rfB (ch_ob m 5 0) p2 0 1)).2) → (M_ (3, 0, 0) 2 = 0) → (∀ k_, M_ (14, 0, 1) k_ = m (14, 0, 1) k_) → q (-1001) (M_)))) : ch_C g m_l_hop [.inr (0, 0, 0), .inl (.int p1), .inl (.int p2)] m (ch_oi q) := by
  obtain ⟨hA, hT, hT0, hq1, hq2⟩ := h
  obtain ⟨hM0, e0⟩ := a_S_K hA 104 p1 0 0
  obtain ⟨hM, e10, e4, e5, e6⟩ := a_S_X hM0 p2
  have e1 := e10.trans e0
  have h14 : ∀ k, x_S (x_K m 104 p1 0 0) p2 (14, 0, 1) k = m (14, 0, 1) k := fun k => (a_14S _ p2 k).trans (a_14K m 104 p1 0 0 k)
  have e7 : ch_ob (x_K m 104 p1 0 0) 5 0 = ch_ob m 5 0 := ch_ob_ne (by omega)
  rw [e7] at e5 e6
  obtain ⟨k1, k2, k3, k4⟩ := lw_K4 m 104 p1 0 0
  rw [← e4] at k1 k2
  obtain ⟨hR, hC⟩ := (lw_RC k1).2.2.1 rfl
  simp only [e1, k2, e5, e6] at hR hC
  obtain ⟨⟨f1, f2, f3, f4⟩, hd, hr1, hr2, hr3, hr4, hr5⟩ := a_mut hM e1 hT hT0 hR hC
  refine s_l_hop g q p1 p2 m ⟨f1, f2, f3, f4, fun z => ?_, fun z => ?_⟩
  · rw [hR] at z
    have hh := hq1 z _ (hd z).1 (hd z).2 (fun k => (a_14p _ _ k).trans (h14 k))
    have ev := congrArg Prod.fst hC
    dsimp only at ev
    rw [ev]
    exact hh
  · rw [hR] at z
    exact hq2 z _ hr1 hr2 hr3 hr4 hr5 (fun k => (a_14r _ _ _ k).trans (h14 k))
set_option maxHeartbeats 1600000 in
theorem t_l_warrant (g : ch_G) (q : Int32 → ch_M → Prop) (A_ : a_G) (p1 : Int32) (m : ch_M) (h : (a_S A_ m) ∧ (A_.1 + 12 < 2 ^ 31) ∧ (0 < A_.1) ∧ (((r_ww (ch_ob m 1 0) p1).1 = 0) → (∀ (M_ : ch_M), (a_S (a_up A_ (A_.1 + 12) (ch_ob m 1 0)) M_) → (ch_ob M_ 1 0 = y_wriB (ch_ob m 1 0) p1) → (∀ k_, M_ (14, 0, 1) k_ = m (14, 0, 1) k_) → q (if 9 < (ch_ob m 1 0) 4 (Int32.toNatClampNeg p1) then (9 : Int32) else (ch_ob m 1 0) 4 (Int32.toNatClampNeg p1)) (M_))) ∧ ((¬ (r_ww (ch_ob m 1 0) p1).1 = 0) → (∀ (M_ : ch_M), (a_S A_ M_) → (ch_ob M_ 1 0 = (ch_ob m 1 0)) → (M_ (3, 0, 0) 0 = (r_ww (ch_ob m 1 0) p1).1) → (M_ (3, 0, 0) 1 = (r_ww (ch_ob m 1 0) p1).2) → (M_ (3, 0, 0) 2 = 0) → (∀ k_, M_ (14, 0, 1) k_ = m (14, 0, 1) k_) → q (-1001) (M_)))) : ch_C g m_l_warrant [.inr (0, 0, 0), .inl (.int p1)] m (ch_oi q) := by
  obtain ⟨hA, hT, hT0, hq1, hq2⟩ := h
  obtain ⟨hM, e1⟩ := a_S_K hA 119 p1 0 0
  have h14 := a_14K m 119 p1 0 0
  obtain ⟨k1, k2, k3, k4⟩ := lw_K4 m 119 p1 0 0
  obtain ⟨hR, hC⟩ := (lw_RC k1).2.2.2.1 rfl
  simp only [e1, k2, k3, k4] at hR hC
  obtain ⟨⟨f1, f2, f3, f4⟩, hd, hr1, hr2, hr3, hr4, hr5⟩ := a_mut hM e1 hT hT0 hR hC
  refine s_l_warrant g q p1 m ⟨f1, f2, f3, f4, fun z => ?_, fun z => ?_⟩
  · rw [hR] at z
    have hh := hq1 z _ (hd z).1 (hd z).2 (fun k => (a_14p _ _ k).trans (h14 k))
    have ev := congrArg Prod.fst hC
    dsimp only at ev
    rw [ev]
    exact hh
  · rw [hR] at z
    exact hq2 z _ hr1 hr2 hr3 hr4 hr5 (fun k => (a_14r _ _ _ k).trans (h14 k))
set_option maxHeartbeats 1600000 in
theorem t_l_strike (g : ch_G) (q : Int32 → ch_M → Prop) (A_ : a_G) (p1 : Int32) (m : ch_M) (h : (a_S A_ m) ∧ (A_.1 + 12 < 2 ^ 31) ∧ (0 < A_.1) ∧ (((r_ws (ch_ob m 1 0) p1).1 = 0) → (∀ (M_ : ch_M), (a_S (a_up A_ (A_.1 + 12) (ch_ob m 1 0)) M_) → (ch_ob M_ 1 0 = y_strB (ch_ob m 1 0) p1) → (∀ k_, M_ (14, 0, 1) k_ = m (14, 0, 1) k_) → q ((ch_ob m 1 0) 3 (Int32.toNatClampNeg p1) - (ch_ob m 1 0) 5 (Int32.toNatClampNeg p1)) (M_))) ∧ ((¬ (r_ws (ch_ob m 1 0) p1).1 = 0) → (∀ (M_ : ch_M), (a_S A_ M_) → (ch_ob M_ 1 0 = (ch_ob m 1 0)) → (M_ (3, 0, 0) 0 = (r_ws (ch_ob m 1 0) p1).1) → (M_ (3, 0, 0) 1 = (r_ws (ch_ob m 1 0) p1).2) → (M_ (3, 0, 0) 2 = 0) → (∀ k_, M_ (14, 0, 1) k_ = m (14, 0, 1) k_) → q (-1001) (M_)))) : ch_C g m_l_strike [.inr (0, 0, 0), .inl (.int p1)] m (ch_oi q) := by
  obtain ⟨hA, hT, hT0, hq1, hq2⟩ := h
  obtain ⟨hM, e1⟩ := a_S_K hA 115 p1 0 0
  have h14 := a_14K m 115 p1 0 0
  obtain ⟨k1, k2, k3, k4⟩ := lw_K4 m 115 p1 0 0
  obtain ⟨hR, hC⟩ := (lw_RC k1).2.2.2.2.1 rfl
  simp only [e1, k2, k3, k4] at hR hC
  obtain ⟨⟨f1, f2, f3, f4⟩, hd, hr1, hr2, hr3, hr4, hr5⟩ := a_mut hM e1 hT hT0 hR hC
  refine s_l_strike g q p1 m ⟨f1, f2, f3, f4, fun z => ?_, fun z => ?_⟩
  · rw [hR] at z
    have hh := hq1 z _ (hd z).1 (hd z).2 (fun k => (a_14p _ _ k).trans (h14 k))
    have ev := congrArg Prod.fst hC
    dsimp only at ev
    rw [ev]
    exact hh
  · rw [hR] at z
    exact hq2 z _ hr1 hr2 hr3 hr4 hr5 (fun k => (a_14r _ _ _ k).trans (h14 k))
set_option maxHeartbeats 1600000 in
theorem t_l_rain (g : ch_G) (q : Int32 → ch_M → Prop) (A_ : a_G) (p1 : Int32) (m : ch_M) (h : (a_S A_ m) ∧ (A_.1 + 12 < 2 ^ 31) ∧ (0 < A_.1) ∧ (((r_wr (ch_ob m 1 0) p1).1 = 0) → (∀ (M_ : ch_M), (a_S (a_up A_ (A_.1 + 12) (ch_ob m 1 0)) M_) → (ch_ob M_ 1 0 = y_washB (ch_ob m 1 0) p1) → (∀ k_, M_ (14, 0, 1) k_ = m (14, 0, 1) k_) → q (y_washR (ch_ob m 1 0) p1) (M_))) ∧ ((¬ (r_wr (ch_ob m 1 0) p1).1 = 0) → (∀ (M_ : ch_M), (a_S A_ M_) → (ch_ob M_ 1 0 = (ch_ob m 1 0)) → (M_ (3, 0, 0) 0 = (r_wr (ch_ob m 1 0) p1).1) → (M_ (3, 0, 0) 1 = (r_wr (ch_ob m 1 0) p1).2) → (M_ (3, 0, 0) 2 = 0) → (∀ k_, M_ (14, 0, 1) k_ = m (14, 0, 1) k_) → q (-1001) (M_)))) : ch_C g m_l_rain [.inr (0, 0, 0), .inl (.int p1)] m (ch_oi q) := by
  obtain ⟨hA, hT, hT0, hq1, hq2⟩ := h
  obtain ⟨hM, e1⟩ := a_S_K hA 114 0 0 p1
  have h14 := a_14K m 114 0 0 p1
  obtain ⟨k1, k2, k3, k4⟩ := lw_K4 m 114 0 0 p1
  obtain ⟨hR, hC⟩ := (lw_RC k1).2.2.2.2.2.1 rfl
  simp only [e1, k2, k3, k4] at hR hC
  obtain ⟨⟨f1, f2, f3, f4⟩, hd, hr1, hr2, hr3, hr4, hr5⟩ := a_mut hM e1 hT hT0 hR hC
  refine s_l_rain g q p1 m ⟨f1, f2, f3, f4, fun z => ?_, fun z => ?_⟩
  · rw [hR] at z
    have hh := hq1 z _ (hd z).1 (hd z).2 (fun k => (a_14p _ _ k).trans (h14 k))
    have ev := congrArg Prod.fst hC
    dsimp only at ev
    rw [ev]
    exact hh
  · rw [hR] at z
    exact hq2 z _ hr1 hr2 hr3 hr4 hr5 (fun k => (a_14r _ _ _ k).trans (h14 k))
set_option maxHeartbeats 1600000 in
theorem t_l_term (g : ch_G) (q : Int32 → ch_M → Prop) (A_ : a_G) (m : ch_M) (h : (a_S A_ m) ∧ (A_.1 + 12 < 2 ^ 31) ∧ (0 < A_.1) ∧ (((r_wt (ch_ob m 1 0)).1 = 0) → (∀ (M_ : ch_M), (a_S (a_up A_ (A_.1 + 12) (ch_ob m 1 0)) M_) → (ch_ob M_ 1 0 = y_termB (ch_ob m 1 0)) → (∀ k_, M_ (14, 0, 1) k_ = m (14, 0, 1) k_) → q (y_termR (ch_ob m 1 0)) (M_))) ∧ ((¬ (r_wt (ch_ob m 1 0)).1 = 0) → (∀ (M_ : ch_M), (a_S A_ M_) → (ch_ob M_ 1 0 = (ch_ob m 1 0)) → (M_ (3, 0, 0) 0 = (r_wt (ch_ob m 1 0)).1) → (M_ (3, 0, 0) 1 = (r_wt (ch_ob m 1 0)).2) → (M_ (3, 0, 0) 2 = 0) → (∀ k_, M_ (14, 0, 1) k_ = m (14, 0, 1) k_) → q (-1001) (M_)))) : ch_C g m_l_term [.inr (0, 0, 0)] m (ch_oi q) := by
  obtain ⟨hA, hT, hT0, hq1, hq2⟩ := h
  obtain ⟨hM, e1⟩ := a_S_K hA 116 0 0 0
  have h14 := a_14K m 116 0 0 0
  obtain ⟨k1, k2, k3, k4⟩ := lw_K4 m 116 0 0 0
  obtain ⟨hR, hC⟩ := (lw_RC k1).2.2.2.2.2.2.1 rfl
  simp only [e1, k2, k3, k4] at hR hC
  obtain ⟨⟨f1, f2, f3, f4⟩, hd, hr1, hr2, hr3, hr4, hr5⟩ := a_mut hM e1 hT hT0 hR hC
  refine s_l_term g q m ⟨f1, f2, f3, f4, fun z => ?_, fun z => ?_⟩
  · rw [hR] at z
    have hh := hq1 z _ (hd z).1 (hd z).2 (fun k => (a_14p _ _ k).trans (h14 k))
    have ev := congrArg Prod.fst hC
    dsimp only at ev
    rw [ev]
    exact hh
  · rw [hR] at z
    exact hq2 z _ hr1 hr2 hr3 hr4 hr5 (fun k => (a_14r _ _ _ k).trans (h14 k))
set_option maxHeartbeats 1600000 in
theorem t_l_give (g : ch_G) (q : Int32 → ch_M → Prop) (A_ : a_G) (p1 : Int32) (p2 : Int32) (p3 : Int32) (m : ch_M) (h : (a_S A_ m) ∧ (A_.1 + 12 < 2 ^ 31) ∧ (0 < A_.1) ∧ (((r_wg (ch_ob m 1 0) p1 p2 p3).1 = 0) → (∀ (M_ : ch_M), (a_S (a_up A_ (A_.1 + 12) (ch_ob m 1 0)) M_) → (ch_ob M_ 1 0 = y_givB (ch_ob m 1 0) p1 p2 p3) → (∀ k_, M_ (14, 0, 1) k_ = m (14, 0, 1) k_) → q (y_givB (ch_ob m 1 0) p1 p2 p3 3 (Int32.toNatClampNeg p1)) (M_))) ∧ ((¬ (r_wg (ch_ob m 1 0) p1 p2 p3).1 = 0) → (∀ (M_ : ch_M), (a_S A_ M_) → (ch_ob M_ 1 0 = (ch_ob m 1 0)) → (M_ (3, 0, 0) 0 = (r_wg (ch_ob m 1 0) p1 p2 p3).1) → (M_ (3, 0, 0) 1 = (r_wg (ch_ob m 1 0) p1 p2 p3).2) → (M_ (3, 0, 0) 2 = 0) → (∀ k_, M_ (14, 0, 1) k_ = m (14, 0, 1) k_) → q (-1001) (M_)))) : ch_C g m_l_give [.inr (0, 0, 0), .inl (.int p1), .inl (.int p2), .inl (.int p3)] m (ch_oi q) := by
  obtain ⟨hA, hT, hT0, hq1, hq2⟩ := h
  obtain ⟨hM, e1⟩ := a_S_K hA 103 p1 p2 p3
  have h14 := a_14K m 103 p1 p2 p3
  obtain ⟨k1, k2, k3, k4⟩ := lw_K4 m 103 p1 p2 p3
  obtain ⟨hR, hC⟩ := (lw_RC k1).2.2.2.2.2.2.2 rfl
  simp only [e1, k2, k3, k4] at hR hC
  obtain ⟨⟨f1, f2, f3, f4⟩, hd, hr1, hr2, hr3, hr4, hr5⟩ := a_mut hM e1 hT hT0 hR hC
  refine s_l_give g q p1 p2 p3 m ⟨f1, f2, f3, f4, fun z => ?_, fun z => ?_⟩
  · rw [hR] at z
    have hh := hq1 z _ (hd z).1 (hd z).2 (fun k => (a_14p _ _ k).trans (h14 k))
    have ev := congrArg Prod.fst hC
    dsimp only at ev
    rw [ev]
    exact hh
  · rw [hR] at z
    exact hq2 z _ hr1 hr2 hr3 hr4 hr5 (fun k => (a_14r _ _ _ k).trans (h14 k))
