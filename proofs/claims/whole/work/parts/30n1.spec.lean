set_option maxHeartbeats 1600000 in
theorem s_m_child (g : ch_G) (q : Int32 → ch_M → Prop) (T_ : Nat) (Y_ : ch_B) (p1 : Int32) (m : ch_M) (h : (m_rel Y_ (m (9, 0, 1))) ∧ (y_inv T_ Y_) ∧ (vp_in (m (9, 0, 0) 4) 9) ∧ (((r_wn Y_ p1).1 = 0) → (∀ (B_ : ch_B), (m_done (ch_ob m 9 0) B_ (y_briB Y_ p1)) → q (Y_ 0 8) (ch_os m 9 0 B_))) ∧ ((¬ (r_wn Y_ p1).1 = 0) → (∀ (B_ : ch_B), (m_rfd (ch_ob m 9 0) B_ (r_wn Y_ p1).1 (r_wn Y_ p1).2) → q 0 (ch_os m 9 0 B_)))) : ch_C g m_m_child [.inr (9, 0, 0), .inl (.int p1)] m (ch_oi q) := by
  refine e_m_child g _ p1 m ?_
  obtain ⟨hr, hi, h4, ha, hb⟩ := h
  refine g_m_child_0 g _ _ _ ?_
  simp only [forall_eq, ch_oi_iff, ch_ob_os, ch_os_os, ch_os_at]
  refine ⟨T_, Y_, by rw [show ch_os m 9 0 (m_trB (ch_ob m 9 0)) (9, 0, 1) = m_trB (ch_ob m 9 0) 1 from rfl, m_trB_1]; exact hr, hi, fun c B hd => ⟨?_, ?_⟩, fun c => ?_⟩
  · rw [hd.2.2 0 4 (by decide) (by omega), m_trB_o (by omega) (by omega)]
    exact h4
  · have := ha c _ (m_done_of hd)
    rw [hd.2.1]
    exact this
  · exact hb c _ (m_rfd_of _ _ _)
set_option maxHeartbeats 1600000 in
theorem s_m_chalk (g : ch_G) (q : Int32 → ch_M → Prop) (T_ : Nat) (Y_ : ch_B) (p1 : Int32) (p2 : Int32) (m : ch_M) (h : (m_rel Y_ (m (9, 0, 1))) ∧ (y_inv T_ Y_) ∧ (vp_in (m (9, 0, 0) 4) 9) ∧ (((r_wc Y_ p1 p2).1 = 0) → (∀ (B_ : ch_B), (m_done (ch_ob m 9 0) B_ (y_chaB Y_ p1 p2)) → q (y_chv Y_ p2) (ch_os m 9 0 B_))) ∧ ((¬ (r_wc Y_ p1 p2).1 = 0) → (∀ (B_ : ch_B), (m_rfd (ch_ob m 9 0) B_ (r_wc Y_ p1 p2).1 (r_wc Y_ p1 p2).2) → q 0 (ch_os m 9 0 B_)))) : ch_C g m_m_chalk [.inr (9, 0, 0), .inl (.int p1), .inl (.int p2)] m (ch_oi q) := by
  refine e_m_chalk g _ p1 p2 m ?_
  obtain ⟨hr, hi, h4, ha, hb⟩ := h
  refine g_m_chalk_0 g _ _ _ _ ?_
  simp only [forall_eq, ch_oi_iff, ch_ob_os, ch_os_os, ch_os_at]
  refine ⟨T_, Y_, by rw [show ch_os m 9 0 (m_trB (ch_ob m 9 0)) (9, 0, 1) = m_trB (ch_ob m 9 0) 1 from rfl, m_trB_1]; exact hr, hi, fun c B hd => ⟨?_, ?_⟩, fun c => ?_⟩
  · rw [hd.2.2 0 4 (by decide) (by omega), m_trB_o (by omega) (by omega)]
    exact h4
  · have := ha c _ (m_done_of hd)
    rw [hd.2.1]
    exact this
  · exact hb c _ (m_rfd_of _ _ _)
set_option maxHeartbeats 1600000 in
theorem s_m_warrant (g : ch_G) (q : Int32 → ch_M → Prop) (T_ : Nat) (Y_ : ch_B) (p1 : Int32) (m : ch_M) (h : (m_rel Y_ (m (9, 0, 1))) ∧ (y_inv T_ Y_) ∧ (vp_in (m (9, 0, 0) 4) 9) ∧ (((r_ww Y_ p1).1 = 0) → (∀ (B_ : ch_B), (m_done (ch_ob m 9 0) B_ (y_wriB Y_ p1)) → q (if 9 < Y_ 4 (Int32.toNatClampNeg p1) then 9 else Y_ 4 (Int32.toNatClampNeg p1)) (ch_os m 9 0 B_))) ∧ ((¬ (r_ww Y_ p1).1 = 0) → (∀ (B_ : ch_B), (m_rfd (ch_ob m 9 0) B_ (r_ww Y_ p1).1 (r_ww Y_ p1).2) → q 0 (ch_os m 9 0 B_)))) : ch_C g m_m_warrant [.inr (9, 0, 0), .inl (.int p1)] m (ch_oi q) := by
  refine e_m_warrant g _ p1 m ?_
  obtain ⟨hr, hi, h4, ha, hb⟩ := h
  refine g_m_warrant_0 g _ _ _ ?_
  simp only [forall_eq, ch_oi_iff, ch_ob_os, ch_os_os, ch_os_at]
  refine ⟨T_, Y_, by rw [show ch_os m 9 0 (m_trB (ch_ob m 9 0)) (9, 0, 1) = m_trB (ch_ob m 9 0) 1 from rfl, m_trB_1]; exact hr, hi, fun c B hd => ⟨?_, ?_⟩, fun c => ?_⟩
  · rw [hd.2.2 0 4 (by decide) (by omega), m_trB_o (by omega) (by omega)]
    exact h4
  · have := ha c _ (m_done_of hd)
    rw [hd.2.1]
    exact this
  · exact hb c _ (m_rfd_of _ _ _)
set_option maxHeartbeats 1600000 in
theorem s_m_strike (g : ch_G) (q : Int32 → ch_M → Prop) (T_ : Nat) (Y_ : ch_B) (p1 : Int32) (m : ch_M) (h : (m_rel Y_ (m (9, 0, 1))) ∧ (y_inv T_ Y_) ∧ (vp_in (m (9, 0, 0) 4) 9) ∧ (((r_ws Y_ p1).1 = 0) → (∀ (B_ : ch_B), (m_done (ch_ob m 9 0) B_ (y_strB Y_ p1)) → q (Y_ 3 (Int32.toNatClampNeg p1) - Y_ 5 (Int32.toNatClampNeg p1)) (ch_os m 9 0 B_))) ∧ ((¬ (r_ws Y_ p1).1 = 0) → (∀ (B_ : ch_B), (m_rfd (ch_ob m 9 0) B_ (r_ws Y_ p1).1 (r_ws Y_ p1).2) → q 0 (ch_os m 9 0 B_)))) : ch_C g m_m_strike [.inr (9, 0, 0), .inl (.int p1)] m (ch_oi q) := by
  refine e_m_strike g _ p1 m ?_
  obtain ⟨hr, hi, h4, ha, hb⟩ := h
  refine g_m_strike_0 g _ _ _ ?_
  simp only [forall_eq, ch_oi_iff, ch_ob_os, ch_os_os, ch_os_at]
  refine ⟨T_, Y_, by rw [show ch_os m 9 0 (m_trB (ch_ob m 9 0)) (9, 0, 1) = m_trB (ch_ob m 9 0) 1 from rfl, m_trB_1]; exact hr, hi, fun c B hd => ⟨?_, ?_⟩, fun c => ?_⟩
  · rw [hd.2.2 0 4 (by decide) (by omega), m_trB_o (by omega) (by omega)]
    exact h4
  · have := ha c _ (m_done_of hd)
    rw [hd.2.1]
    exact this
  · exact hb c _ (m_rfd_of _ _ _)
set_option maxHeartbeats 1600000 in
theorem s_m_rain (g : ch_G) (q : Int32 → ch_M → Prop) (T_ : Nat) (Y_ : ch_B) (p1 : Int32) (m : ch_M) (h : (m_rel Y_ (m (9, 0, 1))) ∧ (y_inv T_ Y_) ∧ (vp_in (m (9, 0, 0) 4) 9) ∧ (((r_wr Y_ p1).1 = 0) → (∀ (B_ : ch_B), (m_done (ch_ob m 9 0) B_ (y_washB Y_ p1)) → q (y_washR Y_ p1) (ch_os m 9 0 B_))) ∧ ((¬ (r_wr Y_ p1).1 = 0) → (∀ (B_ : ch_B), (m_rfd (ch_ob m 9 0) B_ (r_wr Y_ p1).1 (r_wr Y_ p1).2) → q 0 (ch_os m 9 0 B_)))) : ch_C g m_m_rain [.inr (9, 0, 0), .inl (.int p1)] m (ch_oi q) := by
  refine e_m_rain g _ p1 m ?_
  obtain ⟨hr, hi, h4, ha, hb⟩ := h
  refine g_m_rain_0 g _ _ _ ?_
  simp only [forall_eq, ch_oi_iff, ch_ob_os, ch_os_os, ch_os_at]
  refine ⟨T_, Y_, by rw [show ch_os m 9 0 (m_trB (ch_ob m 9 0)) (9, 0, 1) = m_trB (ch_ob m 9 0) 1 from rfl, m_trB_1]; exact hr, hi, fun c B hd => ⟨?_, ?_⟩, fun c => ?_⟩
  · rw [hd.2.2 0 4 (by decide) (by omega), m_trB_o (by omega) (by omega)]
    exact h4
  · have := ha c _ (m_done_of hd)
    rw [hd.2.1]
    exact this
  · exact hb c _ (m_rfd_of _ _ _)
set_option maxHeartbeats 1600000 in
theorem s_m_give (g : ch_G) (q : Int32 → ch_M → Prop) (T_ : Nat) (Y_ : ch_B) (p1 : Int32) (p2 : Int32) (p3 : Int32) (m : ch_M) (h : (m_rel Y_ (m (9, 0, 1))) ∧ (y_inv T_ Y_) ∧ (vp_in (m (9, 0, 0) 4) 9) ∧ (((r_wg Y_ p1 p2 p3).1 = 0) → (∀ (B_ : ch_B), (m_done (ch_ob m 9 0) B_ (y_givB Y_ p1 p2 p3)) → q (y_givB Y_ p1 p2 p3 3 (Int32.toNatClampNeg p1)) (ch_os m 9 0 B_))) ∧ ((¬ (r_wg Y_ p1 p2 p3).1 = 0) → (∀ (B_ : ch_B), (m_rfd (ch_ob m 9 0) B_ (r_wg Y_ p1 p2 p3).1 (r_wg Y_ p1 p2 p3).2) → q 0 (ch_os m 9 0 B_)))) : ch_C g m_m_give [.inr (9, 0, 0), .inl (.int p1), .inl (.int p2), .inl (.int p3)] m (ch_oi q) := by
  refine e_m_give g _ p1 p2 p3 m ?_
  obtain ⟨hr, hi, h4, ha, hb⟩ := h
  refine g_m_give_0 g _ _ _ _ _ ?_
  simp only [forall_eq, ch_oi_iff, ch_ob_os, ch_os_os, ch_os_at]
  refine ⟨T_, Y_, by rw [show ch_os m 9 0 (m_trB (ch_ob m 9 0)) (9, 0, 1) = m_trB (ch_ob m 9 0) 1 from rfl, m_trB_1]; exact hr, hi, fun c B hd => ⟨?_, ?_⟩, fun c => ?_⟩
  · rw [hd.2.2 0 4 (by decide) (by omega), m_trB_o (by omega) (by omega)]
    exact h4
  · have := ha c _ (m_done_of hd)
    rw [hd.2.1]
    exact this
  · exact hb c _ (m_rfd_of _ _ _)
