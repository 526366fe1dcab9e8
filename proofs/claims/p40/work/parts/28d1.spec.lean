def x_coR (Y : ch_B) (c w : Int32) : Int32 := if w = 0 then Y 3 c.toNatClampNeg else if w = 1 then Y 4 c.toNatClampNeg else if w = 2 then Y 5 c.toNatClampNeg else if w = 3 then ch_cnO (Y 1) c 12 else if w = 4 then y_scO (Y 1) (Y 2) c 12 else if w = 5 then Y 6 c.toNatClampNeg else Y 7 c.toNatClampNeg
set_option maxHeartbeats 1600000 in
theorem s_x_childOf (g : ch_G) (q : Int32 → ch_M → Prop) (x : Nat → ch_M → Prop) (p1 : Int32) (p2 : Int32) (m : ch_M) (h : (vp_in (m (1, 0, 0) 8) 6) ∧ (((0 ≤ p1 ∧ p1 < m (1, 0, 0) 8) ∧ 0 ≤ p2 ∧ p2 ≤ 6) → q (x_coR (ch_ob m 1 0) p1 p2) m) ∧ ((¬ (0 ≤ p1 ∧ p1 < m (1, 0, 0) 8)) → x 1 m) ∧ (((0 ≤ p1 ∧ p1 < m (1, 0, 0) 8) ∧ ¬ (0 ≤ p2 ∧ p2 ≤ 6)) → x 2 m)) : ch_C g m_x_childOf [.inr (0, 0, 0), .inl (.int p1), .inl (.int p2)] m (ch_ox (ch_oi q) x) := by
  refine e_x_childOf g _ p1 p2 m ?_
  obtain ⟨h1, ha, hb, hc⟩ := h
  refine g_x_childOf_0 g _ _ _ _ ?_
  simp only [ch_ox_l, ch_oi_iff, ch_ox_oi]
  refine ⟨fun c => ?_, fun c => ⟨by decide, hb c⟩⟩
  have v := ch_chd h1 c.1 c.2
  refine ⟨fun e => ?_, fun e => ?_, fun e => ?_, fun e => ?_, fun e => ?_, fun e => ?_, fun e => ?_, fun hx => ⟨by decide, hc ⟨c, fun z => ?_⟩⟩⟩
  · subst e
    exact ⟨v, ha ⟨c, by decide, by decide⟩⟩
  · subst e
    exact ⟨v, ha ⟨c, by decide, by decide⟩⟩
  · subst e
    exact ⟨v, ha ⟨c, by decide, by decide⟩⟩
  · subst e
    exact ha ⟨c, by decide, by decide⟩
  · subst e
    exact ha ⟨c, by decide, by decide⟩
  · subst e
    exact ⟨v, ha ⟨c, by decide, by decide⟩⟩
  · subst e
    exact ⟨v, ha ⟨c, by decide, by decide⟩⟩
  · have a := Int32.le_iff_toInt_le.mp z.1
    have b := Int32.le_iff_toInt_le.mp z.2
    have e0 : Int32.toInt 0 = 0 := by decide
    have e6 : Int32.toInt 6 = 6 := by decide
    omega
set_option maxHeartbeats 1600000 in
theorem s_x_append (g : ch_G) (q : Int32 → ch_M → Prop) (x : Nat → ch_M → Prop) (p1 : Int32) (m : ch_M) (h : (vp_in (m (6, 0, 0) 1) 61) ∧ ((m (6, 0, 0) 1 < 60) → q (m (6, 0, 0) 1 + 1) (ch_os m 6 0 (t_putB (ch_ob m 6 0) p1))) ∧ ((¬ m (6, 0, 0) 1 < 60) → x 4 m)) : ch_C g m_x_append [.inr (0, 0, 0), .inl (.int p1)] m (ch_ox (ch_oi q) x) := by
  refine e_x_append g _ p1 m ?_
  obtain ⟨h1, ha, hb⟩ := h
  refine g_x_append_0 g _ _ _ ?_
  simp only [ch_ox_l, ch_oi_iff, ch_ox_oi, forall_eq, ch_os_at]
  refine ⟨fun c => ⟨h1, ?_⟩, fun c => ⟨by decide, hb c⟩⟩
  have c2 : ¬ (60 : Int32) ≤ ch_ob m 6 0 0 1 := by
    show ¬ (60 : Int32) ≤ m (6, 0, 0) 1
    grind
  have e : t_putB (ch_ob m 6 0) p1 0 1 = m (6, 0, 0) 1 + 1 := by
    unfold t_putB
    rw [if_neg c2, ch_bw_at]
    rfl
  rw [e]
  exact ha c
set_option maxHeartbeats 1600000 in
theorem s_x_faultPosition (g : ch_G) (q : Int32 → ch_M → Prop)  (m : ch_M) (h : q (m (0, 0, 0) 13) m) : ch_C g m_x_faultPosition [.inr (0, 0, 0)] m (ch_oi q) := by
  refine e_x_faultPosition g _  m ?_
  exact g_x_faultPosition_0 g _ _ (ch_oi_iff.mpr h)
set_option maxHeartbeats 1600000 in
theorem s_x_reason (g : ch_G) (q : Int32 → ch_M → Prop) (x : Nat → ch_M → Prop) (p1 : Int32) (m : ch_M) (h : (((0 ≤ p1 ∧ p1 ≤ 2) ∧ ¬ m (3, 0, 0) 0 = 0) → q (if p1 = 0 then m (3, 0, 0) 0 else if p1 = 1 then m (3, 0, 0) 1 else m (3, 0, 0) 2) m) ∧ ((¬ (0 ≤ p1 ∧ p1 ≤ 2)) → x 2 m) ∧ (((0 ≤ p1 ∧ p1 ≤ 2) ∧ m (3, 0, 0) 0 = 0) → x 3 m)) : ch_C g m_x_reason [.inr (0, 0, 0), .inl (.int p1)] m (ch_ox (ch_oi q) x) := by
  refine e_x_reason g _ p1 m ?_
  refine g_x_reason_0 g _ _ _ ?_
  simp only [ch_ox_l, ch_oi_iff, ch_ox_oi]
  grind
set_option maxHeartbeats 1600000 in
theorem s_x_undo (g : ch_G) (q : Int32 → ch_M → Prop) (x : Nat → ch_M → Prop)  (m : ch_M) (h : (vp_in (m (2, 0, 0) 1) 8) ∧ ((¬ m (2, 0, 0) 2 = 0) → q (m (2, 0, 0) 2 - 1) (ch_os (ch_os m 1 0 (y_cp (ch_ob m 1 (4 + Int32.toNatClampNeg (m (2, 0, 0) 1))) (ch_ob m 1 0))) 2 0 (p_gB (ch_ob m 2 0)))) ∧ ((m (2, 0, 0) 2 = 0) → x 4 m)) : ch_C g m_x_undo [.inr (0, 0, 0)] m (ch_ox (ch_oi q) x) := by
  refine e_x_undo g _  m ?_
  obtain ⟨h1, ha, hb⟩ := h
  refine g_x_undo_0 g _ _ ?_
  simp only [ch_ox_l, ch_oi_iff, ch_ox_oi, forall_eq, ch_os_at]
  refine ⟨fun c => ⟨h1, ?_⟩, fun c => ⟨by decide, hb c⟩⟩
  have e : p_gB (ch_ob m 2 0) 0 2 = m (2, 0, 0) 2 - 1 := ch_bw_at _ _ _ _
  rw [e]
  exact ha c
set_option maxHeartbeats 1600000 in
theorem s_x_save (g : ch_G) (q : Int32 → ch_M → Prop)  (m : ch_M) (h : q (m (1, 0, 0) 8) (ch_wr (ch_os m 1 3 (y_cp (ch_ob m 1 0) (ch_ob m 1 3))) (0, 0, 0) 12 1)) : ch_C g m_x_save [.inr (0, 0, 0)] m (ch_oi q) := by
  refine e_x_save g _  m ?_
  refine g_x_save_0 g _ _ ?_
  intro m2 e2 m4 e4
  rw [ch_oi_iff]
  have e5 : m4 (1, 0, 0) 8 = m (1, 0, 0) 8 := by
    rw [e4, e2, ch_wr_ne (by decide)]
    exact congrFun (ch_os_ne (fun q => absurd (show (0 : Nat) = 3 from q.2) (by decide))) 8
  rw [e5, e4, e2]
  exact h
set_option maxHeartbeats 1600000 in
theorem s_x_restore (g : ch_G) (q : Int32 → ch_M → Prop) (x : Nat → ch_M → Prop)  (m : ch_M) (h : ((¬ m (0, 0, 0) 12 = 0) → q (m (1, 3, 0) 8) (ch_wr (ch_os m 1 0 (y_cp (ch_ob m 1 3) (ch_ob m 1 0))) (2, 0, 0) 2 0)) ∧ ((m (0, 0, 0) 12 = 0) → x 4 m)) : ch_C g m_x_restore [.inr (0, 0, 0)] m (ch_ox (ch_oi q) x) := by
  refine e_x_restore g _  m ?_
  obtain ⟨ha, hb⟩ := h
  refine g_x_restore_0 g _ _ ?_
  simp only [ch_ox_l, ch_oi_iff, ch_ox_oi]
  refine ⟨fun c m2 e2 m4 e4 => ?_, fun c => ⟨by decide, hb c⟩⟩
  have e5 : m4 (1, 0, 0) 8 = m (1, 3, 0) 8 := by
    rw [e4, e2, ch_wr_ne (by decide), ch_os_at]
    rfl
  rw [e5, e4, e2]
  exact ha c
def x_acR (Y : ch_B) (u t w : Int32) : Int32 := if w = 0 then Y 0 8 else if w = 1 then y_sum (Y 3) (Y 0 8).toNatClampNeg else if w = 2 then Y 0 10 else if w = 3 then 12 - ch_cnO (Y 1) (-1) 12 else if w = 4 then Y 0 9 else if w = 5 then Y 0 12 else if w = 6 then Y 0 13 else if w = 7 then Y 0 14 else if w = 8 then Y 0 15 else if w = 9 then Y 0 16 else if w = 10 then u else t
set_option maxHeartbeats 1600000 in
theorem s_x_account (g : ch_G) (q : Int32 → ch_M → Prop) (x : Nat → ch_M → Prop) (p1 : Int32) (m : ch_M) (h : (vp_in (m (1, 0, 0) 8) 6) ∧ ((0 ≤ p1 ∧ p1 ≤ 11) → q (x_acR (ch_ob m 1 0) (m (2, 0, 0) 2) (m (6, 0, 0) 1) p1) m) ∧ ((¬ (0 ≤ p1 ∧ p1 ≤ 11)) → x 2 m)) : ch_C g m_x_account [.inr (0, 0, 0), .inl (.int p1)] m (ch_ox (ch_oi q) x) := by
  refine e_x_account g _ p1 m ?_
  obtain ⟨h1, ha, hc⟩ := h
  refine g_x_account_0 g _ _ _ ?_
  simp only [ch_ox_l, ch_oi_iff, ch_ox_oi]
  refine ⟨fun e => ?_, fun e => ?_, fun e => ?_, fun e => ?_, fun e => ?_, fun e => ?_, fun e => ?_, fun e => ?_, fun e => ?_, fun e => ?_, fun e => ?_, fun e => ?_, fun hx => ⟨by decide, hc (fun z => ?_)⟩⟩
  · subst e
    exact ha ⟨by decide, by decide⟩
  · subst e
    exact ⟨h1, ha ⟨by decide, by decide⟩⟩
  · subst e
    exact ha ⟨by decide, by decide⟩
  · subst e
    exact ha ⟨by decide, by decide⟩
  · subst e
    exact ha ⟨by decide, by decide⟩
  · subst e
    exact ha ⟨by decide, by decide⟩
  · subst e
    exact ha ⟨by decide, by decide⟩
  · subst e
    exact ha ⟨by decide, by decide⟩
  · subst e
    exact ha ⟨by decide, by decide⟩
  · subst e
    exact ha ⟨by decide, by decide⟩
  · subst e
    exact ha ⟨by decide, by decide⟩
  · subst e
    exact ha ⟨by decide, by decide⟩
  · have a := Int32.le_iff_toInt_le.mp z.1
    have b := Int32.le_iff_toInt_le.mp z.2
    have e0 : Int32.toInt 0 = 0 := by decide
    have e6 : Int32.toInt 11 = 11 := by decide
    omega
