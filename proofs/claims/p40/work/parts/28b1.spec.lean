def x_K (m : ch_M) (a b c d : Int32) : ch_M := ch_os m 4 0 (c_setB (ch_ob m 4 0) a b c d)
def x_S (m : ch_M) (p : Int32) : ch_M := ch_os m 5 0 (s_rfB (ch_ob m 5 0) p)
set_option maxHeartbeats 1600000 in
theorem s_x_child (g : ch_G) (q : Int32 → ch_M → Prop) (x : Nat → ch_M → Prop) (p1 : Int32) (m : ch_M) (h : (vp_in ((x_K m 110 0 0 p1) (1, 0, 0) 8) 6) ∧ (vp_in ((x_K m 110 0 0 p1) (5, 0, 0) 1) 13) ∧ (vp_in ((x_K m 110 0 0 p1) (2, 0, 0) 1) 8) ∧ ((x_R (x_K m 110 0 0 p1)).1 = 0 → y_carP (ch_ob (x_K m 110 0 0 p1) 1 0) (ch_ob (x_K m 110 0 0 p1) 4 0) ((x_K m 110 0 0 p1) (5, 0, 0) 1)) ∧ (((x_R (x_K m 110 0 0 p1)).1 = 0) → q ((x_C (x_K m 110 0 0 p1)).1) (ch_os (p_kM (x_K m 110 0 0 p1) 0) 1 0 (x_C (x_K m 110 0 0 p1)).2)) ∧ ((¬ (x_R (x_K m 110 0 0 p1)).1 = 0) → x 0 (r_kp (x_K m 110 0 0 p1) (x_R (x_K m 110 0 0 p1)).1 (x_R (x_K m 110 0 0 p1)).2))) : ch_C g m_x_child [.inr (0, 0, 0), .inl (.int p1)] m (ch_ox (ch_oi q) x) := by
  refine e_x_child g _ p1 m ?_
  obtain ⟨h1, h2, h3, h4, ha, hb⟩ := h
  refine g_x_child_0 g _ _ _ ?_
  intro m2 e2
  subst e2
  exact ⟨h1, h2, h3, h4, fun c m5 e5 => by subst e5; exact ch_ox_l.mpr (ch_oi_iff.mpr (ha c)), fun c m5 e5 => by subst e5; exact ch_ox_oi.mpr ⟨by decide, hb c⟩⟩
set_option maxHeartbeats 1600000 in
theorem s_x_chalk (g : ch_G) (q : Int32 → ch_M → Prop) (x : Nat → ch_M → Prop) (p1 : Int32) (p2 : Int32) (m : ch_M) (h : (vp_in ((x_K m 99 p1 0 p2) (1, 0, 0) 8) 6) ∧ (vp_in ((x_K m 99 p1 0 p2) (5, 0, 0) 1) 13) ∧ (vp_in ((x_K m 99 p1 0 p2) (2, 0, 0) 1) 8) ∧ ((x_R (x_K m 99 p1 0 p2)).1 = 0 → y_carP (ch_ob (x_K m 99 p1 0 p2) 1 0) (ch_ob (x_K m 99 p1 0 p2) 4 0) ((x_K m 99 p1 0 p2) (5, 0, 0) 1)) ∧ (((x_R (x_K m 99 p1 0 p2)).1 = 0) → q ((x_C (x_K m 99 p1 0 p2)).1) (ch_os (p_kM (x_K m 99 p1 0 p2) 0) 1 0 (x_C (x_K m 99 p1 0 p2)).2)) ∧ ((¬ (x_R (x_K m 99 p1 0 p2)).1 = 0) → x 0 (r_kp (x_K m 99 p1 0 p2) (x_R (x_K m 99 p1 0 p2)).1 (x_R (x_K m 99 p1 0 p2)).2))) : ch_C g m_x_chalk [.inr (0, 0, 0), .inl (.int p1), .inl (.int p2)] m (ch_ox (ch_oi q) x) := by
  refine e_x_chalk g _ p1 p2 m ?_
  obtain ⟨h1, h2, h3, h4, ha, hb⟩ := h
  refine g_x_chalk_0 g _ _ _ _ ?_
  intro m2 e2
  subst e2
  exact ⟨h1, h2, h3, h4, fun c m5 e5 => by subst e5; exact ch_ox_l.mpr (ch_oi_iff.mpr (ha c)), fun c m5 e5 => by subst e5; exact ch_ox_oi.mpr ⟨by decide, hb c⟩⟩
set_option maxHeartbeats 1600000 in
theorem s_x_hop (g : ch_G) (q : Int32 → ch_M → Prop) (x : Nat → ch_M → Prop) (p1 : Int32) (p2 : Int32) (m : ch_M) (h : (vp_in ((x_S (x_K m 104 p1 0 0) p2) (1, 0, 0) 8) 6) ∧ (vp_in ((x_S (x_K m 104 p1 0 0) p2) (5, 0, 0) 1) 13) ∧ (vp_in ((x_S (x_K m 104 p1 0 0) p2) (2, 0, 0) 1) 8) ∧ ((x_R (x_S (x_K m 104 p1 0 0) p2)).1 = 0 → y_carP (ch_ob (x_S (x_K m 104 p1 0 0) p2) 1 0) (ch_ob (x_S (x_K m 104 p1 0 0) p2) 4 0) ((x_S (x_K m 104 p1 0 0) p2) (5, 0, 0) 1)) ∧ (((x_R (x_S (x_K m 104 p1 0 0) p2)).1 = 0) → q ((x_C (x_S (x_K m 104 p1 0 0) p2)).1) (ch_os (p_kM (x_S (x_K m 104 p1 0 0) p2) 0) 1 0 (x_C (x_S (x_K m 104 p1 0 0) p2)).2)) ∧ ((¬ (x_R (x_S (x_K m 104 p1 0 0) p2)).1 = 0) → x 0 (r_kp (x_S (x_K m 104 p1 0 0) p2) (x_R (x_S (x_K m 104 p1 0 0) p2)).1 (x_R (x_S (x_K m 104 p1 0 0) p2)).2))) : ch_C g m_x_hop [.inr (0, 0, 0), .inl (.int p1), .inl (.int p2)] m (ch_ox (ch_oi q) x) := by
  refine e_x_hop g _ p1 p2 m ?_
  obtain ⟨h1, h2, h3, h4, ha, hb⟩ := h
  refine g_x_hop_0 g _ _ _ _ ?_
  intro m1 e1 m2 e2
  subst e1
  subst e2
  exact ⟨h1, h2, h3, h4, fun c m5 e5 => by subst e5; exact ch_ox_l.mpr (ch_oi_iff.mpr (ha c)), fun c m5 e5 => by subst e5; exact ch_ox_oi.mpr ⟨by decide, hb c⟩⟩
set_option maxHeartbeats 1600000 in
theorem s_x_warrant (g : ch_G) (q : Int32 → ch_M → Prop) (x : Nat → ch_M → Prop) (p1 : Int32) (m : ch_M) (h : (vp_in ((x_K m 119 p1 0 0) (1, 0, 0) 8) 6) ∧ (vp_in ((x_K m 119 p1 0 0) (5, 0, 0) 1) 13) ∧ (vp_in ((x_K m 119 p1 0 0) (2, 0, 0) 1) 8) ∧ ((x_R (x_K m 119 p1 0 0)).1 = 0 → y_carP (ch_ob (x_K m 119 p1 0 0) 1 0) (ch_ob (x_K m 119 p1 0 0) 4 0) ((x_K m 119 p1 0 0) (5, 0, 0) 1)) ∧ (((x_R (x_K m 119 p1 0 0)).1 = 0) → q ((x_C (x_K m 119 p1 0 0)).1) (ch_os (p_kM (x_K m 119 p1 0 0) 0) 1 0 (x_C (x_K m 119 p1 0 0)).2)) ∧ ((¬ (x_R (x_K m 119 p1 0 0)).1 = 0) → x 0 (r_kp (x_K m 119 p1 0 0) (x_R (x_K m 119 p1 0 0)).1 (x_R (x_K m 119 p1 0 0)).2))) : ch_C g m_x_warrant [.inr (0, 0, 0), .inl (.int p1)] m (ch_ox (ch_oi q) x) := by
  refine e_x_warrant g _ p1 m ?_
  obtain ⟨h1, h2, h3, h4, ha, hb⟩ := h
  refine g_x_warrant_0 g _ _ _ ?_
  intro m2 e2
  subst e2
  exact ⟨h1, h2, h3, h4, fun c m5 e5 => by subst e5; exact ch_ox_l.mpr (ch_oi_iff.mpr (ha c)), fun c m5 e5 => by subst e5; exact ch_ox_oi.mpr ⟨by decide, hb c⟩⟩
set_option maxHeartbeats 1600000 in
theorem s_x_strike (g : ch_G) (q : Int32 → ch_M → Prop) (x : Nat → ch_M → Prop) (p1 : Int32) (m : ch_M) (h : (vp_in ((x_K m 115 p1 0 0) (1, 0, 0) 8) 6) ∧ (vp_in ((x_K m 115 p1 0 0) (5, 0, 0) 1) 13) ∧ (vp_in ((x_K m 115 p1 0 0) (2, 0, 0) 1) 8) ∧ ((x_R (x_K m 115 p1 0 0)).1 = 0 → y_carP (ch_ob (x_K m 115 p1 0 0) 1 0) (ch_ob (x_K m 115 p1 0 0) 4 0) ((x_K m 115 p1 0 0) (5, 0, 0) 1)) ∧ (((x_R (x_K m 115 p1 0 0)).1 = 0) → q ((x_C (x_K m 115 p1 0 0)).1) (ch_os (p_kM (x_K m 115 p1 0 0) 0) 1 0 (x_C (x_K m 115 p1 0 0)).2)) ∧ ((¬ (x_R (x_K m 115 p1 0 0)).1 = 0) → x 0 (r_kp (x_K m 115 p1 0 0) (x_R (x_K m 115 p1 0 0)).1 (x_R (x_K m 115 p1 0 0)).2))) : ch_C g m_x_strike [.inr (0, 0, 0), .inl (.int p1)] m (ch_ox (ch_oi q) x) := by
  refine e_x_strike g _ p1 m ?_
  obtain ⟨h1, h2, h3, h4, ha, hb⟩ := h
  refine g_x_strike_0 g _ _ _ ?_
  intro m2 e2
  subst e2
  exact ⟨h1, h2, h3, h4, fun c m5 e5 => by subst e5; exact ch_ox_l.mpr (ch_oi_iff.mpr (ha c)), fun c m5 e5 => by subst e5; exact ch_ox_oi.mpr ⟨by decide, hb c⟩⟩
set_option maxHeartbeats 1600000 in
theorem s_x_rain (g : ch_G) (q : Int32 → ch_M → Prop) (x : Nat → ch_M → Prop) (p1 : Int32) (m : ch_M) (h : (vp_in ((x_K m 114 0 0 p1) (1, 0, 0) 8) 6) ∧ (vp_in ((x_K m 114 0 0 p1) (5, 0, 0) 1) 13) ∧ (vp_in ((x_K m 114 0 0 p1) (2, 0, 0) 1) 8) ∧ ((x_R (x_K m 114 0 0 p1)).1 = 0 → y_carP (ch_ob (x_K m 114 0 0 p1) 1 0) (ch_ob (x_K m 114 0 0 p1) 4 0) ((x_K m 114 0 0 p1) (5, 0, 0) 1)) ∧ (((x_R (x_K m 114 0 0 p1)).1 = 0) → q ((x_C (x_K m 114 0 0 p1)).1) (ch_os (p_kM (x_K m 114 0 0 p1) 0) 1 0 (x_C (x_K m 114 0 0 p1)).2)) ∧ ((¬ (x_R (x_K m 114 0 0 p1)).1 = 0) → x 0 (r_kp (x_K m 114 0 0 p1) (x_R (x_K m 114 0 0 p1)).1 (x_R (x_K m 114 0 0 p1)).2))) : ch_C g m_x_rain [.inr (0, 0, 0), .inl (.int p1)] m (ch_ox (ch_oi q) x) := by
  refine e_x_rain g _ p1 m ?_
  obtain ⟨h1, h2, h3, h4, ha, hb⟩ := h
  refine g_x_rain_0 g _ _ _ ?_
  intro m2 e2
  subst e2
  exact ⟨h1, h2, h3, h4, fun c m5 e5 => by subst e5; exact ch_ox_l.mpr (ch_oi_iff.mpr (ha c)), fun c m5 e5 => by subst e5; exact ch_ox_oi.mpr ⟨by decide, hb c⟩⟩
set_option maxHeartbeats 1600000 in
theorem s_x_term (g : ch_G) (q : Int32 → ch_M → Prop) (x : Nat → ch_M → Prop)  (m : ch_M) (h : (vp_in ((x_K m 116 0 0 0) (1, 0, 0) 8) 6) ∧ (vp_in ((x_K m 116 0 0 0) (5, 0, 0) 1) 13) ∧ (vp_in ((x_K m 116 0 0 0) (2, 0, 0) 1) 8) ∧ ((x_R (x_K m 116 0 0 0)).1 = 0 → y_carP (ch_ob (x_K m 116 0 0 0) 1 0) (ch_ob (x_K m 116 0 0 0) 4 0) ((x_K m 116 0 0 0) (5, 0, 0) 1)) ∧ (((x_R (x_K m 116 0 0 0)).1 = 0) → q ((x_C (x_K m 116 0 0 0)).1) (ch_os (p_kM (x_K m 116 0 0 0) 0) 1 0 (x_C (x_K m 116 0 0 0)).2)) ∧ ((¬ (x_R (x_K m 116 0 0 0)).1 = 0) → x 0 (r_kp (x_K m 116 0 0 0) (x_R (x_K m 116 0 0 0)).1 (x_R (x_K m 116 0 0 0)).2))) : ch_C g m_x_term [.inr (0, 0, 0)] m (ch_ox (ch_oi q) x) := by
  refine e_x_term g _  m ?_
  obtain ⟨h1, h2, h3, h4, ha, hb⟩ := h
  refine g_x_term_0 g _ _ ?_
  intro m2 e2
  subst e2
  exact ⟨h1, h2, h3, h4, fun c m5 e5 => by subst e5; exact ch_ox_l.mpr (ch_oi_iff.mpr (ha c)), fun c m5 e5 => by subst e5; exact ch_ox_oi.mpr ⟨by decide, hb c⟩⟩
set_option maxHeartbeats 1600000 in
theorem s_x_give (g : ch_G) (q : Int32 → ch_M → Prop) (x : Nat → ch_M → Prop) (p1 : Int32) (p2 : Int32) (p3 : Int32) (m : ch_M) (h : (vp_in ((x_K m 103 p1 p2 p3) (1, 0, 0) 8) 6) ∧ (vp_in ((x_K m 103 p1 p2 p3) (5, 0, 0) 1) 13) ∧ (vp_in ((x_K m 103 p1 p2 p3) (2, 0, 0) 1) 8) ∧ ((x_R (x_K m 103 p1 p2 p3)).1 = 0 → y_carP (ch_ob (x_K m 103 p1 p2 p3) 1 0) (ch_ob (x_K m 103 p1 p2 p3) 4 0) ((x_K m 103 p1 p2 p3) (5, 0, 0) 1)) ∧ (((x_R (x_K m 103 p1 p2 p3)).1 = 0) → q ((x_C (x_K m 103 p1 p2 p3)).1) (ch_os (p_kM (x_K m 103 p1 p2 p3) 0) 1 0 (x_C (x_K m 103 p1 p2 p3)).2)) ∧ ((¬ (x_R (x_K m 103 p1 p2 p3)).1 = 0) → x 0 (r_kp (x_K m 103 p1 p2 p3) (x_R (x_K m 103 p1 p2 p3)).1 (x_R (x_K m 103 p1 p2 p3)).2))) : ch_C g m_x_give [.inr (0, 0, 0), .inl (.int p1), .inl (.int p2), .inl (.int p3)] m (ch_ox (ch_oi q) x) := by
  refine e_x_give g _ p1 p2 p3 m ?_
  obtain ⟨h1, h2, h3, h4, ha, hb⟩ := h
  refine g_x_give_0 g _ _ _ _ _ ?_
  intro m2 e2
  subst e2
  exact ⟨h1, h2, h3, h4, fun c m5 e5 => by subst e5; exact ch_ox_l.mpr (ch_oi_iff.mpr (ha c)), fun c m5 e5 => by subst e5; exact ch_ox_oi.mpr ⟨by decide, hb c⟩⟩
