def x_F (m : ch_M) : Int32 × ch_M := d_ff 0 60 (x_p0 m)
def x_cl (m : ch_M) : ch_M := ch_wr m (6, 0, 0) 1 0
def x_f1 (m : ch_M) : ch_M := ch_wr (x_F m).2 (0, 0, 0) 13 (x_F m).1
def x_b (m : ch_M) : ch_M := ch_os (x_f1 m) 1 1 (y_cp (ch_ob (x_f1 m) 1 0) (ch_ob (x_f1 m) 1 1))
noncomputable def x_cc (m : ch_M) : Int32 × ch_M := x_ct 60 0 (x_p0 (x_b m))
noncomputable def x_c3 (m : ch_M) : ch_M := x_cl (x_cc m).2
set_option maxHeartbeats 1600000 in
theorem s_x_commands (g : ch_G) (q : Int32 → ch_M → Prop) (x : Nat → ch_M → Prop)  (m : ch_M) (h : ((x_F m).1 = -1 → x_ok 60 (x_p0 (x_b m)) ∧ (¬ (x_cc m).1 = 0 → vp_in (x_c3 m (2, 0, 0) 1) 8)) ∧ (((x_F m).1 = -1 ∧ ¬ (x_cc m).1 = 0) → q ((x_cc m).1) (p_kM (x_c3 m) 1)) ∧ ((¬ (x_F m).1 = -1) → x 2 (x_cl (x_f1 m))) ∧ (((x_F m).1 = -1 ∧ (x_cc m).1 = 0) → x 0 (ch_os (x_c3 m) 1 0 (y_cp (ch_ob (x_c3 m) 1 1) (ch_ob (x_c3 m) 1 0))))) : ch_C g m_x_commands [.inr (0, 0, 0)] m (ch_ox (ch_oi q) x) := by
  refine e_x_commands g _  m ?_
  obtain ⟨h1, ha, hb, hc⟩ := h
  refine g_x_commands_0 g _ _ ?_
  intro m2 e2 m4 e4
  have f4 : m4 = x_f1 m := by rw [e4, e2]; rfl
  clear e2 e4
  subst f4
  have r : x_f1 m (0, 0, 0) 13 = (x_F m).1 := by
    unfold x_f1 ch_wr
    rw [if_pos ⟨rfl, rfl⟩]
  rw [r]
  refine ⟨fun c m6 e6 => ?_, fun c m20 e20 => ?_⟩
  · have f6 : m6 = x_b m := e6
    clear e6
    subst f6
    obtain ⟨o1, o2⟩ := h1 c
    refine ⟨o1, fun m9 e9 m12 e12 => ?_⟩
    have f12 : m12 = x_c3 m := by rw [e12, e9]; rfl
    clear e9 e12
    subst f12
    refine ⟨fun d => ⟨o2 d, fun m14 e14 => ?_⟩, fun d m18 e18 => ?_⟩
    · have f14 : m14 = p_kM (x_c3 m) 1 := e14
      rw [f14]
      exact ch_ox_l.mpr (ch_oi_iff.mpr (ha ⟨c, d⟩))
    · rw [e18]
      exact ch_ox_oi.mpr ⟨by decide, hc ⟨c, d⟩⟩
  · have f20 : m20 = x_cl (x_f1 m) := e20
    rw [f20]
    exact ch_ox_oi.mpr ⟨by decide, hb c⟩
