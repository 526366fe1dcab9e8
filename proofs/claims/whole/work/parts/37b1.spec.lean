set_option maxHeartbeats 1600000 in
theorem s_x_meanChalk (g : ch_G) (q : UInt64 → ch_M → Prop) (x : Nat → ch_M → Prop)  (m : ch_M) (h : (y_fls (ch_ob m 1 0)) ∧ ((¬ 12 - ch_cnO (ch_ob m 1 0 1) (-1) 12 = 0) → q (FP.ddiv (FP.i2d (y_sum (ch_ob m 1 0 2) 12)) (FP.i2d (12 - ch_cnO (ch_ob m 1 0 1) (-1) 12))) m) ∧ ((12 - ch_cnO (ch_ob m 1 0 1) (-1) 12 = 0) → x 5 m)) : ch_C g m_x_meanChalk [.inr (0, 0, 0)] m (ch_ox (ch_od q) x) := by
  refine e_x_meanChalk g _  m ?_
  obtain ⟨hf, ha, hb⟩ := h
  refine g_x_meanChalk_0 g _ _ ⟨fun c => ⟨?_, ?_⟩, fun c => ch_ox_od.mpr ⟨by decide, hb c⟩⟩
  · rcases hf with hf | hf
    · exact absurd hf c
    · exact hf
  · exact ch_ox_l.mpr (ch_od_iff.mpr (ha c))
set_option maxHeartbeats 1600000 in
theorem s_x_ownedShare (g : ch_G) (q : UInt32 → ch_M → Prop)  (m : ch_M) (h : q (FP.fdiv (FP.i2f (12 - ch_cnO (ch_ob m 1 0 1) (-1) 12)) 1094713344) m) : ch_C g m_x_ownedShare [.inr (0, 0, 0)] m (ch_of q) := by
  refine e_x_ownedShare g _  m ?_
  exact g_x_ownedShare_0 g _ _ ⟨y_flo_inv (ch_ob m 1 0), ch_of_iff.mpr h⟩
set_option maxHeartbeats 1600000 in
theorem s_m_meanChalk (g : ch_G) (q : UInt64 → ch_M → Prop) (Y_ : ch_B) (m : ch_M) (h : (m_rel Y_ (m (9, 0, 1))) ∧ (∀ i_, i_ < 12 → Y_ 1 i_ = -1 ∨ vp_in (Y_ 1 i_) 5) ∧ (y_fls Y_) ∧ ((¬ 12 - ch_cnO (Y_ 1) (-1) 12 = 0) → q (FP.ddiv (FP.i2d (y_sum (Y_ 2) 12)) (FP.i2d (12 - ch_cnO (Y_ 1) (-1) 12))) (ch_wr m (9, 0, 0) 19 0)) ∧ ((12 - ch_cnO (Y_ 1) (-1) 12 = 0) → q (FP.i2d 0) (ch_wr m (9, 0, 0) 19 1))) : ch_C g m_m_meanChalk [.inr (9, 0, 0)] m (ch_od q) := by
  refine e_m_meanChalk g _  m ?_
  obtain ⟨hr, ho, hf, ha, hb⟩ := h
  refine g_m_meanChalk_0 g _ _ ?_
  intro m1 e1
  have e2 : m1 (9, 0, 1) = m (9, 0, 1) := by rw [e1]; exact ch_wr_ne (by decide)
  refine ch_down (fun k => ch_J g m_m_meanChalk (ch_rm m_m_meanChalk) (ch_E g m_m_meanChalk (ch_od q)) 9 [some (.inr (9, 0, 0)), some (.inl (.int (y_sum (Y_ 2) k))), some (.inl (.int (nI k)))] [] m1 0) 12 ?_ ?_ 0 (by omega)
  · refine g_m_meanChalk_9 g _ _ _ _ ⟨fun _ => ?_, fun c => absurd (by decide) c⟩
    rw [e2]
    refine ⟨Y_, hr, ho, fun c => ⟨Y_, hr, ho, ?_, ch_od_iff.mpr ?_⟩, fun c m14 e14 => ch_od_iff.mpr ?_⟩
    · rcases hf with hf | hf
      · exact absurd hf c
      · exact hf
    · rw [e1]
      exact ha c
    · rw [e14, e1, ch_wr_wr]
      exact hb c
  · intro k hk ih
    obtain ⟨a1, a2, a3, a4⟩ := ch_k12 hk
    refine g_m_meanChalk_9 g _ _ _ _ ⟨fun c => absurd c a1, fun _ => ⟨a2, ?_⟩⟩
    rw [a3, a4, e2, m_ck hr hk]
    exact ih
set_option maxHeartbeats 1600000 in
theorem s_m_ownedShare (g : ch_G) (q : UInt32 → ch_M → Prop) (Y_ : ch_B) (m : ch_M) (h : (m_rel Y_ (m (9, 0, 1))) ∧ (∀ i_, i_ < 12 → Y_ 1 i_ = -1 ∨ vp_in (Y_ 1 i_) 5) ∧ q (FP.fdiv (FP.i2f (12 - ch_cnO (Y_ 1) (-1) 12)) 1094713344) (ch_wr m (9, 0, 0) 19 0)) : ch_C g m_m_ownedShare [.inr (9, 0, 0)] m (ch_of q) := by
  refine e_m_ownedShare g _  m ?_
  obtain ⟨hr, ho, hq⟩ := h
  refine g_m_ownedShare_0 g _ _ ?_
  intro m1 e1
  have e2 : m1 (9, 0, 1) = m (9, 0, 1) := by rw [e1]; exact ch_wr_ne (by decide)
  rw [e2]
  refine ⟨Y_, hr, ho, y_flo_inv Y_, ch_of_iff.mpr ?_⟩
  rw [e1]
  exact hq
