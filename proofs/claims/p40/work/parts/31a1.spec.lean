set_option maxHeartbeats 1600000 in
theorem s_x_meanChalk (g : ch_G) (q : UInt64 → ch_M → Prop) (x : Nat → ch_M → Prop)  (m : ch_M) (h : (y_fls (ch_ob m 1 0)) ∧ ((¬ 12 - ch_cnO (ch_ob m 1 0 1) (-1) 12 = 0) → q (FP.ddiv (FP.i2d (y_sum (ch_ob m 1 0 2) 12)) (FP.i2d (12 - ch_cnO (ch_ob m 1 0 1) (-1) 12))) m) ∧ ((12 - ch_cnO (ch_ob m 1 0 1) (-1) 12 = 0) → x 5 m)) : ch_C g m_x_meanChalk [.inr (0, 0, 0)] m (ch_ox (ch_od q) x) := by
  refine e_x_meanChalk g _  m ?_
  obtain ⟨hf, ha, hb⟩ := h
  refine g_x_meanChalk_0 g _ _ ⟨fun c => ⟨?_, ?_⟩, fun c => ch_ox_od.mpr ⟨by decide, hb c⟩⟩
  · rcases hf with hf | hf
    · exact absurd hf c
    · exact hf
  · exact ch_ox_l.mpr (ch_od_iff.mpr (ha c))
set_option maxHeartbeats 1600000 in
theorem s_x_ownedShare (g : ch_G) (q : UInt32 → ch_M → Prop)  (m : ch_M) (h : q (FP.fdiv (FP.i2f (12 - ch_cnO (ch_ob m 1 0 1) (-1) 12)) 1094713344) m) : ch_C g m_x_ownedShare [.inr (0, 0, 0)] m (ch_of q) := by
  refine e_x_ownedShare g _  m ?_
  exact g_x_ownedShare_0 g _ _ ⟨y_flo_inv (ch_ob m 1 0), ch_of_iff.mpr h⟩
