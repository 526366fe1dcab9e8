set_option maxHeartbeats 1600000 in
theorem s_u_isNaN (g : ch_G) (q : Int32 → ch_M → Prop) (p0 : UInt64) (m : ch_M) (h : q (if (Op.cmpValue (FP.dcmp p0 p0) .l) = 0 then (0 : Int32) else 1) m) : ch_C g m_u_isNaN [.inl (.double p0)] m (ch_oi q) := by
  refine e_u_isNaN g _ p0 m ?_
  refine g_u_isNaN_0 g _ _ _ ?_
  refine ⟨fun c => ?_, fun c => ?_⟩
  · rw [if_pos c] at h
    exact ch_oi_iff.mpr h
  · rw [if_neg c] at h
    exact ch_oi_iff.mpr h
set_option maxHeartbeats 1600000 in
theorem s_f_isNaN (g : ch_G) (q : Int32 → ch_M → Prop) (p0 : UInt32) (m : ch_M) (h : q (if (Op.cmpValue (FP.fcmp p0 p0) .l) = 0 then (0 : Int32) else 1) m) : ch_C g m_f_isNaN [.inl (.float p0)] m (ch_oi q) := by
  refine e_f_isNaN g _ p0 m ?_
  refine g_f_isNaN_0 g _ _ _ ?_
  refine ⟨fun c => ?_, fun c => ?_⟩
  · rw [if_pos c] at h
    exact ch_oi_iff.mpr h
  · rw [if_neg c] at h
    exact ch_oi_iff.mpr h
