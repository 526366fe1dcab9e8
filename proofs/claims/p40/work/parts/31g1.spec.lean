def u_dl (d : UInt64) : Int64 := if (Op.cmpValue (FP.dcmp d d) .l) = 0 then UInt64.toInt64 d else 9221120237041090560
set_option maxHeartbeats 1600000 in
theorem s_u_doubleToLongBits (g : ch_G) (q : Int64 → ch_M → Prop) (p0 : UInt64) (m : ch_M) (h : q (u_dl p0) m) : ch_C g m_u_doubleToLongBits [.inl (.double p0)] m (ch_ol q) := by
  refine e_u_doubleToLongBits g _ p0 m ?_
  refine g_u_doubleToLongBits_0 g _ _ _ ?_
  unfold u_dl at h
  by_cases c : (Op.cmpValue (FP.dcmp p0 p0) .l) = 0
  · rw [if_pos c] at h ⊢
    exact ⟨fun z => absurd rfl z, fun _ => ch_ol_iff.mpr h⟩
  · rw [if_neg c] at h ⊢
    exact ⟨fun _ => ch_ol_iff.mpr h, fun z => absurd z (by decide)⟩
def f_fi (d : UInt32) : Int32 := if (Op.cmpValue (FP.fcmp d d) .l) = 0 then UInt32.toInt32 d else 2143289344
set_option maxHeartbeats 1600000 in
theorem s_f_floatToIntBits (g : ch_G) (q : Int32 → ch_M → Prop) (p0 : UInt32) (m : ch_M) (h : q (f_fi p0) m) : ch_C g m_f_floatToIntBits [.inl (.float p0)] m (ch_oi q) := by
  refine e_f_floatToIntBits g _ p0 m ?_
  refine g_f_floatToIntBits_0 g _ _ _ ?_
  unfold f_fi at h
  by_cases c : (Op.cmpValue (FP.fcmp p0 p0) .l) = 0
  · rw [if_pos c] at h ⊢
    exact ⟨fun z => absurd rfl z, fun _ => ch_oi_iff.mpr h⟩
  · rw [if_neg c] at h ⊢
    exact ⟨fun _ => ch_oi_iff.mpr h, fun z => absurd z (by decide)⟩
def l_atV (g : ch_G) (k : Int32) : Int32 := if k < Int32.ofNat (ch_scr g).2.1 then (ch_scr g).2.2 k.toNatClampNeg else 0
set_option maxHeartbeats 1600000 in
theorem s_l_at (g : ch_G) (q : Int32 → ch_M → Prop) (p1 : Int32) (m : ch_M) (h : (¬ p1 < 0) ∧ ((ch_scr g).2.1 < 2 ^ 31) ∧ q (l_atV g p1) m) : ch_C g m_l_at [.inr (11, 0, 0), .inl (.int p1)] m (ch_oi q) := by
  refine e_l_at g _ p1 m ?_
  refine g_l_at_0 g _ _ _ ?_
  obtain ⟨h1, h2, h3⟩ := h
  unfold l_atV at h3
  refine ⟨fun c => ?_, fun c => ?_⟩
  · rw [if_neg (Int32.not_lt.mpr c)] at h3
    exact ch_oi_iff.mpr h3
  · have c' := Int32.not_le.mp c
    rw [if_pos c'] at h3
    refine ⟨?_, ch_oi_iff.mpr h3⟩
    exact ch_vp h2 h1 c
def l_sm (v n : Int32) : Int32 := if 0 ≤ v - v / n * n then v - v / n * n else v - v / n * n + n
set_option maxHeartbeats 1600000 in
theorem s_l_some (g : ch_G) (q : Int32 → ch_M → Prop) (p0 : Int32) (p1 : Int32) (m : ch_M) (h : (¬ p1 = 0) ∧ q (l_sm p0 p1) m) : ch_C g m_l_some [.inl (.int p0), .inl (.int p1)] m (ch_oi q) := by
  refine e_l_some g _ p0 p1 m ?_
  refine g_l_some_0 g _ _ _ _ ⟨h.1, fun c => ?_, fun c => ?_⟩
  · have h2 := h.2
    unfold l_sm at h2
    rw [if_pos c] at h2
    exact ch_oi_iff.mpr h2
  · have h2 := h.2
    unfold l_sm at h2
    rw [if_neg c] at h2
    exact ch_oi_iff.mpr h2
