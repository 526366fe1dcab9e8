theorem e_u_isNaN (g : ch_G) (Q : ch_O → ch_M → Prop) (p0 : UInt64) (m : ch_M) (h : ch_J g m_u_isNaN (ch_rm m_u_isNaN) (ch_E g m_u_isNaN Q) 0 [some (.inl (.double p0)), none] [] m 0) : ch_C g m_u_isNaN [.inl (.double p0)] m Q :=
  ch_enterD mf_u_isNaN (Nat.le_of_ble_eq_true rfl) rfl h
set_option maxHeartbeats 1600000 in
theorem g_u_isNaN_0 (g : ch_G) (Q : ch_O → ch_M → Prop) (p0 : UInt64) (m : ch_M) (h : (((Op.cmpValue (FP.dcmp p0 p0) .l) = 0 → Q (.inl (some (.inl (.int 0)))) m) ∧ (¬ (Op.cmpValue (FP.dcmp p0 p0) .l) = 0 → Q (.inl (some (.inl (.int 1)))) m))) : ch_J g m_u_isNaN (ch_rm m_u_isNaN) (ch_E g m_u_isNaN Q) 0 [some (.inl (.double p0)), none] [] m 0 := by
  refine ch_dload_n (i := 0) d_u_isNaN_0 rfl rfl ?_
  refine ch_dload_n (i := 0) d_u_isNaN_1 rfl rfl ?_
  refine ch_dcmp d_u_isNaN_2 ?_
  refine ch_if_eq (tgt := 10) d_u_isNaN_3 (by decide) (fun c => ?_) (fun c => ?_)
  · replace h := h.1 c
    refine ch_iconst (v := 0) d_u_isNaN_10 (by decide) ?_
    exact ch_iret (ty := .boolean) d_u_isNaN_11 rfl rfl (Nat.le_of_ble_eq_true rfl) h
  · replace h := h.2 c
    refine ch_iconst (v := 1) d_u_isNaN_6 (by decide) ?_
    refine ch_goto (tgt := 11) d_u_isNaN_7 (by decide) ?_
    exact ch_iret (ty := .boolean) d_u_isNaN_11 rfl rfl (Nat.le_of_ble_eq_true rfl) h
theorem e_f_isNaN (g : ch_G) (Q : ch_O → ch_M → Prop) (p0 : UInt32) (m : ch_M) (h : ch_J g m_f_isNaN (ch_rm m_f_isNaN) (ch_E g m_f_isNaN Q) 0 [some (.inl (.float p0))] [] m 0) : ch_C g m_f_isNaN [.inl (.float p0)] m Q :=
  ch_enter mf_f_isNaN (by intro v hv; simp only [List.mem_cons, List.not_mem_nil, or_false] at hv; rcases hv with rfl <;> rfl) (Nat.le_of_ble_eq_true rfl) h
set_option maxHeartbeats 1600000 in
theorem g_f_isNaN_0 (g : ch_G) (Q : ch_O → ch_M → Prop) (p0 : UInt32) (m : ch_M) (h : (((Op.cmpValue (FP.fcmp p0 p0) .l) = 0 → Q (.inl (some (.inl (.int 0)))) m) ∧ (¬ (Op.cmpValue (FP.fcmp p0 p0) .l) = 0 → Q (.inl (some (.inl (.int 1)))) m))) : ch_J g m_f_isNaN (ch_rm m_f_isNaN) (ch_E g m_f_isNaN Q) 0 [some (.inl (.float p0))] [] m 0 := by
  refine ch_fload_n (i := 0) d_f_isNaN_0 rfl rfl ?_
  refine ch_fload_n (i := 0) d_f_isNaN_1 rfl rfl ?_
  refine ch_fcmp d_f_isNaN_2 ?_
  refine ch_if_eq (tgt := 10) d_f_isNaN_3 (by decide) (fun c => ?_) (fun c => ?_)
  · replace h := h.1 c
    refine ch_iconst (v := 0) d_f_isNaN_10 (by decide) ?_
    exact ch_iret (ty := .boolean) d_f_isNaN_11 rfl rfl (Nat.le_of_ble_eq_true rfl) h
  · replace h := h.2 c
    refine ch_iconst (v := 1) d_f_isNaN_6 (by decide) ?_
    refine ch_goto (tgt := 11) d_f_isNaN_7 (by decide) ?_
    exact ch_iret (ty := .boolean) d_f_isNaN_11 rfl rfl (Nat.le_of_ble_eq_true rfl) h
