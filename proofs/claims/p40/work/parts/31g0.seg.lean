theorem e_u_doubleToLongBits (g : ch_G) (Q : ch_O → ch_M → Prop) (p0 : UInt64) (m : ch_M) (h : ch_J g m_u_doubleToLongBits (ch_rm m_u_doubleToLongBits) (ch_E g m_u_doubleToLongBits Q) 0 [some (.inl (.double p0)), none] [] m 0) : ch_C g m_u_doubleToLongBits [.inl (.double p0)] m Q :=
  ch_enterD mf_u_doubleToLongBits (Nat.le_of_ble_eq_true rfl) rfl h
set_option maxHeartbeats 1600000 in
theorem g_u_doubleToLongBits_0 (g : ch_G) (Q : ch_O → ch_M → Prop) (p0 : UInt64) (m : ch_M) (h : (((¬ (if (Op.cmpValue (FP.dcmp p0 p0) .l) = 0 then (0 : Int32) else 1) = 0 → Q (.inl (some (.inl (.long 9221120237041090560)))) m) ∧ ((if (Op.cmpValue (FP.dcmp p0 p0) .l) = 0 then (0 : Int32) else 1) = 0 → Q (.inl (some (.inl (.long (UInt64.toInt64 p0))))) m)))) : ch_J g m_u_doubleToLongBits (ch_rm m_u_doubleToLongBits) (ch_E g m_u_doubleToLongBits Q) 0 [some (.inl (.double p0)), none] [] m 0 := by
  refine ch_dload_n (i := 0) d_u_doubleToLongBits_0 rfl rfl ?_
  refine ch_callS (as := [.inl (.double p0)]) d_u_doubleToLongBits_1 lk_u_122 ms_u_isNaN rfl rfl ⟨Nat.le_of_ble_eq_true rfl, Nat.le_of_ble_eq_true rfl⟩ (Nat.le_of_ble_eq_true rfl) ⟨Nat.le_of_ble_eq_true rfl, Nat.le_of_ble_eq_true rfl⟩ (ch_mono (ch_Ki (fun r1 m2 q3 => ?_)) (s_u_isNaN g (fun (r_ : Int32) (m_ : ch_M) => ((if (Op.cmpValue (FP.dcmp p0 p0) .l) = 0 then (0 : Int32) else 1) = r_ ∧ m = m_)) (p0) m ⟨rfl, rfl⟩))
  obtain ⟨rfl, rfl⟩ := q3
  replace h := h
  refine ch_if_ne (tgt := 12) d_u_doubleToLongBits_4 (by decide) (fun c => ?_) (fun c => ?_)
  · replace h := h.1 c
    refine ch_ldc2 (v := 9221120237041090560) d_u_doubleToLongBits_12 lc_u_137 ?_
    exact ch_lret d_u_doubleToLongBits_15 rfl (Nat.le_of_ble_eq_true rfl) h
  · replace h := h.2 c
    refine ch_dload_n (i := 0) d_u_doubleToLongBits_7 rfl rfl ?_
    refine ch_d2l d_u_doubleToLongBits_8 lk_u_134 ⟨Nat.le_of_ble_eq_true rfl, Nat.le_of_ble_eq_true rfl⟩ (Nat.le_of_ble_eq_true rfl) ?_
    exact ch_lret d_u_doubleToLongBits_11 rfl (Nat.le_of_ble_eq_true rfl) h
theorem e_f_floatToIntBits (g : ch_G) (Q : ch_O → ch_M → Prop) (p0 : UInt32) (m : ch_M) (h : ch_J g m_f_floatToIntBits (ch_rm m_f_floatToIntBits) (ch_E g m_f_floatToIntBits Q) 0 [some (.inl (.float p0))] [] m 0) : ch_C g m_f_floatToIntBits [.inl (.float p0)] m Q :=
  ch_enter mf_f_floatToIntBits (by intro v hv; simp only [List.mem_cons, List.not_mem_nil, or_false] at hv; rcases hv with rfl <;> rfl) (Nat.le_of_ble_eq_true rfl) h
set_option maxHeartbeats 1600000 in
theorem g_f_floatToIntBits_0 (g : ch_G) (Q : ch_O → ch_M → Prop) (p0 : UInt32) (m : ch_M) (h : (((¬ (if (Op.cmpValue (FP.fcmp p0 p0) .l) = 0 then (0 : Int32) else 1) = 0 → Q (.inl (some (.inl (.int 2143289344)))) m) ∧ ((if (Op.cmpValue (FP.fcmp p0 p0) .l) = 0 then (0 : Int32) else 1) = 0 → Q (.inl (some (.inl (.int (UInt32.toInt32 p0))))) m)))) : ch_J g m_f_floatToIntBits (ch_rm m_f_floatToIntBits) (ch_E g m_f_floatToIntBits Q) 0 [some (.inl (.float p0))] [] m 0 := by
  refine ch_fload_n (i := 0) d_f_floatToIntBits_0 rfl rfl ?_
  refine ch_callS (as := [.inl (.float p0)]) d_f_floatToIntBits_1 lk_f_59 ms_f_isNaN rfl rfl ⟨Nat.le_of_ble_eq_true rfl, Nat.le_of_ble_eq_true rfl⟩ (Nat.le_of_ble_eq_true rfl) ⟨Nat.le_of_ble_eq_true rfl, Nat.le_of_ble_eq_true rfl⟩ (ch_mono (ch_Ki (fun r1 m2 q3 => ?_)) (s_f_isNaN g (fun (r_ : Int32) (m_ : ch_M) => ((if (Op.cmpValue (FP.fcmp p0 p0) .l) = 0 then (0 : Int32) else 1) = r_ ∧ m = m_)) (p0) m ⟨rfl, rfl⟩))
  obtain ⟨rfl, rfl⟩ := q3
  replace h := h
  refine ch_if_ne (tgt := 12) d_f_floatToIntBits_4 (by decide) (fun c => ?_) (fun c => ?_)
  · replace h := h.1 c
    refine ch_ldc d_f_floatToIntBits_12 lc_f_77 ?_
    exact ch_iret (ty := .int) d_f_floatToIntBits_14 rfl rfl (Nat.le_of_ble_eq_true rfl) h
  · replace h := h.2 c
    refine ch_fload_n (i := 0) d_f_floatToIntBits_7 rfl rfl ?_
    refine ch_f2i d_f_floatToIntBits_8 lk_f_74 ⟨Nat.le_of_ble_eq_true rfl, Nat.le_of_ble_eq_true rfl⟩ (Nat.le_of_ble_eq_true rfl) ?_
    exact ch_iret (ty := .int) d_f_floatToIntBits_11 rfl rfl (Nat.le_of_ble_eq_true rfl) h
theorem e_l_at (g : ch_G) (Q : ch_O → ch_M → Prop) (p1 : Int32) (m : ch_M) (h : ch_J g m_l_at (ch_rm m_l_at) (ch_E g m_l_at Q) 0 [some (.inr (11, 0, 0)), some (.inl (.int p1))] [] m 0) : ch_C g m_l_at [.inr (11, 0, 0), .inl (.int p1)] m Q :=
  ch_enter mf_l_at (by intro v hv; simp only [List.mem_cons, List.not_mem_nil, or_false] at hv; rcases hv with rfl | rfl <;> rfl) (Nat.le_of_ble_eq_true rfl) h
set_option maxHeartbeats 1600000 in
theorem g_l_at_0 (g : ch_G) (Q : ch_O → ch_M → Prop) (p1 : Int32) (m : ch_M) (h : (((Int32.ofNat (ch_scr g).2.1) ≤ p1 → Q (.inl (some (.inl (.int 0)))) m) ∧ (¬ (Int32.ofNat (ch_scr g).2.1) ≤ p1 → (vp_in p1 (ch_scr g).2.1) ∧ Q (.inl (some (.inl (.int ((ch_scr g).2.2 (Int32.toNatClampNeg p1)))))) m))) : ch_J g m_l_at (ch_rm m_l_at) (ch_E g m_l_at Q) 0 [some (.inr (11, 0, 0)), some (.inl (.int p1))] [] m 0 := by
  refine ch_iload_n (i := 1) d_l_at_0 rfl rfl ?_
  refine ch_aload_n (i := 0) d_l_at_1 rfl rfl ?_
  refine ch_slen d_l_at_2 ?_
  refine ch_icmp_ge (tgt := 12) d_l_at_3 (by decide) (fun c => ?_) (fun c => ?_)
  · replace h := h.1 c
    refine ch_iconst (v := 0) d_l_at_12 (by decide) ?_
    exact ch_iret (ty := .int) d_l_at_13 rfl rfl (Nat.le_of_ble_eq_true rfl) h
  · replace h := h.2 c
    refine ch_aload_n (i := 0) d_l_at_6 rfl rfl ?_
    refine ch_iload_n (i := 1) d_l_at_7 rfl rfl ?_
    have b1 := h.1
    replace h := h.2
    refine ch_sld d_l_at_8 b1 ?_
    refine ch_goto (tgt := 13) d_l_at_9 (by decide) ?_
    exact ch_iret (ty := .int) d_l_at_13 rfl rfl (Nat.le_of_ble_eq_true rfl) h
theorem e_l_some (g : ch_G) (Q : ch_O → ch_M → Prop) (p0 : Int32) (p1 : Int32) (m : ch_M) (h : ch_J g m_l_some (ch_rm m_l_some) (ch_E g m_l_some Q) 0 [some (.inl (.int p0)), some (.inl (.int p1)), none] [] m 0) : ch_C g m_l_some [.inl (.int p0), .inl (.int p1)] m Q :=
  ch_enter mf_l_some (by intro v hv; simp only [List.mem_cons, List.not_mem_nil, or_false] at hv; rcases hv with rfl | rfl <;> rfl) (Nat.le_of_ble_eq_true rfl) h
set_option maxHeartbeats 1600000 in
theorem g_l_some_0 (g : ch_G) (Q : ch_O → ch_M → Prop) (p0 : Int32) (p1 : Int32) (m : ch_M) (h : (¬ p1 = 0) ∧ ((0 ≤ (p0 - p0 / p1 * p1) → Q (.inl (some (.inl (.int (p0 - p0 / p1 * p1))))) m) ∧ (¬ 0 ≤ (p0 - p0 / p1 * p1) → Q (.inl (some (.inl (.int ((p0 - p0 / p1 * p1) + p1))))) m))) : ch_J g m_l_some (ch_rm m_l_some) (ch_E g m_l_some Q) 0 [some (.inl (.int p0)), some (.inl (.int p1)), none] [] m 0 := by
  refine ch_iload_n (i := 0) d_l_some_0 rfl rfl ?_
  refine ch_iload_n (i := 1) d_l_some_1 rfl rfl ?_
  refine ch_irem d_l_some_2 h.1 ?_
  replace h := h.2
  refine ch_istore_n (i := 2) d_l_some_3 rfl (Nat.le_of_ble_eq_true rfl) (ls' := [some (.inl (.int p0)), some (.inl (.int p1)), some (.inl (.int (p0 - p0 / p1 * p1)))]) rfl ?_
  refine ch_iload_n (i := 2) d_l_some_4 rfl rfl ?_
  refine ch_if_ge (tgt := 14) d_l_some_5 (by decide) (fun c => ?_) (fun c => ?_)
  · replace h := h.1 c
    refine ch_iload_n (i := 2) d_l_some_14 rfl rfl ?_
    exact ch_iret (ty := .int) d_l_some_15 rfl rfl (Nat.le_of_ble_eq_true rfl) h
  · replace h := h.2 c
    refine ch_iload_n (i := 2) d_l_some_8 rfl rfl ?_
    refine ch_iload_n (i := 1) d_l_some_9 rfl rfl ?_
    refine ch_iadd d_l_some_10 ?_
    refine ch_goto (tgt := 15) d_l_some_11 (by decide) ?_
    exact ch_iret (ty := .int) d_l_some_15 rfl rfl (Nat.le_of_ble_eq_true rfl) h
