theorem e_x_checkChild (g : ch_G) (Q : ch_O → ch_M → Prop) (p1 : Int32) (m : ch_M) (h : ch_J g m_x_checkChild (ch_rm m_x_checkChild) (ch_E g m_x_checkChild Q) 0 [some (.inr (0, 0, 0)), some (.inl (.int p1))] [] m 0) : ch_C g m_x_checkChild [.inr (0, 0, 0), .inl (.int p1)] m Q :=
  ch_enter mf_x_checkChild (by intro v hv; simp only [List.mem_cons, List.not_mem_nil, or_false] at hv; rcases hv with rfl | rfl <;> rfl) (Nat.le_of_ble_eq_true rfl) h
set_option maxHeartbeats 1600000 in
theorem g_x_checkChild_0 (g : ch_G) (Q : ch_O → ch_M → Prop) (p1 : Int32) (m : ch_M) (h : (((0 ≤ p1 ∧ p1 < m (1, 0, 0) 8) → Q (.inl none) m) ∧ ((¬ (0 ≤ p1 ∧ p1 < m (1, 0, 0) 8)) → Q (.inr 1) m))) : ch_J g m_x_checkChild (ch_rm m_x_checkChild) (ch_E g m_x_checkChild Q) 0 [some (.inr (0, 0, 0)), some (.inl (.int p1))] [] m 0 := by
  refine ch_aload_n (i := 0) d_x_checkChild_0 rfl rfl ?_
  refine ch_get (v := .inr (1, 0, 0)) d_x_checkChild_1 fl_x_10 rfl ?_
  refine ch_iload_n (i := 1) d_x_checkChild_4 rfl rfl ?_
  refine ch_callV (as := [.inl (.int p1)]) d_x_checkChild_5 lk_x_273 mi_y_hasChild me_y_hasChild rfl rfl rfl ⟨Nat.le_of_ble_eq_true rfl, Nat.le_of_ble_eq_true rfl⟩ (Nat.le_of_ble_eq_true rfl) ⟨Nat.le_of_ble_eq_true rfl, Nat.le_of_ble_eq_true rfl⟩ (ch_mono (ch_Ki (fun r1 m2 q3 => ?_)) (s_y_hasChild g (fun (r_ : Int32) (m_ : ch_M) => ((0 ≤ p1 ∧ p1 < m (1, 0, 0) 8) ∧ 1 = r_ ∧ m = m_) ∨ ((¬ (0 ≤ p1 ∧ p1 < m (1, 0, 0) 8)) ∧ 0 = r_ ∧ m = m_)) (0) (p1) m ⟨(fun c_ => (Or.inl ⟨c_, rfl, rfl⟩)), (fun c_ => (Or.inr ⟨c_, rfl, rfl⟩))⟩))
  rcases q3 with ⟨c_, rfl, rfl⟩ | ⟨c_, rfl, rfl⟩
  · replace h := h.1 c_
    refine ch_if_ne (tgt := 19) d_x_checkChild_8 (by decide) (fun _ => ?_) (fun c => absurd c (by decide))
    exact ch_vret d_x_checkChild_19 rfl (Nat.le_of_ble_eq_true rfl) h
  · replace h := h.2 c_
    refine ch_if_ne (tgt := 19) d_x_checkChild_8 (by decide) (fun c => absurd c (by decide)) (fun _ => ?_)
    exact ch_throw d_x_checkChild_11 d_x_checkChild_14 d_x_checkChild_15 d_x_checkChild_18 tw_x_96 (by decide) rfl (Nat.le_of_ble_eq_true rfl) (Nat.le_of_ble_eq_true rfl) (Nat.le_of_ble_eq_true rfl) h
theorem e_x_change (g : ch_G) (Q : ch_O → ch_M → Prop)  (m : ch_M) (h : ch_J g m_x_change (ch_rm m_x_change) (ch_E g m_x_change Q) 0 [some (.inr (0, 0, 0))] [] m 0) : ch_C g m_x_change [.inr (0, 0, 0)] m Q :=
  ch_enter mf_x_change (by intro v hv; simp only [List.mem_cons, List.not_mem_nil, or_false] at hv; rcases hv with rfl <;> rfl) (Nat.le_of_ble_eq_true rfl) h
set_option maxHeartbeats 1600000 in
theorem g_x_change_0 (g : ch_G) (Q : ch_O → ch_M → Prop)  (m : ch_M) (h : (vp_in (m (1, 0, 0) 8) 6) ∧ (vp_in (m (5, 0, 0) 1) 13) ∧ ((((r_w (ch_ob m 1 0) (ch_ob m 4 0) (m (5, 0, 1)) (m (5, 0, 0) 1)).1 = 0) → (vp_in (m (2, 0, 0) 1) 8) ∧ ((∀ m7 : ch_M, m7 = ch_os (ch_os m 2 0 (p_kB (ch_ob m 2 0))) 1 (4 + p_kn (ch_ob m 2 0)) (y_cp (ch_ob m 1 0) (ch_ob m 1 (4 + p_kn (ch_ob m 2 0)))) → (y_carP (ch_ob m7 1 0) (ch_ob m7 4 0) (m7 (5, 0, 0) 1)) ∧ ((∀ m11 : ch_M, m11 = ch_os m7 1 0 ((y_car (ch_ob m7 1 0) (ch_ob m7 4 0) (m7 (5, 0, 1)) (Int32.toNatClampNeg (m7 (5, 0, 0) 1))).2) → Q (.inl (some (.inl (.int ((y_car (ch_ob m7 1 0) (ch_ob m7 4 0) (m7 (5, 0, 1)) (Int32.toNatClampNeg (m7 (5, 0, 0) 1))).1))))) m11))))) ∧ ((¬ (r_w (ch_ob m 1 0) (ch_ob m 4 0) (m (5, 0, 1)) (m (5, 0, 0) 1)).1 = 0) → (∀ m2 : ch_M, m2 = r_kp m (r_w (ch_ob m 1 0) (ch_ob m 4 0) (m (5, 0, 1)) (m (5, 0, 0) 1)).1 (r_w (ch_ob m 1 0) (ch_ob m 4 0) (m (5, 0, 1)) (m (5, 0, 0) 1)).2 → Q (.inr 0) m2)))) : ch_J g m_x_change (ch_rm m_x_change) (ch_E g m_x_change Q) 0 [some (.inr (0, 0, 0))] [] m 0 := by
  refine ch_aload_n (i := 0) d_x_change_0 rfl rfl ?_
  refine ch_get (v := .inr (3, 0, 0)) d_x_change_1 fl_x_35 rfl ?_
  refine ch_aload_n (i := 0) d_x_change_4 rfl rfl ?_
  refine ch_get (v := .inr (1, 0, 0)) d_x_change_5 fl_x_10 rfl ?_
  refine ch_aload_n (i := 0) d_x_change_8 rfl rfl ?_
  refine ch_get (v := .inr (4, 0, 0)) d_x_change_9 fl_x_42 rfl ?_
  have b4 := h.1
  replace h := h.2
  have b5 := h.1
  replace h := h.2
  refine ch_callV (as := [.inr (1, 0, 0), .inr (4, 0, 0)]) d_x_change_12 lk_x_277 mi_r_refuse me_r_refuse rfl rfl rfl ⟨Nat.le_of_ble_eq_true rfl, Nat.le_of_ble_eq_true rfl⟩ (Nat.le_of_ble_eq_true rfl) ⟨Nat.le_of_ble_eq_true rfl, Nat.le_of_ble_eq_true rfl⟩ (ch_mono (ch_Ki (fun r1 m2 q3 => ?_)) (s_r_refuse g (fun (r_ : Int32) (m_ : ch_M) => (((r_w (ch_ob m 1 0) (ch_ob m 4 0) (m (5, 0, 1)) (m (5, 0, 0) 1)).1 = 0) ∧ 0 = r_ ∧ m = m_) ∨ ((¬ (r_w (ch_ob m 1 0) (ch_ob m 4 0) (m (5, 0, 1)) (m (5, 0, 0) 1)).1 = 0) ∧ 1 = r_ ∧ m_ = r_kp m (r_w (ch_ob m 1 0) (ch_ob m 4 0) (m (5, 0, 1)) (m (5, 0, 0) 1)).1 (r_w (ch_ob m 1 0) (ch_ob m 4 0) (m (5, 0, 1)) (m (5, 0, 0) 1)).2)) (0) m ⟨b4, b5, (fun c_ => (Or.inl ⟨c_, rfl, rfl⟩)), (fun c_ => (Or.inr ⟨c_, rfl, rfl⟩))⟩))
  rcases q3 with ⟨c_, rfl, rfl⟩ | ⟨c_, rfl, hm_⟩
  · replace h := h.1 c_
    refine ch_if_eq (tgt := 26) d_x_change_15 (by decide) (fun _ => ?_) (fun c => absurd c (by decide))
    refine ch_aload_n (i := 0) d_x_change_26 rfl rfl ?_
    refine ch_get (v := .inr (2, 0, 0)) d_x_change_27 fl_x_28 rfl ?_
    refine ch_aload_n (i := 0) d_x_change_30 rfl rfl ?_
    refine ch_get (v := .inr (1, 0, 0)) d_x_change_31 fl_x_10 rfl ?_
    have b9 := h.1
    replace h := h.2
    refine ch_callV (as := [.inr (1, 0, 0)]) d_x_change_34 lk_x_223 mi_p_keep me_p_keep rfl rfl rfl ⟨Nat.le_of_ble_eq_true rfl, Nat.le_of_ble_eq_true rfl⟩ (Nat.le_of_ble_eq_true rfl) ⟨Nat.le_of_ble_eq_true rfl, Nat.le_of_ble_eq_true rfl⟩ (ch_mono (ch_Kv (fun m7 q8 => ?_)) (s_p_keep g (fun (m_ : ch_M) => (m_ = ch_os (ch_os m 2 0 (p_kB (ch_ob m 2 0))) 1 (4 + p_kn (ch_ob m 2 0)) (y_cp (ch_ob m 1 0) (ch_ob m 1 (4 + p_kn (ch_ob m 2 0)))))) (0) m ⟨b9, rfl⟩))
    have hm_ := q8
    replace h := h m7 hm_
    refine ch_aload_n (i := 0) d_x_change_37 rfl rfl ?_
    refine ch_get (v := .inr (1, 0, 0)) d_x_change_38 fl_x_10 rfl ?_
    refine ch_aload_n (i := 0) d_x_change_41 rfl rfl ?_
    refine ch_get (v := .inr (4, 0, 0)) d_x_change_42 fl_x_42 rfl ?_
    have b13 := h.1
    replace h := h.2
    refine ch_callV (as := [.inr (4, 0, 0)]) d_x_change_45 lk_x_281 mi_y_carryOut me_y_carryOut rfl rfl rfl ⟨Nat.le_of_ble_eq_true rfl, Nat.le_of_ble_eq_true rfl⟩ (Nat.le_of_ble_eq_true rfl) ⟨Nat.le_of_ble_eq_true rfl, Nat.le_of_ble_eq_true rfl⟩ (ch_mono (ch_Ki (fun r10 m11 q12 => ?_)) (s_y_carryOut g (fun (r_ : Int32) (m_ : ch_M) => (((y_car (ch_ob m7 1 0) (ch_ob m7 4 0) (m7 (5, 0, 1)) (Int32.toNatClampNeg (m7 (5, 0, 0) 1))).1) = r_ ∧ m_ = ch_os m7 1 0 ((y_car (ch_ob m7 1 0) (ch_ob m7 4 0) (m7 (5, 0, 1)) (Int32.toNatClampNeg (m7 (5, 0, 0) 1))).2))) (0) m7 ⟨b13, ⟨rfl, rfl⟩⟩))
    obtain ⟨rfl, hm_⟩ := q12
    replace h := h m11 hm_
    exact ch_iret (ty := .int) d_x_change_48 rfl rfl (Nat.le_of_ble_eq_true rfl) h
  · replace h := h.2 c_ m2 hm_
    refine ch_if_eq (tgt := 26) d_x_change_15 (by decide) (fun c => absurd c (by decide)) (fun _ => ?_)
    exact ch_throw d_x_change_18 d_x_change_21 d_x_change_22 d_x_change_25 tw_x_220 (by decide) rfl (Nat.le_of_ble_eq_true rfl) (Nat.le_of_ble_eq_true rfl) (Nat.le_of_ble_eq_true rfl) h
