theorem e_m_canHop (g : ch_G) (Q : ch_O → ch_M → Prop) (p1 : Int32) (m : ch_M) (h : ch_J g m_m_canHop (ch_rm m_m_canHop) (ch_E g m_m_canHop Q) 0 [some (.inr (9, 0, 0)), some (.inl (.int p1))] [] m 0) : ch_C g m_m_canHop [.inr (9, 0, 0), .inl (.int p1)] m Q :=
  ch_enter mf_m_canHop (by intro v hv; simp only [List.mem_cons, List.not_mem_nil, or_false] at hv; rcases hv with rfl | rfl <;> rfl) (Nat.le_of_ble_eq_true rfl) h
set_option maxHeartbeats 1600000 in
theorem g_m_canHop_0 (g : ch_G) (Q : ch_O → ch_M → Prop) (p1 : Int32) (m : ch_M) (h : (((0 ≤ p1 ∧ p1 ≤ m (9, 0, 1) 0 - 1) → (vp_in p1 5) ∧ ((((m (9, 0, 1) (38 + 5 * Int32.toNatClampNeg p1 + 2)) = 0 → Q (.inl (some (.inl (.int 1)))) m) ∧ (¬ (m (9, 0, 1) (38 + 5 * Int32.toNatClampNeg p1 + 2)) = 0 → (((∀ m12 : ch_M, m12 = ch_wr (ch_wr (ch_wr m (9, 0, 0) 15 7) (9, 0, 0) 16 (m (9, 0, 1) (38 + 5 * Int32.toNatClampNeg p1 + 2))) (9, 0, 0) 17 0 → Q (.inl (some (.inl (.int 0)))) m12))))))) ∧ ((¬ (0 ≤ p1 ∧ p1 ≤ m (9, 0, 1) 0 - 1)) → (∀ m2 : ch_M, m2 = ch_wr (ch_wr (ch_wr m (9, 0, 0) 15 3) (9, 0, 0) 16 (m (9, 0, 1) (0))) (9, 0, 0) 17 0 → Q (.inl (some (.inl (.int 0)))) m2)))) : ch_J g m_m_canHop (ch_rm m_m_canHop) (ch_E g m_m_canHop Q) 0 [some (.inr (9, 0, 0)), some (.inl (.int p1))] [] m 0 := by
  refine ch_aload_n (i := 0) d_m_canHop_0 rfl rfl ?_
  refine ch_iload_n (i := 1) d_m_canHop_1 rfl rfl ?_
  refine ch_callV (as := [.inl (.int p1)]) d_m_canHop_2 lk_m_106 mi_m_isThere me_m_isThere rfl rfl rfl ⟨Nat.le_of_ble_eq_true rfl, Nat.le_of_ble_eq_true rfl⟩ (Nat.le_of_ble_eq_true rfl) ⟨Nat.le_of_ble_eq_true rfl, Nat.le_of_ble_eq_true rfl⟩ (ch_mono (ch_Ki (fun r1 m2 q3 => ?_)) (s_m_isThere g (fun (r_ : Int32) (m_ : ch_M) => ((0 ≤ p1 ∧ p1 ≤ m (9, 0, 1) 0 - 1) ∧ 1 = r_ ∧ m = m_) ∨ ((¬ (0 ≤ p1 ∧ p1 ≤ m (9, 0, 1) 0 - 1)) ∧ 0 = r_ ∧ m_ = ch_wr (ch_wr (ch_wr m (9, 0, 0) 15 3) (9, 0, 0) 16 (m (9, 0, 1) (0))) (9, 0, 0) 17 0)) (p1) m ⟨(fun c_ => (Or.inl ⟨c_, rfl, rfl⟩)), (fun c_ => (Or.inr ⟨c_, rfl, rfl⟩))⟩))
  rcases q3 with ⟨c_, rfl, rfl⟩ | ⟨c_, rfl, hm_⟩
  · replace h := h.1 c_
    refine ch_if_ne (tgt := 10) d_m_canHop_5 (by decide) (fun _ => ?_) (fun c => absurd c (by decide))
    refine ch_aload_n (i := 0) d_m_canHop_10 rfl rfl ?_
    refine ch_iload_n (i := 1) d_m_canHop_11 rfl rfl ?_
    refine ch_iconst (v := 2) d_m_canHop_12 (by decide) ?_
    have b7 := h.1
    replace h := h.2
    refine ch_callV (as := [.inl (.int p1), .inl (.int 2)]) d_m_canHop_13 lk_m_85 mi_m_of me_m_of rfl rfl rfl ⟨Nat.le_of_ble_eq_true rfl, Nat.le_of_ble_eq_true rfl⟩ (Nat.le_of_ble_eq_true rfl) ⟨Nat.le_of_ble_eq_true rfl, Nat.le_of_ble_eq_true rfl⟩ (ch_mono (ch_Ki (fun r4 m5 q6 => ?_)) (s_m_of g (fun (r_ : Int32) (m_ : ch_M) => ((m (9, 0, 1) (38 + 5 * Int32.toNatClampNeg p1 + 2)) = r_ ∧ m = m_)) (p1) (2) m ⟨b7, (vp_in_nI (n := 2) (by decide) (by decide)), ⟨rfl, rfl⟩⟩))
    obtain ⟨rfl, rfl⟩ := q6
    replace h := h
    refine ch_if_eq (tgt := 34) d_m_canHop_16 (by decide) (fun c => ?_) (fun c => ?_)
    · replace h := h.1 c
      refine ch_iconst (v := 1) d_m_canHop_34 (by decide) ?_
      refine ch_goto (tgt := 39) d_m_canHop_35 (by decide) ?_
      exact ch_iret (ty := .boolean) d_m_canHop_39 rfl rfl (Nat.le_of_ble_eq_true rfl) h
    · replace h := h.2 c
      refine ch_aload_n (i := 0) d_m_canHop_19 rfl rfl ?_
      refine ch_bipush (v := 7) d_m_canHop_20 (by decide) ?_
      refine ch_aload_n (i := 0) d_m_canHop_22 rfl rfl ?_
      refine ch_iload_n (i := 1) d_m_canHop_23 rfl rfl ?_
      refine ch_iconst (v := 2) d_m_canHop_24 (by decide) ?_
      refine ch_callV (as := [.inl (.int p1), .inl (.int 2)]) d_m_canHop_25 lk_m_85 mi_m_of me_m_of rfl rfl rfl ⟨Nat.le_of_ble_eq_true rfl, Nat.le_of_ble_eq_true rfl⟩ (Nat.le_of_ble_eq_true rfl) ⟨Nat.le_of_ble_eq_true rfl, Nat.le_of_ble_eq_true rfl⟩ (ch_mono (ch_Ki (fun r8 m9 q10 => ?_)) (s_m_of g (fun (r_ : Int32) (m_ : ch_M) => ((m (9, 0, 1) (38 + 5 * Int32.toNatClampNeg p1 + 2)) = r_ ∧ m = m_)) (p1) (2) m ⟨b7, (vp_in_nI (n := 2) (by decide) (by decide)), ⟨rfl, rfl⟩⟩))
      obtain ⟨rfl, rfl⟩ := q10
      replace h := h
      refine ch_callV (as := [.inl (.int 7), .inl (.int (m (9, 0, 1) (38 + 5 * Int32.toNatClampNeg p1 + 2)))]) d_m_canHop_28 lk_m_81 mi_m_refuses me_m_refuses rfl rfl rfl ⟨Nat.le_of_ble_eq_true rfl, Nat.le_of_ble_eq_true rfl⟩ (Nat.le_of_ble_eq_true rfl) ⟨Nat.le_of_ble_eq_true rfl, Nat.le_of_ble_eq_true rfl⟩ (ch_mono (ch_Ki (fun r11 m12 q13 => ?_)) (s_m_refuses g (fun (r_ : Int32) (m_ : ch_M) => (0 = r_ ∧ m_ = ch_wr (ch_wr (ch_wr m (9, 0, 0) 15 7) (9, 0, 0) 16 (m (9, 0, 1) (38 + 5 * Int32.toNatClampNeg p1 + 2))) (9, 0, 0) 17 0)) (7) ((m (9, 0, 1) (38 + 5 * Int32.toNatClampNeg p1 + 2))) m ⟨rfl, rfl⟩))
      obtain ⟨rfl, hm_⟩ := q13
      replace h := h m12 hm_
      refine ch_if_eq (tgt := 38) d_m_canHop_31 (by decide) (fun _ => ?_) (fun c => absurd c (by decide))
      refine ch_iconst (v := 0) d_m_canHop_38 (by decide) ?_
      exact ch_iret (ty := .boolean) d_m_canHop_39 rfl rfl (Nat.le_of_ble_eq_true rfl) h
  · replace h := h.2 c_ m2 hm_
    refine ch_if_ne (tgt := 10) d_m_canHop_5 (by decide) (fun c => absurd c (by decide)) (fun _ => ?_)
    refine ch_iconst (v := 0) d_m_canHop_8 (by decide) ?_
    exact ch_iret (ty := .boolean) d_m_canHop_9 rfl rfl (Nat.le_of_ble_eq_true rfl) h
