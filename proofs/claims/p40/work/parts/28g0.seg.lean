theorem e_x_termsFor (g : ch_G) (Q : ch_O → ch_M → Prop) (p1 : Int32) (m : ch_M) (h : ch_J g m_x_termsFor (ch_rm m_x_termsFor) (ch_E g m_x_termsFor Q) 0 [some (.inr (0, 0, 0)), some (.inl (.int p1)), none, none] [] m 0) : ch_C g m_x_termsFor [.inr (0, 0, 0), .inl (.int p1)] m Q :=
  ch_enter mf_x_termsFor (by intro v hv; simp only [List.mem_cons, List.not_mem_nil, or_false] at hv; rcases hv with rfl | rfl <;> rfl) (Nat.le_of_ble_eq_true rfl) h
set_option maxHeartbeats 1600000 in
theorem g_x_termsFor_0 (g : ch_G) (Q : ch_O → ch_M → Prop) (p1 : Int32) (m : ch_M) (h : (((0 ≤ p1 ∧ p1 < m (1, 0, 0) 8) → ((∀ m7 : ch_M, m7 = ch_os m 1 2 (y_cp (ch_ob m 1 0) (ch_ob m 1 2)) → ch_J g m_x_termsFor (ch_rm m_x_termsFor) (ch_E g m_x_termsFor Q) 18 [some (.inr (0, 0, 0)), some (.inl (.int p1)), some (.inl (.int 1)), none] [] m7 1))) ∧ ((¬ (0 ≤ p1 ∧ p1 < m (1, 0, 0) 8)) → Q (.inr 1) m))) : ch_J g m_x_termsFor (ch_rm m_x_termsFor) (ch_E g m_x_termsFor Q) 0 [some (.inr (0, 0, 0)), some (.inl (.int p1)), none, none] [] m 0 := by
  refine ch_aload_n (i := 0) d_x_termsFor_0 rfl rfl ?_
  refine ch_iload_n (i := 1) d_x_termsFor_1 rfl rfl ?_
  refine ch_callV (as := [.inl (.int p1)]) d_x_termsFor_2 lk_x_106 mi_x_checkChild me_x_checkChild rfl rfl rfl ⟨Nat.le_of_ble_eq_true rfl, Nat.le_of_ble_eq_true rfl⟩ (Nat.le_of_ble_eq_true rfl) ⟨Nat.le_of_ble_eq_true rfl, Nat.le_of_ble_eq_true rfl⟩ (ch_mono (ch_Kx (ch_Kv (fun m2 q3 => ?_)) (fun n4 m5 hn_ q3 => ?_)) (s_x_checkChild g (fun (m_ : ch_M) => ((0 ≤ p1 ∧ p1 < m (1, 0, 0) 8) ∧ m = m_)) (fun (n_ : Nat) (m_ : ch_M) => ((¬ (0 ≤ p1 ∧ p1 < m (1, 0, 0) 8)) ∧ n_ = 1 ∧ m = m_)) (p1) m ⟨(fun c_ => ⟨c_, rfl⟩), (fun c_ => ⟨c_, rfl, rfl⟩)⟩))
  · obtain ⟨c_, rfl⟩ := q3
    replace h := h.1 c_
    refine ch_aload_n (i := 0) d_x_termsFor_5 rfl rfl ?_
    refine ch_get (v := .inr (1, 2, 0)) d_x_termsFor_6 fl_x_19 rfl ?_
    refine ch_aload_n (i := 0) d_x_termsFor_9 rfl rfl ?_
    refine ch_get (v := .inr (1, 0, 0)) d_x_termsFor_10 fl_x_10 rfl ?_
    refine ch_callV (as := [.inr (1, 0, 0)]) d_x_termsFor_13 lk_x_174 mi_y_copyFrom me_y_copyFrom rfl rfl rfl ⟨Nat.le_of_ble_eq_true rfl, Nat.le_of_ble_eq_true rfl⟩ (Nat.le_of_ble_eq_true rfl) ⟨Nat.le_of_ble_eq_true rfl, Nat.le_of_ble_eq_true rfl⟩ (ch_mono (ch_Kv (fun m7 q8 => ?_)) (s_y_copyFrom g (fun (m_ : ch_M) => (m_ = ch_os m 1 2 (y_cp (ch_ob m 1 0) (ch_ob m 1 2)))) (2) (0) m rfl))
    have hm_ := q8
    replace h := h m7 hm_
    refine ch_iconst (v := 1) d_x_termsFor_16 (by decide) ?_
    refine ch_istore_n (i := 2) d_x_termsFor_17 rfl (Nat.le_of_ble_eq_true rfl) (ls' := [some (.inr (0, 0, 0)), some (.inl (.int p1)), some (.inl (.int 1)), none]) rfl ?_
    exact h
  · obtain ⟨c_, rfl, rfl⟩ := q3
    replace h := h.2 c_
    exact ch_xout rfl (Nat.le_of_ble_eq_true rfl) h
set_option maxHeartbeats 1600000 in
theorem g_x_termsFor_18 (g : ch_G) (Q : ch_O → ch_M → Prop) (x1 : Int32) (x2 : Int32) (o3 : Option ch_V) (m : ch_M) (h : ((40 < x2 → Q (.inr 3) m) ∧ (¬ 40 < x2 → ((vp_in (m (1, 2, 0) 8) 6) ∧ ((∀ m5 : ch_M, m5 = ch_os m 1 2 (y_termB (ch_ob m 1 2)) → ((((ch_cnO (m (1, 2, 1)) x1 12) ≤ (ch_cnO (m5 (1, 2, 1)) x1 12) → ch_J g m_x_termsFor (ch_rm m_x_termsFor) (ch_E g m_x_termsFor Q) 18 [some (.inr (0, 0, 0)), some (.inl (.int x1)), some (.inl (.int (x2 + 1))), some (.inl (.int (ch_cnO (m (1, 2, 1)) x1 12)))] [] m5 1) ∧ (¬ (ch_cnO (m (1, 2, 1)) x1 12) ≤ (ch_cnO (m5 (1, 2, 1)) x1 12) → Q (.inl (some (.inl (.int x2)))) m5))))))))) : ch_J g m_x_termsFor (ch_rm m_x_termsFor) (ch_E g m_x_termsFor Q) 18 [some (.inr (0, 0, 0)), some (.inl (.int x1)), some (.inl (.int x2)), o3] [] m 1 := by
  refine ch_iload_n (i := 2) d_x_termsFor_18 rfl rfl ?_
  refine ch_bipush (v := 40) d_x_termsFor_19 (by decide) ?_
  refine ch_icmp_gt (tgt := 61) d_x_termsFor_21 (by decide) (fun c => ?_) (fun c => ?_)
  · replace h := h.1 c
    exact ch_throw d_x_termsFor_61 d_x_termsFor_64 d_x_termsFor_65 d_x_termsFor_68 tw_x_141 (by decide) rfl (Nat.le_of_ble_eq_true rfl) (Nat.le_of_ble_eq_true rfl) (Nat.le_of_ble_eq_true rfl) h
  · replace h := h.2 c
    refine ch_aload_n (i := 0) d_x_termsFor_24 rfl rfl ?_
    refine ch_get (v := .inr (1, 2, 0)) d_x_termsFor_25 fl_x_19 rfl ?_
    refine ch_iload_n (i := 1) d_x_termsFor_28 rfl rfl ?_
    refine ch_callV (as := [.inl (.int x1)]) d_x_termsFor_29 lk_x_118 mi_y_countOwned me_y_countOwned rfl rfl rfl ⟨Nat.le_of_ble_eq_true rfl, Nat.le_of_ble_eq_true rfl⟩ (Nat.le_of_ble_eq_true rfl) ⟨Nat.le_of_ble_eq_true rfl, Nat.le_of_ble_eq_true rfl⟩ (ch_mono (ch_Ki (fun r1 m2 q3 => ?_)) (s_y_countOwned g (fun (r_ : Int32) (m_ : ch_M) => ((ch_cnO (m (1, 2, 1)) x1 12) = r_ ∧ m = m_)) (2) (x1) m ⟨rfl, rfl⟩))
    obtain ⟨rfl, rfl⟩ := q3
    replace h := h
    refine ch_istore_n (i := 3) d_x_termsFor_32 rfl (Nat.le_of_ble_eq_true rfl) (ls' := [some (.inr (0, 0, 0)), some (.inl (.int x1)), some (.inl (.int x2)), some (.inl (.int (ch_cnO (m (1, 2, 1)) x1 12)))]) rfl ?_
    refine ch_aload_n (i := 0) d_x_termsFor_33 rfl rfl ?_
    refine ch_get (v := .inr (1, 2, 0)) d_x_termsFor_34 fl_x_19 rfl ?_
    have b7 := h.1
    replace h := h.2
    refine ch_callV (as := []) d_x_termsFor_37 lk_x_181 mi_y_endTerm me_y_endTerm rfl rfl rfl ⟨Nat.le_of_ble_eq_true rfl, Nat.le_of_ble_eq_true rfl⟩ (Nat.le_of_ble_eq_true rfl) ⟨Nat.le_of_ble_eq_true rfl, Nat.le_of_ble_eq_true rfl⟩ (ch_mono (ch_Ki (fun r4 m5 q6 => ?_)) (s_y_endTerm g (fun (r_ : Int32) (m_ : ch_M) => ((y_termR (ch_ob m 1 2)) = r_ ∧ m_ = ch_os m 1 2 (y_termB (ch_ob m 1 2)))) (2) m ⟨b7, ⟨rfl, rfl⟩⟩))
    obtain ⟨rfl, hm_⟩ := q6
    replace h := h m5 hm_
    refine ch_pop d_x_termsFor_40 rfl ?_
    refine ch_aload_n (i := 0) d_x_termsFor_41 rfl rfl ?_
    refine ch_get (v := .inr (1, 2, 0)) d_x_termsFor_42 fl_x_19 rfl ?_
    refine ch_iload_n (i := 1) d_x_termsFor_45 rfl rfl ?_
    refine ch_callV (as := [.inl (.int x1)]) d_x_termsFor_46 lk_x_118 mi_y_countOwned me_y_countOwned rfl rfl rfl ⟨Nat.le_of_ble_eq_true rfl, Nat.le_of_ble_eq_true rfl⟩ (Nat.le_of_ble_eq_true rfl) ⟨Nat.le_of_ble_eq_true rfl, Nat.le_of_ble_eq_true rfl⟩ (ch_mono (ch_Ki (fun r8 m9 q10 => ?_)) (s_y_countOwned g (fun (r_ : Int32) (m_ : ch_M) => ((ch_cnO (m5 (1, 2, 1)) x1 12) = r_ ∧ m5 = m_)) (2) (x1) m5 ⟨rfl, rfl⟩))
    obtain ⟨rfl, rfl⟩ := q10
    replace h := h
    refine ch_iload_n (i := 3) d_x_termsFor_49 rfl rfl ?_
    refine ch_icmp_ge (tgt := 55) d_x_termsFor_50 (by decide) (fun c => ?_) (fun c => ?_)
    · replace h := h.1 c
      refine ch_iinc (i := 2) (v := (x2 + 1)) d_x_termsFor_55 rfl rfl (Nat.le_of_ble_eq_true rfl) (ls' := [some (.inr (0, 0, 0)), some (.inl (.int x1)), some (.inl (.int (x2 + 1))), some (.inl (.int (ch_cnO (m (1, 2, 1)) x1 12)))]) rfl ?_
      refine ch_goto (tgt := 18) d_x_termsFor_58 (by decide) ?_
      exact h
    · replace h := h.2 c
      refine ch_iload_n (i := 2) d_x_termsFor_53 rfl rfl ?_
      exact ch_iret (ty := .int) d_x_termsFor_54 rfl rfl (Nat.le_of_ble_eq_true rfl) h
theorem e_x_carryOutText (g : ch_G) (Q : ch_O → ch_M → Prop)  (m : ch_M) (h : ch_J g m_x_carryOutText (ch_rm m_x_carryOutText) (ch_E g m_x_carryOutText Q) 0 [some (.inr (0, 0, 0)), none] [] m 0) : ch_C g m_x_carryOutText [.inr (0, 0, 0)] m Q :=
  ch_enter mf_x_carryOutText (by intro v hv; simp only [List.mem_cons, List.not_mem_nil, or_false] at hv; rcases hv with rfl <;> rfl) (Nat.le_of_ble_eq_true rfl) h
set_option maxHeartbeats 1600000 in
theorem g_x_carryOutText_0 (g : ch_G) (Q : ch_O → ch_M → Prop)  (m : ch_M) (h : (∀ m1 : ch_M, m1 = ch_wr m (7, 0, 0) 0 0 → ch_J g m_x_carryOutText (ch_rm m_x_carryOutText) (ch_E g m_x_carryOutText Q) 10 [some (.inr (0, 0, 0)), some (.inl (.int 0))] [] m1 0)) : ch_J g m_x_carryOutText (ch_rm m_x_carryOutText) (ch_E g m_x_carryOutText Q) 0 [some (.inr (0, 0, 0)), none] [] m 0 := by
  refine ch_aload_n (i := 0) d_x_carryOutText_0 rfl rfl ?_
  refine ch_get (v := .inr (7, 0, 0)) d_x_carryOutText_1 fl_x_56 rfl ?_
  refine ch_iconst (v := 0) d_x_carryOutText_4 (by decide) ?_
  refine ch_put d_x_carryOutText_5 fp_x_285 rfl rfl rfl ?_
  generalize hmm1 : ch_wr m (7, 0, 0) 0 0 = m1
  replace h := h m1 hmm1.symm
  refine ch_iconst (v := 0) d_x_carryOutText_8 (by decide) ?_
  refine ch_istore_n (i := 1) d_x_carryOutText_9 rfl (Nat.le_of_ble_eq_true rfl) (ls' := [some (.inr (0, 0, 0)), some (.inl (.int 0))]) rfl ?_
  exact h
set_option maxHeartbeats 1600000 in
theorem g_x_carryOutText_10 (g : ch_G) (Q : ch_O → ch_M → Prop) (x1 : Int32) (m : ch_M) (h : ((60 ≤ x1 → Q (.inl (some (.inl (.int x1)))) m) ∧ (¬ 60 ≤ x1 → ((((d_tc m 0).1 = true) → (∀ m2 : ch_M, m2 = ((d_tc m 0).2) → (vp_in (m2 (1, 0, 0) 8) 6) ∧ (vp_in (m2 (5, 0, 0) 1) 13) ∧ ((((r_w (ch_ob m2 1 0) (ch_ob m2 4 0) (m2 (5, 0, 1)) (m2 (5, 0, 0) 1)).1 = 0) → (y_carP (ch_ob m2 1 0) (ch_ob m2 4 0) (m2 (5, 0, 0) 1)) ∧ ((∀ m10 : ch_M, m10 = ch_os m2 1 0 ((y_car (ch_ob m2 1 0) (ch_ob m2 4 0) (m2 (5, 0, 1)) (Int32.toNatClampNeg (m2 (5, 0, 0) 1))).2) → ((((d_ts m10 0 59).1 = true) → (∀ m14 : ch_M, m14 = ((d_ts m10 0 59).2) → ch_J g m_x_carryOutText (ch_rm m_x_carryOutText) (ch_E g m_x_carryOutText Q) 10 [some (.inr (0, 0, 0)), some (.inl (.int (x1 + 1)))] [] m14 0)) ∧ ((¬ (d_ts m10 0 59).1 = true) → (∀ m14 : ch_M, m14 = ((d_ts m10 0 59).2) → ch_J g m_x_carryOutText (ch_rm m_x_carryOutText) (ch_E g m_x_carryOutText Q) 10 [some (.inr (0, 0, 0)), some (.inl (.int (x1 + 1)))] [] m14 0)))))) ∧ ((¬ (r_w (ch_ob m2 1 0) (ch_ob m2 4 0) (m2 (5, 0, 1)) (m2 (5, 0, 0) 1)).1 = 0) → (∀ m5 : ch_M, m5 = r_kp m2 (r_w (ch_ob m2 1 0) (ch_ob m2 4 0) (m2 (5, 0, 1)) (m2 (5, 0, 0) 1)).1 (r_w (ch_ob m2 1 0) (ch_ob m2 4 0) (m2 (5, 0, 1)) (m2 (5, 0, 0) 1)).2 → (∀ m16 : ch_M, m16 = ch_wr m5 (3, 0, 0) 2 x1 → Q (.inl (some (.inl (.int 0)))) m16)))))) ∧ ((¬ (d_tc m 0).1 = true) → (∀ m2 : ch_M, m2 = ((d_tc m 0).2) → Q (.inl (some (.inl (.int x1)))) m2)))))) : ch_J g m_x_carryOutText (ch_rm m_x_carryOutText) (ch_E g m_x_carryOutText Q) 10 [some (.inr (0, 0, 0)), some (.inl (.int x1))] [] m 0 := by
  refine ch_iload_n (i := 1) d_x_carryOutText_10 rfl rfl ?_
  refine ch_bipush (v := 60) d_x_carryOutText_11 (by decide) ?_
  refine ch_icmp_ge (tgt := 94) d_x_carryOutText_13 (by decide) (fun c => ?_) (fun c => ?_)
  · replace h := h.1 c
    refine ch_iload_n (i := 1) d_x_carryOutText_94 rfl rfl ?_
    exact ch_iret (ty := .int) d_x_carryOutText_95 rfl rfl (Nat.le_of_ble_eq_true rfl) h
  · replace h := h.2 c
    refine ch_aload_n (i := 0) d_x_carryOutText_16 rfl rfl ?_
    refine ch_get (v := .inr (7, 0, 0)) d_x_carryOutText_17 fl_x_56 rfl ?_
    refine ch_aload_n (i := 0) d_x_carryOutText_20 rfl rfl ?_
    refine ch_get (v := .inr (6, 0, 0)) d_x_carryOutText_21 fl_x_49 rfl ?_
    refine ch_aload_n (i := 0) d_x_carryOutText_24 rfl rfl ?_
    refine ch_get (v := .inr (4, 0, 0)) d_x_carryOutText_25 fl_x_42 rfl ?_
    refine ch_callV (as := [.inr (6, 0, 0), .inr (4, 0, 0)]) d_x_carryOutText_28 lk_x_288 mi_d_takeCommand me_d_takeCommand rfl rfl rfl ⟨Nat.le_of_ble_eq_true rfl, Nat.le_of_ble_eq_true rfl⟩ (Nat.le_of_ble_eq_true rfl) ⟨Nat.le_of_ble_eq_true rfl, Nat.le_of_ble_eq_true rfl⟩ (ch_mono (ch_Ki (fun r1 m2 q3 => ?_)) (s_d_takeCommand g (fun (r_ : Int32) (m_ : ch_M) => (((d_tc m 0).1 = true) ∧ 1 = r_ ∧ m_ = ((d_tc m 0).2)) ∨ ((¬ (d_tc m 0).1 = true) ∧ 0 = r_ ∧ m_ = ((d_tc m 0).2))) (0) m ⟨(fun c_ => (Or.inl ⟨c_, rfl, rfl⟩)), (fun c_ => (Or.inr ⟨c_, rfl, rfl⟩))⟩))
    rcases q3 with ⟨c_, rfl, hm_⟩ | ⟨c_, rfl, hm_⟩
    · replace h := h.1 c_ m2 hm_
      refine ch_if_eq (tgt := 94) d_x_carryOutText_31 (by decide) (fun c => absurd c (by decide)) (fun _ => ?_)
      refine ch_aload_n (i := 0) d_x_carryOutText_34 rfl rfl ?_
      refine ch_get (v := .inr (3, 0, 0)) d_x_carryOutText_35 fl_x_35 rfl ?_
      refine ch_aload_n (i := 0) d_x_carryOutText_38 rfl rfl ?_
      refine ch_get (v := .inr (1, 0, 0)) d_x_carryOutText_39 fl_x_10 rfl ?_
      refine ch_aload_n (i := 0) d_x_carryOutText_42 rfl rfl ?_
      refine ch_get (v := .inr (4, 0, 0)) d_x_carryOutText_43 fl_x_42 rfl ?_
      have b7 := h.1
      replace h := h.2
      have b8 := h.1
      replace h := h.2
      refine ch_callV (as := [.inr (1, 0, 0), .inr (4, 0, 0)]) d_x_carryOutText_46 lk_x_277 mi_r_refuse me_r_refuse rfl rfl rfl ⟨Nat.le_of_ble_eq_true rfl, Nat.le_of_ble_eq_true rfl⟩ (Nat.le_of_ble_eq_true rfl) ⟨Nat.le_of_ble_eq_true rfl, Nat.le_of_ble_eq_true rfl⟩ (ch_mono (ch_Ki (fun r4 m5 q6 => ?_)) (s_r_refuse g (fun (r_ : Int32) (m_ : ch_M) => (((r_w (ch_ob m2 1 0) (ch_ob m2 4 0) (m2 (5, 0, 1)) (m2 (5, 0, 0) 1)).1 = 0) ∧ 0 = r_ ∧ m2 = m_) ∨ ((¬ (r_w (ch_ob m2 1 0) (ch_ob m2 4 0) (m2 (5, 0, 1)) (m2 (5, 0, 0) 1)).1 = 0) ∧ 1 = r_ ∧ m_ = r_kp m2 (r_w (ch_ob m2 1 0) (ch_ob m2 4 0) (m2 (5, 0, 1)) (m2 (5, 0, 0) 1)).1 (r_w (ch_ob m2 1 0) (ch_ob m2 4 0) (m2 (5, 0, 1)) (m2 (5, 0, 0) 1)).2)) (0) m2 ⟨b7, b8, (fun c_ => (Or.inl ⟨c_, rfl, rfl⟩)), (fun c_ => (Or.inr ⟨c_, rfl, rfl⟩))⟩))
      rcases q6 with ⟨c_, rfl, rfl⟩ | ⟨c_, rfl, hm_⟩
      · replace h := h.1 c_
        refine ch_if_eq (tgt := 62) d_x_carryOutText_49 (by decide) (fun _ => ?_) (fun c => absurd c (by decide))
        refine ch_aload_n (i := 0) d_x_carryOutText_62 rfl rfl ?_
        refine ch_get (v := .inr (1, 0, 0)) d_x_carryOutText_63 fl_x_10 rfl ?_
        refine ch_aload_n (i := 0) d_x_carryOutText_66 rfl rfl ?_
        refine ch_get (v := .inr (4, 0, 0)) d_x_carryOutText_67 fl_x_42 rfl ?_
        have b12 := h.1
        replace h := h.2
        refine ch_callV (as := [.inr (4, 0, 0)]) d_x_carryOutText_70 lk_x_281 mi_y_carryOut me_y_carryOut rfl rfl rfl ⟨Nat.le_of_ble_eq_true rfl, Nat.le_of_ble_eq_true rfl⟩ (Nat.le_of_ble_eq_true rfl) ⟨Nat.le_of_ble_eq_true rfl, Nat.le_of_ble_eq_true rfl⟩ (ch_mono (ch_Ki (fun r9 m10 q11 => ?_)) (s_y_carryOut g (fun (r_ : Int32) (m_ : ch_M) => (((y_car (ch_ob m2 1 0) (ch_ob m2 4 0) (m2 (5, 0, 1)) (Int32.toNatClampNeg (m2 (5, 0, 0) 1))).1) = r_ ∧ m_ = ch_os m2 1 0 ((y_car (ch_ob m2 1 0) (ch_ob m2 4 0) (m2 (5, 0, 1)) (Int32.toNatClampNeg (m2 (5, 0, 0) 1))).2))) (0) m2 ⟨b12, ⟨rfl, rfl⟩⟩))
        obtain ⟨rfl, hm_⟩ := q11
        replace h := h m10 hm_
        refine ch_pop d_x_carryOutText_73 rfl ?_
        refine ch_aload_n (i := 0) d_x_carryOutText_74 rfl rfl ?_
        refine ch_get (v := .inr (7, 0, 0)) d_x_carryOutText_75 fl_x_56 rfl ?_
        refine ch_aload_n (i := 0) d_x_carryOutText_78 rfl rfl ?_
        refine ch_get (v := .inr (6, 0, 0)) d_x_carryOutText_79 fl_x_49 rfl ?_
        refine ch_bipush (v := 59) d_x_carryOutText_82 (by decide) ?_
        refine ch_callV (as := [.inr (6, 0, 0), .inl (.int 59)]) d_x_carryOutText_84 lk_x_292 mi_d_takeSign me_d_takeSign rfl rfl rfl ⟨Nat.le_of_ble_eq_true rfl, Nat.le_of_ble_eq_true rfl⟩ (Nat.le_of_ble_eq_true rfl) ⟨Nat.le_of_ble_eq_true rfl, Nat.le_of_ble_eq_true rfl⟩ (ch_mono (ch_Ki (fun r13 m14 q15 => ?_)) (s_d_takeSign g (fun (r_ : Int32) (m_ : ch_M) => (((d_ts m10 0 59).1 = true) ∧ 1 = r_ ∧ m_ = ((d_ts m10 0 59).2)) ∨ ((¬ (d_ts m10 0 59).1 = true) ∧ 0 = r_ ∧ m_ = ((d_ts m10 0 59).2))) (0) (59) m10 ⟨(fun c_ => (Or.inl ⟨c_, rfl, rfl⟩)), (fun c_ => (Or.inr ⟨c_, rfl, rfl⟩))⟩))
        rcases q15 with ⟨c_, rfl, hm_⟩ | ⟨c_, rfl, hm_⟩
        · replace h := h.1 c_ m14 hm_
          refine ch_pop d_x_carryOutText_87 rfl ?_
          refine ch_iinc (i := 1) (v := (x1 + 1)) d_x_carryOutText_88 rfl rfl (Nat.le_of_ble_eq_true rfl) (ls' := [some (.inr (0, 0, 0)), some (.inl (.int (x1 + 1)))]) rfl ?_
          refine ch_goto (tgt := 10) d_x_carryOutText_91 (by decide) ?_
          exact h
        · replace h := h.2 c_ m14 hm_
          refine ch_pop d_x_carryOutText_87 rfl ?_
          refine ch_iinc (i := 1) (v := (x1 + 1)) d_x_carryOutText_88 rfl rfl (Nat.le_of_ble_eq_true rfl) (ls' := [some (.inr (0, 0, 0)), some (.inl (.int (x1 + 1)))]) rfl ?_
          refine ch_goto (tgt := 10) d_x_carryOutText_91 (by decide) ?_
          exact h
      · replace h := h.2 c_ m5 hm_
        refine ch_if_eq (tgt := 62) d_x_carryOutText_49 (by decide) (fun c => absurd c (by decide)) (fun _ => ?_)
        refine ch_aload_n (i := 0) d_x_carryOutText_52 rfl rfl ?_
        refine ch_get (v := .inr (3, 0, 0)) d_x_carryOutText_53 fl_x_35 rfl ?_
        refine ch_iload_n (i := 1) d_x_carryOutText_56 rfl rfl ?_
        refine ch_put d_x_carryOutText_57 fp_x_232 rfl rfl rfl ?_
        generalize hmm16 : ch_wr m5 (3, 0, 0) 2 x1 = m16
        replace h := h m16 hmm16.symm
        refine ch_iconst (v := 0) d_x_carryOutText_60 (by decide) ?_
        exact ch_iret (ty := .int) d_x_carryOutText_61 rfl rfl (Nat.le_of_ble_eq_true rfl) h
    · replace h := h.2 c_ m2 hm_
      refine ch_if_eq (tgt := 94) d_x_carryOutText_31 (by decide) (fun _ => ?_) (fun c => absurd c (by decide))
      refine ch_iload_n (i := 1) d_x_carryOutText_94 rfl rfl ?_
      exact ch_iret (ty := .int) d_x_carryOutText_95 rfl rfl (Nat.le_of_ble_eq_true rfl) h
