theorem e_m_ranked (g : ch_G) (Q : ch_O → ch_M → Prop) (p1 : Int32) (p2 : Int32) (m : ch_M) (h : ch_J g m_m_ranked (ch_rm m_m_ranked) (ch_E g m_m_ranked Q) 0 [some (.inr (9, 0, 0)), some (.inl (.int p1)), some (.inl (.int p2)), none, none, none, none] [] m 0) : ch_C g m_m_ranked [.inr (9, 0, 0), .inl (.int p1), .inl (.int p2)] m Q :=
  ch_enter mf_m_ranked (by intro v hv; simp only [List.mem_cons, List.not_mem_nil, or_false] at hv; rcases hv with rfl | rfl | rfl <;> rfl) (Nat.le_of_ble_eq_true rfl) h
set_option maxHeartbeats 1600000 in
theorem g_m_ranked_0 (g : ch_G) (Q : ch_O → ch_M → Prop) (p1 : Int32) (p2 : Int32) (m : ch_M) (h : (∀ m1 : ch_M, m1 = ch_wr m (9, 0, 0) 19 0 → (((0 ≤ p1 ∧ p1 ≤ 3) → ch_J g m_m_ranked (ch_rm m_m_ranked) (ch_E g m_m_ranked Q) 22 [some (.inr (9, 0, 0)), some (.inl (.int p1)), some (.inl (.int p2)), some (.inl (.int 0)), none, none, none] [] m1 0) ∧ ((¬ (0 ≤ p1 ∧ p1 ≤ 3)) → ((∀ m6 : ch_M, m6 = ch_wr m1 (9, 0, 0) 19 1 → Q (.inl (some (.inl (.int 0)))) m6)))))) : ch_J g m_m_ranked (ch_rm m_m_ranked) (ch_E g m_m_ranked Q) 0 [some (.inr (9, 0, 0)), some (.inl (.int p1)), some (.inl (.int p2)), none, none, none, none] [] m 0 := by
  refine ch_aload_n (i := 0) d_m_ranked_0 rfl rfl ?_
  refine ch_iconst (v := 0) d_m_ranked_1 (by decide) ?_
  refine ch_put d_m_ranked_2 fp_m_48 rfl rfl rfl ?_
  generalize hmm1 : ch_wr m (9, 0, 0) 19 0 = m1
  replace h := h m1 hmm1.symm
  refine ch_iload_n (i := 1) d_m_ranked_5 rfl rfl ?_
  refine ch_iconst (v := 0) d_m_ranked_6 (by decide) ?_
  refine ch_iconst (v := 3) d_m_ranked_7 (by decide) ?_
  refine ch_callS (as := [.inl (.int p1), .inl (.int 0), .inl (.int 3)]) d_m_ranked_8 lk_m_73 ms_m_in rfl rfl ⟨Nat.le_of_ble_eq_true rfl, Nat.le_of_ble_eq_true rfl⟩ (Nat.le_of_ble_eq_true rfl) ⟨Nat.le_of_ble_eq_true rfl, Nat.le_of_ble_eq_true rfl⟩ (ch_mono (ch_Ki (fun r2 m3 q4 => ?_)) (s_m_in g (fun (r_ : Int32) (m_ : ch_M) => ((0 ≤ p1 ∧ p1 ≤ 3) ∧ 1 = r_ ∧ m1 = m_) ∨ ((¬ (0 ≤ p1 ∧ p1 ≤ 3)) ∧ 0 = r_ ∧ m1 = m_)) (p1) (0) (3) m1 ⟨(fun c_ => (Or.inl ⟨c_, rfl, rfl⟩)), (fun c_ => (Or.inr ⟨c_, rfl, rfl⟩))⟩))
  rcases q4 with ⟨c_, rfl, rfl⟩ | ⟨c_, rfl, rfl⟩
  · replace h := h.1 c_
    refine ch_if_ne (tgt := 20) d_m_ranked_11 (by decide) (fun _ => ?_) (fun c => absurd c (by decide))
    refine ch_iconst (v := 0) d_m_ranked_20 (by decide) ?_
    refine ch_istore_n (i := 3) d_m_ranked_21 rfl (Nat.le_of_ble_eq_true rfl) (ls' := [some (.inr (9, 0, 0)), some (.inl (.int p1)), some (.inl (.int p2)), some (.inl (.int 0)), none, none, none]) rfl ?_
    exact h
  · replace h := h.2 c_
    refine ch_if_ne (tgt := 20) d_m_ranked_11 (by decide) (fun c => absurd c (by decide)) (fun _ => ?_)
    refine ch_aload_n (i := 0) d_m_ranked_14 rfl rfl ?_
    refine ch_iconst (v := 1) d_m_ranked_15 (by decide) ?_
    refine ch_callV (as := [.inl (.int 1)]) d_m_ranked_16 lk_m_70 mi_m_raises me_m_raises rfl rfl rfl ⟨Nat.le_of_ble_eq_true rfl, Nat.le_of_ble_eq_true rfl⟩ (Nat.le_of_ble_eq_true rfl) ⟨Nat.le_of_ble_eq_true rfl, Nat.le_of_ble_eq_true rfl⟩ (ch_mono (ch_Ki (fun r5 m6 q7 => ?_)) (s_m_raises g (fun (r_ : Int32) (m_ : ch_M) => (0 = r_ ∧ m_ = ch_wr m1 (9, 0, 0) 19 1)) (1) m1 ⟨rfl, rfl⟩))
    obtain ⟨rfl, hm_⟩ := q7
    replace h := h m6 hm_
    exact ch_iret (ty := .int) d_m_ranked_19 rfl rfl (Nat.le_of_ble_eq_true rfl) h
set_option maxHeartbeats 1600000 in
theorem g_m_ranked_22 (g : ch_G) (Q : ch_O → ch_M → Prop) (x1 : Int32) (x2 : Int32) (x3 : Int32) (o4 : Option ch_V) (o5 : Option ch_V) (o6 : Option ch_V) (m : ch_M) (h : (((m (9, 0, 1) (0)) ≤ x3 → ((∀ m2 : ch_M, m2 = ch_wr m (9, 0, 0) 19 2 → Q (.inl (some (.inl (.int 0)))) m2))) ∧ (¬ (m (9, 0, 1) (0)) ≤ x3 → ch_J g m_m_ranked (ch_rm m_m_ranked) (ch_E g m_m_ranked Q) 38 [some (.inr (9, 0, 0)), some (.inl (.int x1)), some (.inl (.int x2)), some (.inl (.int x3)), some (.inl (.int 0)), some (.inl (.int 0)), o6] [] m 0))) : ch_J g m_m_ranked (ch_rm m_m_ranked) (ch_E g m_m_ranked Q) 22 [some (.inr (9, 0, 0)), some (.inl (.int x1)), some (.inl (.int x2)), some (.inl (.int x3)), o4, o5, o6] [] m 0 := by
  refine ch_iload_n (i := 3) d_m_ranked_22 rfl rfl ?_
  refine ch_aload_n (i := 0) d_m_ranked_23 rfl rfl ?_
  refine ch_get (v := .inr (9, 0, 1)) d_m_ranked_24 fl_m_9 rfl ?_
  refine ch_iconst (v := 0) d_m_ranked_27 (by decide) ?_
  refine ch_iald (n := 63) d_m_ranked_28 (by decide) rfl (vp_in_nI (n := 0) (by decide) (by decide)) ?_
  refine ch_icmp_ge (tgt := 104) d_m_ranked_29 (by decide) (fun c => ?_) (fun c => ?_)
  · replace h := h.1 c
    refine ch_aload_n (i := 0) d_m_ranked_104 rfl rfl ?_
    refine ch_iconst (v := 2) d_m_ranked_105 (by decide) ?_
    refine ch_callV (as := [.inl (.int 2)]) d_m_ranked_106 lk_m_70 mi_m_raises me_m_raises rfl rfl rfl ⟨Nat.le_of_ble_eq_true rfl, Nat.le_of_ble_eq_true rfl⟩ (Nat.le_of_ble_eq_true rfl) ⟨Nat.le_of_ble_eq_true rfl, Nat.le_of_ble_eq_true rfl⟩ (ch_mono (ch_Ki (fun r1 m2 q3 => ?_)) (s_m_raises g (fun (r_ : Int32) (m_ : ch_M) => (0 = r_ ∧ m_ = ch_wr m (9, 0, 0) 19 2)) (2) m ⟨rfl, rfl⟩))
    obtain ⟨rfl, hm_⟩ := q3
    replace h := h m2 hm_
    exact ch_iret (ty := .int) d_m_ranked_109 rfl rfl (Nat.le_of_ble_eq_true rfl) h
  · replace h := h.2 c
    refine ch_iconst (v := 0) d_m_ranked_32 (by decide) ?_
    refine ch_istore (i := 4) d_m_ranked_33 (Nat.le_of_ble_eq_true rfl) (ls' := [some (.inr (9, 0, 0)), some (.inl (.int x1)), some (.inl (.int x2)), some (.inl (.int x3)), some (.inl (.int 0)), o5, o6]) rfl ?_
    refine ch_iconst (v := 0) d_m_ranked_35 (by decide) ?_
    refine ch_istore (i := 5) d_m_ranked_36 (Nat.le_of_ble_eq_true rfl) (ls' := [some (.inr (9, 0, 0)), some (.inl (.int x1)), some (.inl (.int x2)), some (.inl (.int x3)), some (.inl (.int 0)), some (.inl (.int 0)), o6]) rfl ?_
    exact h
set_option maxHeartbeats 1600000 in
theorem g_m_ranked_38 (g : ch_G) (Q : ch_O → ch_M → Prop) (x1 : Int32) (x2 : Int32) (x3 : Int32) (x4 : Int32) (x5 : Int32) (o6 : Option ch_V) (m : ch_M) (h : (((m (9, 0, 1) (0)) ≤ x5 → ((¬ x4 = x2 → ch_J g m_m_ranked (ch_rm m_m_ranked) (ch_E g m_m_ranked Q) 22 [some (.inr (9, 0, 0)), some (.inl (.int x1)), some (.inl (.int x2)), some (.inl (.int (x3 + 1))), some (.inl (.int x4)), some (.inl (.int x5)), o6] [] m 0) ∧ (x4 = x2 → Q (.inl (some (.inl (.int x3)))) m))) ∧ (¬ (m (9, 0, 1) (0)) ≤ x5 → (∃ Y_1 : ch_B, (m_rel Y_1 (m (9, 0, 1))) ∧ (vp_in x5 5) ∧ (vp_in x1 4) ∧ ((∃ Y_8 : ch_B, (m_rel Y_8 (m (9, 0, 1))) ∧ (vp_in x3 5) ∧ (((0 < ((y_ms Y_1 x5 x1) - (y_ms Y_8 x3 x1)) → ch_J g m_m_ranked (ch_rm m_m_ranked) (ch_E g m_m_ranked Q) 38 [some (.inr (9, 0, 0)), some (.inl (.int x1)), some (.inl (.int x2)), some (.inl (.int x3)), some (.inl (.int (x4 + 1))), some (.inl (.int (x5 + 1))), some (.inl (.int ((y_ms Y_1 x5 x1) - (y_ms Y_8 x3 x1))))] [] m 0) ∧ (¬ 0 < ((y_ms Y_1 x5 x1) - (y_ms Y_8 x3 x1)) → ((¬ ((y_ms Y_1 x5 x1) - (y_ms Y_8 x3 x1)) = 0 → ch_J g m_m_ranked (ch_rm m_m_ranked) (ch_E g m_m_ranked Q) 38 [some (.inr (9, 0, 0)), some (.inl (.int x1)), some (.inl (.int x2)), some (.inl (.int x3)), some (.inl (.int x4)), some (.inl (.int (x5 + 1))), some (.inl (.int ((y_ms Y_1 x5 x1) - (y_ms Y_8 x3 x1))))] [] m 0) ∧ (((y_ms Y_1 x5 x1) - (y_ms Y_8 x3 x1)) = 0 → ((x3 ≤ x5 → ch_J g m_m_ranked (ch_rm m_m_ranked) (ch_E g m_m_ranked Q) 38 [some (.inr (9, 0, 0)), some (.inl (.int x1)), some (.inl (.int x2)), some (.inl (.int x3)), some (.inl (.int x4)), some (.inl (.int (x5 + 1))), some (.inl (.int ((y_ms Y_1 x5 x1) - (y_ms Y_8 x3 x1))))] [] m 0) ∧ (¬ x3 ≤ x5 → ch_J g m_m_ranked (ch_rm m_m_ranked) (ch_E g m_m_ranked Q) 38 [some (.inr (9, 0, 0)), some (.inl (.int x1)), some (.inl (.int x2)), some (.inl (.int x3)), some (.inl (.int (x4 + 1))), some (.inl (.int (x5 + 1))), some (.inl (.int ((y_ms Y_1 x5 x1) - (y_ms Y_8 x3 x1))))] [] m 0))))))))))))) : ch_J g m_m_ranked (ch_rm m_m_ranked) (ch_E g m_m_ranked Q) 38 [some (.inr (9, 0, 0)), some (.inl (.int x1)), some (.inl (.int x2)), some (.inl (.int x3)), some (.inl (.int x4)), some (.inl (.int x5)), o6] [] m 0 := by
  refine ch_iload d_m_ranked_38 rfl ?_
  refine ch_aload_n (i := 0) d_m_ranked_40 rfl rfl ?_
  refine ch_get (v := .inr (9, 0, 1)) d_m_ranked_41 fl_m_9 rfl ?_
  refine ch_iconst (v := 0) d_m_ranked_44 (by decide) ?_
  refine ch_iald (n := 63) d_m_ranked_45 (by decide) rfl (vp_in_nI (n := 0) (by decide) (by decide)) ?_
  refine ch_icmp_ge (tgt := 90) d_m_ranked_46 (by decide) (fun c => ?_) (fun c => ?_)
  · replace h := h.1 c
    refine ch_iload d_m_ranked_90 rfl ?_
    refine ch_iload_n (i := 2) d_m_ranked_92 rfl rfl ?_
    refine ch_icmp_ne (tgt := 98) d_m_ranked_93 (by decide) (fun c => ?_) (fun c => ?_)
    · replace h := h.1 c
      refine ch_iinc (i := 3) (v := (x3 + 1)) d_m_ranked_98 rfl rfl (Nat.le_of_ble_eq_true rfl) (ls' := [some (.inr (9, 0, 0)), some (.inl (.int x1)), some (.inl (.int x2)), some (.inl (.int (x3 + 1))), some (.inl (.int x4)), some (.inl (.int x5)), o6]) rfl ?_
      refine ch_goto (tgt := 22) d_m_ranked_101 (by decide) ?_
      exact h
    · replace h := h.2 c
      refine ch_iload_n (i := 3) d_m_ranked_96 rfl rfl ?_
      exact ch_iret (ty := .int) d_m_ranked_97 rfl rfl (Nat.le_of_ble_eq_true rfl) h
  · replace h := h.2 c
    refine ch_aload_n (i := 0) d_m_ranked_49 rfl rfl ?_
    refine ch_iload d_m_ranked_50 rfl ?_
    refine ch_iload_n (i := 1) d_m_ranked_52 rfl rfl ?_
    obtain ⟨Y_1, h⟩ := h
    have b5 := h.1
    replace h := h.2
    have b6 := h.1
    replace h := h.2
    have b7 := h.1
    replace h := h.2
    refine ch_callV (as := [.inl (.int x5), .inl (.int x1)]) d_m_ranked_53 lk_m_203 mi_m_measure me_m_measure rfl rfl rfl ⟨Nat.le_of_ble_eq_true rfl, Nat.le_of_ble_eq_true rfl⟩ (Nat.le_of_ble_eq_true rfl) ⟨Nat.le_of_ble_eq_true rfl, Nat.le_of_ble_eq_true rfl⟩ (ch_mono (ch_Ki (fun r2 m3 q4 => ?_)) (s_m_measure g (fun (r_ : Int32) (m_ : ch_M) => ((y_ms Y_1 x5 x1) = r_ ∧ m = m_)) (Y_1) (x5) (x1) m ⟨b5, b6, b7, ⟨rfl, rfl⟩⟩))
    obtain ⟨rfl, rfl⟩ := q4
    replace h := h
    refine ch_aload_n (i := 0) d_m_ranked_56 rfl rfl ?_
    refine ch_iload_n (i := 3) d_m_ranked_57 rfl rfl ?_
    refine ch_iload_n (i := 1) d_m_ranked_58 rfl rfl ?_
    obtain ⟨Y_8, h⟩ := h
    have b12 := h.1
    replace h := h.2
    have b13 := h.1
    replace h := h.2
    refine ch_callV (as := [.inl (.int x3), .inl (.int x1)]) d_m_ranked_59 lk_m_203 mi_m_measure me_m_measure rfl rfl rfl ⟨Nat.le_of_ble_eq_true rfl, Nat.le_of_ble_eq_true rfl⟩ (Nat.le_of_ble_eq_true rfl) ⟨Nat.le_of_ble_eq_true rfl, Nat.le_of_ble_eq_true rfl⟩ (ch_mono (ch_Ki (fun r9 m10 q11 => ?_)) (s_m_measure g (fun (r_ : Int32) (m_ : ch_M) => ((y_ms Y_8 x3 x1) = r_ ∧ m = m_)) (Y_8) (x3) (x1) m ⟨b12, b13, b7, ⟨rfl, rfl⟩⟩))
    obtain ⟨rfl, rfl⟩ := q11
    replace h := h
    refine ch_isub d_m_ranked_62 ?_
    refine ch_istore (i := 6) d_m_ranked_63 (Nat.le_of_ble_eq_true rfl) (ls' := [some (.inr (9, 0, 0)), some (.inl (.int x1)), some (.inl (.int x2)), some (.inl (.int x3)), some (.inl (.int x4)), some (.inl (.int x5)), some (.inl (.int ((y_ms Y_1 x5 x1) - (y_ms Y_8 x3 x1))))]) rfl ?_
    refine ch_iload d_m_ranked_65 rfl ?_
    refine ch_if_gt (tgt := 81) d_m_ranked_67 (by decide) (fun c => ?_) (fun c => ?_)
    · replace h := h.1 c
      refine ch_iinc (i := 4) (v := (x4 + 1)) d_m_ranked_81 rfl rfl (Nat.le_of_ble_eq_true rfl) (ls' := [some (.inr (9, 0, 0)), some (.inl (.int x1)), some (.inl (.int x2)), some (.inl (.int x3)), some (.inl (.int (x4 + 1))), some (.inl (.int x5)), some (.inl (.int ((y_ms Y_1 x5 x1) - (y_ms Y_8 x3 x1))))]) rfl ?_
      refine ch_iinc (i := 5) (v := (x5 + 1)) d_m_ranked_84 rfl rfl (Nat.le_of_ble_eq_true rfl) (ls' := [some (.inr (9, 0, 0)), some (.inl (.int x1)), some (.inl (.int x2)), some (.inl (.int x3)), some (.inl (.int (x4 + 1))), some (.inl (.int (x5 + 1))), some (.inl (.int ((y_ms Y_1 x5 x1) - (y_ms Y_8 x3 x1))))]) rfl ?_
      refine ch_goto (tgt := 38) d_m_ranked_87 (by decide) ?_
      exact h
    · replace h := h.2 c
      refine ch_iload d_m_ranked_70 rfl ?_
      refine ch_if_ne (tgt := 84) d_m_ranked_72 (by decide) (fun c => ?_) (fun c => ?_)
      · replace h := h.1 c
        refine ch_iinc (i := 5) (v := (x5 + 1)) d_m_ranked_84 rfl rfl (Nat.le_of_ble_eq_true rfl) (ls' := [some (.inr (9, 0, 0)), some (.inl (.int x1)), some (.inl (.int x2)), some (.inl (.int x3)), some (.inl (.int x4)), some (.inl (.int (x5 + 1))), some (.inl (.int ((y_ms Y_1 x5 x1) - (y_ms Y_8 x3 x1))))]) rfl ?_
        refine ch_goto (tgt := 38) d_m_ranked_87 (by decide) ?_
        exact h
      · replace h := h.2 c
        refine ch_iload d_m_ranked_75 rfl ?_
        refine ch_iload_n (i := 3) d_m_ranked_77 rfl rfl ?_
        refine ch_icmp_ge (tgt := 84) d_m_ranked_78 (by decide) (fun c => ?_) (fun c => ?_)
        · replace h := h.1 c
          refine ch_iinc (i := 5) (v := (x5 + 1)) d_m_ranked_84 rfl rfl (Nat.le_of_ble_eq_true rfl) (ls' := [some (.inr (9, 0, 0)), some (.inl (.int x1)), some (.inl (.int x2)), some (.inl (.int x3)), some (.inl (.int x4)), some (.inl (.int (x5 + 1))), some (.inl (.int ((y_ms Y_1 x5 x1) - (y_ms Y_8 x3 x1))))]) rfl ?_
          refine ch_goto (tgt := 38) d_m_ranked_87 (by decide) ?_
          exact h
        · replace h := h.2 c
          refine ch_iinc (i := 4) (v := (x4 + 1)) d_m_ranked_81 rfl rfl (Nat.le_of_ble_eq_true rfl) (ls' := [some (.inr (9, 0, 0)), some (.inl (.int x1)), some (.inl (.int x2)), some (.inl (.int x3)), some (.inl (.int (x4 + 1))), some (.inl (.int x5)), some (.inl (.int ((y_ms Y_1 x5 x1) - (y_ms Y_8 x3 x1))))]) rfl ?_
          refine ch_iinc (i := 5) (v := (x5 + 1)) d_m_ranked_84 rfl rfl (Nat.le_of_ble_eq_true rfl) (ls' := [some (.inr (9, 0, 0)), some (.inl (.int x1)), some (.inl (.int x2)), some (.inl (.int x3)), some (.inl (.int (x4 + 1))), some (.inl (.int (x5 + 1))), some (.inl (.int ((y_ms Y_1 x5 x1) - (y_ms Y_8 x3 x1))))]) rfl ?_
          refine ch_goto (tgt := 38) d_m_ranked_87 (by decide) ?_
          exact h
