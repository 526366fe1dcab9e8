theorem e_m_endsBy (g : ch_G) (Q : ch_O → ch_M → Prop) (p1 : Int32) (m : ch_M) (h : ch_J g m_m_endsBy (ch_rm m_m_endsBy) (ch_E g m_m_endsBy Q) 0 [some (.inr (9, 0, 0)), some (.inl (.int p1)), none, none] [] m 0) : ch_C g m_m_endsBy [.inr (9, 0, 0), .inl (.int p1)] m Q :=
  ch_enter mf_m_endsBy (by intro v hv; simp only [List.mem_cons, List.not_mem_nil, or_false] at hv; rcases hv with rfl | rfl <;> rfl) (Nat.le_of_ble_eq_true rfl) h
set_option maxHeartbeats 1600000 in
theorem g_m_endsBy_0 (g : ch_G) (Q : ch_O → ch_M → Prop) (p1 : Int32) (m : ch_M) (h : ch_J g m_m_endsBy (ch_rm m_m_endsBy) (ch_E g m_m_endsBy Q) 4 [some (.inr (9, 0, 0)), some (.inl (.int p1)), some (.inl (.int 0)), some (.inl (.int 0))] [] m 0) : ch_J g m_m_endsBy (ch_rm m_m_endsBy) (ch_E g m_m_endsBy Q) 0 [some (.inr (9, 0, 0)), some (.inl (.int p1)), none, none] [] m 0 := by
  refine ch_iconst (v := 0) d_m_endsBy_0 (by decide) ?_
  refine ch_istore_n (i := 2) d_m_endsBy_1 rfl (Nat.le_of_ble_eq_true rfl) (ls' := [some (.inr (9, 0, 0)), some (.inl (.int p1)), some (.inl (.int 0)), none]) rfl ?_
  refine ch_iconst (v := 0) d_m_endsBy_2 (by decide) ?_
  refine ch_istore_n (i := 3) d_m_endsBy_3 rfl (Nat.le_of_ble_eq_true rfl) (ls' := [some (.inr (9, 0, 0)), some (.inl (.int p1)), some (.inl (.int 0)), some (.inl (.int 0))]) rfl ?_
  exact h
set_option maxHeartbeats 1600000 in
theorem g_m_endsBy_4 (g : ch_G) (Q : ch_O → ch_M → Prop) (x1 : Int32) (x2 : Int32) (x3 : Int32) (m : ch_M) (h : ((12 ≤ x3 → ch_J g m_m_endsBy (ch_rm m_m_endsBy) (ch_E g m_m_endsBy Q) 34 [some (.inr (9, 0, 0)), some (.inl (.int x1)), some (.inl (.int x2)), some (.inl (.int 0))] [] m 0) ∧ (¬ 12 ≤ x3 → (ch_C g m_m_chalkOf [.inr (9, 0, 0), .inl (.int x3)] m (ch_oi (fun (r1 : Int32) (m2 : ch_M) => (ch_C g m_m_in [.inl (.int r1), .inl (.int 1), .inl (.int x1)] m2 (ch_oi (fun (r3 : Int32) (m4 : ch_M) => ((r3 = 0 → ch_J g m_m_endsBy (ch_rm m_m_endsBy) (ch_E g m_m_endsBy Q) 4 [some (.inr (9, 0, 0)), some (.inl (.int x1)), some (.inl (.int x2)), some (.inl (.int (x3 + 1)))] [] m4 0) ∧ (¬ r3 = 0 → ch_J g m_m_endsBy (ch_rm m_m_endsBy) (ch_E g m_m_endsBy Q) 4 [some (.inr (9, 0, 0)), some (.inl (.int x1)), some (.inl (.int (x2 + 1))), some (.inl (.int (x3 + 1)))] [] m4 0))))))))))) : ch_J g m_m_endsBy (ch_rm m_m_endsBy) (ch_E g m_m_endsBy Q) 4 [some (.inr (9, 0, 0)), some (.inl (.int x1)), some (.inl (.int x2)), some (.inl (.int x3))] [] m 0 := by
  refine ch_iload_n (i := 3) d_m_endsBy_4 rfl rfl ?_
  refine ch_bipush (v := 12) d_m_endsBy_5 (by decide) ?_
  refine ch_icmp_ge (tgt := 32) d_m_endsBy_7 (by decide) (fun c => ?_) (fun c => ?_)
  · replace h := h.1 c
    refine ch_iconst (v := 0) d_m_endsBy_32 (by decide) ?_
    refine ch_istore_n (i := 3) d_m_endsBy_33 rfl (Nat.le_of_ble_eq_true rfl) (ls' := [some (.inr (9, 0, 0)), some (.inl (.int x1)), some (.inl (.int x2)), some (.inl (.int 0))]) rfl ?_
    exact h
  · replace h := h.2 c
    refine ch_aload_n (i := 0) d_m_endsBy_10 rfl rfl ?_
    refine ch_iload_n (i := 3) d_m_endsBy_11 rfl rfl ?_
    refine ch_callV (as := [.inl (.int x3)]) d_m_endsBy_12 lk_m_112 mi_m_chalkOf me_m_chalkOf rfl rfl rfl ⟨Nat.le_of_ble_eq_true rfl, Nat.le_of_ble_eq_true rfl⟩ (Nat.le_of_ble_eq_true rfl) ⟨Nat.le_of_ble_eq_true rfl, Nat.le_of_ble_eq_true rfl⟩ (ch_mono (ch_Ki (fun r1 m2 h => ?_)) h)
    refine ch_iconst (v := 1) d_m_endsBy_15 (by decide) ?_
    refine ch_iload_n (i := 1) d_m_endsBy_16 rfl rfl ?_
    refine ch_callS (as := [.inl (.int r1), .inl (.int 1), .inl (.int x1)]) d_m_endsBy_17 lk_m_73 ms_m_in rfl rfl ⟨Nat.le_of_ble_eq_true rfl, Nat.le_of_ble_eq_true rfl⟩ (Nat.le_of_ble_eq_true rfl) ⟨Nat.le_of_ble_eq_true rfl, Nat.le_of_ble_eq_true rfl⟩ (ch_mono (ch_Ki (fun r3 m4 h => ?_)) h)
    refine ch_if_eq (tgt := 26) d_m_endsBy_20 (by decide) (fun c => ?_) (fun c => ?_)
    · replace h := h.1 c
      refine ch_iinc (i := 3) (v := (x3 + 1)) d_m_endsBy_26 rfl rfl (Nat.le_of_ble_eq_true rfl) (ls' := [some (.inr (9, 0, 0)), some (.inl (.int x1)), some (.inl (.int x2)), some (.inl (.int (x3 + 1)))]) rfl ?_
      refine ch_goto (tgt := 4) d_m_endsBy_29 (by decide) ?_
      exact h
    · replace h := h.2 c
      refine ch_iinc (i := 2) (v := (x2 + 1)) d_m_endsBy_23 rfl rfl (Nat.le_of_ble_eq_true rfl) (ls' := [some (.inr (9, 0, 0)), some (.inl (.int x1)), some (.inl (.int (x2 + 1))), some (.inl (.int x3))]) rfl ?_
      refine ch_iinc (i := 3) (v := (x3 + 1)) d_m_endsBy_26 rfl rfl (Nat.le_of_ble_eq_true rfl) (ls' := [some (.inr (9, 0, 0)), some (.inl (.int x1)), some (.inl (.int (x2 + 1))), some (.inl (.int (x3 + 1)))]) rfl ?_
      refine ch_goto (tgt := 4) d_m_endsBy_29 (by decide) ?_
      exact h
set_option maxHeartbeats 1600000 in
theorem g_m_endsBy_34 (g : ch_G) (Q : ch_O → ch_M → Prop) (x1 : Int32) (x2 : Int32) (x3 : Int32) (m : ch_M) (h : (((m (9, 0, 1) (0)) ≤ x3 → Q (.inl (some (.inl (.int x2)))) m) ∧ (¬ (m (9, 0, 1) (0)) ≤ x3 → (ch_C g m_m_of [.inr (9, 0, 0), .inl (.int x3), .inl (.int 2)] m (ch_oi (fun (r1 : Int32) (m2 : ch_M) => (ch_C g m_m_in [.inl (.int r1), .inl (.int 1), .inl (.int x1)] m2 (ch_oi (fun (r3 : Int32) (m4 : ch_M) => ((r3 = 0 → ch_J g m_m_endsBy (ch_rm m_m_endsBy) (ch_E g m_m_endsBy Q) 34 [some (.inr (9, 0, 0)), some (.inl (.int x1)), some (.inl (.int x2)), some (.inl (.int (x3 + 1)))] [] m4 0) ∧ (¬ r3 = 0 → ch_J g m_m_endsBy (ch_rm m_m_endsBy) (ch_E g m_m_endsBy Q) 34 [some (.inr (9, 0, 0)), some (.inl (.int x1)), some (.inl (.int (x2 + 1))), some (.inl (.int (x3 + 1)))] [] m4 0))))))))))) : ch_J g m_m_endsBy (ch_rm m_m_endsBy) (ch_E g m_m_endsBy Q) 34 [some (.inr (9, 0, 0)), some (.inl (.int x1)), some (.inl (.int x2)), some (.inl (.int x3))] [] m 0 := by
  refine ch_iload_n (i := 3) d_m_endsBy_34 rfl rfl ?_
  refine ch_aload_n (i := 0) d_m_endsBy_35 rfl rfl ?_
  refine ch_get (v := .inr (9, 0, 1)) d_m_endsBy_36 fl_m_9 rfl ?_
  refine ch_iconst (v := 0) d_m_endsBy_39 (by decide) ?_
  refine ch_iald (n := 63) d_m_endsBy_40 (by decide) rfl (vp_in_nI (n := 0) (by decide) (by decide)) ?_
  refine ch_icmp_ge (tgt := 67) d_m_endsBy_41 (by decide) (fun c => ?_) (fun c => ?_)
  · replace h := h.1 c
    refine ch_iload_n (i := 2) d_m_endsBy_67 rfl rfl ?_
    exact ch_iret (ty := .int) d_m_endsBy_68 rfl rfl (Nat.le_of_ble_eq_true rfl) h
  · replace h := h.2 c
    refine ch_aload_n (i := 0) d_m_endsBy_44 rfl rfl ?_
    refine ch_iload_n (i := 3) d_m_endsBy_45 rfl rfl ?_
    refine ch_iconst (v := 2) d_m_endsBy_46 (by decide) ?_
    refine ch_callV (as := [.inl (.int x3), .inl (.int 2)]) d_m_endsBy_47 lk_m_85 mi_m_of me_m_of rfl rfl rfl ⟨Nat.le_of_ble_eq_true rfl, Nat.le_of_ble_eq_true rfl⟩ (Nat.le_of_ble_eq_true rfl) ⟨Nat.le_of_ble_eq_true rfl, Nat.le_of_ble_eq_true rfl⟩ (ch_mono (ch_Ki (fun r1 m2 h => ?_)) h)
    refine ch_iconst (v := 1) d_m_endsBy_50 (by decide) ?_
    refine ch_iload_n (i := 1) d_m_endsBy_51 rfl rfl ?_
    refine ch_callS (as := [.inl (.int r1), .inl (.int 1), .inl (.int x1)]) d_m_endsBy_52 lk_m_73 ms_m_in rfl rfl ⟨Nat.le_of_ble_eq_true rfl, Nat.le_of_ble_eq_true rfl⟩ (Nat.le_of_ble_eq_true rfl) ⟨Nat.le_of_ble_eq_true rfl, Nat.le_of_ble_eq_true rfl⟩ (ch_mono (ch_Ki (fun r3 m4 h => ?_)) h)
    refine ch_if_eq (tgt := 61) d_m_endsBy_55 (by decide) (fun c => ?_) (fun c => ?_)
    · replace h := h.1 c
      refine ch_iinc (i := 3) (v := (x3 + 1)) d_m_endsBy_61 rfl rfl (Nat.le_of_ble_eq_true rfl) (ls' := [some (.inr (9, 0, 0)), some (.inl (.int x1)), some (.inl (.int x2)), some (.inl (.int (x3 + 1)))]) rfl ?_
      refine ch_goto (tgt := 34) d_m_endsBy_64 (by decide) ?_
      exact h
    · replace h := h.2 c
      refine ch_iinc (i := 2) (v := (x2 + 1)) d_m_endsBy_58 rfl rfl (Nat.le_of_ble_eq_true rfl) (ls' := [some (.inr (9, 0, 0)), some (.inl (.int x1)), some (.inl (.int (x2 + 1))), some (.inl (.int x3))]) rfl ?_
      refine ch_iinc (i := 3) (v := (x3 + 1)) d_m_endsBy_61 rfl rfl (Nat.le_of_ble_eq_true rfl) (ls' := [some (.inr (9, 0, 0)), some (.inl (.int x1)), some (.inl (.int (x2 + 1))), some (.inl (.int (x3 + 1)))]) rfl ?_
      refine ch_goto (tgt := 34) d_m_endsBy_64 (by decide) ?_
      exact h
theorem e_m_rains (g : ch_G) (Q : ch_O → ch_M → Prop) (p1 : Int32) (m : ch_M) (h : ch_J g m_m_rains (ch_rm m_m_rains) (ch_E g m_m_rains Q) 0 [some (.inr (9, 0, 0)), some (.inl (.int p1)), none, none] [] m 0) : ch_C g m_m_rains [.inr (9, 0, 0), .inl (.int p1)] m Q :=
  ch_enter mf_m_rains (by intro v hv; simp only [List.mem_cons, List.not_mem_nil, or_false] at hv; rcases hv with rfl | rfl <;> rfl) (Nat.le_of_ble_eq_true rfl) h
set_option maxHeartbeats 1600000 in
theorem g_m_rains_0 (g : ch_G) (Q : ch_O → ch_M → Prop) (p1 : Int32) (m : ch_M) (h : (ch_C g m_m_in [.inl (.int p1), .inl (.int 1), .inl (.int 9)] m (ch_oi (fun (r1 : Int32) (m2 : ch_M) => ((¬ r1 = 0 → (ch_C g m_m_owned [.inr (9, 0, 0)] m2 (ch_oi (fun (r3 : Int32) (m4 : ch_M) => ((¬ (r3 + (m4 (9, 0, 1) (8))) = 0 → (ch_C g m_m_endsBy [.inr (9, 0, 0), .inl (.int p1)] m4 (ch_oi (fun (r5 : Int32) (m6 : ch_M) => ch_J g m_m_rains (ch_rm m_m_rains) (ch_E g m_m_rains Q) 48 [some (.inr (9, 0, 0)), some (.inl (.int p1)), some (.inl (.int r5)), some (.inl (.int 0))] [] m6 0)))) ∧ ((r3 + (m4 (9, 0, 1) (8))) = 0 → (ch_C g m_m_refuses [.inr (9, 0, 0), .inl (.int 12), .inl (.int 0)] m4 (ch_oi (fun (r7 : Int32) (m8 : ch_M) => (narrow .boolean (.int r7) = .int r7) ∧ Q (.inl (some (.inl (.int r7)))) m8))))))))) ∧ (r1 = 0 → (ch_C g m_m_refuses [.inr (9, 0, 0), .inl (.int 1), .inl (.int 0)] m2 (ch_oi (fun (r9 : Int32) (m10 : ch_M) => (narrow .boolean (.int r9) = .int r9) ∧ Q (.inl (some (.inl (.int r9)))) m10))))))))) : ch_J g m_m_rains (ch_rm m_m_rains) (ch_E g m_m_rains Q) 0 [some (.inr (9, 0, 0)), some (.inl (.int p1)), none, none] [] m 0 := by
  refine ch_iload_n (i := 1) d_m_rains_0 rfl rfl ?_
  refine ch_iconst (v := 1) d_m_rains_1 (by decide) ?_
  refine ch_bipush (v := 9) d_m_rains_2 (by decide) ?_
  refine ch_callS (as := [.inl (.int p1), .inl (.int 1), .inl (.int 9)]) d_m_rains_4 lk_m_73 ms_m_in rfl rfl ⟨Nat.le_of_ble_eq_true rfl, Nat.le_of_ble_eq_true rfl⟩ (Nat.le_of_ble_eq_true rfl) ⟨Nat.le_of_ble_eq_true rfl, Nat.le_of_ble_eq_true rfl⟩ (ch_mono (ch_Ki (fun r1 m2 h => ?_)) h)
  refine ch_if_ne (tgt := 17) d_m_rains_7 (by decide) (fun c => ?_) (fun c => ?_)
  · replace h := h.1 c
    refine ch_aload_n (i := 0) d_m_rains_17 rfl rfl ?_
    refine ch_callV (as := []) d_m_rains_18 lk_m_162 mi_m_owned me_m_owned rfl rfl rfl ⟨Nat.le_of_ble_eq_true rfl, Nat.le_of_ble_eq_true rfl⟩ (Nat.le_of_ble_eq_true rfl) ⟨Nat.le_of_ble_eq_true rfl, Nat.le_of_ble_eq_true rfl⟩ (ch_mono (ch_Ki (fun r3 m4 h => ?_)) h)
    refine ch_aload_n (i := 0) d_m_rains_21 rfl rfl ?_
    refine ch_get (v := .inr (9, 0, 1)) d_m_rains_22 fl_m_9 rfl ?_
    refine ch_bipush (v := 8) d_m_rains_25 (by decide) ?_
    refine ch_iald (n := 63) d_m_rains_27 (by decide) rfl (vp_in_nI (n := 8) (by decide) (by decide)) ?_
    refine ch_iadd d_m_rains_28 ?_
    refine ch_if_ne (tgt := 40) d_m_rains_29 (by decide) (fun c => ?_) (fun c => ?_)
    · replace h := h.1 c
      refine ch_aload_n (i := 0) d_m_rains_40 rfl rfl ?_
      refine ch_iload_n (i := 1) d_m_rains_41 rfl rfl ?_
      refine ch_callV (as := [.inl (.int p1)]) d_m_rains_42 lk_m_165 mi_m_endsBy me_m_endsBy rfl rfl rfl ⟨Nat.le_of_ble_eq_true rfl, Nat.le_of_ble_eq_true rfl⟩ (Nat.le_of_ble_eq_true rfl) ⟨Nat.le_of_ble_eq_true rfl, Nat.le_of_ble_eq_true rfl⟩ (ch_mono (ch_Ki (fun r5 m6 h => ?_)) h)
      refine ch_istore_n (i := 2) d_m_rains_45 rfl (Nat.le_of_ble_eq_true rfl) (ls' := [some (.inr (9, 0, 0)), some (.inl (.int p1)), some (.inl (.int r5)), none]) rfl ?_
      refine ch_iconst (v := 0) d_m_rains_46 (by decide) ?_
      refine ch_istore_n (i := 3) d_m_rains_47 rfl (Nat.le_of_ble_eq_true rfl) (ls' := [some (.inr (9, 0, 0)), some (.inl (.int p1)), some (.inl (.int r5)), some (.inl (.int 0))]) rfl ?_
      exact h
    · replace h := h.2 c
      refine ch_aload_n (i := 0) d_m_rains_32 rfl rfl ?_
      refine ch_bipush (v := 12) d_m_rains_33 (by decide) ?_
      refine ch_iconst (v := 0) d_m_rains_35 (by decide) ?_
      refine ch_callV (as := [.inl (.int 12), .inl (.int 0)]) d_m_rains_36 lk_m_81 mi_m_refuses me_m_refuses rfl rfl rfl ⟨Nat.le_of_ble_eq_true rfl, Nat.le_of_ble_eq_true rfl⟩ (Nat.le_of_ble_eq_true rfl) ⟨Nat.le_of_ble_eq_true rfl, Nat.le_of_ble_eq_true rfl⟩ (ch_mono (ch_Ki (fun r7 m8 h => ?_)) h)
      exact ch_iret (ty := .boolean) d_m_rains_39 rfl h.1 (Nat.le_of_ble_eq_true rfl) h.2
  · replace h := h.2 c
    refine ch_aload_n (i := 0) d_m_rains_10 rfl rfl ?_
    refine ch_iconst (v := 1) d_m_rains_11 (by decide) ?_
    refine ch_iconst (v := 0) d_m_rains_12 (by decide) ?_
    refine ch_callV (as := [.inl (.int 1), .inl (.int 0)]) d_m_rains_13 lk_m_81 mi_m_refuses me_m_refuses rfl rfl rfl ⟨Nat.le_of_ble_eq_true rfl, Nat.le_of_ble_eq_true rfl⟩ (Nat.le_of_ble_eq_true rfl) ⟨Nat.le_of_ble_eq_true rfl, Nat.le_of_ble_eq_true rfl⟩ (ch_mono (ch_Ki (fun r9 m10 h => ?_)) h)
    exact ch_iret (ty := .boolean) d_m_rains_16 rfl h.1 (Nat.le_of_ble_eq_true rfl) h.2
set_option maxHeartbeats 1600000 in
theorem g_m_rains_48 (g : ch_G) (Q : ch_O → ch_M → Prop) (x1 : Int32) (x2 : Int32) (x3 : Int32) (m : ch_M) (h : ((12 ≤ x3 → ch_J g m_m_rains (ch_rm m_m_rains) (ch_E g m_m_rains Q) 103 [some (.inr (9, 0, 0)), some (.inl (.int x1)), some (.inl (.int x2)), some (.inl (.int 0))] [] m 0) ∧ (¬ 12 ≤ x3 → (ch_C g m_m_chalkOf [.inr (9, 0, 0), .inl (.int x3)] m (ch_oi (fun (r1 : Int32) (m2 : ch_M) => ((¬ r1 = 0 → (vp_in ((14 + (2 * x3)) + 1) 63) ∧ (∀ m4 : ch_M, m4 = ch_wr m2 (9, 0, 1) (Int32.toNatClampNeg ((14 + (2 * x3)) + 1)) ((m2 (9, 0, 1) (Int32.toNatClampNeg ((14 + (2 * x3)) + 1))) - x1) → (ch_C g m_m_chalkOf [.inr (9, 0, 0), .inl (.int x3)] m4 (ch_oi (fun (r5 : Int32) (m6 : ch_M) => ((0 < r5 → ch_J g m_m_rains (ch_rm m_m_rains) (ch_E g m_m_rains Q) 48 [some (.inr (9, 0, 0)), some (.inl (.int x1)), some (.inl (.int x2)), some (.inl (.int (x3 + 1)))] [] m6 0) ∧ (¬ 0 < r5 → (ch_C g m_m_frees [.inr (9, 0, 0), .inl (.int x3)] m6 (ch_ov (fun (m8 : ch_M) => ch_J g m_m_rains (ch_rm m_m_rains) (ch_E g m_m_rains Q) 48 [some (.inr (9, 0, 0)), some (.inl (.int x1)), some (.inl (.int x2)), some (.inl (.int (x3 + 1)))] [] m8 0)))))))))) ∧ (r1 = 0 → ch_J g m_m_rains (ch_rm m_m_rains) (ch_E g m_m_rains Q) 48 [some (.inr (9, 0, 0)), some (.inl (.int x1)), some (.inl (.int x2)), some (.inl (.int (x3 + 1)))] [] m2 0)))))))) : ch_J g m_m_rains (ch_rm m_m_rains) (ch_E g m_m_rains Q) 48 [some (.inr (9, 0, 0)), some (.inl (.int x1)), some (.inl (.int x2)), some (.inl (.int x3))] [] m 0 := by
  refine ch_iload_n (i := 3) d_m_rains_48 rfl rfl ?_
  refine ch_bipush (v := 12) d_m_rains_49 (by decide) ?_
  refine ch_icmp_ge (tgt := 101) d_m_rains_51 (by decide) (fun c => ?_) (fun c => ?_)
  · replace h := h.1 c
    refine ch_iconst (v := 0) d_m_rains_101 (by decide) ?_
    refine ch_istore_n (i := 3) d_m_rains_102 rfl (Nat.le_of_ble_eq_true rfl) (ls' := [some (.inr (9, 0, 0)), some (.inl (.int x1)), some (.inl (.int x2)), some (.inl (.int 0))]) rfl ?_
    exact h
  · replace h := h.2 c
    refine ch_aload_n (i := 0) d_m_rains_54 rfl rfl ?_
    refine ch_iload_n (i := 3) d_m_rains_55 rfl rfl ?_
    refine ch_callV (as := [.inl (.int x3)]) d_m_rains_56 lk_m_112 mi_m_chalkOf me_m_chalkOf rfl rfl rfl ⟨Nat.le_of_ble_eq_true rfl, Nat.le_of_ble_eq_true rfl⟩ (Nat.le_of_ble_eq_true rfl) ⟨Nat.le_of_ble_eq_true rfl, Nat.le_of_ble_eq_true rfl⟩ (ch_mono (ch_Ki (fun r1 m2 h => ?_)) h)
    refine ch_if_ne (tgt := 65) d_m_rains_59 (by decide) (fun c => ?_) (fun c => ?_)
    · replace h := h.1 c
      refine ch_aload_n (i := 0) d_m_rains_65 rfl rfl ?_
      refine ch_get (v := .inr (9, 0, 1)) d_m_rains_66 fl_m_9 rfl ?_
      refine ch_bipush (v := 14) d_m_rains_69 (by decide) ?_
      refine ch_iconst (v := 2) d_m_rains_71 (by decide) ?_
      refine ch_iload_n (i := 3) d_m_rains_72 rfl rfl ?_
      refine ch_imul d_m_rains_73 ?_
      refine ch_iadd d_m_rains_74 ?_
      refine ch_iconst (v := 1) d_m_rains_75 (by decide) ?_
      refine ch_iadd d_m_rains_76 ?_
      refine ch_dup2 d_m_rains_77 rfl rfl ?_
      have b3 := h.1
      replace h := h.2
      refine ch_iald (n := 63) d_m_rains_78 (by decide) rfl b3 ?_
      refine ch_iload_n (i := 1) d_m_rains_79 rfl rfl ?_
      refine ch_isub d_m_rains_80 ?_
      refine ch_iast (n := 63) d_m_rains_81 (by decide) rfl b3 ?_
      show ch_J g _ _ _ _ _ _ (ch_wr m2 (9, 0, 1) (Int32.toNatClampNeg ((14 + (2 * x3)) + 1)) ((m2 (9, 0, 1) (Int32.toNatClampNeg ((14 + (2 * x3)) + 1))) - x1)) _
      generalize hmm4 : ch_wr m2 (9, 0, 1) (Int32.toNatClampNeg ((14 + (2 * x3)) + 1)) ((m2 (9, 0, 1) (Int32.toNatClampNeg ((14 + (2 * x3)) + 1))) - x1) = m4
      replace h := h m4 hmm4.symm
      refine ch_aload_n (i := 0) d_m_rains_82 rfl rfl ?_
      refine ch_iload_n (i := 3) d_m_rains_83 rfl rfl ?_
      refine ch_callV (as := [.inl (.int x3)]) d_m_rains_84 lk_m_112 mi_m_chalkOf me_m_chalkOf rfl rfl rfl ⟨Nat.le_of_ble_eq_true rfl, Nat.le_of_ble_eq_true rfl⟩ (Nat.le_of_ble_eq_true rfl) ⟨Nat.le_of_ble_eq_true rfl, Nat.le_of_ble_eq_true rfl⟩ (ch_mono (ch_Ki (fun r5 m6 h => ?_)) h)
      refine ch_if_gt (tgt := 95) d_m_rains_87 (by decide) (fun c => ?_) (fun c => ?_)
      · replace h := h.1 c
        refine ch_iinc (i := 3) (v := (x3 + 1)) d_m_rains_95 rfl rfl (Nat.le_of_ble_eq_true rfl) (ls' := [some (.inr (9, 0, 0)), some (.inl (.int x1)), some (.inl (.int x2)), some (.inl (.int (x3 + 1)))]) rfl ?_
        refine ch_goto (tgt := 48) d_m_rains_98 (by decide) ?_
        exact h
      · replace h := h.2 c
        refine ch_aload_n (i := 0) d_m_rains_90 rfl rfl ?_
        refine ch_iload_n (i := 3) d_m_rains_91 rfl rfl ?_
        refine ch_callV (as := [.inl (.int x3)]) d_m_rains_92 lk_m_140 mi_m_frees me_m_frees rfl rfl rfl ⟨Nat.le_of_ble_eq_true rfl, Nat.le_of_ble_eq_true rfl⟩ (Nat.le_of_ble_eq_true rfl) ⟨Nat.le_of_ble_eq_true rfl, Nat.le_of_ble_eq_true rfl⟩ (ch_mono (ch_Kv (fun m8 h => ?_)) h)
        refine ch_iinc (i := 3) (v := (x3 + 1)) d_m_rains_95 rfl rfl (Nat.le_of_ble_eq_true rfl) (ls' := [some (.inr (9, 0, 0)), some (.inl (.int x1)), some (.inl (.int x2)), some (.inl (.int (x3 + 1)))]) rfl ?_
        refine ch_goto (tgt := 48) d_m_rains_98 (by decide) ?_
        exact h
    · replace h := h.2 c
      refine ch_goto (tgt := 95) d_m_rains_62 (by decide) ?_
      refine ch_iinc (i := 3) (v := (x3 + 1)) d_m_rains_95 rfl rfl (Nat.le_of_ble_eq_true rfl) (ls' := [some (.inr (9, 0, 0)), some (.inl (.int x1)), some (.inl (.int x2)), some (.inl (.int (x3 + 1)))]) rfl ?_
      refine ch_goto (tgt := 48) d_m_rains_98 (by decide) ?_
      exact h
set_option maxHeartbeats 1600000 in
theorem g_m_rains_103 (g : ch_G) (Q : ch_O → ch_M → Prop) (x1 : Int32) (x2 : Int32) (x3 : Int32) (m : ch_M) (h : (((m (9, 0, 1) (0)) ≤ x3 → (ch_C g m_m_does [.inr (9, 0, 0), .inl (.int x2)] m (ch_oi (fun (r1 : Int32) (m2 : ch_M) => (narrow .boolean (.int r1) = .int r1) ∧ Q (.inl (some (.inl (.int r1)))) m2)))) ∧ (¬ (m (9, 0, 1) (0)) ≤ x3 → (ch_C g m_m_of [.inr (9, 0, 0), .inl (.int x3), .inl (.int 2)] m (ch_oi (fun (r3 : Int32) (m4 : ch_M) => ((¬ r3 = 0 → (ch_C g m_m_of [.inr (9, 0, 0), .inl (.int x3), .inl (.int 2)] m4 (ch_oi (fun (r5 : Int32) (m6 : ch_M) => (ch_C g m_m_sets [.inr (9, 0, 0), .inl (.int x3), .inl (.int 2), .inl (.int (r5 - x1))] m6 (ch_ov (fun (m8 : ch_M) => (ch_C g m_m_of [.inr (9, 0, 0), .inl (.int x3), .inl (.int 2)] m8 (ch_oi (fun (r9 : Int32) (m10 : ch_M) => ((r9 ≤ 0 → (ch_C g m_m_closes [.inr (9, 0, 0), .inl (.int x3)] m10 (ch_ov (fun (m12 : ch_M) => (∀ m13 : ch_M, m13 = ch_wr m12 (9, 0, 1) (5) ((m12 (9, 0, 1) (5)) + 1) → ch_J g m_m_rains (ch_rm m_m_rains) (ch_E g m_m_rains Q) 103 [some (.inr (9, 0, 0)), some (.inl (.int x1)), some (.inl (.int x2)), some (.inl (.int (x3 + 1)))] [] m13 0))))) ∧ (¬ r9 ≤ 0 → ch_J g m_m_rains (ch_rm m_m_rains) (ch_E g m_m_rains Q) 103 [some (.inr (9, 0, 0)), some (.inl (.int x1)), some (.inl (.int x2)), some (.inl (.int (x3 + 1)))] [] m10 0)))))))))))) ∧ (r3 = 0 → ch_J g m_m_rains (ch_rm m_m_rains) (ch_E g m_m_rains Q) 103 [some (.inr (9, 0, 0)), some (.inl (.int x1)), some (.inl (.int x2)), some (.inl (.int (x3 + 1)))] [] m4 0)))))))) : ch_J g m_m_rains (ch_rm m_m_rains) (ch_E g m_m_rains Q) 103 [some (.inr (9, 0, 0)), some (.inl (.int x1)), some (.inl (.int x2)), some (.inl (.int x3))] [] m 0 := by
  refine ch_iload_n (i := 3) d_m_rains_103 rfl rfl ?_
  refine ch_aload_n (i := 0) d_m_rains_104 rfl rfl ?_
  refine ch_get (v := .inr (9, 0, 1)) d_m_rains_105 fl_m_9 rfl ?_
  refine ch_iconst (v := 0) d_m_rains_108 (by decide) ?_
  refine ch_iald (n := 63) d_m_rains_109 (by decide) rfl (vp_in_nI (n := 0) (by decide) (by decide)) ?_
  refine ch_icmp_ge (tgt := 172) d_m_rains_110 (by decide) (fun c => ?_) (fun c => ?_)
  · replace h := h.1 c
    refine ch_aload_n (i := 0) d_m_rains_172 rfl rfl ?_
    refine ch_iload_n (i := 2) d_m_rains_173 rfl rfl ?_
    refine ch_callV (as := [.inl (.int x2)]) d_m_rains_174 lk_m_93 mi_m_does me_m_does rfl rfl rfl ⟨Nat.le_of_ble_eq_true rfl, Nat.le_of_ble_eq_true rfl⟩ (Nat.le_of_ble_eq_true rfl) ⟨Nat.le_of_ble_eq_true rfl, Nat.le_of_ble_eq_true rfl⟩ (ch_mono (ch_Ki (fun r1 m2 h => ?_)) h)
    exact ch_iret (ty := .boolean) d_m_rains_177 rfl h.1 (Nat.le_of_ble_eq_true rfl) h.2
  · replace h := h.2 c
    refine ch_aload_n (i := 0) d_m_rains_113 rfl rfl ?_
    refine ch_iload_n (i := 3) d_m_rains_114 rfl rfl ?_
    refine ch_iconst (v := 2) d_m_rains_115 (by decide) ?_
    refine ch_callV (as := [.inl (.int x3), .inl (.int 2)]) d_m_rains_116 lk_m_85 mi_m_of me_m_of rfl rfl rfl ⟨Nat.le_of_ble_eq_true rfl, Nat.le_of_ble_eq_true rfl⟩ (Nat.le_of_ble_eq_true rfl) ⟨Nat.le_of_ble_eq_true rfl, Nat.le_of_ble_eq_true rfl⟩ (ch_mono (ch_Ki (fun r3 m4 h => ?_)) h)
    refine ch_if_ne (tgt := 125) d_m_rains_119 (by decide) (fun c => ?_) (fun c => ?_)
    · replace h := h.1 c
      refine ch_aload_n (i := 0) d_m_rains_125 rfl rfl ?_
      refine ch_iload_n (i := 3) d_m_rains_126 rfl rfl ?_
      refine ch_iconst (v := 2) d_m_rains_127 (by decide) ?_
      refine ch_aload_n (i := 0) d_m_rains_128 rfl rfl ?_
      refine ch_iload_n (i := 3) d_m_rains_129 rfl rfl ?_
      refine ch_iconst (v := 2) d_m_rains_130 (by decide) ?_
      refine ch_callV (as := [.inl (.int x3), .inl (.int 2)]) d_m_rains_131 lk_m_85 mi_m_of me_m_of rfl rfl rfl ⟨Nat.le_of_ble_eq_true rfl, Nat.le_of_ble_eq_true rfl⟩ (Nat.le_of_ble_eq_true rfl) ⟨Nat.le_of_ble_eq_true rfl, Nat.le_of_ble_eq_true rfl⟩ (ch_mono (ch_Ki (fun r5 m6 h => ?_)) h)
      refine ch_iload_n (i := 1) d_m_rains_134 rfl rfl ?_
      refine ch_isub d_m_rains_135 ?_
      refine ch_callV (as := [.inl (.int x3), .inl (.int 2), .inl (.int (r5 - x1))]) d_m_rains_136 lk_m_89 mi_m_sets me_m_sets rfl rfl rfl ⟨Nat.le_of_ble_eq_true rfl, Nat.le_of_ble_eq_true rfl⟩ (Nat.le_of_ble_eq_true rfl) ⟨Nat.le_of_ble_eq_true rfl, Nat.le_of_ble_eq_true rfl⟩ (ch_mono (ch_Kv (fun m8 h => ?_)) h)
      refine ch_aload_n (i := 0) d_m_rains_139 rfl rfl ?_
      refine ch_iload_n (i := 3) d_m_rains_140 rfl rfl ?_
      refine ch_iconst (v := 2) d_m_rains_141 (by decide) ?_
      refine ch_callV (as := [.inl (.int x3), .inl (.int 2)]) d_m_rains_142 lk_m_85 mi_m_of me_m_of rfl rfl rfl ⟨Nat.le_of_ble_eq_true rfl, Nat.le_of_ble_eq_true rfl⟩ (Nat.le_of_ble_eq_true rfl) ⟨Nat.le_of_ble_eq_true rfl, Nat.le_of_ble_eq_true rfl⟩ (ch_mono (ch_Ki (fun r9 m10 h => ?_)) h)
      refine ch_if_le (tgt := 151) d_m_rains_145 (by decide) (fun c => ?_) (fun c => ?_)
      · replace h := h.1 c
        refine ch_aload_n (i := 0) d_m_rains_151 rfl rfl ?_
        refine ch_iload_n (i := 3) d_m_rains_152 rfl rfl ?_
        refine ch_callV (as := [.inl (.int x3)]) d_m_rains_153 lk_m_156 mi_m_closes me_m_closes rfl rfl rfl ⟨Nat.le_of_ble_eq_true rfl, Nat.le_of_ble_eq_true rfl⟩ (Nat.le_of_ble_eq_true rfl) ⟨Nat.le_of_ble_eq_true rfl, Nat.le_of_ble_eq_true rfl⟩ (ch_mono (ch_Kv (fun m12 h => ?_)) h)
        refine ch_aload_n (i := 0) d_m_rains_156 rfl rfl ?_
        refine ch_get (v := .inr (9, 0, 1)) d_m_rains_157 fl_m_9 rfl ?_
        refine ch_iconst (v := 5) d_m_rains_160 (by decide) ?_
        refine ch_dup2 d_m_rains_161 rfl rfl ?_
        refine ch_iald (n := 63) d_m_rains_162 (by decide) rfl (vp_in_nI (n := 5) (by decide) (by decide)) ?_
        refine ch_iconst (v := 1) d_m_rains_163 (by decide) ?_
        refine ch_iadd d_m_rains_164 ?_
        refine ch_iast (n := 63) d_m_rains_165 (by decide) rfl (vp_in_nI (n := 5) (by decide) (by decide)) ?_
        show ch_J g _ _ _ _ _ _ (ch_wr m12 (9, 0, 1) (5) ((m12 (9, 0, 1) (5)) + 1)) _
        generalize hmm13 : ch_wr m12 (9, 0, 1) (5) ((m12 (9, 0, 1) (5)) + 1) = m13
        replace h := h m13 hmm13.symm
        refine ch_iinc (i := 3) (v := (x3 + 1)) d_m_rains_166 rfl rfl (Nat.le_of_ble_eq_true rfl) (ls' := [some (.inr (9, 0, 0)), some (.inl (.int x1)), some (.inl (.int x2)), some (.inl (.int (x3 + 1)))]) rfl ?_
        refine ch_goto (tgt := 103) d_m_rains_169 (by decide) ?_
        exact h
      · replace h := h.2 c
        refine ch_goto (tgt := 166) d_m_rains_148 (by decide) ?_
        refine ch_iinc (i := 3) (v := (x3 + 1)) d_m_rains_166 rfl rfl (Nat.le_of_ble_eq_true rfl) (ls' := [some (.inr (9, 0, 0)), some (.inl (.int x1)), some (.inl (.int x2)), some (.inl (.int (x3 + 1)))]) rfl ?_
        refine ch_goto (tgt := 103) d_m_rains_169 (by decide) ?_
        exact h
    · replace h := h.2 c
      refine ch_goto (tgt := 166) d_m_rains_122 (by decide) ?_
      refine ch_iinc (i := 3) (v := (x3 + 1)) d_m_rains_166 rfl rfl (Nat.le_of_ble_eq_true rfl) (ls' := [some (.inr (9, 0, 0)), some (.inl (.int x1)), some (.inl (.int x2)), some (.inl (.int (x3 + 1)))]) rfl ?_
      refine ch_goto (tgt := 103) d_m_rains_169 (by decide) ?_
      exact h
theorem e_m_rain (g : ch_G) (Q : ch_O → ch_M → Prop) (p1 : Int32) (m : ch_M) (h : ch_J g m_m_rain (ch_rm m_m_rain) (ch_E g m_m_rain Q) 0 [some (.inr (9, 0, 0)), some (.inl (.int p1))] [] m 0) : ch_C g m_m_rain [.inr (9, 0, 0), .inl (.int p1)] m Q :=
  ch_enter mf_m_rain (by intro v hv; simp only [List.mem_cons, List.not_mem_nil, or_false] at hv; rcases hv with rfl | rfl <;> rfl) (Nat.le_of_ble_eq_true rfl) h
set_option maxHeartbeats 1600000 in
theorem g_m_rain_0 (g : ch_G) (Q : ch_O → ch_M → Prop) (p1 : Int32) (m : ch_M) (h : (ch_C g m_m_tries [.inr (9, 0, 0)] m (ch_ov (fun (m2 : ch_M) => (ch_C g m_m_rains [.inr (9, 0, 0), .inl (.int p1)] m2 (ch_oi (fun (r3 : Int32) (m4 : ch_M) => (ch_C g m_m_ends [.inr (9, 0, 0), .inl (.int r3)] m4 (ch_oi (fun (r5 : Int32) (m6 : ch_M) => Q (.inl (some (.inl (.int r5)))) m6)))))))))) : ch_J g m_m_rain (ch_rm m_m_rain) (ch_E g m_m_rain Q) 0 [some (.inr (9, 0, 0)), some (.inl (.int p1))] [] m 0 := by
  refine ch_aload_n (i := 0) d_m_rain_0 rfl rfl ?_
  refine ch_callV (as := []) d_m_rain_1 lk_m_96 mi_m_tries me_m_tries rfl rfl rfl ⟨Nat.le_of_ble_eq_true rfl, Nat.le_of_ble_eq_true rfl⟩ (Nat.le_of_ble_eq_true rfl) ⟨Nat.le_of_ble_eq_true rfl, Nat.le_of_ble_eq_true rfl⟩ (ch_mono (ch_Kv (fun m2 h => ?_)) h)
  refine ch_aload_n (i := 0) d_m_rain_4 rfl rfl ?_
  refine ch_aload_n (i := 0) d_m_rain_5 rfl rfl ?_
  refine ch_iload_n (i := 1) d_m_rain_6 rfl rfl ?_
  refine ch_callV (as := [.inl (.int p1)]) d_m_rain_7 lk_m_168 mi_m_rains me_m_rains rfl rfl rfl ⟨Nat.le_of_ble_eq_true rfl, Nat.le_of_ble_eq_true rfl⟩ (Nat.le_of_ble_eq_true rfl) ⟨Nat.le_of_ble_eq_true rfl, Nat.le_of_ble_eq_true rfl⟩ (ch_mono (ch_Ki (fun r3 m4 h => ?_)) h)
  refine ch_callV (as := [.inl (.int r3)]) d_m_rain_10 lk_m_102 mi_m_ends me_m_ends rfl rfl rfl ⟨Nat.le_of_ble_eq_true rfl, Nat.le_of_ble_eq_true rfl⟩ (Nat.le_of_ble_eq_true rfl) ⟨Nat.le_of_ble_eq_true rfl, Nat.le_of_ble_eq_true rfl⟩ (ch_mono (ch_Ki (fun r5 m6 h => ?_)) h)
  exact ch_iret (ty := .int) d_m_rain_13 rfl rfl (Nat.le_of_ble_eq_true rfl) h
theorem e_m_goesBy (g : ch_G) (Q : ch_O → ch_M → Prop)  (m : ch_M) (h : ch_J g m_m_goesBy (ch_rm m_m_goesBy) (ch_E g m_m_goesBy Q) 0 [some (.inr (9, 0, 0)), none, none, none] [] m 0) : ch_C g m_m_goesBy [.inr (9, 0, 0)] m Q :=
  ch_enter mf_m_goesBy (by intro v hv; simp only [List.mem_cons, List.not_mem_nil, or_false] at hv; rcases hv with rfl <;> rfl) (Nat.le_of_ble_eq_true rfl) h
set_option maxHeartbeats 1600000 in
theorem g_m_goesBy_0 (g : ch_G) (Q : ch_O → ch_M → Prop)  (m : ch_M) (h : ch_J g m_m_goesBy (ch_rm m_m_goesBy) (ch_E g m_m_goesBy Q) 4 [some (.inr (9, 0, 0)), some (.inl (.int 0)), some (.inl (.int 0)), none] [] m 0) : ch_J g m_m_goesBy (ch_rm m_m_goesBy) (ch_E g m_m_goesBy Q) 0 [some (.inr (9, 0, 0)), none, none, none] [] m 0 := by
  refine ch_iconst (v := 0) d_m_goesBy_0 (by decide) ?_
  refine ch_istore_n (i := 1) d_m_goesBy_1 rfl (Nat.le_of_ble_eq_true rfl) (ls' := [some (.inr (9, 0, 0)), some (.inl (.int 0)), none, none]) rfl ?_
  refine ch_iconst (v := 0) d_m_goesBy_2 (by decide) ?_
  refine ch_istore_n (i := 2) d_m_goesBy_3 rfl (Nat.le_of_ble_eq_true rfl) (ls' := [some (.inr (9, 0, 0)), some (.inl (.int 0)), some (.inl (.int 0)), none]) rfl ?_
  exact h
set_option maxHeartbeats 1600000 in
theorem g_m_goesBy_4 (g : ch_G) (Q : ch_O → ch_M → Prop) (x1 : Int32) (x2 : Int32) (o3 : Option ch_V) (m : ch_M) (h : (((m (9, 0, 1) (0)) ≤ x2 → ch_J g m_m_goesBy (ch_rm m_m_goesBy) (ch_E g m_m_goesBy Q) 95 [some (.inr (9, 0, 0)), some (.inl (.int x1)), some (.inl (.int 0)), o3] [] m 0) ∧ (¬ (m (9, 0, 1) (0)) ≤ x2 → ch_J g m_m_goesBy (ch_rm m_m_goesBy) (ch_E g m_m_goesBy Q) 16 [some (.inr (9, 0, 0)), some (.inl (.int x1)), some (.inl (.int x2)), some (.inl (.int 0))] [] m 0))) : ch_J g m_m_goesBy (ch_rm m_m_goesBy) (ch_E g m_m_goesBy Q) 4 [some (.inr (9, 0, 0)), some (.inl (.int x1)), some (.inl (.int x2)), o3] [] m 0 := by
  refine ch_iload_n (i := 2) d_m_goesBy_4 rfl rfl ?_
  refine ch_aload_n (i := 0) d_m_goesBy_5 rfl rfl ?_
  refine ch_get (v := .inr (9, 0, 1)) d_m_goesBy_6 fl_m_9 rfl ?_
  refine ch_iconst (v := 0) d_m_goesBy_9 (by decide) ?_
  refine ch_iald (n := 63) d_m_goesBy_10 (by decide) rfl (vp_in_nI (n := 0) (by decide) (by decide)) ?_
  refine ch_icmp_ge (tgt := 93) d_m_goesBy_11 (by decide) (fun c => ?_) (fun c => ?_)
  · replace h := h.1 c
    refine ch_iconst (v := 0) d_m_goesBy_93 (by decide) ?_
    refine ch_istore_n (i := 2) d_m_goesBy_94 rfl (Nat.le_of_ble_eq_true rfl) (ls' := [some (.inr (9, 0, 0)), some (.inl (.int x1)), some (.inl (.int 0)), o3]) rfl ?_
    exact h
  · replace h := h.2 c
    refine ch_iconst (v := 0) d_m_goesBy_14 (by decide) ?_
    refine ch_istore_n (i := 3) d_m_goesBy_15 rfl (Nat.le_of_ble_eq_true rfl) (ls' := [some (.inr (9, 0, 0)), some (.inl (.int x1)), some (.inl (.int x2)), some (.inl (.int 0))]) rfl ?_
    exact h
set_option maxHeartbeats 1600000 in
theorem g_m_goesBy_16 (g : ch_G) (Q : ch_O → ch_M → Prop) (x1 : Int32) (x2 : Int32) (x3 : Int32) (m : ch_M) (h : ((12 ≤ x3 → ch_J g m_m_goesBy (ch_rm m_m_goesBy) (ch_E g m_m_goesBy Q) 4 [some (.inr (9, 0, 0)), some (.inl (.int x1)), some (.inl (.int (x2 + 1))), some (.inl (.int x3))] [] m 0) ∧ (¬ 12 ≤ x3 → (ch_C g m_m_owner [.inr (9, 0, 0), .inl (.int x3)] m (ch_oi (fun (r1 : Int32) (m2 : ch_M) => ((r1 = x2 → (ch_C g m_m_of [.inr (9, 0, 0), .inl (.int x2), .inl (.int 0)] m2 (ch_oi (fun (r3 : Int32) (m4 : ch_M) => ((r3 ≤ 0 → (ch_C g m_m_frees [.inr (9, 0, 0), .inl (.int x3)] m4 (ch_ov (fun (m6 : ch_M) => ch_J g m_m_goesBy (ch_rm m_m_goesBy) (ch_E g m_m_goesBy Q) 16 [some (.inr (9, 0, 0)), some (.inl (.int (x1 ||| (1 <<< (x3 &&& 31))))), some (.inl (.int x2)), some (.inl (.int (x3 + 1)))] [] m6 0)))) ∧ (¬ r3 ≤ 0 → (ch_C g m_m_of [.inr (9, 0, 0), .inl (.int x2), .inl (.int 0)] m4 (ch_oi (fun (r7 : Int32) (m8 : ch_M) => (ch_C g m_m_sets [.inr (9, 0, 0), .inl (.int x2), .inl (.int 0), .inl (.int (r7 - 1))] m8 (ch_ov (fun (m10 : ch_M) => (∀ m11 : ch_M, m11 = ch_wr m10 (9, 0, 1) (1) ((m10 (9, 0, 1) (1)) + 1) → ch_J g m_m_goesBy (ch_rm m_m_goesBy) (ch_E g m_m_goesBy Q) 16 [some (.inr (9, 0, 0)), some (.inl (.int x1)), some (.inl (.int x2)), some (.inl (.int (x3 + 1)))] [] m11 0))))))))))))) ∧ (¬ r1 = x2 → ch_J g m_m_goesBy (ch_rm m_m_goesBy) (ch_E g m_m_goesBy Q) 16 [some (.inr (9, 0, 0)), some (.inl (.int x1)), some (.inl (.int x2)), some (.inl (.int (x3 + 1)))] [] m2 0)))))))) : ch_J g m_m_goesBy (ch_rm m_m_goesBy) (ch_E g m_m_goesBy Q) 16 [some (.inr (9, 0, 0)), some (.inl (.int x1)), some (.inl (.int x2)), some (.inl (.int x3))] [] m 0 := by
  refine ch_iload_n (i := 3) d_m_goesBy_16 rfl rfl ?_
  refine ch_bipush (v := 12) d_m_goesBy_17 (by decide) ?_
  refine ch_icmp_ge (tgt := 87) d_m_goesBy_19 (by decide) (fun c => ?_) (fun c => ?_)
  · replace h := h.1 c
    refine ch_iinc (i := 2) (v := (x2 + 1)) d_m_goesBy_87 rfl rfl (Nat.le_of_ble_eq_true rfl) (ls' := [some (.inr (9, 0, 0)), some (.inl (.int x1)), some (.inl (.int (x2 + 1))), some (.inl (.int x3))]) rfl ?_
    refine ch_goto (tgt := 4) d_m_goesBy_90 (by decide) ?_
    exact h
  · replace h := h.2 c
    refine ch_aload_n (i := 0) d_m_goesBy_22 rfl rfl ?_
    refine ch_iload_n (i := 3) d_m_goesBy_23 rfl rfl ?_
    refine ch_callV (as := [.inl (.int x3)]) d_m_goesBy_24 lk_m_109 mi_m_owner me_m_owner rfl rfl rfl ⟨Nat.le_of_ble_eq_true rfl, Nat.le_of_ble_eq_true rfl⟩ (Nat.le_of_ble_eq_true rfl) ⟨Nat.le_of_ble_eq_true rfl, Nat.le_of_ble_eq_true rfl⟩ (ch_mono (ch_Ki (fun r1 m2 h => ?_)) h)
    refine ch_iload_n (i := 2) d_m_goesBy_27 rfl rfl ?_
    refine ch_icmp_eq (tgt := 34) d_m_goesBy_28 (by decide) (fun c => ?_) (fun c => ?_)
    · replace h := h.1 c
      refine ch_aload_n (i := 0) d_m_goesBy_34 rfl rfl ?_
      refine ch_iload_n (i := 2) d_m_goesBy_35 rfl rfl ?_
      refine ch_iconst (v := 0) d_m_goesBy_36 (by decide) ?_
      refine ch_callV (as := [.inl (.int x2), .inl (.int 0)]) d_m_goesBy_37 lk_m_85 mi_m_of me_m_of rfl rfl rfl ⟨Nat.le_of_ble_eq_true rfl, Nat.le_of_ble_eq_true rfl⟩ (Nat.le_of_ble_eq_true rfl) ⟨Nat.le_of_ble_eq_true rfl, Nat.le_of_ble_eq_true rfl⟩ (ch_mono (ch_Ki (fun r3 m4 h => ?_)) h)
      refine ch_if_le (tgt := 70) d_m_goesBy_40 (by decide) (fun c => ?_) (fun c => ?_)
      · replace h := h.1 c
        refine ch_aload_n (i := 0) d_m_goesBy_70 rfl rfl ?_
        refine ch_iload_n (i := 3) d_m_goesBy_71 rfl rfl ?_
        refine ch_callV (as := [.inl (.int x3)]) d_m_goesBy_72 lk_m_140 mi_m_frees me_m_frees rfl rfl rfl ⟨Nat.le_of_ble_eq_true rfl, Nat.le_of_ble_eq_true rfl⟩ (Nat.le_of_ble_eq_true rfl) ⟨Nat.le_of_ble_eq_true rfl, Nat.le_of_ble_eq_true rfl⟩ (ch_mono (ch_Kv (fun m6 h => ?_)) h)
        refine ch_iload_n (i := 1) d_m_goesBy_75 rfl rfl ?_
        refine ch_iconst (v := 1) d_m_goesBy_76 (by decide) ?_
        refine ch_iload_n (i := 3) d_m_goesBy_77 rfl rfl ?_
        refine ch_ishl d_m_goesBy_78 ?_
        refine ch_ior d_m_goesBy_79 ?_
        refine ch_istore_n (i := 1) d_m_goesBy_80 rfl (Nat.le_of_ble_eq_true rfl) (ls' := [some (.inr (9, 0, 0)), some (.inl (.int (x1 ||| (1 <<< (x3 &&& 31))))), some (.inl (.int x2)), some (.inl (.int x3))]) rfl ?_
        refine ch_iinc (i := 3) (v := (x3 + 1)) d_m_goesBy_81 rfl rfl (Nat.le_of_ble_eq_true rfl) (ls' := [some (.inr (9, 0, 0)), some (.inl (.int (x1 ||| (1 <<< (x3 &&& 31))))), some (.inl (.int x2)), some (.inl (.int (x3 + 1)))]) rfl ?_
        refine ch_goto (tgt := 16) d_m_goesBy_84 (by decide) ?_
        exact h
      · replace h := h.2 c
        refine ch_aload_n (i := 0) d_m_goesBy_43 rfl rfl ?_
        refine ch_iload_n (i := 2) d_m_goesBy_44 rfl rfl ?_
        refine ch_iconst (v := 0) d_m_goesBy_45 (by decide) ?_
        refine ch_aload_n (i := 0) d_m_goesBy_46 rfl rfl ?_
        refine ch_iload_n (i := 2) d_m_goesBy_47 rfl rfl ?_
        refine ch_iconst (v := 0) d_m_goesBy_48 (by decide) ?_
        refine ch_callV (as := [.inl (.int x2), .inl (.int 0)]) d_m_goesBy_49 lk_m_85 mi_m_of me_m_of rfl rfl rfl ⟨Nat.le_of_ble_eq_true rfl, Nat.le_of_ble_eq_true rfl⟩ (Nat.le_of_ble_eq_true rfl) ⟨Nat.le_of_ble_eq_true rfl, Nat.le_of_ble_eq_true rfl⟩ (ch_mono (ch_Ki (fun r7 m8 h => ?_)) h)
        refine ch_iconst (v := 1) d_m_goesBy_52 (by decide) ?_
        refine ch_isub d_m_goesBy_53 ?_
        refine ch_callV (as := [.inl (.int x2), .inl (.int 0), .inl (.int (r7 - 1))]) d_m_goesBy_54 lk_m_89 mi_m_sets me_m_sets rfl rfl rfl ⟨Nat.le_of_ble_eq_true rfl, Nat.le_of_ble_eq_true rfl⟩ (Nat.le_of_ble_eq_true rfl) ⟨Nat.le_of_ble_eq_true rfl, Nat.le_of_ble_eq_true rfl⟩ (ch_mono (ch_Kv (fun m10 h => ?_)) h)
        refine ch_aload_n (i := 0) d_m_goesBy_57 rfl rfl ?_
        refine ch_get (v := .inr (9, 0, 1)) d_m_goesBy_58 fl_m_9 rfl ?_
        refine ch_iconst (v := 1) d_m_goesBy_61 (by decide) ?_
        refine ch_dup2 d_m_goesBy_62 rfl rfl ?_
        refine ch_iald (n := 63) d_m_goesBy_63 (by decide) rfl (vp_in_nI (n := 1) (by decide) (by decide)) ?_
        refine ch_iconst (v := 1) d_m_goesBy_64 (by decide) ?_
        refine ch_iadd d_m_goesBy_65 ?_
        refine ch_iast (n := 63) d_m_goesBy_66 (by decide) rfl (vp_in_nI (n := 1) (by decide) (by decide)) ?_
        show ch_J g _ _ _ _ _ _ (ch_wr m10 (9, 0, 1) (1) ((m10 (9, 0, 1) (1)) + 1)) _
        generalize hmm11 : ch_wr m10 (9, 0, 1) (1) ((m10 (9, 0, 1) (1)) + 1) = m11
        replace h := h m11 hmm11.symm
        refine ch_goto (tgt := 81) d_m_goesBy_67 (by decide) ?_
        refine ch_iinc (i := 3) (v := (x3 + 1)) d_m_goesBy_81 rfl rfl (Nat.le_of_ble_eq_true rfl) (ls' := [some (.inr (9, 0, 0)), some (.inl (.int x1)), some (.inl (.int x2)), some (.inl (.int (x3 + 1)))]) rfl ?_
        refine ch_goto (tgt := 16) d_m_goesBy_84 (by decide) ?_
        exact h
    · replace h := h.2 c
      refine ch_goto (tgt := 81) d_m_goesBy_31 (by decide) ?_
      refine ch_iinc (i := 3) (v := (x3 + 1)) d_m_goesBy_81 rfl rfl (Nat.le_of_ble_eq_true rfl) (ls' := [some (.inr (9, 0, 0)), some (.inl (.int x1)), some (.inl (.int x2)), some (.inl (.int (x3 + 1)))]) rfl ?_
      refine ch_goto (tgt := 16) d_m_goesBy_84 (by decide) ?_
      exact h
set_option maxHeartbeats 1600000 in
theorem g_m_goesBy_95 (g : ch_G) (Q : ch_O → ch_M → Prop) (x1 : Int32) (x2 : Int32) (o3 : Option ch_V) (m : ch_M) (h : (((m (9, 0, 1) (0)) ≤ x2 → (ch_C g m_i_bitCount [.inl (.int x1)] m (ch_oi (fun (r1 : Int32) (m2 : ch_M) => (∀ m3 : ch_M, m3 = ch_wr m2 (9, 0, 1) (6) ((m (9, 0, 1) (6)) + r1) → (∀ m4 : ch_M, m4 = ch_wr m3 (9, 0, 1) (7) ((m3 (9, 0, 1) (7)) + 1) → Q (.inl (some (.inl (.int x1)))) m4)))))) ∧ (¬ (m (9, 0, 1) (0)) ≤ x2 → (((m (9, 0, 1) (1)) ≤ 0 → (ch_C g m_i_bitCount [.inl (.int x1)] m (ch_oi (fun (r5 : Int32) (m6 : ch_M) => (∀ m7 : ch_M, m7 = ch_wr m6 (9, 0, 1) (6) ((m (9, 0, 1) (6)) + r5) → (∀ m8 : ch_M, m8 = ch_wr m7 (9, 0, 1) (7) ((m7 (9, 0, 1) (7)) + 1) → Q (.inl (some (.inl (.int x1)))) m8)))))) ∧ (¬ (m (9, 0, 1) (1)) ≤ 0 → (∀ m9 : ch_M, m9 = ch_wr m (9, 0, 1) (1) ((m (9, 0, 1) (1)) - 1) → (ch_C g m_m_of [.inr (9, 0, 0), .inl (.int x2), .inl (.int 0)] m9 (ch_oi (fun (r10 : Int32) (m11 : ch_M) => (ch_C g m_m_sets [.inr (9, 0, 0), .inl (.int x2), .inl (.int 0), .inl (.int (r10 + 1))] m11 (ch_ov (fun (m13 : ch_M) => ch_J g m_m_goesBy (ch_rm m_m_goesBy) (ch_E g m_m_goesBy Q) 95 [some (.inr (9, 0, 0)), some (.inl (.int x1)), some (.inl (.int (x2 + 1))), o3] [] m13 0)))))))))))) : ch_J g m_m_goesBy (ch_rm m_m_goesBy) (ch_E g m_m_goesBy Q) 95 [some (.inr (9, 0, 0)), some (.inl (.int x1)), some (.inl (.int x2)), o3] [] m 0 := by
  refine ch_iload_n (i := 2) d_m_goesBy_95 rfl rfl ?_
  refine ch_aload_n (i := 0) d_m_goesBy_96 rfl rfl ?_
  refine ch_get (v := .inr (9, 0, 1)) d_m_goesBy_97 fl_m_9 rfl ?_
  refine ch_iconst (v := 0) d_m_goesBy_100 (by decide) ?_
  refine ch_iald (n := 63) d_m_goesBy_101 (by decide) rfl (vp_in_nI (n := 0) (by decide) (by decide)) ?_
  refine ch_icmp_ge (tgt := 144) d_m_goesBy_102 (by decide) (fun c => ?_) (fun c => ?_)
  · replace h := h.1 c
    refine ch_aload_n (i := 0) d_m_goesBy_144 rfl rfl ?_
    refine ch_get (v := .inr (9, 0, 1)) d_m_goesBy_145 fl_m_9 rfl ?_
    refine ch_bipush (v := 6) d_m_goesBy_148 (by decide) ?_
    refine ch_dup2 d_m_goesBy_150 rfl rfl ?_
    refine ch_iald (n := 63) d_m_goesBy_151 (by decide) rfl (vp_in_nI (n := 6) (by decide) (by decide)) ?_
    refine ch_iload_n (i := 1) d_m_goesBy_152 rfl rfl ?_
    refine ch_callS (as := [.inl (.int x1)]) d_m_goesBy_153 lk_m_171 ms_i_bitCount rfl rfl ⟨Nat.le_of_ble_eq_true rfl, Nat.le_of_ble_eq_true rfl⟩ (Nat.le_of_ble_eq_true rfl) ⟨Nat.le_of_ble_eq_true rfl, Nat.le_of_ble_eq_true rfl⟩ (ch_mono (ch_Ki (fun r1 m2 h => ?_)) h)
    refine ch_iadd d_m_goesBy_156 ?_
    refine ch_iast (n := 63) d_m_goesBy_157 (by decide) rfl (vp_in_nI (n := 6) (by decide) (by decide)) ?_
    show ch_J g _ _ _ _ _ _ (ch_wr m2 (9, 0, 1) (6) ((m (9, 0, 1) (6)) + r1)) _
    generalize hmm3 : ch_wr m2 (9, 0, 1) (6) ((m (9, 0, 1) (6)) + r1) = m3
    replace h := h m3 hmm3.symm
    refine ch_aload_n (i := 0) d_m_goesBy_158 rfl rfl ?_
    refine ch_get (v := .inr (9, 0, 1)) d_m_goesBy_159 fl_m_9 rfl ?_
    refine ch_bipush (v := 7) d_m_goesBy_162 (by decide) ?_
    refine ch_dup2 d_m_goesBy_164 rfl rfl ?_
    refine ch_iald (n := 63) d_m_goesBy_165 (by decide) rfl (vp_in_nI (n := 7) (by decide) (by decide)) ?_
    refine ch_iconst (v := 1) d_m_goesBy_166 (by decide) ?_
    refine ch_iadd d_m_goesBy_167 ?_
    refine ch_iast (n := 63) d_m_goesBy_168 (by decide) rfl (vp_in_nI (n := 7) (by decide) (by decide)) ?_
    show ch_J g _ _ _ _ _ _ (ch_wr m3 (9, 0, 1) (7) ((m3 (9, 0, 1) (7)) + 1)) _
    generalize hmm4 : ch_wr m3 (9, 0, 1) (7) ((m3 (9, 0, 1) (7)) + 1) = m4
    replace h := h m4 hmm4.symm
    refine ch_iload_n (i := 1) d_m_goesBy_169 rfl rfl ?_
    exact ch_iret (ty := .int) d_m_goesBy_170 rfl rfl (Nat.le_of_ble_eq_true rfl) h
  · replace h := h.2 c
    refine ch_aload_n (i := 0) d_m_goesBy_105 rfl rfl ?_
    refine ch_get (v := .inr (9, 0, 1)) d_m_goesBy_106 fl_m_9 rfl ?_
    refine ch_iconst (v := 1) d_m_goesBy_109 (by decide) ?_
    refine ch_iald (n := 63) d_m_goesBy_110 (by decide) rfl (vp_in_nI (n := 1) (by decide) (by decide)) ?_
    refine ch_if_le (tgt := 144) d_m_goesBy_111 (by decide) (fun c => ?_) (fun c => ?_)
    · replace h := h.1 c
      refine ch_aload_n (i := 0) d_m_goesBy_144 rfl rfl ?_
      refine ch_get (v := .inr (9, 0, 1)) d_m_goesBy_145 fl_m_9 rfl ?_
      refine ch_bipush (v := 6) d_m_goesBy_148 (by decide) ?_
      refine ch_dup2 d_m_goesBy_150 rfl rfl ?_
      refine ch_iald (n := 63) d_m_goesBy_151 (by decide) rfl (vp_in_nI (n := 6) (by decide) (by decide)) ?_
      refine ch_iload_n (i := 1) d_m_goesBy_152 rfl rfl ?_
      refine ch_callS (as := [.inl (.int x1)]) d_m_goesBy_153 lk_m_171 ms_i_bitCount rfl rfl ⟨Nat.le_of_ble_eq_true rfl, Nat.le_of_ble_eq_true rfl⟩ (Nat.le_of_ble_eq_true rfl) ⟨Nat.le_of_ble_eq_true rfl, Nat.le_of_ble_eq_true rfl⟩ (ch_mono (ch_Ki (fun r5 m6 h => ?_)) h)
      refine ch_iadd d_m_goesBy_156 ?_
      refine ch_iast (n := 63) d_m_goesBy_157 (by decide) rfl (vp_in_nI (n := 6) (by decide) (by decide)) ?_
      show ch_J g _ _ _ _ _ _ (ch_wr m6 (9, 0, 1) (6) ((m (9, 0, 1) (6)) + r5)) _
      generalize hmm7 : ch_wr m6 (9, 0, 1) (6) ((m (9, 0, 1) (6)) + r5) = m7
      replace h := h m7 hmm7.symm
      refine ch_aload_n (i := 0) d_m_goesBy_158 rfl rfl ?_
      refine ch_get (v := .inr (9, 0, 1)) d_m_goesBy_159 fl_m_9 rfl ?_
      refine ch_bipush (v := 7) d_m_goesBy_162 (by decide) ?_
      refine ch_dup2 d_m_goesBy_164 rfl rfl ?_
      refine ch_iald (n := 63) d_m_goesBy_165 (by decide) rfl (vp_in_nI (n := 7) (by decide) (by decide)) ?_
      refine ch_iconst (v := 1) d_m_goesBy_166 (by decide) ?_
      refine ch_iadd d_m_goesBy_167 ?_
      refine ch_iast (n := 63) d_m_goesBy_168 (by decide) rfl (vp_in_nI (n := 7) (by decide) (by decide)) ?_
      show ch_J g _ _ _ _ _ _ (ch_wr m7 (9, 0, 1) (7) ((m7 (9, 0, 1) (7)) + 1)) _
      generalize hmm8 : ch_wr m7 (9, 0, 1) (7) ((m7 (9, 0, 1) (7)) + 1) = m8
      replace h := h m8 hmm8.symm
      refine ch_iload_n (i := 1) d_m_goesBy_169 rfl rfl ?_
      exact ch_iret (ty := .int) d_m_goesBy_170 rfl rfl (Nat.le_of_ble_eq_true rfl) h
    · replace h := h.2 c
      refine ch_aload_n (i := 0) d_m_goesBy_114 rfl rfl ?_
      refine ch_get (v := .inr (9, 0, 1)) d_m_goesBy_115 fl_m_9 rfl ?_
      refine ch_iconst (v := 1) d_m_goesBy_118 (by decide) ?_
      refine ch_dup2 d_m_goesBy_119 rfl rfl ?_
      refine ch_iald (n := 63) d_m_goesBy_120 (by decide) rfl (vp_in_nI (n := 1) (by decide) (by decide)) ?_
      refine ch_iconst (v := 1) d_m_goesBy_121 (by decide) ?_
      refine ch_isub d_m_goesBy_122 ?_
      refine ch_iast (n := 63) d_m_goesBy_123 (by decide) rfl (vp_in_nI (n := 1) (by decide) (by decide)) ?_
      show ch_J g _ _ _ _ _ _ (ch_wr m (9, 0, 1) (1) ((m (9, 0, 1) (1)) - 1)) _
      generalize hmm9 : ch_wr m (9, 0, 1) (1) ((m (9, 0, 1) (1)) - 1) = m9
      replace h := h m9 hmm9.symm
      refine ch_aload_n (i := 0) d_m_goesBy_124 rfl rfl ?_
      refine ch_iload_n (i := 2) d_m_goesBy_125 rfl rfl ?_
      refine ch_iconst (v := 0) d_m_goesBy_126 (by decide) ?_
      refine ch_aload_n (i := 0) d_m_goesBy_127 rfl rfl ?_
      refine ch_iload_n (i := 2) d_m_goesBy_128 rfl rfl ?_
      refine ch_iconst (v := 0) d_m_goesBy_129 (by decide) ?_
      refine ch_callV (as := [.inl (.int x2), .inl (.int 0)]) d_m_goesBy_130 lk_m_85 mi_m_of me_m_of rfl rfl rfl ⟨Nat.le_of_ble_eq_true rfl, Nat.le_of_ble_eq_true rfl⟩ (Nat.le_of_ble_eq_true rfl) ⟨Nat.le_of_ble_eq_true rfl, Nat.le_of_ble_eq_true rfl⟩ (ch_mono (ch_Ki (fun r10 m11 h => ?_)) h)
      refine ch_iconst (v := 1) d_m_goesBy_133 (by decide) ?_
      refine ch_iadd d_m_goesBy_134 ?_
      refine ch_callV (as := [.inl (.int x2), .inl (.int 0), .inl (.int (r10 + 1))]) d_m_goesBy_135 lk_m_89 mi_m_sets me_m_sets rfl rfl rfl ⟨Nat.le_of_ble_eq_true rfl, Nat.le_of_ble_eq_true rfl⟩ (Nat.le_of_ble_eq_true rfl) ⟨Nat.le_of_ble_eq_true rfl, Nat.le_of_ble_eq_true rfl⟩ (ch_mono (ch_Kv (fun m13 h => ?_)) h)
      refine ch_iinc (i := 2) (v := (x2 + 1)) d_m_goesBy_138 rfl rfl (Nat.le_of_ble_eq_true rfl) (ls' := [some (.inr (9, 0, 0)), some (.inl (.int x1)), some (.inl (.int (x2 + 1))), o3]) rfl ?_
      refine ch_goto (tgt := 95) d_m_goesBy_141 (by decide) ?_
      exact h
theorem e_m_term (g : ch_G) (Q : ch_O → ch_M → Prop)  (m : ch_M) (h : ch_J g m_m_term (ch_rm m_m_term) (ch_E g m_m_term Q) 0 [some (.inr (9, 0, 0))] [] m 0) : ch_C g m_m_term [.inr (9, 0, 0)] m Q :=
  ch_enter mf_m_term (by intro v hv; simp only [List.mem_cons, List.not_mem_nil, or_false] at hv; rcases hv with rfl <;> rfl) (Nat.le_of_ble_eq_true rfl) h
set_option maxHeartbeats 1600000 in
theorem g_m_term_0 (g : ch_G) (Q : ch_O → ch_M → Prop)  (m : ch_M) (h : (ch_C g m_m_tries [.inr (9, 0, 0)] m (ch_ov (fun (m2 : ch_M) => ((¬ (m2 (9, 0, 1) (0)) = 0 → (ch_C g m_m_goesBy [.inr (9, 0, 0)] m2 (ch_oi (fun (r3 : Int32) (m4 : ch_M) => (ch_C g m_i_bitCount [.inl (.int r3)] m4 (ch_oi (fun (r5 : Int32) (m6 : ch_M) => (ch_C g m_m_does [.inr (9, 0, 0), .inl (.int r5)] m6 (ch_oi (fun (r7 : Int32) (m8 : ch_M) => (ch_C g m_m_ends [.inr (9, 0, 0), .inl (.int r7)] m8 (ch_oi (fun (r9 : Int32) (m10 : ch_M) => Q (.inl (some (.inl (.int r9)))) m10))))))))))))) ∧ ((m2 (9, 0, 1) (0)) = 0 → (ch_C g m_m_refuses [.inr (9, 0, 0), .inl (.int 13), .inl (.int 0)] m2 (ch_oi (fun (r11 : Int32) (m12 : ch_M) => (ch_C g m_m_ends [.inr (9, 0, 0), .inl (.int r11)] m12 (ch_oi (fun (r13 : Int32) (m14 : ch_M) => Q (.inl (some (.inl (.int r13)))) m14)))))))))))) : ch_J g m_m_term (ch_rm m_m_term) (ch_E g m_m_term Q) 0 [some (.inr (9, 0, 0))] [] m 0 := by
  refine ch_aload_n (i := 0) d_m_term_0 rfl rfl ?_
  refine ch_callV (as := []) d_m_term_1 lk_m_96 mi_m_tries me_m_tries rfl rfl rfl ⟨Nat.le_of_ble_eq_true rfl, Nat.le_of_ble_eq_true rfl⟩ (Nat.le_of_ble_eq_true rfl) ⟨Nat.le_of_ble_eq_true rfl, Nat.le_of_ble_eq_true rfl⟩ (ch_mono (ch_Kv (fun m2 h => ?_)) h)
  refine ch_aload_n (i := 0) d_m_term_4 rfl rfl ?_
  refine ch_get (v := .inr (9, 0, 1)) d_m_term_5 fl_m_9 rfl ?_
  refine ch_iconst (v := 0) d_m_term_8 (by decide) ?_
  refine ch_iald (n := 63) d_m_term_9 (by decide) rfl (vp_in_nI (n := 0) (by decide) (by decide)) ?_
  refine ch_if_ne (tgt := 25) d_m_term_10 (by decide) (fun c => ?_) (fun c => ?_)
  · replace h := h.1 c
    refine ch_aload_n (i := 0) d_m_term_25 rfl rfl ?_
    refine ch_aload_n (i := 0) d_m_term_26 rfl rfl ?_
    refine ch_aload_n (i := 0) d_m_term_27 rfl rfl ?_
    refine ch_callV (as := []) d_m_term_28 lk_m_176 mi_m_goesBy me_m_goesBy rfl rfl rfl ⟨Nat.le_of_ble_eq_true rfl, Nat.le_of_ble_eq_true rfl⟩ (Nat.le_of_ble_eq_true rfl) ⟨Nat.le_of_ble_eq_true rfl, Nat.le_of_ble_eq_true rfl⟩ (ch_mono (ch_Ki (fun r3 m4 h => ?_)) h)
    refine ch_callS (as := [.inl (.int r3)]) d_m_term_31 lk_m_171 ms_i_bitCount rfl rfl ⟨Nat.le_of_ble_eq_true rfl, Nat.le_of_ble_eq_true rfl⟩ (Nat.le_of_ble_eq_true rfl) ⟨Nat.le_of_ble_eq_true rfl, Nat.le_of_ble_eq_true rfl⟩ (ch_mono (ch_Ki (fun r5 m6 h => ?_)) h)
    refine ch_callV (as := [.inl (.int r5)]) d_m_term_34 lk_m_93 mi_m_does me_m_does rfl rfl rfl ⟨Nat.le_of_ble_eq_true rfl, Nat.le_of_ble_eq_true rfl⟩ (Nat.le_of_ble_eq_true rfl) ⟨Nat.le_of_ble_eq_true rfl, Nat.le_of_ble_eq_true rfl⟩ (ch_mono (ch_Ki (fun r7 m8 h => ?_)) h)
    refine ch_callV (as := [.inl (.int r7)]) d_m_term_37 lk_m_102 mi_m_ends me_m_ends rfl rfl rfl ⟨Nat.le_of_ble_eq_true rfl, Nat.le_of_ble_eq_true rfl⟩ (Nat.le_of_ble_eq_true rfl) ⟨Nat.le_of_ble_eq_true rfl, Nat.le_of_ble_eq_true rfl⟩ (ch_mono (ch_Ki (fun r9 m10 h => ?_)) h)
    exact ch_iret (ty := .int) d_m_term_40 rfl rfl (Nat.le_of_ble_eq_true rfl) h
  · replace h := h.2 c
    refine ch_aload_n (i := 0) d_m_term_13 rfl rfl ?_
    refine ch_aload_n (i := 0) d_m_term_14 rfl rfl ?_
    refine ch_bipush (v := 13) d_m_term_15 (by decide) ?_
    refine ch_iconst (v := 0) d_m_term_17 (by decide) ?_
    refine ch_callV (as := [.inl (.int 13), .inl (.int 0)]) d_m_term_18 lk_m_81 mi_m_refuses me_m_refuses rfl rfl rfl ⟨Nat.le_of_ble_eq_true rfl, Nat.le_of_ble_eq_true rfl⟩ (Nat.le_of_ble_eq_true rfl) ⟨Nat.le_of_ble_eq_true rfl, Nat.le_of_ble_eq_true rfl⟩ (ch_mono (ch_Ki (fun r11 m12 h => ?_)) h)
    refine ch_callV (as := [.inl (.int r11)]) d_m_term_21 lk_m_102 mi_m_ends me_m_ends rfl rfl rfl ⟨Nat.le_of_ble_eq_true rfl, Nat.le_of_ble_eq_true rfl⟩ (Nat.le_of_ble_eq_true rfl) ⟨Nat.le_of_ble_eq_true rfl, Nat.le_of_ble_eq_true rfl⟩ (ch_mono (ch_Ki (fun r13 m14 h => ?_)) h)
    exact ch_iret (ty := .int) d_m_term_24 rfl rfl (Nat.le_of_ble_eq_true rfl) h
