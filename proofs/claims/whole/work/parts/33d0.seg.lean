theorem e_m_fewest (g : ch_G) (Q : ch_O → ch_M → Prop) (p1 : Int32) (m : ch_M) (h : ch_J g m_m_fewest (ch_rm m_m_fewest) (ch_E g m_m_fewest Q) 0 [some (.inr (9, 0, 0)), some (.inl (.int p1))] [] m 0) : ch_C g m_m_fewest [.inr (9, 0, 0), .inl (.int p1)] m Q :=
  ch_enter mf_m_fewest (by intro v hv; simp only [List.mem_cons, List.not_mem_nil, or_false] at hv; rcases hv with rfl | rfl <;> rfl) (Nat.le_of_ble_eq_true rfl) h
set_option maxHeartbeats 1600000 in
theorem g_m_fewest_0 (g : ch_G) (Q : ch_O → ch_M → Prop) (p1 : Int32) (m : ch_M) (h : (((0 ≤ p1 ∧ p1 ≤ m (9, 0, 1) 0 - 1) → (∀ m4 : ch_M, m4 = ch_wr m (9, 0, 0) 19 0 → (((m4 (9, 0, 0) 19) ≤ 0 → (∃ Y_5 : ch_B, (m_rel Y_5 (m4 (9, 0, 1))) ∧ (∀ i_, i_ < 12 → Y_5 1 i_ = -1 ∨ vp_in (Y_5 1 i_) 5) ∧ ((∀ (B6 : ch_B) (A7 : Nat → Nat) (C8 : Nat → Nat) (S9 : Nat → Nat), (w_sp (w_e Y_5 p1) A7 C8 S9) → (∀ a_ i_, a_ ≠ 10 → a_ ≠ 11 → B6 a_ i_ = ch_ob m4 9 0 a_ i_) → (∀ k_, k_ < 13 → B6 10 k_ = nI (A7 k_) ∧ B6 11 k_ = nI (C8 k_)) → (∀ m11 : ch_M, m11 = ch_os m4 9 0 B6 → Q (.inl (some (.inl (.int (m11 (9, 0, 10) (0)))))) m11))))) ∧ (¬ (m4 (9, 0, 0) 19) ≤ 0 → Q (.inl (some (.inl (.int 0)))) m4)))) ∧ ((¬ (0 ≤ p1 ∧ p1 ≤ m (9, 0, 1) 0 - 1)) → (∀ m15 : ch_M, m15 = ch_wr m (9, 0, 0) 19 1 → (((m15 (9, 0, 0) 19) ≤ 0 → (∃ Y_16 : ch_B, (m_rel Y_16 (m15 (9, 0, 1))) ∧ (∀ i_, i_ < 12 → Y_16 1 i_ = -1 ∨ vp_in (Y_16 1 i_) 5) ∧ ((∀ (B17 : ch_B) (A18 : Nat → Nat) (C19 : Nat → Nat) (S20 : Nat → Nat), (w_sp (w_e Y_16 p1) A18 C19 S20) → (∀ a_ i_, a_ ≠ 10 → a_ ≠ 11 → B17 a_ i_ = ch_ob m15 9 0 a_ i_) → (∀ k_, k_ < 13 → B17 10 k_ = nI (A18 k_) ∧ B17 11 k_ = nI (C19 k_)) → (∀ m22 : ch_M, m22 = ch_os m15 9 0 B17 → Q (.inl (some (.inl (.int (m22 (9, 0, 10) (0)))))) m22))))) ∧ (¬ (m15 (9, 0, 0) 19) ≤ 0 → Q (.inl (some (.inl (.int 0)))) m15)))))) : ch_J g m_m_fewest (ch_rm m_m_fewest) (ch_E g m_m_fewest Q) 0 [some (.inr (9, 0, 0)), some (.inl (.int p1))] [] m 0 := by
  refine ch_aload_n (i := 0) d_m_fewest_0 rfl rfl ?_
  refine ch_aload_n (i := 0) d_m_fewest_1 rfl rfl ?_
  refine ch_iload_n (i := 1) d_m_fewest_2 rfl rfl ?_
  refine ch_callV (as := [.inl (.int p1)]) d_m_fewest_3 lk_m_77 mi_m_isChild me_m_isChild rfl rfl rfl ⟨Nat.le_of_ble_eq_true rfl, Nat.le_of_ble_eq_true rfl⟩ (Nat.le_of_ble_eq_true rfl) ⟨Nat.le_of_ble_eq_true rfl, Nat.le_of_ble_eq_true rfl⟩ (ch_mono (ch_Ki (fun r1 m2 q3 => ?_)) (s_m_isChild g (fun (r_ : Int32) (m_ : ch_M) => ((0 ≤ p1 ∧ p1 ≤ m (9, 0, 1) 0 - 1) ∧ 1 = r_ ∧ m = m_) ∨ ((¬ (0 ≤ p1 ∧ p1 ≤ m (9, 0, 1) 0 - 1)) ∧ 0 = r_ ∧ m = m_)) (p1) m ⟨(fun c_ => (Or.inl ⟨c_, rfl, rfl⟩)), (fun c_ => (Or.inr ⟨c_, rfl, rfl⟩))⟩))
  rcases q3 with ⟨c_, rfl, rfl⟩ | ⟨c_, rfl, rfl⟩
  · replace h := h.1 c_
    refine ch_if_eq (tgt := 13) d_m_fewest_6 (by decide) (fun c => absurd c (by decide)) (fun _ => ?_)
    refine ch_iconst (v := 0) d_m_fewest_9 (by decide) ?_
    refine ch_goto (tgt := 14) d_m_fewest_10 (by decide) ?_
    refine ch_put d_m_fewest_14 fp_m_48 rfl rfl rfl ?_
    generalize hmm4 : ch_wr m (9, 0, 0) 19 0 = m4
    replace h := h m4 hmm4.symm
    refine ch_aload_n (i := 0) d_m_fewest_17 rfl rfl ?_
    refine ch_get (v := .inl (.int (m4 (9, 0, 0) 19))) d_m_fewest_18 fl_m_48 rfl ?_
    refine ch_if_le (tgt := 26) d_m_fewest_21 (by decide) (fun c => ?_) (fun c => ?_)
    · replace h := h.1 c
      refine ch_aload_n (i := 0) d_m_fewest_26 rfl rfl ?_
      refine ch_iload_n (i := 1) d_m_fewest_27 rfl rfl ?_
      obtain ⟨Y_5, h⟩ := h
      have b13 := h.1
      replace h := h.2
      have b14 := h.1
      replace h := h.2
      refine ch_callV (as := [.inl (.int p1)]) d_m_fewest_28 lk_m_185 mi_m_looks me_m_looks rfl rfl rfl ⟨Nat.le_of_ble_eq_true rfl, Nat.le_of_ble_eq_true rfl⟩ (Nat.le_of_ble_eq_true rfl) ⟨Nat.le_of_ble_eq_true rfl, Nat.le_of_ble_eq_true rfl⟩ (ch_mono (ch_Kv (fun m11 q12 => ?_)) (s_m_looks g (fun (m_ : ch_M) => (∃ (B6 : ch_B) (A7 : Nat → Nat) (C8 : Nat → Nat) (S9 : Nat → Nat), (w_sp (w_e Y_5 p1) A7 C8 S9) ∧ (∀ a_ i_, a_ ≠ 10 → a_ ≠ 11 → B6 a_ i_ = ch_ob m4 9 0 a_ i_) ∧ (∀ k_, k_ < 13 → B6 10 k_ = nI (A7 k_) ∧ B6 11 k_ = nI (C8 k_)) ∧ m_ = ch_os m4 9 0 B6)) (Y_5) (p1) m4 ⟨b13, b14, (fun B6 A7 C8 S9 f0_ f1_ f2_ => ⟨B6, A7, C8, S9, f0_, f1_, f2_, rfl⟩)⟩))
      obtain ⟨B6, A7, C8, S9, f0_, f1_, f2_, hm_⟩ := q12
      replace h := h B6 A7 C8 S9 f0_ f1_ f2_ m11 hm_
      refine ch_aload_n (i := 0) d_m_fewest_31 rfl rfl ?_
      refine ch_get (v := .inr (9, 0, 10)) d_m_fewest_32 fl_m_42 rfl ?_
      refine ch_iconst (v := 0) d_m_fewest_35 (by decide) ?_
      refine ch_iald (n := 13) d_m_fewest_36 (by decide) rfl (vp_in_nI (n := 0) (by decide) (by decide)) ?_
      exact ch_iret (ty := .int) d_m_fewest_37 rfl rfl (Nat.le_of_ble_eq_true rfl) h
    · replace h := h.2 c
      refine ch_iconst (v := 0) d_m_fewest_24 (by decide) ?_
      exact ch_iret (ty := .int) d_m_fewest_25 rfl rfl (Nat.le_of_ble_eq_true rfl) h
  · replace h := h.2 c_
    refine ch_if_eq (tgt := 13) d_m_fewest_6 (by decide) (fun _ => ?_) (fun c => absurd c (by decide))
    refine ch_iconst (v := 1) d_m_fewest_13 (by decide) ?_
    refine ch_put d_m_fewest_14 fp_m_48 rfl rfl rfl ?_
    generalize hmm15 : ch_wr m (9, 0, 0) 19 1 = m15
    replace h := h m15 hmm15.symm
    refine ch_aload_n (i := 0) d_m_fewest_17 rfl rfl ?_
    refine ch_get (v := .inl (.int (m15 (9, 0, 0) 19))) d_m_fewest_18 fl_m_48 rfl ?_
    refine ch_if_le (tgt := 26) d_m_fewest_21 (by decide) (fun c => ?_) (fun c => ?_)
    · replace h := h.1 c
      refine ch_aload_n (i := 0) d_m_fewest_26 rfl rfl ?_
      refine ch_iload_n (i := 1) d_m_fewest_27 rfl rfl ?_
      obtain ⟨Y_16, h⟩ := h
      have b24 := h.1
      replace h := h.2
      have b25 := h.1
      replace h := h.2
      refine ch_callV (as := [.inl (.int p1)]) d_m_fewest_28 lk_m_185 mi_m_looks me_m_looks rfl rfl rfl ⟨Nat.le_of_ble_eq_true rfl, Nat.le_of_ble_eq_true rfl⟩ (Nat.le_of_ble_eq_true rfl) ⟨Nat.le_of_ble_eq_true rfl, Nat.le_of_ble_eq_true rfl⟩ (ch_mono (ch_Kv (fun m22 q23 => ?_)) (s_m_looks g (fun (m_ : ch_M) => (∃ (B17 : ch_B) (A18 : Nat → Nat) (C19 : Nat → Nat) (S20 : Nat → Nat), (w_sp (w_e Y_16 p1) A18 C19 S20) ∧ (∀ a_ i_, a_ ≠ 10 → a_ ≠ 11 → B17 a_ i_ = ch_ob m15 9 0 a_ i_) ∧ (∀ k_, k_ < 13 → B17 10 k_ = nI (A18 k_) ∧ B17 11 k_ = nI (C19 k_)) ∧ m_ = ch_os m15 9 0 B17)) (Y_16) (p1) m15 ⟨b24, b25, (fun B17 A18 C19 S20 f0_ f1_ f2_ => ⟨B17, A18, C19, S20, f0_, f1_, f2_, rfl⟩)⟩))
      obtain ⟨B17, A18, C19, S20, f0_, f1_, f2_, hm_⟩ := q23
      replace h := h B17 A18 C19 S20 f0_ f1_ f2_ m22 hm_
      refine ch_aload_n (i := 0) d_m_fewest_31 rfl rfl ?_
      refine ch_get (v := .inr (9, 0, 10)) d_m_fewest_32 fl_m_42 rfl ?_
      refine ch_iconst (v := 0) d_m_fewest_35 (by decide) ?_
      refine ch_iald (n := 13) d_m_fewest_36 (by decide) rfl (vp_in_nI (n := 0) (by decide) (by decide)) ?_
      exact ch_iret (ty := .int) d_m_fewest_37 rfl rfl (Nat.le_of_ble_eq_true rfl) h
    · replace h := h.2 c
      refine ch_iconst (v := 0) d_m_fewest_24 (by decide) ?_
      exact ch_iret (ty := .int) d_m_fewest_25 rfl rfl (Nat.le_of_ble_eq_true rfl) h
theorem e_m_step (g : ch_G) (Q : ch_O → ch_M → Prop) (p1 : Int32) (p2 : Int32) (m : ch_M) (h : ch_J g m_m_step (ch_rm m_m_step) (ch_E g m_m_step Q) 0 [some (.inr (9, 0, 0)), some (.inl (.int p1)), some (.inl (.int p2)), none, none, none] [] m 0) : ch_C g m_m_step [.inr (9, 0, 0), .inl (.int p1), .inl (.int p2)] m Q :=
  ch_enter mf_m_step (by intro v hv; simp only [List.mem_cons, List.not_mem_nil, or_false] at hv; rcases hv with rfl | rfl | rfl <;> rfl) (Nat.le_of_ble_eq_true rfl) h
set_option maxHeartbeats 1600000 in
theorem g_m_step_0 (g : ch_G) (Q : ch_O → ch_M → Prop) (p1 : Int32) (p2 : Int32) (m : ch_M) (h : (∀ m1 : ch_M, m1 = ch_wr m (9, 0, 0) 19 0 → (((0 ≤ p1 ∧ p1 ≤ m1 (9, 0, 1) 0 - 1) → (∃ Y_5 : ch_B, (m_rel Y_5 (m1 (9, 0, 1))) ∧ (∀ i_, i_ < 12 → Y_5 1 i_ = -1 ∨ vp_in (Y_5 1 i_) 5) ∧ ((∀ (B6 : ch_B) (A7 : Nat → Nat) (C8 : Nat → Nat) (S9 : Nat → Nat), (w_sp (w_e Y_5 p1) A7 C8 S9) → (∀ a_ i_, a_ ≠ 10 → a_ ≠ 11 → B6 a_ i_ = ch_ob m1 9 0 a_ i_) → (∀ k_, k_ < 13 → B6 10 k_ = nI (A7 k_) ∧ B6 11 k_ = nI (C8 k_)) → (∀ m11 : ch_M, m11 = ch_os m1 9 0 B6 → (((0 ≤ p2 ∧ p2 ≤ ((m11 (9, 0, 11) (0)) - 1)) → ch_J g m_m_step (ch_rm m_m_step) (ch_E g m_m_step Q) 51 [some (.inr (9, 0, 0)), some (.inl (.int p1)), some (.inl (.int p2)), some (.inl (.int 0)), some (.inl (.int 0)), none] [] m11 0) ∧ ((¬ (0 ≤ p2 ∧ p2 ≤ ((m11 (9, 0, 11) (0)) - 1))) → ((∀ m19 : ch_M, m19 = ch_wr m11 (9, 0, 0) 19 2 → Q (.inl (some (.inl (.int 0)))) m19))))))))) ∧ ((¬ (0 ≤ p1 ∧ p1 ≤ m1 (9, 0, 1) 0 - 1)) → ((∀ m22 : ch_M, m22 = ch_wr m1 (9, 0, 0) 19 1 → Q (.inl (some (.inl (.int 0)))) m22)))))) : ch_J g m_m_step (ch_rm m_m_step) (ch_E g m_m_step Q) 0 [some (.inr (9, 0, 0)), some (.inl (.int p1)), some (.inl (.int p2)), none, none, none] [] m 0 := by
  refine ch_aload_n (i := 0) d_m_step_0 rfl rfl ?_
  refine ch_iconst (v := 0) d_m_step_1 (by decide) ?_
  refine ch_put d_m_step_2 fp_m_48 rfl rfl rfl ?_
  generalize hmm1 : ch_wr m (9, 0, 0) 19 0 = m1
  replace h := h m1 hmm1.symm
  refine ch_aload_n (i := 0) d_m_step_5 rfl rfl ?_
  refine ch_iload_n (i := 1) d_m_step_6 rfl rfl ?_
  refine ch_callV (as := [.inl (.int p1)]) d_m_step_7 lk_m_77 mi_m_isChild me_m_isChild rfl rfl rfl ⟨Nat.le_of_ble_eq_true rfl, Nat.le_of_ble_eq_true rfl⟩ (Nat.le_of_ble_eq_true rfl) ⟨Nat.le_of_ble_eq_true rfl, Nat.le_of_ble_eq_true rfl⟩ (ch_mono (ch_Ki (fun r2 m3 q4 => ?_)) (s_m_isChild g (fun (r_ : Int32) (m_ : ch_M) => ((0 ≤ p1 ∧ p1 ≤ m1 (9, 0, 1) 0 - 1) ∧ 1 = r_ ∧ m1 = m_) ∨ ((¬ (0 ≤ p1 ∧ p1 ≤ m1 (9, 0, 1) 0 - 1)) ∧ 0 = r_ ∧ m1 = m_)) (p1) m1 ⟨(fun c_ => (Or.inl ⟨c_, rfl, rfl⟩)), (fun c_ => (Or.inr ⟨c_, rfl, rfl⟩))⟩))
  rcases q4 with ⟨c_, rfl, rfl⟩ | ⟨c_, rfl, rfl⟩
  · replace h := h.1 c_
    refine ch_if_ne (tgt := 19) d_m_step_10 (by decide) (fun _ => ?_) (fun c => absurd c (by decide))
    refine ch_aload_n (i := 0) d_m_step_19 rfl rfl ?_
    refine ch_iload_n (i := 1) d_m_step_20 rfl rfl ?_
    obtain ⟨Y_5, h⟩ := h
    have b13 := h.1
    replace h := h.2
    have b14 := h.1
    replace h := h.2
    refine ch_callV (as := [.inl (.int p1)]) d_m_step_21 lk_m_185 mi_m_looks me_m_looks rfl rfl rfl ⟨Nat.le_of_ble_eq_true rfl, Nat.le_of_ble_eq_true rfl⟩ (Nat.le_of_ble_eq_true rfl) ⟨Nat.le_of_ble_eq_true rfl, Nat.le_of_ble_eq_true rfl⟩ (ch_mono (ch_Kv (fun m11 q12 => ?_)) (s_m_looks g (fun (m_ : ch_M) => (∃ (B6 : ch_B) (A7 : Nat → Nat) (C8 : Nat → Nat) (S9 : Nat → Nat), (w_sp (w_e Y_5 p1) A7 C8 S9) ∧ (∀ a_ i_, a_ ≠ 10 → a_ ≠ 11 → B6 a_ i_ = ch_ob m1 9 0 a_ i_) ∧ (∀ k_, k_ < 13 → B6 10 k_ = nI (A7 k_) ∧ B6 11 k_ = nI (C8 k_)) ∧ m_ = ch_os m1 9 0 B6)) (Y_5) (p1) m1 ⟨b13, b14, (fun B6 A7 C8 S9 f0_ f1_ f2_ => ⟨B6, A7, C8, S9, f0_, f1_, f2_, rfl⟩)⟩))
    obtain ⟨B6, A7, C8, S9, f0_, f1_, f2_, hm_⟩ := q12
    replace h := h B6 A7 C8 S9 f0_ f1_ f2_ m11 hm_
    refine ch_iload_n (i := 2) d_m_step_24 rfl rfl ?_
    refine ch_iconst (v := 0) d_m_step_25 (by decide) ?_
    refine ch_aload_n (i := 0) d_m_step_26 rfl rfl ?_
    refine ch_get (v := .inr (9, 0, 11)) d_m_step_27 fl_m_45 rfl ?_
    refine ch_iconst (v := 0) d_m_step_30 (by decide) ?_
    refine ch_iald (n := 13) d_m_step_31 (by decide) rfl (vp_in_nI (n := 0) (by decide) (by decide)) ?_
    refine ch_iconst (v := 1) d_m_step_32 (by decide) ?_
    refine ch_isub d_m_step_33 ?_
    refine ch_callS (as := [.inl (.int p2), .inl (.int 0), .inl (.int ((m11 (9, 0, 11) (0)) - 1))]) d_m_step_34 lk_m_73 ms_m_in rfl rfl ⟨Nat.le_of_ble_eq_true rfl, Nat.le_of_ble_eq_true rfl⟩ (Nat.le_of_ble_eq_true rfl) ⟨Nat.le_of_ble_eq_true rfl, Nat.le_of_ble_eq_true rfl⟩ (ch_mono (ch_Ki (fun r15 m16 q17 => ?_)) (s_m_in g (fun (r_ : Int32) (m_ : ch_M) => ((0 ≤ p2 ∧ p2 ≤ ((m11 (9, 0, 11) (0)) - 1)) ∧ 1 = r_ ∧ m11 = m_) ∨ ((¬ (0 ≤ p2 ∧ p2 ≤ ((m11 (9, 0, 11) (0)) - 1))) ∧ 0 = r_ ∧ m11 = m_)) (p2) (0) (((m11 (9, 0, 11) (0)) - 1)) m11 ⟨(fun c_ => (Or.inl ⟨c_, rfl, rfl⟩)), (fun c_ => (Or.inr ⟨c_, rfl, rfl⟩))⟩))
    rcases q17 with ⟨c_, rfl, rfl⟩ | ⟨c_, rfl, rfl⟩
    · replace h := h.1 c_
      refine ch_if_ne (tgt := 46) d_m_step_37 (by decide) (fun _ => ?_) (fun c => absurd c (by decide))
      refine ch_iconst (v := 0) d_m_step_46 (by decide) ?_
      refine ch_istore_n (i := 3) d_m_step_47 rfl (Nat.le_of_ble_eq_true rfl) (ls' := [some (.inr (9, 0, 0)), some (.inl (.int p1)), some (.inl (.int p2)), some (.inl (.int 0)), none, none]) rfl ?_
      refine ch_iconst (v := 0) d_m_step_48 (by decide) ?_
      refine ch_istore (i := 4) d_m_step_49 (Nat.le_of_ble_eq_true rfl) (ls' := [some (.inr (9, 0, 0)), some (.inl (.int p1)), some (.inl (.int p2)), some (.inl (.int 0)), some (.inl (.int 0)), none]) rfl ?_
      exact h
    · replace h := h.2 c_
      refine ch_if_ne (tgt := 46) d_m_step_37 (by decide) (fun c => absurd c (by decide)) (fun _ => ?_)
      refine ch_aload_n (i := 0) d_m_step_40 rfl rfl ?_
      refine ch_iconst (v := 2) d_m_step_41 (by decide) ?_
      refine ch_callV (as := [.inl (.int 2)]) d_m_step_42 lk_m_70 mi_m_raises me_m_raises rfl rfl rfl ⟨Nat.le_of_ble_eq_true rfl, Nat.le_of_ble_eq_true rfl⟩ (Nat.le_of_ble_eq_true rfl) ⟨Nat.le_of_ble_eq_true rfl, Nat.le_of_ble_eq_true rfl⟩ (ch_mono (ch_Ki (fun r18 m19 q20 => ?_)) (s_m_raises g (fun (r_ : Int32) (m_ : ch_M) => (0 = r_ ∧ m_ = ch_wr m11 (9, 0, 0) 19 2)) (2) m11 ⟨rfl, rfl⟩))
      obtain ⟨rfl, hm_⟩ := q20
      replace h := h m19 hm_
      exact ch_iret (ty := .int) d_m_step_45 rfl rfl (Nat.le_of_ble_eq_true rfl) h
  · replace h := h.2 c_
    refine ch_if_ne (tgt := 19) d_m_step_10 (by decide) (fun c => absurd c (by decide)) (fun _ => ?_)
    refine ch_aload_n (i := 0) d_m_step_13 rfl rfl ?_
    refine ch_iconst (v := 1) d_m_step_14 (by decide) ?_
    refine ch_callV (as := [.inl (.int 1)]) d_m_step_15 lk_m_70 mi_m_raises me_m_raises rfl rfl rfl ⟨Nat.le_of_ble_eq_true rfl, Nat.le_of_ble_eq_true rfl⟩ (Nat.le_of_ble_eq_true rfl) ⟨Nat.le_of_ble_eq_true rfl, Nat.le_of_ble_eq_true rfl⟩ (ch_mono (ch_Ki (fun r21 m22 q23 => ?_)) (s_m_raises g (fun (r_ : Int32) (m_ : ch_M) => (0 = r_ ∧ m_ = ch_wr m1 (9, 0, 0) 19 1)) (1) m1 ⟨rfl, rfl⟩))
    obtain ⟨rfl, hm_⟩ := q23
    replace h := h m22 hm_
    exact ch_iret (ty := .int) d_m_step_18 rfl rfl (Nat.le_of_ble_eq_true rfl) h
set_option maxHeartbeats 1600000 in
theorem g_m_step_51 (g : ch_G) (Q : ch_O → ch_M → Prop) (x1 : Int32) (x2 : Int32) (x3 : Int32) (x4 : Int32) (o5 : Option ch_V) (m : ch_M) (h : ((x2 < x4 → Q (.inl (some (.inl (.int 0)))) m) ∧ (¬ x2 < x4 → ch_J g m_m_step (ch_rm m_m_step) (ch_E g m_m_step Q) 60 [some (.inr (9, 0, 0)), some (.inl (.int x1)), some (.inl (.int x2)), some (.inl (.int x3)), some (.inl (.int x4)), some (.inl (.int 3))] [] m 0))) : ch_J g m_m_step (ch_rm m_m_step) (ch_E g m_m_step Q) 51 [some (.inr (9, 0, 0)), some (.inl (.int x1)), some (.inl (.int x2)), some (.inl (.int x3)), some (.inl (.int x4)), o5] [] m 0 := by
  refine ch_iload d_m_step_51 rfl ?_
  refine ch_iload_n (i := 2) d_m_step_53 rfl rfl ?_
  refine ch_icmp_gt (tgt := 97) d_m_step_54 (by decide) (fun c => ?_) (fun c => ?_)
  · replace h := h.1 c
    refine ch_iconst (v := 0) d_m_step_97 (by decide) ?_
    exact ch_iret (ty := .int) d_m_step_98 rfl rfl (Nat.le_of_ble_eq_true rfl) h
  · replace h := h.2 c
    refine ch_iconst (v := 3) d_m_step_57 (by decide) ?_
    refine ch_istore (i := 5) d_m_step_58 (Nat.le_of_ble_eq_true rfl) (ls' := [some (.inr (9, 0, 0)), some (.inl (.int x1)), some (.inl (.int x2)), some (.inl (.int x3)), some (.inl (.int x4)), some (.inl (.int 3))]) rfl ?_
    exact h
set_option maxHeartbeats 1600000 in
theorem g_m_step_60 (g : ch_G) (Q : ch_O → ch_M → Prop) (x1 : Int32) (x2 : Int32) (x3 : Int32) (x4 : Int32) (x5 : Int32) (m : ch_M) (h : (∃ Y_1 : ch_B, (∃ A_2 : Nat → Nat, (∃ C_3 : Nat → Nat, (∃ S_4 : Nat → Nat, (m_rel Y_1 (m (9, 0, 1))) ∧ (∀ i_, i_ < 12 → Y_1 1 i_ = -1 ∨ vp_in (Y_1 1 i_) 5) ∧ (w_sp (w_e Y_1 x1) A_2 C_3 S_4) ∧ (∀ k_, k_ < 13 → m (9, 0, 10) k_ = nI (A_2 k_) ∧ m (9, 0, 11) k_ = nI (C_3 k_)) ∧ (vp_in x3 12) ∧ (vp_in x5 4) ∧ (1 ≤ x5) ∧ (((A_2 (Int32.toNatClampNeg x3) = w_e Y_1 x1 (Int32.toNatClampNeg x3 + Int32.toNatClampNeg x5) + A_2 (Int32.toNatClampNeg x3 + Int32.toNatClampNeg x5) ∧ C_3 (Int32.toNatClampNeg x3) = C_3 (Int32.toNatClampNeg x3 + Int32.toNatClampNeg x5) + 1) → ((¬ x4 = x2 → ch_J g m_m_step (ch_rm m_m_step) (ch_E g m_m_step Q) 51 [some (.inr (9, 0, 0)), some (.inl (.int x1)), some (.inl (.int x2)), some (.inl (.int (x3 + x5))), some (.inl (.int (x4 + 1))), some (.inl (.int x5))] [] m 0) ∧ (x4 = x2 → Q (.inl (some (.inl (.int x5)))) m))) ∧ ((¬ (A_2 (Int32.toNatClampNeg x3) = w_e Y_1 x1 (Int32.toNatClampNeg x3 + Int32.toNatClampNeg x5) + A_2 (Int32.toNatClampNeg x3 + Int32.toNatClampNeg x5) ∧ C_3 (Int32.toNatClampNeg x3) = C_3 (Int32.toNatClampNeg x3 + Int32.toNatClampNeg x5) + 1)) → ch_J g m_m_step (ch_rm m_m_step) (ch_E g m_m_step Q) 60 [some (.inr (9, 0, 0)), some (.inl (.int x1)), some (.inl (.int x2)), some (.inl (.int x3)), some (.inl (.int x4)), some (.inl (.int (x5 + (-1))))] [] m 0))))))) : ch_J g m_m_step (ch_rm m_m_step) (ch_E g m_m_step Q) 60 [some (.inr (9, 0, 0)), some (.inl (.int x1)), some (.inl (.int x2)), some (.inl (.int x3)), some (.inl (.int x4)), some (.inl (.int x5))] [] m 0 := by
  refine ch_aload_n (i := 0) d_m_step_60 rfl rfl ?_
  refine ch_iload_n (i := 1) d_m_step_61 rfl rfl ?_
  refine ch_iload_n (i := 3) d_m_step_62 rfl rfl ?_
  refine ch_iload d_m_step_63 rfl ?_
  obtain ⟨Y_1, h⟩ := h
  obtain ⟨A_2, h⟩ := h
  obtain ⟨C_3, h⟩ := h
  obtain ⟨S_4, h⟩ := h
  have b8 := h.1
  replace h := h.2
  have b9 := h.1
  replace h := h.2
  have b10 := h.1
  replace h := h.2
  have b11 := h.1
  replace h := h.2
  have b12 := h.1
  replace h := h.2
  have b13 := h.1
  replace h := h.2
  have b14 := h.1
  replace h := h.2
  refine ch_callV (as := [.inl (.int x1), .inl (.int x3), .inl (.int x5)]) d_m_step_65 lk_m_191 mi_m_isBest me_m_isBest rfl rfl rfl ⟨Nat.le_of_ble_eq_true rfl, Nat.le_of_ble_eq_true rfl⟩ (Nat.le_of_ble_eq_true rfl) ⟨Nat.le_of_ble_eq_true rfl, Nat.le_of_ble_eq_true rfl⟩ (ch_mono (ch_Ki (fun r5 m6 q7 => ?_)) (s_m_isBest g (fun (r_ : Int32) (m_ : ch_M) => ((A_2 (Int32.toNatClampNeg x3) = w_e Y_1 x1 (Int32.toNatClampNeg x3 + Int32.toNatClampNeg x5) + A_2 (Int32.toNatClampNeg x3 + Int32.toNatClampNeg x5) ∧ C_3 (Int32.toNatClampNeg x3) = C_3 (Int32.toNatClampNeg x3 + Int32.toNatClampNeg x5) + 1) ∧ 1 = r_ ∧ m = m_) ∨ ((¬ (A_2 (Int32.toNatClampNeg x3) = w_e Y_1 x1 (Int32.toNatClampNeg x3 + Int32.toNatClampNeg x5) + A_2 (Int32.toNatClampNeg x3 + Int32.toNatClampNeg x5) ∧ C_3 (Int32.toNatClampNeg x3) = C_3 (Int32.toNatClampNeg x3 + Int32.toNatClampNeg x5) + 1)) ∧ 0 = r_ ∧ m = m_)) (Y_1) (A_2) (C_3) (S_4) (x1) (x3) (x5) m ⟨b8, b9, b10, b11, b12, b13, b14, (fun c_ => (Or.inl ⟨c_, rfl, rfl⟩)), (fun c_ => (Or.inr ⟨c_, rfl, rfl⟩))⟩))
  rcases q7 with ⟨c_, rfl, rfl⟩ | ⟨c_, rfl, rfl⟩
  · replace h := h.1 c_
    refine ch_if_ne (tgt := 77) d_m_step_68 (by decide) (fun _ => ?_) (fun c => absurd c (by decide))
    refine ch_iload d_m_step_77 rfl ?_
    refine ch_iload_n (i := 2) d_m_step_79 rfl rfl ?_
    refine ch_icmp_ne (tgt := 86) d_m_step_80 (by decide) (fun c => ?_) (fun c => ?_)
    · replace h := h.1 c
      refine ch_iload_n (i := 3) d_m_step_86 rfl rfl ?_
      refine ch_iload d_m_step_87 rfl ?_
      refine ch_iadd d_m_step_89 ?_
      refine ch_istore_n (i := 3) d_m_step_90 rfl (Nat.le_of_ble_eq_true rfl) (ls' := [some (.inr (9, 0, 0)), some (.inl (.int x1)), some (.inl (.int x2)), some (.inl (.int (x3 + x5))), some (.inl (.int x4)), some (.inl (.int x5))]) rfl ?_
      refine ch_iinc (i := 4) (v := (x4 + 1)) d_m_step_91 rfl rfl (Nat.le_of_ble_eq_true rfl) (ls' := [some (.inr (9, 0, 0)), some (.inl (.int x1)), some (.inl (.int x2)), some (.inl (.int (x3 + x5))), some (.inl (.int (x4 + 1))), some (.inl (.int x5))]) rfl ?_
      refine ch_goto (tgt := 51) d_m_step_94 (by decide) ?_
      exact h
    · replace h := h.2 c
      refine ch_iload d_m_step_83 rfl ?_
      exact ch_iret (ty := .int) d_m_step_85 rfl rfl (Nat.le_of_ble_eq_true rfl) h
  · replace h := h.2 c_
    refine ch_if_ne (tgt := 77) d_m_step_68 (by decide) (fun c => absurd c (by decide)) (fun _ => ?_)
    refine ch_iinc (i := 5) (v := (x5 + (-1))) d_m_step_71 rfl rfl (Nat.le_of_ble_eq_true rfl) (ls' := [some (.inr (9, 0, 0)), some (.inl (.int x1)), some (.inl (.int x2)), some (.inl (.int x3)), some (.inl (.int x4)), some (.inl (.int (x5 + (-1))))]) rfl ?_
    refine ch_goto (tgt := 60) d_m_step_74 (by decide) ?_
    exact h
theorem e_m_wouldTread (g : ch_G) (Q : ch_O → ch_M → Prop) (p1 : Int32) (p2 : Int32) (m : ch_M) (h : ch_J g m_m_wouldTread (ch_rm m_m_wouldTread) (ch_E g m_m_wouldTread Q) 0 [some (.inr (9, 0, 0)), some (.inl (.int p1)), some (.inl (.int p2))] [] m 0) : ch_C g m_m_wouldTread [.inr (9, 0, 0), .inl (.int p1), .inl (.int p2)] m Q :=
  ch_enter mf_m_wouldTread (by intro v hv; simp only [List.mem_cons, List.not_mem_nil, or_false] at hv; rcases hv with rfl | rfl | rfl <;> rfl) (Nat.le_of_ble_eq_true rfl) h
set_option maxHeartbeats 1600000 in
theorem g_m_wouldTread_0 (g : ch_G) (Q : ch_O → ch_M → Prop) (p1 : Int32) (p2 : Int32) (m : ch_M) (h : (∀ m1 : ch_M, m1 = ch_wr m (9, 0, 0) 19 0 → (((0 ≤ p1 ∧ p1 ≤ m1 (9, 0, 1) 0 - 1) → (∃ A_5 : ch_B, (((¬ s_rfB A_5 p2 0 1 = 0) → (∀ (B6 : ch_B), (∀ a_ i_, a_ ≠ 9 → ¬ (a_ = 0 ∧ i_ = 21) → B6 a_ i_ = ch_ob m1 9 0 a_ i_) → (B6 0 21 = s_rfB A_5 p2 0 1) → (∀ k_, k_ < Int32.toNatClampNeg (s_rfB A_5 p2 0 1) → B6 9 k_ = s_rfB A_5 p2 1 k_) → (∀ m9 : ch_M, m9 = ch_os m1 9 0 B6 → (vp_in (m9 (9, 0, 0) 21) 13) ∧ (((¬ y_mfO (m9 (9, 0, 9)) (Int32.toNatClampNeg (m9 (9, 0, 0) 21)) = true ∧ ¬ ch_ps (m9 (9, 0, 9)) (Int32.toNatClampNeg (m9 (9, 0, 0) 21)) < 11) → (∃ Y_15 : ch_B, (m_rel Y_15 (m9 (9, 0, 1))) ∧ (∀ i_, i_ < 12 → Y_15 1 i_ = -1 ∨ vp_in (Y_15 1 i_) 5) ∧ (∀ i_, i_ < (Int32.toNatClampNeg (m9 (9, 0, 0) 21)) → 1 ≤ m9 (9, 0, 9) i_ ∧ m9 (9, 0, 9) i_ ≤ 3) ∧ (Q (.inl (some (.inl (.int (y_ct Y_15 p1 (m9 (9, 0, 9)) (Int32.toNatClampNeg (m9 (9, 0, 0) 21))))))) m9))) ∧ ((¬ (¬ y_mfO (m9 (9, 0, 9)) (Int32.toNatClampNeg (m9 (9, 0, 0) 21)) = true ∧ ¬ ch_ps (m9 (9, 0, 9)) (Int32.toNatClampNeg (m9 (9, 0, 0) 21)) < 11)) → ((∀ m23 : ch_M, m23 = ch_wr m9 (9, 0, 0) 19 2 → Q (.inl (some (.inl (.int 0)))) m23))))))) ∧ ((s_rfB A_5 p2 0 1 = 0) → (∀ (B7 : ch_B), (∀ a_ i_, a_ ≠ 9 → ¬ (a_ = 0 ∧ i_ = 21) → B7 a_ i_ = ch_ob m1 9 0 a_ i_) → (∀ m9 : ch_M, m9 = ch_os m1 9 0 B7 → ((∀ m26 : ch_M, m26 = ch_wr m9 (9, 0, 0) 19 2 → Q (.inl (some (.inl (.int 0)))) m26)))))))) ∧ ((¬ (0 ≤ p1 ∧ p1 ≤ m1 (9, 0, 1) 0 - 1)) → ((∀ m29 : ch_M, m29 = ch_wr m1 (9, 0, 0) 19 1 → Q (.inl (some (.inl (.int 0)))) m29)))))) : ch_J g m_m_wouldTread (ch_rm m_m_wouldTread) (ch_E g m_m_wouldTread Q) 0 [some (.inr (9, 0, 0)), some (.inl (.int p1)), some (.inl (.int p2))] [] m 0 := by
  refine ch_aload_n (i := 0) d_m_wouldTread_0 rfl rfl ?_
  refine ch_iconst (v := 0) d_m_wouldTread_1 (by decide) ?_
  refine ch_put d_m_wouldTread_2 fp_m_48 rfl rfl rfl ?_
  generalize hmm1 : ch_wr m (9, 0, 0) 19 0 = m1
  replace h := h m1 hmm1.symm
  refine ch_aload_n (i := 0) d_m_wouldTread_5 rfl rfl ?_
  refine ch_iload_n (i := 1) d_m_wouldTread_6 rfl rfl ?_
  refine ch_callV (as := [.inl (.int p1)]) d_m_wouldTread_7 lk_m_77 mi_m_isChild me_m_isChild rfl rfl rfl ⟨Nat.le_of_ble_eq_true rfl, Nat.le_of_ble_eq_true rfl⟩ (Nat.le_of_ble_eq_true rfl) ⟨Nat.le_of_ble_eq_true rfl, Nat.le_of_ble_eq_true rfl⟩ (ch_mono (ch_Ki (fun r2 m3 q4 => ?_)) (s_m_isChild g (fun (r_ : Int32) (m_ : ch_M) => ((0 ≤ p1 ∧ p1 ≤ m1 (9, 0, 1) 0 - 1) ∧ 1 = r_ ∧ m1 = m_) ∨ ((¬ (0 ≤ p1 ∧ p1 ≤ m1 (9, 0, 1) 0 - 1)) ∧ 0 = r_ ∧ m1 = m_)) (p1) m1 ⟨(fun c_ => (Or.inl ⟨c_, rfl, rfl⟩)), (fun c_ => (Or.inr ⟨c_, rfl, rfl⟩))⟩))
  rcases q4 with ⟨c_, rfl, rfl⟩ | ⟨c_, rfl, rfl⟩
  · replace h := h.1 c_
    refine ch_if_ne (tgt := 19) d_m_wouldTread_10 (by decide) (fun _ => ?_) (fun c => absurd c (by decide))
    refine ch_aload_n (i := 0) d_m_wouldTread_19 rfl rfl ?_
    refine ch_iload_n (i := 2) d_m_wouldTread_20 rfl rfl ?_
    obtain ⟨A_5, h⟩ := h
    refine ch_callV (as := [.inl (.int p2)]) d_m_wouldTread_21 lk_m_147 mi_m_areSteps me_m_areSteps rfl rfl rfl ⟨Nat.le_of_ble_eq_true rfl, Nat.le_of_ble_eq_true rfl⟩ (Nat.le_of_ble_eq_true rfl) ⟨Nat.le_of_ble_eq_true rfl, Nat.le_of_ble_eq_true rfl⟩ (ch_mono (ch_Ki (fun r8 m9 q10 => ?_)) (s_m_areSteps g (fun (r_ : Int32) (m_ : ch_M) => (∃ (B6 : ch_B), (¬ s_rfB A_5 p2 0 1 = 0) ∧ 1 = r_ ∧ (∀ a_ i_, a_ ≠ 9 → ¬ (a_ = 0 ∧ i_ = 21) → B6 a_ i_ = ch_ob m1 9 0 a_ i_) ∧ (B6 0 21 = s_rfB A_5 p2 0 1) ∧ (∀ k_, k_ < Int32.toNatClampNeg (s_rfB A_5 p2 0 1) → B6 9 k_ = s_rfB A_5 p2 1 k_) ∧ m_ = ch_os m1 9 0 B6) ∨ (∃ (B7 : ch_B), (s_rfB A_5 p2 0 1 = 0) ∧ 0 = r_ ∧ (∀ a_ i_, a_ ≠ 9 → ¬ (a_ = 0 ∧ i_ = 21) → B7 a_ i_ = ch_ob m1 9 0 a_ i_) ∧ m_ = ch_os m1 9 0 B7)) (A_5) (p2) m1 ⟨(fun c_ B6 f0_ f1_ f2_ => (Or.inl ⟨B6, c_, rfl, f0_, f1_, f2_, rfl⟩)), (fun c_ B7 f0_ => (Or.inr ⟨B7, c_, rfl, f0_, rfl⟩))⟩))
    rcases q10 with ⟨B6, c_, rfl, f0_, f1_, f2_, hm_⟩ | ⟨B7, c_, rfl, f0_, hm_⟩
    · replace h := h.1 c_ B6 f0_ f1_ f2_ m9 hm_
      refine ch_if_eq (tgt := 42) d_m_wouldTread_24 (by decide) (fun c => absurd c (by decide)) (fun _ => ?_)
      refine ch_aload_n (i := 0) d_m_wouldTread_27 rfl rfl ?_
      have b14 := h.1
      replace h := h.2
      refine ch_callV (as := []) d_m_wouldTread_28 lk_m_132 mi_m_isOver me_m_isOver rfl rfl rfl ⟨Nat.le_of_ble_eq_true rfl, Nat.le_of_ble_eq_true rfl⟩ (Nat.le_of_ble_eq_true rfl) ⟨Nat.le_of_ble_eq_true rfl, Nat.le_of_ble_eq_true rfl⟩ (ch_mono (ch_Ki (fun r11 m12 q13 => ?_)) (s_m_isOver g (fun (r_ : Int32) (m_ : ch_M) => ((¬ y_mfO (m9 (9, 0, 9)) (Int32.toNatClampNeg (m9 (9, 0, 0) 21)) = true ∧ ¬ ch_ps (m9 (9, 0, 9)) (Int32.toNatClampNeg (m9 (9, 0, 0) 21)) < 11) ∧ 1 = r_ ∧ m9 = m_) ∨ ((¬ (¬ y_mfO (m9 (9, 0, 9)) (Int32.toNatClampNeg (m9 (9, 0, 0) 21)) = true ∧ ¬ ch_ps (m9 (9, 0, 9)) (Int32.toNatClampNeg (m9 (9, 0, 0) 21)) < 11)) ∧ 0 = r_ ∧ m9 = m_))  m9 ⟨b14, (fun c_ => (Or.inl ⟨c_, rfl, rfl⟩)), (fun c_ => (Or.inr ⟨c_, rfl, rfl⟩))⟩))
      rcases q13 with ⟨c_, rfl, rfl⟩ | ⟨c_, rfl, rfl⟩
      · replace h := h.1 c_
        refine ch_if_eq (tgt := 42) d_m_wouldTread_31 (by decide) (fun c => absurd c (by decide)) (fun _ => ?_)
        refine ch_aload_n (i := 0) d_m_wouldTread_34 rfl rfl ?_
        refine ch_iload_n (i := 1) d_m_wouldTread_35 rfl rfl ?_
        obtain ⟨Y_15, h⟩ := h
        have b19 := h.1
        replace h := h.2
        have b20 := h.1
        replace h := h.2
        have b21 := h.1
        replace h := h.2
        refine ch_callV (as := [.inl (.int p1)]) d_m_wouldTread_36 lk_m_194 mi_m_treadsBy me_m_treadsBy rfl rfl rfl ⟨Nat.le_of_ble_eq_true rfl, Nat.le_of_ble_eq_true rfl⟩ (Nat.le_of_ble_eq_true rfl) ⟨Nat.le_of_ble_eq_true rfl, Nat.le_of_ble_eq_true rfl⟩ (ch_mono (ch_Ki (fun r16 m17 q18 => ?_)) (s_m_treadsBy g (fun (r_ : Int32) (m_ : ch_M) => ((y_ct Y_15 p1 (m9 (9, 0, 9)) (Int32.toNatClampNeg (m9 (9, 0, 0) 21))) = r_ ∧ m9 = m_)) (Y_15) (p1) m9 ⟨b19, b20, b14, b21, ⟨rfl, rfl⟩⟩))
        obtain ⟨rfl, rfl⟩ := q18
        replace h := h
        refine ch_goto (tgt := 47) d_m_wouldTread_39 (by decide) ?_
        exact ch_iret (ty := .int) d_m_wouldTread_47 rfl rfl (Nat.le_of_ble_eq_true rfl) h
      · replace h := h.2 c_
        refine ch_if_eq (tgt := 42) d_m_wouldTread_31 (by decide) (fun _ => ?_) (fun c => absurd c (by decide))
        refine ch_aload_n (i := 0) d_m_wouldTread_42 rfl rfl ?_
        refine ch_iconst (v := 2) d_m_wouldTread_43 (by decide) ?_
        refine ch_callV (as := [.inl (.int 2)]) d_m_wouldTread_44 lk_m_70 mi_m_raises me_m_raises rfl rfl rfl ⟨Nat.le_of_ble_eq_true rfl, Nat.le_of_ble_eq_true rfl⟩ (Nat.le_of_ble_eq_true rfl) ⟨Nat.le_of_ble_eq_true rfl, Nat.le_of_ble_eq_true rfl⟩ (ch_mono (ch_Ki (fun r22 m23 q24 => ?_)) (s_m_raises g (fun (r_ : Int32) (m_ : ch_M) => (0 = r_ ∧ m_ = ch_wr m9 (9, 0, 0) 19 2)) (2) m9 ⟨rfl, rfl⟩))
        obtain ⟨rfl, hm_⟩ := q24
        replace h := h m23 hm_
        exact ch_iret (ty := .int) d_m_wouldTread_47 rfl rfl (Nat.le_of_ble_eq_true rfl) h
    · replace h := h.2 c_ B7 f0_ m9 hm_
      refine ch_if_eq (tgt := 42) d_m_wouldTread_24 (by decide) (fun _ => ?_) (fun c => absurd c (by decide))
      refine ch_aload_n (i := 0) d_m_wouldTread_42 rfl rfl ?_
      refine ch_iconst (v := 2) d_m_wouldTread_43 (by decide) ?_
      refine ch_callV (as := [.inl (.int 2)]) d_m_wouldTread_44 lk_m_70 mi_m_raises me_m_raises rfl rfl rfl ⟨Nat.le_of_ble_eq_true rfl, Nat.le_of_ble_eq_true rfl⟩ (Nat.le_of_ble_eq_true rfl) ⟨Nat.le_of_ble_eq_true rfl, Nat.le_of_ble_eq_true rfl⟩ (ch_mono (ch_Ki (fun r25 m26 q27 => ?_)) (s_m_raises g (fun (r_ : Int32) (m_ : ch_M) => (0 = r_ ∧ m_ = ch_wr m9 (9, 0, 0) 19 2)) (2) m9 ⟨rfl, rfl⟩))
      obtain ⟨rfl, hm_⟩ := q27
      replace h := h m26 hm_
      exact ch_iret (ty := .int) d_m_wouldTread_47 rfl rfl (Nat.le_of_ble_eq_true rfl) h
  · replace h := h.2 c_
    refine ch_if_ne (tgt := 19) d_m_wouldTread_10 (by decide) (fun c => absurd c (by decide)) (fun _ => ?_)
    refine ch_aload_n (i := 0) d_m_wouldTread_13 rfl rfl ?_
    refine ch_iconst (v := 1) d_m_wouldTread_14 (by decide) ?_
    refine ch_callV (as := [.inl (.int 1)]) d_m_wouldTread_15 lk_m_70 mi_m_raises me_m_raises rfl rfl rfl ⟨Nat.le_of_ble_eq_true rfl, Nat.le_of_ble_eq_true rfl⟩ (Nat.le_of_ble_eq_true rfl) ⟨Nat.le_of_ble_eq_true rfl, Nat.le_of_ble_eq_true rfl⟩ (ch_mono (ch_Ki (fun r28 m29 q30 => ?_)) (s_m_raises g (fun (r_ : Int32) (m_ : ch_M) => (0 = r_ ∧ m_ = ch_wr m1 (9, 0, 0) 19 1)) (1) m1 ⟨rfl, rfl⟩))
    obtain ⟨rfl, hm_⟩ := q30
    replace h := h m29 hm_
    exact ch_iret (ty := .int) d_m_wouldTread_18 rfl rfl (Nat.le_of_ble_eq_true rfl) h
