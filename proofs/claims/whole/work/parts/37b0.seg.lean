theorem e_x_meanChalk (g : ch_G) (Q : ch_O → ch_M → Prop)  (m : ch_M) (h : ch_J g m_x_meanChalk (ch_rm m_x_meanChalk) (ch_E g m_x_meanChalk Q) 0 [some (.inr (0, 0, 0)), none] [] m 0) : ch_C g m_x_meanChalk [.inr (0, 0, 0)] m Q :=
  ch_enter mf_x_meanChalk (by intro v hv; simp only [List.mem_cons, List.not_mem_nil, or_false] at hv; rcases hv with rfl <;> rfl) (Nat.le_of_ble_eq_true rfl) h
set_option maxHeartbeats 1600000 in
theorem g_x_meanChalk_0 (g : ch_G) (Q : ch_O → ch_M → Prop)  (m : ch_M) (h : (((¬ (12 - (ch_cnO (m (1, 0, 1)) (-1) 12)) = 0 → ((vf_n64 (FP.ddiv (FP.i2d (y_sum (m (1, 0, 2)) 12)) (FP.i2d (12 - (ch_cnO (m (1, 0, 1)) (-1) 12))))) ∧ Q (.inl (some (.inl (.double (FP.ddiv (FP.i2d (y_sum (m (1, 0, 2)) 12)) (FP.i2d (12 - (ch_cnO (m (1, 0, 1)) (-1) 12)))))))) m)) ∧ ((12 - (ch_cnO (m (1, 0, 1)) (-1) 12)) = 0 → Q (.inr 5) m)))) : ch_J g m_x_meanChalk (ch_rm m_x_meanChalk) (ch_E g m_x_meanChalk Q) 0 [some (.inr (0, 0, 0)), none] [] m 0 := by
  refine ch_bipush (v := 12) d_x_meanChalk_0 (by decide) ?_
  refine ch_aload_n (i := 0) d_x_meanChalk_2 rfl rfl ?_
  refine ch_get (v := .inr (1, 0, 0)) d_x_meanChalk_3 fl_x_10 rfl ?_
  refine ch_iconst (v := (-1)) d_x_meanChalk_6 (by decide) ?_
  refine ch_callV (as := [.inl (.int (-1))]) d_x_meanChalk_7 lk_x_118 mi_y_countOwned me_y_countOwned rfl rfl rfl ⟨Nat.le_of_ble_eq_true rfl, Nat.le_of_ble_eq_true rfl⟩ (Nat.le_of_ble_eq_true rfl) ⟨Nat.le_of_ble_eq_true rfl, Nat.le_of_ble_eq_true rfl⟩ (ch_mono (ch_Ki (fun r1 m2 q3 => ?_)) (s_y_countOwned g (fun (r_ : Int32) (m_ : ch_M) => ((ch_cnO (m (1, 0, 1)) (-1) 12) = r_ ∧ m = m_)) (0) ((-1)) m ⟨rfl, rfl⟩))
  obtain ⟨rfl, rfl⟩ := q3
  replace h := h
  refine ch_isub d_x_meanChalk_10 ?_
  refine ch_istore_n (i := 1) d_x_meanChalk_11 rfl (Nat.le_of_ble_eq_true rfl) (ls' := [some (.inr (0, 0, 0)), some (.inl (.int (12 - (ch_cnO (m (1, 0, 1)) (-1) 12))))]) rfl ?_
  refine ch_iload_n (i := 1) d_x_meanChalk_12 rfl rfl ?_
  refine ch_if_ne (tgt := 24) d_x_meanChalk_13 (by decide) (fun c => ?_) (fun c => ?_)
  · replace h := h.1 c
    refine ch_aload_n (i := 0) d_x_meanChalk_24 rfl rfl ?_
    refine ch_get (v := .inr (1, 0, 0)) d_x_meanChalk_25 fl_x_10 rfl ?_
    refine ch_callV (as := []) d_x_meanChalk_28 lk_x_247 mi_y_sumAllChalk me_y_sumAllChalk rfl rfl rfl ⟨Nat.le_of_ble_eq_true rfl, Nat.le_of_ble_eq_true rfl⟩ (Nat.le_of_ble_eq_true rfl) ⟨Nat.le_of_ble_eq_true rfl, Nat.le_of_ble_eq_true rfl⟩ (ch_mono (ch_Ki (fun r4 m5 q6 => ?_)) (s_y_sumAllChalk g (fun (r_ : Int32) (m_ : ch_M) => ((y_sum (m (1, 0, 2)) 12) = r_ ∧ m = m_)) (0) m ⟨rfl, rfl⟩))
    obtain ⟨rfl, rfl⟩ := q6
    replace h := h
    refine ch_i2d d_x_meanChalk_31 ?_
    refine ch_iload_n (i := 1) d_x_meanChalk_32 rfl rfl ?_
    refine ch_i2d d_x_meanChalk_33 ?_
    refine ch_ddiv d_x_meanChalk_34 h.1 ?_
    replace h := h.2
    exact ch_dret d_x_meanChalk_35 rfl (Nat.le_of_ble_eq_true rfl) h
  · replace h := h.2 c
    exact ch_throw d_x_meanChalk_16 d_x_meanChalk_19 d_x_meanChalk_20 d_x_meanChalk_23 tw_x_244 (by decide) rfl (Nat.le_of_ble_eq_true rfl) (Nat.le_of_ble_eq_true rfl) (Nat.le_of_ble_eq_true rfl) h
theorem e_x_ownedShare (g : ch_G) (Q : ch_O → ch_M → Prop)  (m : ch_M) (h : ch_J g m_x_ownedShare (ch_rm m_x_ownedShare) (ch_E g m_x_ownedShare Q) 0 [some (.inr (0, 0, 0))] [] m 0) : ch_C g m_x_ownedShare [.inr (0, 0, 0)] m Q :=
  ch_enter mf_x_ownedShare (by intro v hv; simp only [List.mem_cons, List.not_mem_nil, or_false] at hv; rcases hv with rfl <;> rfl) (Nat.le_of_ble_eq_true rfl) h
set_option maxHeartbeats 1600000 in
theorem g_x_ownedShare_0 (g : ch_G) (Q : ch_O → ch_M → Prop)  (m : ch_M) (h : ((vf_n32 (FP.fdiv (FP.i2f (12 - (ch_cnO (m (1, 0, 1)) (-1) 12))) 1094713344)) ∧ Q (.inl (some (.inl (.float (FP.fdiv (FP.i2f (12 - (ch_cnO (m (1, 0, 1)) (-1) 12))) 1094713344))))) m)) : ch_J g m_x_ownedShare (ch_rm m_x_ownedShare) (ch_E g m_x_ownedShare Q) 0 [some (.inr (0, 0, 0))] [] m 0 := by
  refine ch_bipush (v := 12) d_x_ownedShare_0 (by decide) ?_
  refine ch_aload_n (i := 0) d_x_ownedShare_2 rfl rfl ?_
  refine ch_get (v := .inr (1, 0, 0)) d_x_ownedShare_3 fl_x_10 rfl ?_
  refine ch_iconst (v := (-1)) d_x_ownedShare_6 (by decide) ?_
  refine ch_callV (as := [.inl (.int (-1))]) d_x_ownedShare_7 lk_x_118 mi_y_countOwned me_y_countOwned rfl rfl rfl ⟨Nat.le_of_ble_eq_true rfl, Nat.le_of_ble_eq_true rfl⟩ (Nat.le_of_ble_eq_true rfl) ⟨Nat.le_of_ble_eq_true rfl, Nat.le_of_ble_eq_true rfl⟩ (ch_mono (ch_Ki (fun r1 m2 q3 => ?_)) (s_y_countOwned g (fun (r_ : Int32) (m_ : ch_M) => ((ch_cnO (m (1, 0, 1)) (-1) 12) = r_ ∧ m = m_)) (0) ((-1)) m ⟨rfl, rfl⟩))
  obtain ⟨rfl, rfl⟩ := q3
  replace h := h
  refine ch_isub d_x_ownedShare_10 ?_
  refine ch_i2f d_x_ownedShare_11 ?_
  refine ch_ldcf d_x_ownedShare_12 lc_x_250 ?_
  refine ch_fdiv d_x_ownedShare_14 h.1 ?_
  replace h := h.2
  exact ch_fret d_x_ownedShare_15 rfl (Nat.le_of_ble_eq_true rfl) h
theorem e_m_meanChalk (g : ch_G) (Q : ch_O → ch_M → Prop)  (m : ch_M) (h : ch_J g m_m_meanChalk (ch_rm m_m_meanChalk) (ch_E g m_m_meanChalk Q) 0 [some (.inr (9, 0, 0)), none, none] [] m 0) : ch_C g m_m_meanChalk [.inr (9, 0, 0)] m Q :=
  ch_enter mf_m_meanChalk (by intro v hv; simp only [List.mem_cons, List.not_mem_nil, or_false] at hv; rcases hv with rfl <;> rfl) (Nat.le_of_ble_eq_true rfl) h
set_option maxHeartbeats 1600000 in
theorem g_m_meanChalk_0 (g : ch_G) (Q : ch_O → ch_M → Prop)  (m : ch_M) (h : (∀ m1 : ch_M, m1 = ch_wr m (9, 0, 0) 19 0 → ch_J g m_m_meanChalk (ch_rm m_m_meanChalk) (ch_E g m_m_meanChalk Q) 9 [some (.inr (9, 0, 0)), some (.inl (.int 0)), some (.inl (.int 0))] [] m1 0)) : ch_J g m_m_meanChalk (ch_rm m_m_meanChalk) (ch_E g m_m_meanChalk Q) 0 [some (.inr (9, 0, 0)), none, none] [] m 0 := by
  refine ch_aload_n (i := 0) d_m_meanChalk_0 rfl rfl ?_
  refine ch_iconst (v := 0) d_m_meanChalk_1 (by decide) ?_
  refine ch_put d_m_meanChalk_2 fp_m_48 rfl rfl rfl ?_
  generalize hmm1 : ch_wr m (9, 0, 0) 19 0 = m1
  replace h := h m1 hmm1.symm
  refine ch_iconst (v := 0) d_m_meanChalk_5 (by decide) ?_
  refine ch_istore_n (i := 1) d_m_meanChalk_6 rfl (Nat.le_of_ble_eq_true rfl) (ls' := [some (.inr (9, 0, 0)), some (.inl (.int 0)), none]) rfl ?_
  refine ch_iconst (v := 0) d_m_meanChalk_7 (by decide) ?_
  refine ch_istore_n (i := 2) d_m_meanChalk_8 rfl (Nat.le_of_ble_eq_true rfl) (ls' := [some (.inr (9, 0, 0)), some (.inl (.int 0)), some (.inl (.int 0))]) rfl ?_
  exact h
set_option maxHeartbeats 1600000 in
theorem g_m_meanChalk_9 (g : ch_G) (Q : ch_O → ch_M → Prop) (x1 : Int32) (x2 : Int32) (m : ch_M) (h : ((12 ≤ x2 → (∃ Y_1 : ch_B, (m_rel Y_1 (m (9, 0, 1))) ∧ (∀ i_, i_ < 12 → Y_1 1 i_ = -1 ∨ vp_in (Y_1 1 i_) 5) ∧ (((¬ (12 - ch_cnO (Y_1 1) (-1) 12) = 0 → (∃ Y_7 : ch_B, (m_rel Y_7 (m (9, 0, 1))) ∧ (∀ i_, i_ < 12 → Y_7 1 i_ = -1 ∨ vp_in (Y_7 1 i_) 5) ∧ ((vf_n64 (FP.ddiv (FP.i2d x1) (FP.i2d (12 - ch_cnO (Y_7 1) (-1) 12)))) ∧ Q (.inl (some (.inl (.double (FP.ddiv (FP.i2d x1) (FP.i2d (12 - ch_cnO (Y_7 1) (-1) 12))))))) m))) ∧ ((12 - ch_cnO (Y_1 1) (-1) 12) = 0 → ((∀ m14 : ch_M, m14 = ch_wr m (9, 0, 0) 19 1 → Q (.inl (some (.inl (.double (FP.i2d 0))))) m14))))))) ∧ (¬ 12 ≤ x2 → (vp_in x2 12) ∧ (ch_J g m_m_meanChalk (ch_rm m_m_meanChalk) (ch_E g m_m_meanChalk Q) 9 [some (.inr (9, 0, 0)), some (.inl (.int (x1 + (m (9, 0, 1) (15 + 2 * Int32.toNatClampNeg x2))))), some (.inl (.int (x2 + 1)))] [] m 0)))) : ch_J g m_m_meanChalk (ch_rm m_m_meanChalk) (ch_E g m_m_meanChalk Q) 9 [some (.inr (9, 0, 0)), some (.inl (.int x1)), some (.inl (.int x2))] [] m 0 := by
  refine ch_iload_n (i := 2) d_m_meanChalk_9 rfl rfl ?_
  refine ch_bipush (v := 12) d_m_meanChalk_10 (by decide) ?_
  refine ch_icmp_ge (tgt := 29) d_m_meanChalk_12 (by decide) (fun c => ?_) (fun c => ?_)
  · replace h := h.1 c
    refine ch_aload_n (i := 0) d_m_meanChalk_29 rfl rfl ?_
    obtain ⟨Y_1, h⟩ := h
    have b5 := h.1
    replace h := h.2
    have b6 := h.1
    replace h := h.2
    refine ch_callV (as := []) d_m_meanChalk_30 lk_m_162 mi_m_owned me_m_owned rfl rfl rfl ⟨Nat.le_of_ble_eq_true rfl, Nat.le_of_ble_eq_true rfl⟩ (Nat.le_of_ble_eq_true rfl) ⟨Nat.le_of_ble_eq_true rfl, Nat.le_of_ble_eq_true rfl⟩ (ch_mono (ch_Ki (fun r2 m3 q4 => ?_)) (s_m_owned g (fun (r_ : Int32) (m_ : ch_M) => ((12 - ch_cnO (Y_1 1) (-1) 12) = r_ ∧ m = m_)) (Y_1) m ⟨b5, b6, ⟨rfl, rfl⟩⟩))
    obtain ⟨rfl, rfl⟩ := q4
    replace h := h
    refine ch_if_ne (tgt := 45) d_m_meanChalk_33 (by decide) (fun c => ?_) (fun c => ?_)
    · replace h := h.1 c
      refine ch_iload_n (i := 1) d_m_meanChalk_45 rfl rfl ?_
      refine ch_i2d d_m_meanChalk_46 ?_
      refine ch_aload_n (i := 0) d_m_meanChalk_47 rfl rfl ?_
      obtain ⟨Y_7, h⟩ := h
      have b11 := h.1
      replace h := h.2
      have b12 := h.1
      replace h := h.2
      refine ch_callV (as := []) d_m_meanChalk_48 lk_m_162 mi_m_owned me_m_owned rfl rfl rfl ⟨Nat.le_of_ble_eq_true rfl, Nat.le_of_ble_eq_true rfl⟩ (Nat.le_of_ble_eq_true rfl) ⟨Nat.le_of_ble_eq_true rfl, Nat.le_of_ble_eq_true rfl⟩ (ch_mono (ch_Ki (fun r8 m9 q10 => ?_)) (s_m_owned g (fun (r_ : Int32) (m_ : ch_M) => ((12 - ch_cnO (Y_7 1) (-1) 12) = r_ ∧ m = m_)) (Y_7) m ⟨b11, b12, ⟨rfl, rfl⟩⟩))
      obtain ⟨rfl, rfl⟩ := q10
      replace h := h
      refine ch_i2d d_m_meanChalk_51 ?_
      refine ch_ddiv d_m_meanChalk_52 h.1 ?_
      replace h := h.2
      exact ch_dret d_m_meanChalk_53 rfl (Nat.le_of_ble_eq_true rfl) h
    · replace h := h.2 c
      refine ch_aload_n (i := 0) d_m_meanChalk_36 rfl rfl ?_
      refine ch_iconst (v := 1) d_m_meanChalk_37 (by decide) ?_
      refine ch_callV (as := [.inl (.int 1)]) d_m_meanChalk_38 lk_m_70 mi_m_raises me_m_raises rfl rfl rfl ⟨Nat.le_of_ble_eq_true rfl, Nat.le_of_ble_eq_true rfl⟩ (Nat.le_of_ble_eq_true rfl) ⟨Nat.le_of_ble_eq_true rfl, Nat.le_of_ble_eq_true rfl⟩ (ch_mono (ch_Ki (fun r13 m14 q15 => ?_)) (s_m_raises g (fun (r_ : Int32) (m_ : ch_M) => (0 = r_ ∧ m_ = ch_wr m (9, 0, 0) 19 1)) (1) m ⟨rfl, rfl⟩))
      obtain ⟨rfl, hm_⟩ := q15
      replace h := h m14 hm_
      refine ch_i2d d_m_meanChalk_41 ?_
      refine ch_goto (tgt := 53) d_m_meanChalk_42 (by decide) ?_
      exact ch_dret d_m_meanChalk_53 rfl (Nat.le_of_ble_eq_true rfl) h
  · replace h := h.2 c
    refine ch_iload_n (i := 1) d_m_meanChalk_15 rfl rfl ?_
    refine ch_aload_n (i := 0) d_m_meanChalk_16 rfl rfl ?_
    refine ch_iload_n (i := 2) d_m_meanChalk_17 rfl rfl ?_
    have b19 := h.1
    replace h := h.2
    refine ch_callV (as := [.inl (.int x2)]) d_m_meanChalk_18 lk_m_112 mi_m_chalkOf me_m_chalkOf rfl rfl rfl ⟨Nat.le_of_ble_eq_true rfl, Nat.le_of_ble_eq_true rfl⟩ (Nat.le_of_ble_eq_true rfl) ⟨Nat.le_of_ble_eq_true rfl, Nat.le_of_ble_eq_true rfl⟩ (ch_mono (ch_Ki (fun r16 m17 q18 => ?_)) (s_m_chalkOf g (fun (r_ : Int32) (m_ : ch_M) => ((m (9, 0, 1) (15 + 2 * Int32.toNatClampNeg x2)) = r_ ∧ m = m_)) (x2) m ⟨b19, ⟨rfl, rfl⟩⟩))
    obtain ⟨rfl, rfl⟩ := q18
    replace h := h
    refine ch_iadd d_m_meanChalk_21 ?_
    refine ch_istore_n (i := 1) d_m_meanChalk_22 rfl (Nat.le_of_ble_eq_true rfl) (ls' := [some (.inr (9, 0, 0)), some (.inl (.int (x1 + (m (9, 0, 1) (15 + 2 * Int32.toNatClampNeg x2))))), some (.inl (.int x2))]) rfl ?_
    refine ch_iinc (i := 2) (v := (x2 + 1)) d_m_meanChalk_23 rfl rfl (Nat.le_of_ble_eq_true rfl) (ls' := [some (.inr (9, 0, 0)), some (.inl (.int (x1 + (m (9, 0, 1) (15 + 2 * Int32.toNatClampNeg x2))))), some (.inl (.int (x2 + 1)))]) rfl ?_
    refine ch_goto (tgt := 9) d_m_meanChalk_26 (by decide) ?_
    exact h
theorem e_m_ownedShare (g : ch_G) (Q : ch_O → ch_M → Prop)  (m : ch_M) (h : ch_J g m_m_ownedShare (ch_rm m_m_ownedShare) (ch_E g m_m_ownedShare Q) 0 [some (.inr (9, 0, 0))] [] m 0) : ch_C g m_m_ownedShare [.inr (9, 0, 0)] m Q :=
  ch_enter mf_m_ownedShare (by intro v hv; simp only [List.mem_cons, List.not_mem_nil, or_false] at hv; rcases hv with rfl <;> rfl) (Nat.le_of_ble_eq_true rfl) h
set_option maxHeartbeats 1600000 in
theorem g_m_ownedShare_0 (g : ch_G) (Q : ch_O → ch_M → Prop)  (m : ch_M) (h : (∀ m1 : ch_M, m1 = ch_wr m (9, 0, 0) 19 0 → (∃ Y_2 : ch_B, (m_rel Y_2 (m1 (9, 0, 1))) ∧ (∀ i_, i_ < 12 → Y_2 1 i_ = -1 ∨ vp_in (Y_2 1 i_) 5) ∧ ((vf_n32 (FP.fdiv (FP.i2f (12 - ch_cnO (Y_2 1) (-1) 12)) 1094713344)) ∧ Q (.inl (some (.inl (.float (FP.fdiv (FP.i2f (12 - ch_cnO (Y_2 1) (-1) 12)) 1094713344))))) m1)))) : ch_J g m_m_ownedShare (ch_rm m_m_ownedShare) (ch_E g m_m_ownedShare Q) 0 [some (.inr (9, 0, 0))] [] m 0 := by
  refine ch_aload_n (i := 0) d_m_ownedShare_0 rfl rfl ?_
  refine ch_iconst (v := 0) d_m_ownedShare_1 (by decide) ?_
  refine ch_put d_m_ownedShare_2 fp_m_48 rfl rfl rfl ?_
  generalize hmm1 : ch_wr m (9, 0, 0) 19 0 = m1
  replace h := h m1 hmm1.symm
  refine ch_aload_n (i := 0) d_m_ownedShare_5 rfl rfl ?_
  obtain ⟨Y_2, h⟩ := h
  have b6 := h.1
  replace h := h.2
  have b7 := h.1
  replace h := h.2
  refine ch_callV (as := []) d_m_ownedShare_6 lk_m_162 mi_m_owned me_m_owned rfl rfl rfl ⟨Nat.le_of_ble_eq_true rfl, Nat.le_of_ble_eq_true rfl⟩ (Nat.le_of_ble_eq_true rfl) ⟨Nat.le_of_ble_eq_true rfl, Nat.le_of_ble_eq_true rfl⟩ (ch_mono (ch_Ki (fun r3 m4 q5 => ?_)) (s_m_owned g (fun (r_ : Int32) (m_ : ch_M) => ((12 - ch_cnO (Y_2 1) (-1) 12) = r_ ∧ m1 = m_)) (Y_2) m1 ⟨b6, b7, ⟨rfl, rfl⟩⟩))
  obtain ⟨rfl, rfl⟩ := q5
  replace h := h
  refine ch_i2f d_m_ownedShare_9 ?_
  refine ch_ldcf d_m_ownedShare_10 lc_m_250 ?_
  refine ch_fdiv d_m_ownedShare_12 h.1 ?_
  replace h := h.2
  exact ch_fret d_m_ownedShare_13 rfl (Nat.le_of_ble_eq_true rfl) h
