theorem e_x_meanChalk (g : ch_G) (Q : ch_O → ch_M → Prop)  (m : ch_M) (h : ch_J g m_x_meanChalk (ch_rm m_x_meanChalk) (ch_E g m_x_meanChalk Q) 0 [some (.inr (0, 0, 0)), none] [] m 0) : ch_C g m_x_meanChalk [.inr (0, 0, 0)] m Q :=
  ch_enter mf_x_meanChalk (by intro v hv; simp only [List.mem_cons, List.not_mem_nil, or_false] at hv; rcases hv with rfl <;> rfl) (Nat.le_of_ble_eq_true rfl) h
set_option maxHeartbeats 1600000 in
theorem g_x_meanChalk_0 (g : ch_G) (Q : ch_O → ch_M → Prop)  (m : ch_M) (h : (((¬ (12 - (ch_cnO (m (1, 0, 1)) (-1) 12)) = 0 → ((vf_n64 (FP.ddiv (FP.i2d (y_sum (m (1, 0, 2)) 12)) (FP.i2d (12 - (ch_cnO (m (1, 0, 1)) (-1) 12))))) ∧ Q (.inl (some (.inl (.double (FP.ddiv (FP.i2d (y_sum (m (1, 0, 2)) 12)) (FP.i2d (12 - (ch_cnO (m (1, 0, 1)) (-1) 12)))))))) m)) ∧ ((12 - (ch_cnO (m (1, 0, 1)) (-1) 12)) = 0 → Q (.inr 5) m)))) : ch_J g m_x_meanChalk (ch_rm m_x_meanChalk) (ch_E g m_x_meanChalk Q) 0 [some (.inr (0, 0, 0)), none] [] m 0 := by
  refine ch_bipush (v := 12) d_x_meanChalk_0 (by decide) ?_
  refine ch_aload_n (i := 0) d_x_meanChalk_2 rfl rfl ?_
  refine ch_get (v := .inr (1, 0, 0)) d_x_meanChalk_3 fl_x_10 rfl ?_
  refine ch_iconst (v := (-1)) d_x_meanChalk_6 (by decide) ?_
  refine ch_callV (as := [.inl (.int (-1))]) d_x_meanChalk_7 lk_x_118 mi_y_countOwned me_y_countOwned rfl rfl rfl ⟨Nat.le_of_ble_eq_true rfl, Nat.le_of_ble_eq_true rfl⟩ (Nat.le_of_ble_eq_true rfl) ⟨Nat.le_of_ble_eq_true rfl, Nat.le_of_ble_eq_true rfl⟩ (ch_mono (ch_Ki (fun r1 m2 q3 => ?_)) (s_y_countOwned g (fun (r_ : Int32) (m_ : ch_M) => ((ch_cnO (m (1, 0, 1)) (-1) 12) = r_ ∧ m = m_)) (0) ((-1)) m ⟨rfl, rfl⟩))
  obtain ⟨rfl, rfl⟩ := q3
  replace h := h
  refine ch_isub d_x_meanChalk_10 ?_
  refine ch_istore_n (i := 1) d_x_meanChalk_11 rfl (Nat.le_of_ble_eq_true rfl) (ls' := [some (.inr (0, 0, 0)), some (.inl (.int (12 - (ch_cnO (m (1, 0, 1)) (-1) 12))))]) rfl ?_
  refine ch_iload_n (i := 1) d_x_meanChalk_12 rfl rfl ?_
  refine ch_if_ne (tgt := 24) d_x_meanChalk_13 (by decide) (fun c => ?_) (fun c => ?_)
  · replace h := h.1 c
    refine ch_aload_n (i := 0) d_x_meanChalk_24 rfl rfl ?_
    refine ch_get (v := .inr (1, 0, 0)) d_x_meanChalk_25 fl_x_10 rfl ?_
    refine ch_callV (as := []) d_x_meanChalk_28 lk_x_247 mi_y_sumAllChalk me_y_sumAllChalk rfl rfl rfl ⟨Nat.le_of_ble_eq_true rfl, Nat.le_of_ble_eq_true rfl⟩ (Nat.le_of_ble_eq_true rfl) ⟨Nat.le_of_ble_eq_true rfl, Nat.le_of_ble_eq_true rfl⟩ (ch_mono (ch_Ki (fun r4 m5 q6 => ?_)) (s_y_sumAllChalk g (fun (r_ : Int32) (m_ : ch_M) => ((y_sum (m (1, 0, 2)) 12) = r_ ∧ m = m_)) (0) m ⟨rfl, rfl⟩))
    obtain ⟨rfl, rfl⟩ := q6
    replace h := h
    refine ch_i2d d_x_meanChalk_31 ?_
    refine ch_iload_n (i := 1) d_x_meanChalk_32 rfl rfl ?_
    refine ch_i2d d_x_meanChalk_33 ?_
    refine ch_ddiv d_x_meanChalk_34 h.1 ?_
    replace h := h.2
    exact ch_dret d_x_meanChalk_35 rfl (Nat.le_of_ble_eq_true rfl) h
  · replace h := h.2 c
    exact ch_throw d_x_meanChalk_16 d_x_meanChalk_19 d_x_meanChalk_20 d_x_meanChalk_23 tw_x_244 (by decide) rfl (Nat.le_of_ble_eq_true rfl) (Nat.le_of_ble_eq_true rfl) (Nat.le_of_ble_eq_true rfl) h
theorem e_x_ownedShare (g : ch_G) (Q : ch_O → ch_M → Prop)  (m : ch_M) (h : ch_J g m_x_ownedShare (ch_rm m_x_ownedShare) (ch_E g m_x_ownedShare Q) 0 [some (.inr (0, 0, 0))] [] m 0) : ch_C g m_x_ownedShare [.inr (0, 0, 0)] m Q :=
  ch_enter mf_x_ownedShare (by intro v hv; simp only [List.mem_cons, List.not_mem_nil, or_false] at hv; rcases hv with rfl <;> rfl) (Nat.le_of_ble_eq_true rfl) h
set_option maxHeartbeats 1600000 in
theorem g_x_ownedShare_0 (g : ch_G) (Q : ch_O → ch_M → Prop)  (m : ch_M) (h : ((vf_n32 (FP.fdiv (FP.i2f (12 - (ch_cnO (m (1, 0, 1)) (-1) 12))) 1094713344)) ∧ Q (.inl (some (.inl (.float (FP.fdiv (FP.i2f (12 - (ch_cnO (m (1, 0, 1)) (-1) 12))) 1094713344))))) m)) : ch_J g m_x_ownedShare (ch_rm m_x_ownedShare) (ch_E g m_x_ownedShare Q) 0 [some (.inr (0, 0, 0))] [] m 0 := by
  refine ch_bipush (v := 12) d_x_ownedShare_0 (by decide) ?_
  refine ch_aload_n (i := 0) d_x_ownedShare_2 rfl rfl ?_
  refine ch_get (v := .inr (1, 0, 0)) d_x_ownedShare_3 fl_x_10 rfl ?_
  refine ch_iconst (v := (-1)) d_x_ownedShare_6 (by decide) ?_
  refine ch_callV (as := [.inl (.int (-1))]) d_x_ownedShare_7 lk_x_118 mi_y_countOwned me_y_countOwned rfl rfl rfl ⟨Nat.le_of_ble_eq_true rfl, Nat.le_of_ble_eq_true rfl⟩ (Nat.le_of_ble_eq_true rfl) ⟨Nat.le_of_ble_eq_true rfl, Nat.le_of_ble_eq_true rfl⟩ (ch_mono (ch_Ki (fun r1 m2 q3 => ?_)) (s_y_countOwned g (fun (r_ : Int32) (m_ : ch_M) => ((ch_cnO (m (1, 0, 1)) (-1) 12) = r_ ∧ m = m_)) (0) ((-1)) m ⟨rfl, rfl⟩))
  obtain ⟨rfl, rfl⟩ := q3
  replace h := h
  refine ch_isub d_x_ownedShare_10 ?_
  refine ch_i2f d_x_ownedShare_11 ?_
  refine ch_ldcf d_x_ownedShare_12 lc_x_250 ?_
  refine ch_fdiv d_x_ownedShare_14 h.1 ?_
  replace h := h.2
  exact ch_fret d_x_ownedShare_15 rfl (Nat.le_of_ble_eq_true rfl) h
