theorem e_x_save (g : ch_G) (Q : ch_O → ch_M → Prop)  (m : ch_M) (h : ch_J g m_x_save (ch_rm m_x_save) (ch_E g m_x_save Q) 0 [some (.inr (0, 0, 0))] [] m 0) : ch_C g m_x_save [.inr (0, 0, 0)] m Q :=
  ch_enter mf_x_save (by intro v hv; simp only [List.mem_cons, List.not_mem_nil, or_false] at hv; rcases hv with rfl <;> rfl) (Nat.le_of_ble_eq_true rfl) h
set_option maxHeartbeats 1600000 in
theorem g_x_save_0 (g : ch_G) (Q : ch_O → ch_M → Prop)  (m : ch_M) (h : (ch_C g m_y_copyFrom [.inr (1, 3, 0), .inr (1, 0, 0)] m (ch_ov (fun (m2 : ch_M) => (∀ m3 : ch_M, m3 = ch_wr m2 (0, 0, 0) 12 1 → Q (.inl (some (.inl (.int (m3 (1, 0, 0) 8))))) m3))))) : ch_J g m_x_save (ch_rm m_x_save) (ch_E g m_x_save Q) 0 [some (.inr (0, 0, 0))] [] m 0 := by
  refine ch_aload_n (i := 0) d_x_save_0 rfl rfl ?_
  refine ch_get (v := .inr (1, 3, 0)) d_x_save_1 fl_x_22 rfl ?_
  refine ch_aload_n (i := 0) d_x_save_4 rfl rfl ?_
  refine ch_get (v := .inr (1, 0, 0)) d_x_save_5 fl_x_10 rfl ?_
  refine ch_callV (as := [.inr (1, 0, 0)]) d_x_save_8 lk_x_174 mi_y_copyFrom me_y_copyFrom rfl rfl rfl ⟨Nat.le_of_ble_eq_true rfl, Nat.le_of_ble_eq_true rfl⟩ (Nat.le_of_ble_eq_true rfl) ⟨Nat.le_of_ble_eq_true rfl, Nat.le_of_ble_eq_true rfl⟩ (ch_mono (ch_Kv (fun m2 h => ?_)) h)
  refine ch_aload_n (i := 0) d_x_save_11 rfl rfl ?_
  refine ch_iconst (v := 1) d_x_save_12 (by decide) ?_
  refine ch_put d_x_save_13 fp_x_269 rfl rfl rfl ?_
  generalize hmm3 : ch_wr m2 (0, 0, 0) 12 1 = m3
  replace h := h m3 hmm3.symm
  refine ch_aload_n (i := 0) d_x_save_16 rfl rfl ?_
  refine ch_get (v := .inr (1, 0, 0)) d_x_save_17 fl_x_10 rfl ?_
  refine ch_get (v := .inl (.int (m3 (1, 0, 0) 8))) d_x_save_20 fl_x_184 rfl ?_
  exact ch_iret (ty := .int) d_x_save_23 rfl rfl (Nat.le_of_ble_eq_true rfl) h
theorem e_x_restore (g : ch_G) (Q : ch_O → ch_M → Prop)  (m : ch_M) (h : ch_J g m_x_restore (ch_rm m_x_restore) (ch_E g m_x_restore Q) 0 [some (.inr (0, 0, 0))] [] m 0) : ch_C g m_x_restore [.inr (0, 0, 0)] m Q :=
  ch_enter mf_x_restore (by intro v hv; simp only [List.mem_cons, List.not_mem_nil, or_false] at hv; rcases hv with rfl <;> rfl) (Nat.le_of_ble_eq_true rfl) h
set_option maxHeartbeats 1600000 in
theorem g_x_restore_0 (g : ch_G) (Q : ch_O → ch_M → Prop)  (m : ch_M) (h : ((¬ (m (0, 0, 0) 12) = 0 → (ch_C g m_y_copyFrom [.inr (1, 0, 0), .inr (1, 3, 0)] m (ch_ov (fun (m2 : ch_M) => (∀ m3 : ch_M, m3 = ch_wr m2 (2, 0, 0) 2 0 → Q (.inl (some (.inl (.int (m3 (1, 0, 0) 8))))) m3))))) ∧ ((m (0, 0, 0) 12) = 0 → Q (.inr 4) m))) : ch_J g m_x_restore (ch_rm m_x_restore) (ch_E g m_x_restore Q) 0 [some (.inr (0, 0, 0))] [] m 0 := by
  refine ch_aload_n (i := 0) d_x_restore_0 rfl rfl ?_
  refine ch_get (v := .inl (.int (m (0, 0, 0) 12))) d_x_restore_1 fl_x_269 rfl ?_
  refine ch_if_ne (tgt := 15) d_x_restore_4 (by decide) (fun c => ?_) (fun c => ?_)
  · replace h := h.1 c
    refine ch_aload_n (i := 0) d_x_restore_15 rfl rfl ?_
    refine ch_get (v := .inr (1, 0, 0)) d_x_restore_16 fl_x_10 rfl ?_
    refine ch_aload_n (i := 0) d_x_restore_19 rfl rfl ?_
    refine ch_get (v := .inr (1, 3, 0)) d_x_restore_20 fl_x_22 rfl ?_
    refine ch_callV (as := [.inr (1, 3, 0)]) d_x_restore_23 lk_x_174 mi_y_copyFrom me_y_copyFrom rfl rfl rfl ⟨Nat.le_of_ble_eq_true rfl, Nat.le_of_ble_eq_true rfl⟩ (Nat.le_of_ble_eq_true rfl) ⟨Nat.le_of_ble_eq_true rfl, Nat.le_of_ble_eq_true rfl⟩ (ch_mono (ch_Kv (fun m2 h => ?_)) h)
    refine ch_aload_n (i := 0) d_x_restore_26 rfl rfl ?_
    refine ch_get (v := .inr (2, 0, 0)) d_x_restore_27 fl_x_28 rfl ?_
    refine ch_iconst (v := 0) d_x_restore_30 (by decide) ?_
    refine ch_put d_x_restore_31 fp_x_265 rfl rfl rfl ?_
    generalize hmm3 : ch_wr m2 (2, 0, 0) 2 0 = m3
    replace h := h m3 hmm3.symm
    refine ch_aload_n (i := 0) d_x_restore_34 rfl rfl ?_
    refine ch_get (v := .inr (1, 0, 0)) d_x_restore_35 fl_x_10 rfl ?_
    refine ch_get (v := .inl (.int (m3 (1, 0, 0) 8))) d_x_restore_38 fl_x_184 rfl ?_
    exact ch_iret (ty := .int) d_x_restore_41 rfl rfl (Nat.le_of_ble_eq_true rfl) h
  · replace h := h.2 c
    exact ch_throw d_x_restore_7 d_x_restore_10 d_x_restore_11 d_x_restore_14 tw_x_206 (by decide) rfl (Nat.le_of_ble_eq_true rfl) (Nat.le_of_ble_eq_true rfl) (Nat.le_of_ble_eq_true rfl) h
theorem e_x_checkChild (g : ch_G) (Q : ch_O → ch_M → Prop) (p1 : Int32) (m : ch_M) (h : ch_J g m_x_checkChild (ch_rm m_x_checkChild) (ch_E g m_x_checkChild Q) 0 [some (.inr (0, 0, 0)), some (.inl (.int p1))] [] m 0) : ch_C g m_x_checkChild [.inr (0, 0, 0), .inl (.int p1)] m Q :=
  ch_enter mf_x_checkChild (by intro v hv; simp only [List.mem_cons, List.not_mem_nil, or_false] at hv; rcases hv with rfl | rfl <;> rfl) (Nat.le_of_ble_eq_true rfl) h
set_option maxHeartbeats 1600000 in
theorem g_x_checkChild_0 (g : ch_G) (Q : ch_O → ch_M → Prop) (p1 : Int32) (m : ch_M) (h : (ch_C g m_y_hasChild [.inr (1, 0, 0), .inl (.int p1)] m (ch_oi (fun (r1 : Int32) (m2 : ch_M) => ((¬ r1 = 0 → Q (.inl none) m2) ∧ (r1 = 0 → Q (.inr 1) m2)))))) : ch_J g m_x_checkChild (ch_rm m_x_checkChild) (ch_E g m_x_checkChild Q) 0 [some (.inr (0, 0, 0)), some (.inl (.int p1))] [] m 0 := by
  refine ch_aload_n (i := 0) d_x_checkChild_0 rfl rfl ?_
  refine ch_get (v := .inr (1, 0, 0)) d_x_checkChild_1 fl_x_10 rfl ?_
  refine ch_iload_n (i := 1) d_x_checkChild_4 rfl rfl ?_
  refine ch_callV (as := [.inl (.int p1)]) d_x_checkChild_5 lk_x_273 mi_y_hasChild me_y_hasChild rfl rfl rfl ⟨Nat.le_of_ble_eq_true rfl, Nat.le_of_ble_eq_true rfl⟩ (Nat.le_of_ble_eq_true rfl) ⟨Nat.le_of_ble_eq_true rfl, Nat.le_of_ble_eq_true rfl⟩ (ch_mono (ch_Ki (fun r1 m2 h => ?_)) h)
  refine ch_if_ne (tgt := 19) d_x_checkChild_8 (by decide) (fun c => ?_) (fun c => ?_)
  · replace h := h.1 c
    exact ch_vret d_x_checkChild_19 rfl (Nat.le_of_ble_eq_true rfl) h
  · replace h := h.2 c
    exact ch_throw d_x_checkChild_11 d_x_checkChild_14 d_x_checkChild_15 d_x_checkChild_18 tw_x_96 (by decide) rfl (Nat.le_of_ble_eq_true rfl) (Nat.le_of_ble_eq_true rfl) (Nat.le_of_ble_eq_true rfl) h
theorem e_x_change (g : ch_G) (Q : ch_O → ch_M → Prop)  (m : ch_M) (h : ch_J g m_x_change (ch_rm m_x_change) (ch_E g m_x_change Q) 0 [some (.inr (0, 0, 0))] [] m 0) : ch_C g m_x_change [.inr (0, 0, 0)] m Q :=
  ch_enter mf_x_change (by intro v hv; simp only [List.mem_cons, List.not_mem_nil, or_false] at hv; rcases hv with rfl <;> rfl) (Nat.le_of_ble_eq_true rfl) h
set_option maxHeartbeats 1600000 in
theorem g_x_change_0 (g : ch_G) (Q : ch_O → ch_M → Prop)  (m : ch_M) (h : (ch_C g m_r_refuse [.inr (3, 0, 0), .inr (1, 0, 0), .inr (4, 0, 0)] m (ch_oi (fun (r1 : Int32) (m2 : ch_M) => ((r1 = 0 → (ch_C g m_p_keep [.inr (2, 0, 0), .inr (1, 0, 0)] m2 (ch_ov (fun (m4 : ch_M) => (ch_C g m_y_carryOut [.inr (1, 0, 0), .inr (4, 0, 0)] m4 (ch_oi (fun (r5 : Int32) (m6 : ch_M) => Q (.inl (some (.inl (.int r5)))) m6))))))) ∧ (¬ r1 = 0 → Q (.inr 0) m2)))))) : ch_J g m_x_change (ch_rm m_x_change) (ch_E g m_x_change Q) 0 [some (.inr (0, 0, 0))] [] m 0 := by
  refine ch_aload_n (i := 0) d_x_change_0 rfl rfl ?_
  refine ch_get (v := .inr (3, 0, 0)) d_x_change_1 fl_x_35 rfl ?_
  refine ch_aload_n (i := 0) d_x_change_4 rfl rfl ?_
  refine ch_get (v := .inr (1, 0, 0)) d_x_change_5 fl_x_10 rfl ?_
  refine ch_aload_n (i := 0) d_x_change_8 rfl rfl ?_
  refine ch_get (v := .inr (4, 0, 0)) d_x_change_9 fl_x_42 rfl ?_
  refine ch_callV (as := [.inr (1, 0, 0), .inr (4, 0, 0)]) d_x_change_12 lk_x_277 mi_r_refuse me_r_refuse rfl rfl rfl ⟨Nat.le_of_ble_eq_true rfl, Nat.le_of_ble_eq_true rfl⟩ (Nat.le_of_ble_eq_true rfl) ⟨Nat.le_of_ble_eq_true rfl, Nat.le_of_ble_eq_true rfl⟩ (ch_mono (ch_Ki (fun r1 m2 h => ?_)) h)
  refine ch_if_eq (tgt := 26) d_x_change_15 (by decide) (fun c => ?_) (fun c => ?_)
  · replace h := h.1 c
    refine ch_aload_n (i := 0) d_x_change_26 rfl rfl ?_
    refine ch_get (v := .inr (2, 0, 0)) d_x_change_27 fl_x_28 rfl ?_
    refine ch_aload_n (i := 0) d_x_change_30 rfl rfl ?_
    refine ch_get (v := .inr (1, 0, 0)) d_x_change_31 fl_x_10 rfl ?_
    refine ch_callV (as := [.inr (1, 0, 0)]) d_x_change_34 lk_x_223 mi_p_keep me_p_keep rfl rfl rfl ⟨Nat.le_of_ble_eq_true rfl, Nat.le_of_ble_eq_true rfl⟩ (Nat.le_of_ble_eq_true rfl) ⟨Nat.le_of_ble_eq_true rfl, Nat.le_of_ble_eq_true rfl⟩ (ch_mono (ch_Kv (fun m4 h => ?_)) h)
    refine ch_aload_n (i := 0) d_x_change_37 rfl rfl ?_
    refine ch_get (v := .inr (1, 0, 0)) d_x_change_38 fl_x_10 rfl ?_
    refine ch_aload_n (i := 0) d_x_change_41 rfl rfl ?_
    refine ch_get (v := .inr (4, 0, 0)) d_x_change_42 fl_x_42 rfl ?_
    refine ch_callV (as := [.inr (4, 0, 0)]) d_x_change_45 lk_x_281 mi_y_carryOut me_y_carryOut rfl rfl rfl ⟨Nat.le_of_ble_eq_true rfl, Nat.le_of_ble_eq_true rfl⟩ (Nat.le_of_ble_eq_true rfl) ⟨Nat.le_of_ble_eq_true rfl, Nat.le_of_ble_eq_true rfl⟩ (ch_mono (ch_Ki (fun r5 m6 h => ?_)) h)
    exact ch_iret (ty := .int) d_x_change_48 rfl rfl (Nat.le_of_ble_eq_true rfl) h
  · replace h := h.2 c
    exact ch_throw d_x_change_18 d_x_change_21 d_x_change_22 d_x_change_25 tw_x_220 (by decide) rfl (Nat.le_of_ble_eq_true rfl) (Nat.le_of_ble_eq_true rfl) (Nat.le_of_ble_eq_true rfl) h
theorem e_x_carryOutText (g : ch_G) (Q : ch_O → ch_M → Prop)  (m : ch_M) (h : ch_J g m_x_carryOutText (ch_rm m_x_carryOutText) (ch_E g m_x_carryOutText Q) 0 [some (.inr (0, 0, 0)), none] [] m 0) : ch_C g m_x_carryOutText [.inr (0, 0, 0)] m Q :=
  ch_enter mf_x_carryOutText (by intro v hv; simp only [List.mem_cons, List.not_mem_nil, or_false] at hv; rcases hv with rfl <;> rfl) (Nat.le_of_ble_eq_true rfl) h
set_option maxHeartbeats 1600000 in
theorem g_x_carryOutText_0 (g : ch_G) (Q : ch_O → ch_M → Prop)  (m : ch_M) (h : (∀ m1 : ch_M, m1 = ch_wr m (7, 0, 0) 0 0 → ch_J g m_x_carryOutText (ch_rm m_x_carryOutText) (ch_E g m_x_carryOutText Q) 10 [some (.inr (0, 0, 0)), some (.inl (.int 0))] [] m1 0)) : ch_J g m_x_carryOutText (ch_rm m_x_carryOutText) (ch_E g m_x_carryOutText Q) 0 [some (.inr (0, 0, 0)), none] [] m 0 := by
  refine ch_aload_n (i := 0) d_x_carryOutText_0 rfl rfl ?_
  refine ch_get (v := .inr (7, 0, 0)) d_x_carryOutText_1 fl_x_56 rfl ?_
  refine ch_iconst (v := 0) d_x_carryOutText_4 (by decide) ?_
  refine ch_put d_x_carryOutText_5 fp_x_285 rfl rfl rfl ?_
  generalize hmm1 : ch_wr m (7, 0, 0) 0 0 = m1
  replace h := h m1 hmm1.symm
  refine ch_iconst (v := 0) d_x_carryOutText_8 (by decide) ?_
  refine ch_istore_n (i := 1) d_x_carryOutText_9 rfl (Nat.le_of_ble_eq_true rfl) (ls' := [some (.inr (0, 0, 0)), some (.inl (.int 0))]) rfl ?_
  exact h
set_option maxHeartbeats 1600000 in
theorem g_x_carryOutText_10 (g : ch_G) (Q : ch_O → ch_M → Prop) (x1 : Int32) (m : ch_M) (h : ((60 ≤ x1 → Q (.inl (some (.inl (.int x1)))) m) ∧ (¬ 60 ≤ x1 → (ch_C g m_d_takeCommand [.inr (7, 0, 0), .inr (6, 0, 0), .inr (4, 0, 0)] m (ch_oi (fun (r1 : Int32) (m2 : ch_M) => ((r1 = 0 → Q (.inl (some (.inl (.int x1)))) m2) ∧ (¬ r1 = 0 → (ch_C g m_r_refuse [.inr (3, 0, 0), .inr (1, 0, 0), .inr (4, 0, 0)] m2 (ch_oi (fun (r3 : Int32) (m4 : ch_M) => ((r3 = 0 → (ch_C g m_y_carryOut [.inr (1, 0, 0), .inr (4, 0, 0)] m4 (ch_oi (fun (r5 : Int32) (m6 : ch_M) => (ch_C g m_d_takeSign [.inr (7, 0, 0), .inr (6, 0, 0), .inl (.int 59)] m6 (ch_oi (fun (r7 : Int32) (m8 : ch_M) => ch_J g m_x_carryOutText (ch_rm m_x_carryOutText) (ch_E g m_x_carryOutText Q) 10 [some (.inr (0, 0, 0)), some (.inl (.int (x1 + 1)))] [] m8 0))))))) ∧ (¬ r3 = 0 → (∀ m9 : ch_M, m9 = ch_wr m4 (3, 0, 0) 2 x1 → Q (.inl (some (.inl (.int 0)))) m9)))))))))))))) : ch_J g m_x_carryOutText (ch_rm m_x_carryOutText) (ch_E g m_x_carryOutText Q) 10 [some (.inr (0, 0, 0)), some (.inl (.int x1))] [] m 0 := by
  refine ch_iload_n (i := 1) d_x_carryOutText_10 rfl rfl ?_
  refine ch_bipush (v := 60) d_x_carryOutText_11 (by decide) ?_
  refine ch_icmp_ge (tgt := 94) d_x_carryOutText_13 (by decide) (fun c => ?_) (fun c => ?_)
  · replace h := h.1 c
    refine ch_iload_n (i := 1) d_x_carryOutText_94 rfl rfl ?_
    exact ch_iret (ty := .int) d_x_carryOutText_95 rfl rfl (Nat.le_of_ble_eq_true rfl) h
  · replace h := h.2 c
    refine ch_aload_n (i := 0) d_x_carryOutText_16 rfl rfl ?_
    refine ch_get (v := .inr (7, 0, 0)) d_x_carryOutText_17 fl_x_56 rfl ?_
    refine ch_aload_n (i := 0) d_x_carryOutText_20 rfl rfl ?_
    refine ch_get (v := .inr (6, 0, 0)) d_x_carryOutText_21 fl_x_49 rfl ?_
    refine ch_aload_n (i := 0) d_x_carryOutText_24 rfl rfl ?_
    refine ch_get (v := .inr (4, 0, 0)) d_x_carryOutText_25 fl_x_42 rfl ?_
    refine ch_callV (as := [.inr (6, 0, 0), .inr (4, 0, 0)]) d_x_carryOutText_28 lk_x_288 mi_d_takeCommand me_d_takeCommand rfl rfl rfl ⟨Nat.le_of_ble_eq_true rfl, Nat.le_of_ble_eq_true rfl⟩ (Nat.le_of_ble_eq_true rfl) ⟨Nat.le_of_ble_eq_true rfl, Nat.le_of_ble_eq_true rfl⟩ (ch_mono (ch_Ki (fun r1 m2 h => ?_)) h)
    refine ch_if_eq (tgt := 94) d_x_carryOutText_31 (by decide) (fun c => ?_) (fun c => ?_)
    · replace h := h.1 c
      refine ch_iload_n (i := 1) d_x_carryOutText_94 rfl rfl ?_
      exact ch_iret (ty := .int) d_x_carryOutText_95 rfl rfl (Nat.le_of_ble_eq_true rfl) h
    · replace h := h.2 c
      refine ch_aload_n (i := 0) d_x_carryOutText_34 rfl rfl ?_
      refine ch_get (v := .inr (3, 0, 0)) d_x_carryOutText_35 fl_x_35 rfl ?_
      refine ch_aload_n (i := 0) d_x_carryOutText_38 rfl rfl ?_
      refine ch_get (v := .inr (1, 0, 0)) d_x_carryOutText_39 fl_x_10 rfl ?_
      refine ch_aload_n (i := 0) d_x_carryOutText_42 rfl rfl ?_
      refine ch_get (v := .inr (4, 0, 0)) d_x_carryOutText_43 fl_x_42 rfl ?_
      refine ch_callV (as := [.inr (1, 0, 0), .inr (4, 0, 0)]) d_x_carryOutText_46 lk_x_277 mi_r_refuse me_r_refuse rfl rfl rfl ⟨Nat.le_of_ble_eq_true rfl, Nat.le_of_ble_eq_true rfl⟩ (Nat.le_of_ble_eq_true rfl) ⟨Nat.le_of_ble_eq_true rfl, Nat.le_of_ble_eq_true rfl⟩ (ch_mono (ch_Ki (fun r3 m4 h => ?_)) h)
      refine ch_if_eq (tgt := 62) d_x_carryOutText_49 (by decide) (fun c => ?_) (fun c => ?_)
      · replace h := h.1 c
        refine ch_aload_n (i := 0) d_x_carryOutText_62 rfl rfl ?_
        refine ch_get (v := .inr (1, 0, 0)) d_x_carryOutText_63 fl_x_10 rfl ?_
        refine ch_aload_n (i := 0) d_x_carryOutText_66 rfl rfl ?_
        refine ch_get (v := .inr (4, 0, 0)) d_x_carryOutText_67 fl_x_42 rfl ?_
        refine ch_callV (as := [.inr (4, 0, 0)]) d_x_carryOutText_70 lk_x_281 mi_y_carryOut me_y_carryOut rfl rfl rfl ⟨Nat.le_of_ble_eq_true rfl, Nat.le_of_ble_eq_true rfl⟩ (Nat.le_of_ble_eq_true rfl) ⟨Nat.le_of_ble_eq_true rfl, Nat.le_of_ble_eq_true rfl⟩ (ch_mono (ch_Ki (fun r5 m6 h => ?_)) h)
        refine ch_pop d_x_carryOutText_73 rfl ?_
        refine ch_aload_n (i := 0) d_x_carryOutText_74 rfl rfl ?_
        refine ch_get (v := .inr (7, 0, 0)) d_x_carryOutText_75 fl_x_56 rfl ?_
        refine ch_aload_n (i := 0) d_x_carryOutText_78 rfl rfl ?_
        refine ch_get (v := .inr (6, 0, 0)) d_x_carryOutText_79 fl_x_49 rfl ?_
        refine ch_bipush (v := 59) d_x_carryOutText_82 (by decide) ?_
        refine ch_callV (as := [.inr (6, 0, 0), .inl (.int 59)]) d_x_carryOutText_84 lk_x_292 mi_d_takeSign me_d_takeSign rfl rfl rfl ⟨Nat.le_of_ble_eq_true rfl, Nat.le_of_ble_eq_true rfl⟩ (Nat.le_of_ble_eq_true rfl) ⟨Nat.le_of_ble_eq_true rfl, Nat.le_of_ble_eq_true rfl⟩ (ch_mono (ch_Ki (fun r7 m8 h => ?_)) h)
        refine ch_pop d_x_carryOutText_87 rfl ?_
        refine ch_iinc (i := 1) (v := (x1 + 1)) d_x_carryOutText_88 rfl rfl (Nat.le_of_ble_eq_true rfl) (ls' := [some (.inr (0, 0, 0)), some (.inl (.int (x1 + 1)))]) rfl ?_
        refine ch_goto (tgt := 10) d_x_carryOutText_91 (by decide) ?_
        exact h
      · replace h := h.2 c
        refine ch_aload_n (i := 0) d_x_carryOutText_52 rfl rfl ?_
        refine ch_get (v := .inr (3, 0, 0)) d_x_carryOutText_53 fl_x_35 rfl ?_
        refine ch_iload_n (i := 1) d_x_carryOutText_56 rfl rfl ?_
        refine ch_put d_x_carryOutText_57 fp_x_232 rfl rfl rfl ?_
        generalize hmm9 : ch_wr m4 (3, 0, 0) 2 x1 = m9
        replace h := h m9 hmm9.symm
        refine ch_iconst (v := 0) d_x_carryOutText_60 (by decide) ?_
        exact ch_iret (ty := .int) d_x_carryOutText_61 rfl rfl (Nat.le_of_ble_eq_true rfl) h
theorem e_x_putBlankBetween (g : ch_G) (Q : ch_O → ch_M → Prop)  (m : ch_M) (h : ch_J g m_x_putBlankBetween (ch_rm m_x_putBlankBetween) (ch_E g m_x_putBlankBetween Q) 0 [some (.inr (0, 0, 0))] [] m 0) : ch_C g m_x_putBlankBetween [.inr (0, 0, 0)] m Q :=
  ch_enter mf_x_putBlankBetween (by intro v hv; simp only [List.mem_cons, List.not_mem_nil, or_false] at hv; rcases hv with rfl <;> rfl) (Nat.le_of_ble_eq_true rfl) h
set_option maxHeartbeats 1600000 in
theorem g_x_putBlankBetween_0 (g : ch_G) (Q : ch_O → ch_M → Prop)  (m : ch_M) (h : (((m (6, 1, 0) 1) ≤ 0 → Q (.inl none) m) ∧ (¬ (m (6, 1, 0) 1) ≤ 0 → (ch_C g m_t_put [.inr (6, 1, 0), .inl (.int 32)] m (ch_ov (fun (m2 : ch_M) => Q (.inl none) m2)))))) : ch_J g m_x_putBlankBetween (ch_rm m_x_putBlankBetween) (ch_E g m_x_putBlankBetween Q) 0 [some (.inr (0, 0, 0))] [] m 0 := by
  refine ch_aload_n (i := 0) d_x_putBlankBetween_0 rfl rfl ?_
  refine ch_get (v := .inr (6, 1, 0)) d_x_putBlankBetween_1 fl_x_60 rfl ?_
  refine ch_get (v := .inl (.int (m (6, 1, 0) 1))) d_x_putBlankBetween_4 fl_x_203 rfl ?_
  refine ch_if_le (tgt := 19) d_x_putBlankBetween_7 (by decide) (fun c => ?_) (fun c => ?_)
  · replace h := h.1 c
    exact ch_vret d_x_putBlankBetween_19 rfl (Nat.le_of_ble_eq_true rfl) h
  · replace h := h.2 c
    refine ch_aload_n (i := 0) d_x_putBlankBetween_10 rfl rfl ?_
    refine ch_get (v := .inr (6, 1, 0)) d_x_putBlankBetween_11 fl_x_60 rfl ?_
    refine ch_bipush (v := 32) d_x_putBlankBetween_14 (by decide) ?_
    refine ch_callV (as := [.inl (.int 32)]) d_x_putBlankBetween_16 lk_x_209 mi_t_put me_t_put rfl rfl rfl ⟨Nat.le_of_ble_eq_true rfl, Nat.le_of_ble_eq_true rfl⟩ (Nat.le_of_ble_eq_true rfl) ⟨Nat.le_of_ble_eq_true rfl, Nat.le_of_ble_eq_true rfl⟩ (ch_mono (ch_Kv (fun m2 h => ?_)) h)
    exact ch_vret d_x_putBlankBetween_19 rfl (Nat.le_of_ble_eq_true rfl) h
theorem e_x_putPair (g : ch_G) (Q : ch_O → ch_M → Prop) (p1 : Int32) (p2 : Int32) (p3 : Int32) (m : ch_M) (h : ch_J g m_x_putPair (ch_rm m_x_putPair) (ch_E g m_x_putPair Q) 0 [some (.inr (0, 0, 0)), some (.inl (.int p1)), some (.inl (.int p2)), some (.inl (.int p3))] [] m 0) : ch_C g m_x_putPair [.inr (0, 0, 0), .inl (.int p1), .inl (.int p2), .inl (.int p3)] m Q :=
  ch_enter mf_x_putPair (by intro v hv; simp only [List.mem_cons, List.not_mem_nil, or_false] at hv; rcases hv with rfl | rfl | rfl | rfl <;> rfl) (Nat.le_of_ble_eq_true rfl) h
set_option maxHeartbeats 1600000 in
theorem g_x_putPair_0 (g : ch_G) (Q : ch_O → ch_M → Prop) (p1 : Int32) (p2 : Int32) (p3 : Int32) (m : ch_M) (h : (ch_C g m_t_put [.inr (6, 1, 0), .inl (.int ((Int32.toUInt32 (48 + p1) % 65536).toInt32))] m (ch_ov (fun (m2 : ch_M) => (ch_C g m_t_put [.inr (6, 1, 0), .inl (.int p2)] m2 (ch_ov (fun (m4 : ch_M) => (ch_C g m_t_put [.inr (6, 1, 0), .inl (.int ((Int32.toUInt32 (48 + p3) % 65536).toInt32))] m4 (ch_ov (fun (m6 : ch_M) => Q (.inl none) m6)))))))))) : ch_J g m_x_putPair (ch_rm m_x_putPair) (ch_E g m_x_putPair Q) 0 [some (.inr (0, 0, 0)), some (.inl (.int p1)), some (.inl (.int p2)), some (.inl (.int p3))] [] m 0 := by
  refine ch_aload_n (i := 0) d_x_putPair_0 rfl rfl ?_
  refine ch_get (v := .inr (6, 1, 0)) d_x_putPair_1 fl_x_60 rfl ?_
  refine ch_bipush (v := 48) d_x_putPair_4 (by decide) ?_
  refine ch_iload_n (i := 1) d_x_putPair_6 rfl rfl ?_
  refine ch_iadd d_x_putPair_7 ?_
  refine ch_i2c d_x_putPair_8 ?_
  refine ch_callV (as := [.inl (.int ((Int32.toUInt32 (48 + p1) % 65536).toInt32))]) d_x_putPair_9 lk_x_209 mi_t_put me_t_put rfl rfl rfl ⟨Nat.le_of_ble_eq_true rfl, Nat.le_of_ble_eq_true rfl⟩ (Nat.le_of_ble_eq_true rfl) ⟨Nat.le_of_ble_eq_true rfl, Nat.le_of_ble_eq_true rfl⟩ (ch_mono (ch_Kv (fun m2 h => ?_)) h)
  refine ch_aload_n (i := 0) d_x_putPair_12 rfl rfl ?_
  refine ch_get (v := .inr (6, 1, 0)) d_x_putPair_13 fl_x_60 rfl ?_
  refine ch_iload_n (i := 2) d_x_putPair_16 rfl rfl ?_
  refine ch_callV (as := [.inl (.int p2)]) d_x_putPair_17 lk_x_209 mi_t_put me_t_put rfl rfl rfl ⟨Nat.le_of_ble_eq_true rfl, Nat.le_of_ble_eq_true rfl⟩ (Nat.le_of_ble_eq_true rfl) ⟨Nat.le_of_ble_eq_true rfl, Nat.le_of_ble_eq_true rfl⟩ (ch_mono (ch_Kv (fun m4 h => ?_)) h)
  refine ch_aload_n (i := 0) d_x_putPair_20 rfl rfl ?_
  refine ch_get (v := .inr (6, 1, 0)) d_x_putPair_21 fl_x_60 rfl ?_
  refine ch_bipush (v := 48) d_x_putPair_24 (by decide) ?_
  refine ch_iload_n (i := 3) d_x_putPair_26 rfl rfl ?_
  refine ch_iadd d_x_putPair_27 ?_
  refine ch_i2c d_x_putPair_28 ?_
  refine ch_callV (as := [.inl (.int ((Int32.toUInt32 (48 + p3) % 65536).toInt32))]) d_x_putPair_29 lk_x_209 mi_t_put me_t_put rfl rfl rfl ⟨Nat.le_of_ble_eq_true rfl, Nat.le_of_ble_eq_true rfl⟩ (Nat.le_of_ble_eq_true rfl) ⟨Nat.le_of_ble_eq_true rfl, Nat.le_of_ble_eq_true rfl⟩ (ch_mono (ch_Kv (fun m6 h => ?_)) h)
  exact ch_vret d_x_putPair_32 rfl (Nat.le_of_ble_eq_true rfl) h
