theorem e_x_termsFor (g : ch_G) (Q : ch_O → ch_M → Prop) (p1 : Int32) (m : ch_M) (h : ch_J g m_x_termsFor (ch_rm m_x_termsFor) (ch_E g m_x_termsFor Q) 0 [some (.inr (0, 0, 0)), some (.inl (.int p1)), none, none] [] m 0) : ch_C g m_x_termsFor [.inr (0, 0, 0), .inl (.int p1)] m Q :=
  ch_enter mf_x_termsFor (by intro v hv; simp only [List.mem_cons, List.not_mem_nil, or_false] at hv; rcases hv with rfl | rfl <;> rfl) (Nat.le_of_ble_eq_true rfl) h
set_option maxHeartbeats 1600000 in
theorem g_x_termsFor_0 (g : ch_G) (Q : ch_O → ch_M → Prop) (p1 : Int32) (m : ch_M) (h : (ch_C g m_x_checkChild [.inr (0, 0, 0), .inl (.int p1)] m (ch_ox (ch_ov (fun (m2 : ch_M) => (ch_C g m_y_copyFrom [.inr (1, 2, 0), .inr (1, 0, 0)] m2 (ch_ov (fun (m6 : ch_M) => ch_J g m_x_termsFor (ch_rm m_x_termsFor) (ch_E g m_x_termsFor Q) 18 [some (.inr (0, 0, 0)), some (.inl (.int p1)), some (.inl (.int 1)), none] [] m6 1))))) (fun (n3 : Nat) (m4 : ch_M) => Q (.inr n3) m4)))) : ch_J g m_x_termsFor (ch_rm m_x_termsFor) (ch_E g m_x_termsFor Q) 0 [some (.inr (0, 0, 0)), some (.inl (.int p1)), none, none] [] m 0 := by
  refine ch_aload_n (i := 0) d_x_termsFor_0 rfl rfl ?_
  refine ch_iload_n (i := 1) d_x_termsFor_1 rfl rfl ?_
  refine ch_callV (as := [.inl (.int p1)]) d_x_termsFor_2 lk_x_106 mi_x_checkChild me_x_checkChild rfl rfl rfl ⟨Nat.le_of_ble_eq_true rfl, Nat.le_of_ble_eq_true rfl⟩ (Nat.le_of_ble_eq_true rfl) ⟨Nat.le_of_ble_eq_true rfl, Nat.le_of_ble_eq_true rfl⟩ (ch_mono (ch_Kx (ch_Kv (fun m2 h => ?_)) (fun n3 m4 hn h => ?_)) h)
  · skip
    refine ch_aload_n (i := 0) d_x_termsFor_5 rfl rfl ?_
    refine ch_get (v := .inr (1, 2, 0)) d_x_termsFor_6 fl_x_19 rfl ?_
    refine ch_aload_n (i := 0) d_x_termsFor_9 rfl rfl ?_
    refine ch_get (v := .inr (1, 0, 0)) d_x_termsFor_10 fl_x_10 rfl ?_
    refine ch_callV (as := [.inr (1, 0, 0)]) d_x_termsFor_13 lk_x_174 mi_y_copyFrom me_y_copyFrom rfl rfl rfl ⟨Nat.le_of_ble_eq_true rfl, Nat.le_of_ble_eq_true rfl⟩ (Nat.le_of_ble_eq_true rfl) ⟨Nat.le_of_ble_eq_true rfl, Nat.le_of_ble_eq_true rfl⟩ (ch_mono (ch_Kv (fun m6 h => ?_)) h)
    refine ch_iconst (v := 1) d_x_termsFor_16 (by decide) ?_
    refine ch_istore_n (i := 2) d_x_termsFor_17 rfl (Nat.le_of_ble_eq_true rfl) (ls' := [some (.inr (0, 0, 0)), some (.inl (.int p1)), some (.inl (.int 1)), none]) rfl ?_
    exact h
  · exact ch_xout rfl (Nat.le_of_ble_eq_true rfl) h
set_option maxHeartbeats 1600000 in
theorem g_x_termsFor_18 (g : ch_G) (Q : ch_O → ch_M → Prop) (x1 : Int32) (x2 : Int32) (o3 : Option ch_V) (m : ch_M) (h : ((40 < x2 → Q (.inr 3) m) ∧ (¬ 40 < x2 → (ch_C g m_y_countOwned [.inr (1, 2, 0), .inl (.int x1)] m (ch_oi (fun (r1 : Int32) (m2 : ch_M) => (ch_C g m_y_endTerm [.inr (1, 2, 0)] m2 (ch_oi (fun (r3 : Int32) (m4 : ch_M) => (ch_C g m_y_countOwned [.inr (1, 2, 0), .inl (.int x1)] m4 (ch_oi (fun (r5 : Int32) (m6 : ch_M) => ((r1 ≤ r5 → ch_J g m_x_termsFor (ch_rm m_x_termsFor) (ch_E g m_x_termsFor Q) 18 [some (.inr (0, 0, 0)), some (.inl (.int x1)), some (.inl (.int (x2 + 1))), some (.inl (.int r1))] [] m6 1) ∧ (¬ r1 ≤ r5 → Q (.inl (some (.inl (.int x2)))) m6)))))))))))))) : ch_J g m_x_termsFor (ch_rm m_x_termsFor) (ch_E g m_x_termsFor Q) 18 [some (.inr (0, 0, 0)), some (.inl (.int x1)), some (.inl (.int x2)), o3] [] m 1 := by
  refine ch_iload_n (i := 2) d_x_termsFor_18 rfl rfl ?_
  refine ch_bipush (v := 40) d_x_termsFor_19 (by decide) ?_
  refine ch_icmp_gt (tgt := 61) d_x_termsFor_21 (by decide) (fun c => ?_) (fun c => ?_)
  · replace h := h.1 c
    exact ch_throw d_x_termsFor_61 d_x_termsFor_64 d_x_termsFor_65 d_x_termsFor_68 tw_x_141 (by decide) rfl (Nat.le_of_ble_eq_true rfl) (Nat.le_of_ble_eq_true rfl) (Nat.le_of_ble_eq_true rfl) h
  · replace h := h.2 c
    refine ch_aload_n (i := 0) d_x_termsFor_24 rfl rfl ?_
    refine ch_get (v := .inr (1, 2, 0)) d_x_termsFor_25 fl_x_19 rfl ?_
    refine ch_iload_n (i := 1) d_x_termsFor_28 rfl rfl ?_
    refine ch_callV (as := [.inl (.int x1)]) d_x_termsFor_29 lk_x_118 mi_y_countOwned me_y_countOwned rfl rfl rfl ⟨Nat.le_of_ble_eq_true rfl, Nat.le_of_ble_eq_true rfl⟩ (Nat.le_of_ble_eq_true rfl) ⟨Nat.le_of_ble_eq_true rfl, Nat.le_of_ble_eq_true rfl⟩ (ch_mono (ch_Ki (fun r1 m2 h => ?_)) h)
    refine ch_istore_n (i := 3) d_x_termsFor_32 rfl (Nat.le_of_ble_eq_true rfl) (ls' := [some (.inr (0, 0, 0)), some (.inl (.int x1)), some (.inl (.int x2)), some (.inl (.int r1))]) rfl ?_
    refine ch_aload_n (i := 0) d_x_termsFor_33 rfl rfl ?_
    refine ch_get (v := .inr (1, 2, 0)) d_x_termsFor_34 fl_x_19 rfl ?_
    refine ch_callV (as := []) d_x_termsFor_37 lk_x_181 mi_y_endTerm me_y_endTerm rfl rfl rfl ⟨Nat.le_of_ble_eq_true rfl, Nat.le_of_ble_eq_true rfl⟩ (Nat.le_of_ble_eq_true rfl) ⟨Nat.le_of_ble_eq_true rfl, Nat.le_of_ble_eq_true rfl⟩ (ch_mono (ch_Ki (fun r3 m4 h => ?_)) h)
    refine ch_pop d_x_termsFor_40 rfl ?_
    refine ch_aload_n (i := 0) d_x_termsFor_41 rfl rfl ?_
    refine ch_get (v := .inr (1, 2, 0)) d_x_termsFor_42 fl_x_19 rfl ?_
    refine ch_iload_n (i := 1) d_x_termsFor_45 rfl rfl ?_
    refine ch_callV (as := [.inl (.int x1)]) d_x_termsFor_46 lk_x_118 mi_y_countOwned me_y_countOwned rfl rfl rfl ⟨Nat.le_of_ble_eq_true rfl, Nat.le_of_ble_eq_true rfl⟩ (Nat.le_of_ble_eq_true rfl) ⟨Nat.le_of_ble_eq_true rfl, Nat.le_of_ble_eq_true rfl⟩ (ch_mono (ch_Ki (fun r5 m6 h => ?_)) h)
    refine ch_iload_n (i := 3) d_x_termsFor_49 rfl rfl ?_
    refine ch_icmp_ge (tgt := 55) d_x_termsFor_50 (by decide) (fun c => ?_) (fun c => ?_)
    · replace h := h.1 c
      refine ch_iinc (i := 2) (v := (x2 + 1)) d_x_termsFor_55 rfl rfl (Nat.le_of_ble_eq_true rfl) (ls' := [some (.inr (0, 0, 0)), some (.inl (.int x1)), some (.inl (.int (x2 + 1))), some (.inl (.int r1))]) rfl ?_
      refine ch_goto (tgt := 18) d_x_termsFor_58 (by decide) ?_
      exact h
    · replace h := h.2 c
      refine ch_iload_n (i := 2) d_x_termsFor_53 rfl rfl ?_
      exact ch_iret (ty := .int) d_x_termsFor_54 rfl rfl (Nat.le_of_ble_eq_true rfl) h
theorem e_x_ranked (g : ch_G) (Q : ch_O → ch_M → Prop) (p1 : Int32) (p2 : Int32) (m : ch_M) (h : ch_J g m_x_ranked (ch_rm m_x_ranked) (ch_E g m_x_ranked Q) 0 [some (.inr (0, 0, 0)), some (.inl (.int p1)), some (.inl (.int p2)), none, none] [] m 0) : ch_C g m_x_ranked [.inr (0, 0, 0), .inl (.int p1), .inl (.int p2)] m Q :=
  ch_enter mf_x_ranked (by intro v hv; simp only [List.mem_cons, List.not_mem_nil, or_false] at hv; rcases hv with rfl | rfl | rfl <;> rfl) (Nat.le_of_ble_eq_true rfl) h
set_option maxHeartbeats 1600000 in
theorem g_x_ranked_0 (g : ch_G) (Q : ch_O → ch_M → Prop) (p1 : Int32) (p2 : Int32) (m : ch_M) (h : ((p1 < 0 → Q (.inr 2) m) ∧ (¬ p1 < 0 → ((p1 ≤ 3 → ((p2 < 0 → Q (.inr 3) m) ∧ (¬ p2 < 0 → ((p2 < (m (1, 0, 0) 8) → ch_J g m_x_ranked (ch_rm m_x_ranked) (ch_E g m_x_ranked Q) 45 [some (.inr (0, 0, 0)), some (.inl (.int p1)), some (.inl (.int p2)), some (.inl (.int (-1))), some (.inl (.int 0))] [] m 0) ∧ (¬ p2 < (m (1, 0, 0) 8) → Q (.inr 3) m))))) ∧ (¬ p1 ≤ 3 → Q (.inr 2) m))))) : ch_J g m_x_ranked (ch_rm m_x_ranked) (ch_E g m_x_ranked Q) 0 [some (.inr (0, 0, 0)), some (.inl (.int p1)), some (.inl (.int p2)), none, none] [] m 0 := by
  refine ch_iload_n (i := 1) d_x_ranked_0 rfl rfl ?_
  refine ch_if_lt (tgt := 9) d_x_ranked_1 (by decide) (fun c => ?_) (fun c => ?_)
  · replace h := h.1 c
    exact ch_throw d_x_ranked_9 d_x_ranked_12 d_x_ranked_13 d_x_ranked_16 tw_x_131 (by decide) rfl (Nat.le_of_ble_eq_true rfl) (Nat.le_of_ble_eq_true rfl) (Nat.le_of_ble_eq_true rfl) h
  · replace h := h.2 c
    refine ch_iload_n (i := 1) d_x_ranked_4 rfl rfl ?_
    refine ch_iconst (v := 3) d_x_ranked_5 (by decide) ?_
    refine ch_icmp_le (tgt := 17) d_x_ranked_6 (by decide) (fun c => ?_) (fun c => ?_)
    · replace h := h.1 c
      refine ch_iload_n (i := 2) d_x_ranked_17 rfl rfl ?_
      refine ch_if_lt (tgt := 32) d_x_ranked_18 (by decide) (fun c => ?_) (fun c => ?_)
      · replace h := h.1 c
        exact ch_throw d_x_ranked_32 d_x_ranked_35 d_x_ranked_36 d_x_ranked_39 tw_x_141 (by decide) rfl (Nat.le_of_ble_eq_true rfl) (Nat.le_of_ble_eq_true rfl) (Nat.le_of_ble_eq_true rfl) h
      · replace h := h.2 c
        refine ch_iload_n (i := 2) d_x_ranked_21 rfl rfl ?_
        refine ch_aload_n (i := 0) d_x_ranked_22 rfl rfl ?_
        refine ch_get (v := .inr (1, 0, 0)) d_x_ranked_23 fl_x_10 rfl ?_
        refine ch_get (v := .inl (.int (m (1, 0, 0) 8))) d_x_ranked_26 fl_x_184 rfl ?_
        refine ch_icmp_lt (tgt := 40) d_x_ranked_29 (by decide) (fun c => ?_) (fun c => ?_)
        · replace h := h.1 c
          refine ch_iconst (v := (-1)) d_x_ranked_40 (by decide) ?_
          refine ch_istore_n (i := 3) d_x_ranked_41 rfl (Nat.le_of_ble_eq_true rfl) (ls' := [some (.inr (0, 0, 0)), some (.inl (.int p1)), some (.inl (.int p2)), some (.inl (.int (-1))), none]) rfl ?_
          refine ch_iconst (v := 0) d_x_ranked_42 (by decide) ?_
          refine ch_istore (i := 4) d_x_ranked_43 (Nat.le_of_ble_eq_true rfl) (ls' := [some (.inr (0, 0, 0)), some (.inl (.int p1)), some (.inl (.int p2)), some (.inl (.int (-1))), some (.inl (.int 0))]) rfl ?_
          exact h
        · replace h := h.2 c
          exact ch_throw d_x_ranked_32 d_x_ranked_35 d_x_ranked_36 d_x_ranked_39 tw_x_141 (by decide) rfl (Nat.le_of_ble_eq_true rfl) (Nat.le_of_ble_eq_true rfl) (Nat.le_of_ble_eq_true rfl) h
    · replace h := h.2 c
      exact ch_throw d_x_ranked_9 d_x_ranked_12 d_x_ranked_13 d_x_ranked_16 tw_x_131 (by decide) rfl (Nat.le_of_ble_eq_true rfl) (Nat.le_of_ble_eq_true rfl) (Nat.le_of_ble_eq_true rfl) h
set_option maxHeartbeats 1600000 in
theorem g_x_ranked_45 (g : ch_G) (Q : ch_O → ch_M → Prop) (x1 : Int32) (x2 : Int32) (x3 : Int32) (x4 : Int32) (m : ch_M) (h : (((m (1, 0, 0) 8) ≤ x4 → Q (.inl (some (.inl (.int x3)))) m) ∧ (¬ (m (1, 0, 0) 8) ≤ x4 → (ch_C g m_y_countAhead [.inr (1, 0, 0), .inl (.int x4), .inl (.int x1)] m (ch_oi (fun (r1 : Int32) (m2 : ch_M) => ((¬ r1 = x2 → ch_J g m_x_ranked (ch_rm m_x_ranked) (ch_E g m_x_ranked Q) 45 [some (.inr (0, 0, 0)), some (.inl (.int x1)), some (.inl (.int x2)), some (.inl (.int x3)), some (.inl (.int (x4 + 1)))] [] m2 0) ∧ (r1 = x2 → ch_J g m_x_ranked (ch_rm m_x_ranked) (ch_E g m_x_ranked Q) 45 [some (.inr (0, 0, 0)), some (.inl (.int x1)), some (.inl (.int x2)), some (.inl (.int x4)), some (.inl (.int (x4 + 1)))] [] m2 0)))))))) : ch_J g m_x_ranked (ch_rm m_x_ranked) (ch_E g m_x_ranked Q) 45 [some (.inr (0, 0, 0)), some (.inl (.int x1)), some (.inl (.int x2)), some (.inl (.int x3)), some (.inl (.int x4))] [] m 0 := by
  refine ch_iload d_x_ranked_45 rfl ?_
  refine ch_aload_n (i := 0) d_x_ranked_47 rfl rfl ?_
  refine ch_get (v := .inr (1, 0, 0)) d_x_ranked_48 fl_x_10 rfl ?_
  refine ch_get (v := .inl (.int (m (1, 0, 0) 8))) d_x_ranked_51 fl_x_184 rfl ?_
  refine ch_icmp_ge (tgt := 80) d_x_ranked_54 (by decide) (fun c => ?_) (fun c => ?_)
  · replace h := h.1 c
    refine ch_iload_n (i := 3) d_x_ranked_80 rfl rfl ?_
    exact ch_iret (ty := .int) d_x_ranked_81 rfl rfl (Nat.le_of_ble_eq_true rfl) h
  · replace h := h.2 c
    refine ch_aload_n (i := 0) d_x_ranked_57 rfl rfl ?_
    refine ch_get (v := .inr (1, 0, 0)) d_x_ranked_58 fl_x_10 rfl ?_
    refine ch_iload d_x_ranked_61 rfl ?_
    refine ch_iload_n (i := 1) d_x_ranked_63 rfl rfl ?_
    refine ch_callV (as := [.inl (.int x4), .inl (.int x1)]) d_x_ranked_64 lk_x_187 mi_y_countAhead me_y_countAhead rfl rfl rfl ⟨Nat.le_of_ble_eq_true rfl, Nat.le_of_ble_eq_true rfl⟩ (Nat.le_of_ble_eq_true rfl) ⟨Nat.le_of_ble_eq_true rfl, Nat.le_of_ble_eq_true rfl⟩ (ch_mono (ch_Ki (fun r1 m2 h => ?_)) h)
    refine ch_iload_n (i := 2) d_x_ranked_67 rfl rfl ?_
    refine ch_icmp_ne (tgt := 74) d_x_ranked_68 (by decide) (fun c => ?_) (fun c => ?_)
    · replace h := h.1 c
      refine ch_iinc (i := 4) (v := (x4 + 1)) d_x_ranked_74 rfl rfl (Nat.le_of_ble_eq_true rfl) (ls' := [some (.inr (0, 0, 0)), some (.inl (.int x1)), some (.inl (.int x2)), some (.inl (.int x3)), some (.inl (.int (x4 + 1)))]) rfl ?_
      refine ch_goto (tgt := 45) d_x_ranked_77 (by decide) ?_
      exact h
    · replace h := h.2 c
      refine ch_iload d_x_ranked_71 rfl ?_
      refine ch_istore_n (i := 3) d_x_ranked_73 rfl (Nat.le_of_ble_eq_true rfl) (ls' := [some (.inr (0, 0, 0)), some (.inl (.int x1)), some (.inl (.int x2)), some (.inl (.int x4)), some (.inl (.int x4))]) rfl ?_
      refine ch_iinc (i := 4) (v := (x4 + 1)) d_x_ranked_74 rfl rfl (Nat.le_of_ble_eq_true rfl) (ls' := [some (.inr (0, 0, 0)), some (.inl (.int x1)), some (.inl (.int x2)), some (.inl (.int x4)), some (.inl (.int (x4 + 1)))]) rfl ?_
      refine ch_goto (tgt := 45) d_x_ranked_77 (by decide) ?_
      exact h
theorem e_x_isEven (g : ch_G) (Q : ch_O → ch_M → Prop)  (m : ch_M) (h : ch_J g m_x_isEven (ch_rm m_x_isEven) (ch_E g m_x_isEven Q) 0 [some (.inr (0, 0, 0))] [] m 0) : ch_C g m_x_isEven [.inr (0, 0, 0)] m Q :=
  ch_enter mf_x_isEven (by intro v hv; simp only [List.mem_cons, List.not_mem_nil, or_false] at hv; rcases hv with rfl <;> rfl) (Nat.le_of_ble_eq_true rfl) h
set_option maxHeartbeats 1600000 in
theorem g_x_isEven_0 (g : ch_G) (Q : ch_O → ch_M → Prop)  (m : ch_M) (h : (ch_C g m_y_sumPebbles [.inr (1, 0, 0)] m (ch_oi (fun (r1 : Int32) (m2 : ch_M) => ((¬ (m (1, 0, 0) 11) = (r1 + (m2 (1, 0, 0) 10)) → Q (.inl (some (.inl (.int 0)))) m2) ∧ ((m (1, 0, 0) 11) = (r1 + (m2 (1, 0, 0) 10)) → (ch_C g m_y_isChalkedJustIfOwned [.inr (1, 0, 0)] m2 (ch_oi (fun (r3 : Int32) (m4 : ch_M) => ((r3 = 0 → Q (.inl (some (.inl (.int 0)))) m4) ∧ (¬ r3 = 0 → Q (.inl (some (.inl (.int 1)))) m4))))))))))) : ch_J g m_x_isEven (ch_rm m_x_isEven) (ch_E g m_x_isEven Q) 0 [some (.inr (0, 0, 0))] [] m 0 := by
  refine ch_aload_n (i := 0) d_x_isEven_0 rfl rfl ?_
  refine ch_get (v := .inr (1, 0, 0)) d_x_isEven_1 fl_x_10 rfl ?_
  refine ch_get (v := .inl (.int (m (1, 0, 0) 11))) d_x_isEven_4 fl_x_190 rfl ?_
  refine ch_aload_n (i := 0) d_x_isEven_7 rfl rfl ?_
  refine ch_get (v := .inr (1, 0, 0)) d_x_isEven_8 fl_x_10 rfl ?_
  refine ch_callV (as := []) d_x_isEven_11 lk_x_193 mi_y_sumPebbles me_y_sumPebbles rfl rfl rfl ⟨Nat.le_of_ble_eq_true rfl, Nat.le_of_ble_eq_true rfl⟩ (Nat.le_of_ble_eq_true rfl) ⟨Nat.le_of_ble_eq_true rfl, Nat.le_of_ble_eq_true rfl⟩ (ch_mono (ch_Ki (fun r1 m2 h => ?_)) h)
  refine ch_aload_n (i := 0) d_x_isEven_14 rfl rfl ?_
  refine ch_get (v := .inr (1, 0, 0)) d_x_isEven_15 fl_x_10 rfl ?_
  refine ch_get (v := .inl (.int (m2 (1, 0, 0) 10))) d_x_isEven_18 fl_x_196 rfl ?_
  refine ch_iadd d_x_isEven_21 ?_
  refine ch_icmp_ne (tgt := 39) d_x_isEven_22 (by decide) (fun c => ?_) (fun c => ?_)
  · replace h := h.1 c
    refine ch_iconst (v := 0) d_x_isEven_39 (by decide) ?_
    exact ch_iret (ty := .boolean) d_x_isEven_40 rfl rfl (Nat.le_of_ble_eq_true rfl) h
  · replace h := h.2 c
    refine ch_aload_n (i := 0) d_x_isEven_25 rfl rfl ?_
    refine ch_get (v := .inr (1, 0, 0)) d_x_isEven_26 fl_x_10 rfl ?_
    refine ch_callV (as := []) d_x_isEven_29 lk_x_199 mi_y_isChalkedJustIfOwned me_y_isChalkedJustIfOwned rfl rfl rfl ⟨Nat.le_of_ble_eq_true rfl, Nat.le_of_ble_eq_true rfl⟩ (Nat.le_of_ble_eq_true rfl) ⟨Nat.le_of_ble_eq_true rfl, Nat.le_of_ble_eq_true rfl⟩ (ch_mono (ch_Ki (fun r3 m4 h => ?_)) h)
    refine ch_if_eq (tgt := 39) d_x_isEven_32 (by decide) (fun c => ?_) (fun c => ?_)
    · replace h := h.1 c
      refine ch_iconst (v := 0) d_x_isEven_39 (by decide) ?_
      exact ch_iret (ty := .boolean) d_x_isEven_40 rfl rfl (Nat.le_of_ble_eq_true rfl) h
    · replace h := h.2 c
      refine ch_iconst (v := 1) d_x_isEven_35 (by decide) ?_
      refine ch_goto (tgt := 40) d_x_isEven_36 (by decide) ?_
      exact ch_iret (ty := .boolean) d_x_isEven_40 rfl rfl (Nat.le_of_ble_eq_true rfl) h
theorem e_x_append (g : ch_G) (Q : ch_O → ch_M → Prop) (p1 : Int32) (m : ch_M) (h : ch_J g m_x_append (ch_rm m_x_append) (ch_E g m_x_append Q) 0 [some (.inr (0, 0, 0)), some (.inl (.int p1))] [] m 0) : ch_C g m_x_append [.inr (0, 0, 0), .inl (.int p1)] m Q :=
  ch_enter mf_x_append (by intro v hv; simp only [List.mem_cons, List.not_mem_nil, or_false] at hv; rcases hv with rfl | rfl <;> rfl) (Nat.le_of_ble_eq_true rfl) h
set_option maxHeartbeats 1600000 in
theorem g_x_append_0 (g : ch_G) (Q : ch_O → ch_M → Prop) (p1 : Int32) (m : ch_M) (h : (((m (6, 0, 0) 1) < 60 → (ch_C g m_t_put [.inr (6, 0, 0), .inl (.int p1)] m (ch_ov (fun (m2 : ch_M) => Q (.inl (some (.inl (.int (m2 (6, 0, 0) 1))))) m2)))) ∧ (¬ (m (6, 0, 0) 1) < 60 → Q (.inr 4) m))) : ch_J g m_x_append (ch_rm m_x_append) (ch_E g m_x_append Q) 0 [some (.inr (0, 0, 0)), some (.inl (.int p1))] [] m 0 := by
  refine ch_aload_n (i := 0) d_x_append_0 rfl rfl ?_
  refine ch_get (v := .inr (6, 0, 0)) d_x_append_1 fl_x_49 rfl ?_
  refine ch_get (v := .inl (.int (m (6, 0, 0) 1))) d_x_append_4 fl_x_203 rfl ?_
  refine ch_bipush (v := 60) d_x_append_7 (by decide) ?_
  refine ch_icmp_lt (tgt := 20) d_x_append_9 (by decide) (fun c => ?_) (fun c => ?_)
  · replace h := h.1 c
    refine ch_aload_n (i := 0) d_x_append_20 rfl rfl ?_
    refine ch_get (v := .inr (6, 0, 0)) d_x_append_21 fl_x_49 rfl ?_
    refine ch_iload_n (i := 1) d_x_append_24 rfl rfl ?_
    refine ch_callV (as := [.inl (.int p1)]) d_x_append_25 lk_x_209 mi_t_put me_t_put rfl rfl rfl ⟨Nat.le_of_ble_eq_true rfl, Nat.le_of_ble_eq_true rfl⟩ (Nat.le_of_ble_eq_true rfl) ⟨Nat.le_of_ble_eq_true rfl, Nat.le_of_ble_eq_true rfl⟩ (ch_mono (ch_Kv (fun m2 h => ?_)) h)
    refine ch_aload_n (i := 0) d_x_append_28 rfl rfl ?_
    refine ch_get (v := .inr (6, 0, 0)) d_x_append_29 fl_x_49 rfl ?_
    refine ch_get (v := .inl (.int (m2 (6, 0, 0) 1))) d_x_append_32 fl_x_203 rfl ?_
    exact ch_iret (ty := .int) d_x_append_35 rfl rfl (Nat.le_of_ble_eq_true rfl) h
  · replace h := h.2 c
    exact ch_throw d_x_append_12 d_x_append_15 d_x_append_16 d_x_append_19 tw_x_206 (by decide) rfl (Nat.le_of_ble_eq_true rfl) (Nat.le_of_ble_eq_true rfl) (Nat.le_of_ble_eq_true rfl) h
theorem e_x_commands (g : ch_G) (Q : ch_O → ch_M → Prop)  (m : ch_M) (h : ch_J g m_x_commands (ch_rm m_x_commands) (ch_E g m_x_commands Q) 0 [some (.inr (0, 0, 0)), none] [] m 0) : ch_C g m_x_commands [.inr (0, 0, 0)] m Q :=
  ch_enter mf_x_commands (by intro v hv; simp only [List.mem_cons, List.not_mem_nil, or_false] at hv; rcases hv with rfl <;> rfl) (Nat.le_of_ble_eq_true rfl) h
set_option maxHeartbeats 1600000 in
theorem g_x_commands_0 (g : ch_G) (Q : ch_O → ch_M → Prop)  (m : ch_M) (h : (ch_C g m_d_findFault [.inr (7, 0, 0), .inr (6, 0, 0), .inr (4, 0, 0)] m (ch_oi (fun (r1 : Int32) (m2 : ch_M) => (∀ m3 : ch_M, m3 = ch_wr m2 (0, 0, 0) 13 r1 → (((m3 (0, 0, 0) 13) = (-1) → (ch_C g m_y_copyFrom [.inr (1, 1, 0), .inr (1, 0, 0)] m3 (ch_ov (fun (m5 : ch_M) => (ch_C g m_x_carryOutText [.inr (0, 0, 0)] m5 (ch_oi (fun (r6 : Int32) (m7 : ch_M) => (∀ m8 : ch_M, m8 = ch_wr m7 (6, 0, 0) 1 0 → ((¬ r6 = 0 → (ch_C g m_p_keep [.inr (2, 0, 0), .inr (1, 1, 0)] m8 (ch_ov (fun (m10 : ch_M) => Q (.inl (some (.inl (.int r6)))) m10)))) ∧ (r6 = 0 → (ch_C g m_y_copyFrom [.inr (1, 0, 0), .inr (1, 1, 0)] m8 (ch_ov (fun (m12 : ch_M) => Q (.inr 0) m12))))))))))))) ∧ (¬ (m3 (0, 0, 0) 13) = (-1) → (∀ m13 : ch_M, m13 = ch_wr m3 (6, 0, 0) 1 0 → Q (.inr 2) m13)))))))) : ch_J g m_x_commands (ch_rm m_x_commands) (ch_E g m_x_commands Q) 0 [some (.inr (0, 0, 0)), none] [] m 0 := by
  refine ch_aload_n (i := 0) d_x_commands_0 rfl rfl ?_
  refine ch_aload_n (i := 0) d_x_commands_1 rfl rfl ?_
  refine ch_get (v := .inr (7, 0, 0)) d_x_commands_2 fl_x_56 rfl ?_
  refine ch_aload_n (i := 0) d_x_commands_5 rfl rfl ?_
  refine ch_get (v := .inr (6, 0, 0)) d_x_commands_6 fl_x_49 rfl ?_
  refine ch_aload_n (i := 0) d_x_commands_9 rfl rfl ?_
  refine ch_get (v := .inr (4, 0, 0)) d_x_commands_10 fl_x_42 rfl ?_
  refine ch_callV (as := [.inr (6, 0, 0), .inr (4, 0, 0)]) d_x_commands_13 lk_x_213 mi_d_findFault me_d_findFault rfl rfl rfl ⟨Nat.le_of_ble_eq_true rfl, Nat.le_of_ble_eq_true rfl⟩ (Nat.le_of_ble_eq_true rfl) ⟨Nat.le_of_ble_eq_true rfl, Nat.le_of_ble_eq_true rfl⟩ (ch_mono (ch_Ki (fun r1 m2 h => ?_)) h)
  refine ch_put d_x_commands_16 fp_x_77 rfl rfl rfl ?_
  generalize hmm3 : ch_wr m2 (0, 0, 0) 13 r1 = m3
  replace h := h m3 hmm3.symm
  refine ch_aload_n (i := 0) d_x_commands_19 rfl rfl ?_
  refine ch_get (v := .inl (.int (m3 (0, 0, 0) 13))) d_x_commands_20 fl_x_77 rfl ?_
  refine ch_iconst (v := (-1)) d_x_commands_23 (by decide) ?_
  refine ch_icmp_eq (tgt := 43) d_x_commands_24 (by decide) (fun c => ?_) (fun c => ?_)
  · replace h := h.1 c
    refine ch_aload_n (i := 0) d_x_commands_43 rfl rfl ?_
    refine ch_get (v := .inr (1, 1, 0)) d_x_commands_44 fl_x_16 rfl ?_
    refine ch_aload_n (i := 0) d_x_commands_47 rfl rfl ?_
    refine ch_get (v := .inr (1, 0, 0)) d_x_commands_48 fl_x_10 rfl ?_
    refine ch_callV (as := [.inr (1, 0, 0)]) d_x_commands_51 lk_x_174 mi_y_copyFrom me_y_copyFrom rfl rfl rfl ⟨Nat.le_of_ble_eq_true rfl, Nat.le_of_ble_eq_true rfl⟩ (Nat.le_of_ble_eq_true rfl) ⟨Nat.le_of_ble_eq_true rfl, Nat.le_of_ble_eq_true rfl⟩ (ch_mono (ch_Kv (fun m5 h => ?_)) h)
    refine ch_aload_n (i := 0) d_x_commands_54 rfl rfl ?_
    refine ch_callV (as := []) d_x_commands_55 lk_x_217 mi_x_carryOutText me_x_carryOutText rfl rfl rfl ⟨Nat.le_of_ble_eq_true rfl, Nat.le_of_ble_eq_true rfl⟩ (Nat.le_of_ble_eq_true rfl) ⟨Nat.le_of_ble_eq_true rfl, Nat.le_of_ble_eq_true rfl⟩ (ch_mono (ch_Ki (fun r6 m7 h => ?_)) h)
    refine ch_istore_n (i := 1) d_x_commands_58 rfl (Nat.le_of_ble_eq_true rfl) (ls' := [some (.inr (0, 0, 0)), some (.inl (.int r6))]) rfl ?_
    refine ch_aload_n (i := 0) d_x_commands_59 rfl rfl ?_
    refine ch_get (v := .inr (6, 0, 0)) d_x_commands_60 fl_x_49 rfl ?_
    refine ch_iconst (v := 0) d_x_commands_63 (by decide) ?_
    refine ch_put d_x_commands_64 fp_x_203 rfl rfl rfl ?_
    generalize hmm8 : ch_wr m7 (6, 0, 0) 1 0 = m8
    replace h := h m8 hmm8.symm
    refine ch_iload_n (i := 1) d_x_commands_67 rfl rfl ?_
    refine ch_if_ne (tgt := 90) d_x_commands_68 (by decide) (fun c => ?_) (fun c => ?_)
    · replace h := h.1 c
      refine ch_aload_n (i := 0) d_x_commands_90 rfl rfl ?_
      refine ch_get (v := .inr (2, 0, 0)) d_x_commands_91 fl_x_28 rfl ?_
      refine ch_aload_n (i := 0) d_x_commands_94 rfl rfl ?_
      refine ch_get (v := .inr (1, 1, 0)) d_x_commands_95 fl_x_16 rfl ?_
      refine ch_callV (as := [.inr (1, 1, 0)]) d_x_commands_98 lk_x_223 mi_p_keep me_p_keep rfl rfl rfl ⟨Nat.le_of_ble_eq_true rfl, Nat.le_of_ble_eq_true rfl⟩ (Nat.le_of_ble_eq_true rfl) ⟨Nat.le_of_ble_eq_true rfl, Nat.le_of_ble_eq_true rfl⟩ (ch_mono (ch_Kv (fun m10 h => ?_)) h)
      refine ch_iload_n (i := 1) d_x_commands_101 rfl rfl ?_
      exact ch_iret (ty := .int) d_x_commands_102 rfl rfl (Nat.le_of_ble_eq_true rfl) h
    · replace h := h.2 c
      refine ch_aload_n (i := 0) d_x_commands_71 rfl rfl ?_
      refine ch_get (v := .inr (1, 0, 0)) d_x_commands_72 fl_x_10 rfl ?_
      refine ch_aload_n (i := 0) d_x_commands_75 rfl rfl ?_
      refine ch_get (v := .inr (1, 1, 0)) d_x_commands_76 fl_x_16 rfl ?_
      refine ch_callV (as := [.inr (1, 1, 0)]) d_x_commands_79 lk_x_174 mi_y_copyFrom me_y_copyFrom rfl rfl rfl ⟨Nat.le_of_ble_eq_true rfl, Nat.le_of_ble_eq_true rfl⟩ (Nat.le_of_ble_eq_true rfl) ⟨Nat.le_of_ble_eq_true rfl, Nat.le_of_ble_eq_true rfl⟩ (ch_mono (ch_Kv (fun m12 h => ?_)) h)
      exact ch_throw d_x_commands_82 d_x_commands_85 d_x_commands_86 d_x_commands_89 tw_x_220 (by decide) rfl (Nat.le_of_ble_eq_true rfl) (Nat.le_of_ble_eq_true rfl) (Nat.le_of_ble_eq_true rfl) h
  · replace h := h.2 c
    refine ch_aload_n (i := 0) d_x_commands_27 rfl rfl ?_
    refine ch_get (v := .inr (6, 0, 0)) d_x_commands_28 fl_x_49 rfl ?_
    refine ch_iconst (v := 0) d_x_commands_31 (by decide) ?_
    refine ch_put d_x_commands_32 fp_x_203 rfl rfl rfl ?_
    generalize hmm13 : ch_wr m3 (6, 0, 0) 1 0 = m13
    replace h := h m13 hmm13.symm
    exact ch_throw d_x_commands_35 d_x_commands_38 d_x_commands_39 d_x_commands_42 tw_x_131 (by decide) rfl (Nat.le_of_ble_eq_true rfl) (Nat.le_of_ble_eq_true rfl) (Nat.le_of_ble_eq_true rfl) h
theorem e_x_faultPosition (g : ch_G) (Q : ch_O → ch_M → Prop)  (m : ch_M) (h : ch_J g m_x_faultPosition (ch_rm m_x_faultPosition) (ch_E g m_x_faultPosition Q) 0 [some (.inr (0, 0, 0))] [] m 0) : ch_C g m_x_faultPosition [.inr (0, 0, 0)] m Q :=
  ch_enter mf_x_faultPosition (by intro v hv; simp only [List.mem_cons, List.not_mem_nil, or_false] at hv; rcases hv with rfl <;> rfl) (Nat.le_of_ble_eq_true rfl) h
set_option maxHeartbeats 1600000 in
theorem g_x_faultPosition_0 (g : ch_G) (Q : ch_O → ch_M → Prop)  (m : ch_M) (h : Q (.inl (some (.inl (.int (m (0, 0, 0) 13))))) m) : ch_J g m_x_faultPosition (ch_rm m_x_faultPosition) (ch_E g m_x_faultPosition Q) 0 [some (.inr (0, 0, 0))] [] m 0 := by
  refine ch_aload_n (i := 0) d_x_faultPosition_0 rfl rfl ?_
  refine ch_get (v := .inl (.int (m (0, 0, 0) 13))) d_x_faultPosition_1 fl_x_77 rfl ?_
  exact ch_iret (ty := .int) d_x_faultPosition_4 rfl rfl (Nat.le_of_ble_eq_true rfl) h
theorem e_x_reason (g : ch_G) (Q : ch_O → ch_M → Prop) (p1 : Int32) (m : ch_M) (h : ch_J g m_x_reason (ch_rm m_x_reason) (ch_E g m_x_reason Q) 0 [some (.inr (0, 0, 0)), some (.inl (.int p1))] [] m 0) : ch_C g m_x_reason [.inr (0, 0, 0), .inl (.int p1)] m Q :=
  ch_enter mf_x_reason (by intro v hv; simp only [List.mem_cons, List.not_mem_nil, or_false] at hv; rcases hv with rfl | rfl <;> rfl) (Nat.le_of_ble_eq_true rfl) h
set_option maxHeartbeats 1600000 in
theorem g_x_reason_0 (g : ch_G) (Q : ch_O → ch_M → Prop) (p1 : Int32) (m : ch_M) (h : ((p1 < 0 → Q (.inr 2) m) ∧ (¬ p1 < 0 → ((p1 ≤ 2 → ((¬ (m (3, 0, 0) 0) = 0 → ((¬ p1 = 0 → ((¬ p1 = 1 → Q (.inl (some (.inl (.int (m (3, 0, 0) 2))))) m) ∧ (p1 = 1 → Q (.inl (some (.inl (.int (m (3, 0, 0) 1))))) m))) ∧ (p1 = 0 → Q (.inl (some (.inl (.int (m (3, 0, 0) 0))))) m))) ∧ ((m (3, 0, 0) 0) = 0 → Q (.inr 3) m))) ∧ (¬ p1 ≤ 2 → Q (.inr 2) m))))) : ch_J g m_x_reason (ch_rm m_x_reason) (ch_E g m_x_reason Q) 0 [some (.inr (0, 0, 0)), some (.inl (.int p1))] [] m 0 := by
  refine ch_iload_n (i := 1) d_x_reason_0 rfl rfl ?_
  refine ch_if_lt (tgt := 9) d_x_reason_1 (by decide) (fun c => ?_) (fun c => ?_)
  · replace h := h.1 c
    exact ch_throw d_x_reason_9 d_x_reason_12 d_x_reason_13 d_x_reason_16 tw_x_131 (by decide) rfl (Nat.le_of_ble_eq_true rfl) (Nat.le_of_ble_eq_true rfl) (Nat.le_of_ble_eq_true rfl) h
  · replace h := h.2 c
    refine ch_iload_n (i := 1) d_x_reason_4 rfl rfl ?_
    refine ch_iconst (v := 2) d_x_reason_5 (by decide) ?_
    refine ch_icmp_le (tgt := 17) d_x_reason_6 (by decide) (fun c => ?_) (fun c => ?_)
    · replace h := h.1 c
      refine ch_aload_n (i := 0) d_x_reason_17 rfl rfl ?_
      refine ch_get (v := .inr (3, 0, 0)) d_x_reason_18 fl_x_35 rfl ?_
      refine ch_get (v := .inl (.int (m (3, 0, 0) 0))) d_x_reason_21 fl_x_226 rfl ?_
      refine ch_if_ne (tgt := 35) d_x_reason_24 (by decide) (fun c => ?_) (fun c => ?_)
      · replace h := h.1 c
        refine ch_iload_n (i := 1) d_x_reason_35 rfl rfl ?_
        refine ch_if_ne (tgt := 47) d_x_reason_36 (by decide) (fun c => ?_) (fun c => ?_)
        · replace h := h.1 c
          refine ch_iload_n (i := 1) d_x_reason_47 rfl rfl ?_
          refine ch_iconst (v := 1) d_x_reason_48 (by decide) ?_
          refine ch_icmp_ne (tgt := 62) d_x_reason_49 (by decide) (fun c => ?_) (fun c => ?_)
          · replace h := h.1 c
            refine ch_aload_n (i := 0) d_x_reason_62 rfl rfl ?_
            refine ch_get (v := .inr (3, 0, 0)) d_x_reason_63 fl_x_35 rfl ?_
            refine ch_get (v := .inl (.int (m (3, 0, 0) 2))) d_x_reason_66 fl_x_232 rfl ?_
            exact ch_iret (ty := .int) d_x_reason_69 rfl rfl (Nat.le_of_ble_eq_true rfl) h
          · replace h := h.2 c
            refine ch_aload_n (i := 0) d_x_reason_52 rfl rfl ?_
            refine ch_get (v := .inr (3, 0, 0)) d_x_reason_53 fl_x_35 rfl ?_
            refine ch_get (v := .inl (.int (m (3, 0, 0) 1))) d_x_reason_56 fl_x_229 rfl ?_
            refine ch_goto (tgt := 69) d_x_reason_59 (by decide) ?_
            exact ch_iret (ty := .int) d_x_reason_69 rfl rfl (Nat.le_of_ble_eq_true rfl) h
        · replace h := h.2 c
          refine ch_aload_n (i := 0) d_x_reason_39 rfl rfl ?_
          refine ch_get (v := .inr (3, 0, 0)) d_x_reason_40 fl_x_35 rfl ?_
          refine ch_get (v := .inl (.int (m (3, 0, 0) 0))) d_x_reason_43 fl_x_226 rfl ?_
          exact ch_iret (ty := .int) d_x_reason_46 rfl rfl (Nat.le_of_ble_eq_true rfl) h
      · replace h := h.2 c
        exact ch_throw d_x_reason_27 d_x_reason_30 d_x_reason_31 d_x_reason_34 tw_x_141 (by decide) rfl (Nat.le_of_ble_eq_true rfl) (Nat.le_of_ble_eq_true rfl) (Nat.le_of_ble_eq_true rfl) h
    · replace h := h.2 c
      exact ch_throw d_x_reason_9 d_x_reason_12 d_x_reason_13 d_x_reason_16 tw_x_131 (by decide) rfl (Nat.le_of_ble_eq_true rfl) (Nat.le_of_ble_eq_true rfl) (Nat.le_of_ble_eq_true rfl) h
theorem e_x_line (g : ch_G) (Q : ch_O → ch_M → Prop)  (m : ch_M) (h : ch_J g m_x_line (ch_rm m_x_line) (ch_E g m_x_line Q) 0 [some (.inr (0, 0, 0)), none] [] m 0) : ch_C g m_x_line [.inr (0, 0, 0)] m Q :=
  ch_enter mf_x_line (by intro v hv; simp only [List.mem_cons, List.not_mem_nil, or_false] at hv; rcases hv with rfl <;> rfl) (Nat.le_of_ble_eq_true rfl) h
set_option maxHeartbeats 1600000 in
theorem g_x_line_0 (g : ch_G) (Q : ch_O → ch_M → Prop)  (m : ch_M) (h : (∀ m1 : ch_M, m1 = ch_wr m (6, 1, 0) 1 0 → ch_J g m_x_line (ch_rm m_x_line) (ch_E g m_x_line Q) 10 [some (.inr (0, 0, 0)), some (.inl (.int 0))] [] m1 0)) : ch_J g m_x_line (ch_rm m_x_line) (ch_E g m_x_line Q) 0 [some (.inr (0, 0, 0)), none] [] m 0 := by
  refine ch_aload_n (i := 0) d_x_line_0 rfl rfl ?_
  refine ch_get (v := .inr (6, 1, 0)) d_x_line_1 fl_x_60 rfl ?_
  refine ch_iconst (v := 0) d_x_line_4 (by decide) ?_
  refine ch_put d_x_line_5 fp_x_203 rfl rfl rfl ?_
  generalize hmm1 : ch_wr m (6, 1, 0) 1 0 = m1
  replace h := h m1 hmm1.symm
  refine ch_iconst (v := 0) d_x_line_8 (by decide) ?_
  refine ch_istore_n (i := 1) d_x_line_9 rfl (Nat.le_of_ble_eq_true rfl) (ls' := [some (.inr (0, 0, 0)), some (.inl (.int 0))]) rfl ?_
  exact h
set_option maxHeartbeats 1600000 in
theorem g_x_line_10 (g : ch_G) (Q : ch_O → ch_M → Prop) (x1 : Int32) (m : ch_M) (h : ((12 ≤ x1 → Q (.inl (some (.inl (.int (m (6, 1, 0) 1))))) m) ∧ (¬ 12 ≤ x1 → (ch_C g m_x_putBlankBetween [.inr (0, 0, 0)] m (ch_ov (fun (m2 : ch_M) => (vp_in x1 12) ∧ ((¬ (m2 (1, 0, 1) (Int32.toNatClampNeg x1)) = (-1) → (ch_C g m_x_putPair [.inr (0, 0, 0), .inl (.int (m2 (1, 0, 1) (Int32.toNatClampNeg x1))), .inl (.int 47), .inl (.int (m2 (1, 0, 2) (Int32.toNatClampNeg x1)))] m2 (ch_ov (fun (m5 : ch_M) => ch_J g m_x_line (ch_rm m_x_line) (ch_E g m_x_line Q) 10 [some (.inr (0, 0, 0)), some (.inl (.int (x1 + 1)))] [] m5 0)))) ∧ ((m2 (1, 0, 1) (Int32.toNatClampNeg x1)) = (-1) → (ch_C g m_t_put [.inr (6, 1, 0), .inl (.int 46)] m2 (ch_ov (fun (m7 : ch_M) => ch_J g m_x_line (ch_rm m_x_line) (ch_E g m_x_line Q) 10 [some (.inr (0, 0, 0)), some (.inl (.int (x1 + 1)))] [] m7 0))))))))))) : ch_J g m_x_line (ch_rm m_x_line) (ch_E g m_x_line Q) 10 [some (.inr (0, 0, 0)), some (.inl (.int x1))] [] m 0 := by
  refine ch_iload_n (i := 1) d_x_line_10 rfl rfl ?_
  refine ch_bipush (v := 12) d_x_line_11 (by decide) ?_
  refine ch_icmp_ge (tgt := 75) d_x_line_13 (by decide) (fun c => ?_) (fun c => ?_)
  · replace h := h.1 c
    refine ch_aload_n (i := 0) d_x_line_75 rfl rfl ?_
    refine ch_get (v := .inr (6, 1, 0)) d_x_line_76 fl_x_60 rfl ?_
    refine ch_get (v := .inl (.int (m (6, 1, 0) 1))) d_x_line_79 fl_x_203 rfl ?_
    exact ch_iret (ty := .int) d_x_line_82 rfl rfl (Nat.le_of_ble_eq_true rfl) h
  · replace h := h.2 c
    refine ch_aload_n (i := 0) d_x_line_16 rfl rfl ?_
    refine ch_callV (as := []) d_x_line_17 lk_x_234 mi_x_putBlankBetween me_x_putBlankBetween rfl rfl rfl ⟨Nat.le_of_ble_eq_true rfl, Nat.le_of_ble_eq_true rfl⟩ (Nat.le_of_ble_eq_true rfl) ⟨Nat.le_of_ble_eq_true rfl, Nat.le_of_ble_eq_true rfl⟩ (ch_mono (ch_Kv (fun m2 h => ?_)) h)
    refine ch_aload_n (i := 0) d_x_line_20 rfl rfl ?_
    refine ch_get (v := .inr (1, 0, 0)) d_x_line_21 fl_x_10 rfl ?_
    refine ch_get (v := .inr (1, 0, 1)) d_x_line_24 fl_x_103 rfl ?_
    refine ch_iload_n (i := 1) d_x_line_27 rfl rfl ?_
    have b3 := h.1
    replace h := h.2
    refine ch_iald (n := 12) d_x_line_28 (by decide) rfl b3 ?_
    refine ch_iconst (v := (-1)) d_x_line_29 (by decide) ?_
    refine ch_icmp_ne (tgt := 45) d_x_line_30 (by decide) (fun c => ?_) (fun c => ?_)
    · replace h := h.1 c
      refine ch_aload_n (i := 0) d_x_line_45 rfl rfl ?_
      refine ch_aload_n (i := 0) d_x_line_46 rfl rfl ?_
      refine ch_get (v := .inr (1, 0, 0)) d_x_line_47 fl_x_10 rfl ?_
      refine ch_get (v := .inr (1, 0, 1)) d_x_line_50 fl_x_103 rfl ?_
      refine ch_iload_n (i := 1) d_x_line_53 rfl rfl ?_
      refine ch_iald (n := 12) d_x_line_54 (by decide) rfl b3 ?_
      refine ch_bipush (v := 47) d_x_line_55 (by decide) ?_
      refine ch_aload_n (i := 0) d_x_line_57 rfl rfl ?_
      refine ch_get (v := .inr (1, 0, 0)) d_x_line_58 fl_x_10 rfl ?_
      refine ch_get (v := .inr (1, 0, 2)) d_x_line_61 fl_x_99 rfl ?_
      refine ch_iload_n (i := 1) d_x_line_64 rfl rfl ?_
      refine ch_iald (n := 12) d_x_line_65 (by decide) rfl b3 ?_
      refine ch_callV (as := [.inl (.int (m2 (1, 0, 1) (Int32.toNatClampNeg x1))), .inl (.int 47), .inl (.int (m2 (1, 0, 2) (Int32.toNatClampNeg x1)))]) d_x_line_66 lk_x_237 mi_x_putPair me_x_putPair rfl rfl rfl ⟨Nat.le_of_ble_eq_true rfl, Nat.le_of_ble_eq_true rfl⟩ (Nat.le_of_ble_eq_true rfl) ⟨Nat.le_of_ble_eq_true rfl, Nat.le_of_ble_eq_true rfl⟩ (ch_mono (ch_Kv (fun m5 h => ?_)) h)
      refine ch_iinc (i := 1) (v := (x1 + 1)) d_x_line_69 rfl rfl (Nat.le_of_ble_eq_true rfl) (ls' := [some (.inr (0, 0, 0)), some (.inl (.int (x1 + 1)))]) rfl ?_
      refine ch_goto (tgt := 10) d_x_line_72 (by decide) ?_
      exact h
    · replace h := h.2 c
      refine ch_aload_n (i := 0) d_x_line_33 rfl rfl ?_
      refine ch_get (v := .inr (6, 1, 0)) d_x_line_34 fl_x_60 rfl ?_
      refine ch_bipush (v := 46) d_x_line_37 (by decide) ?_
      refine ch_callV (as := [.inl (.int 46)]) d_x_line_39 lk_x_209 mi_t_put me_t_put rfl rfl rfl ⟨Nat.le_of_ble_eq_true rfl, Nat.le_of_ble_eq_true rfl⟩ (Nat.le_of_ble_eq_true rfl) ⟨Nat.le_of_ble_eq_true rfl, Nat.le_of_ble_eq_true rfl⟩ (ch_mono (ch_Kv (fun m7 h => ?_)) h)
      refine ch_goto (tgt := 69) d_x_line_42 (by decide) ?_
      refine ch_iinc (i := 1) (v := (x1 + 1)) d_x_line_69 rfl rfl (Nat.le_of_ble_eq_true rfl) (ls' := [some (.inr (0, 0, 0)), some (.inl (.int (x1 + 1)))]) rfl ?_
      refine ch_goto (tgt := 10) d_x_line_72 (by decide) ?_
      exact h
theorem e_x_warrants (g : ch_G) (Q : ch_O → ch_M → Prop)  (m : ch_M) (h : ch_J g m_x_warrants (ch_rm m_x_warrants) (ch_E g m_x_warrants Q) 0 [some (.inr (0, 0, 0)), none, none] [] m 0) : ch_C g m_x_warrants [.inr (0, 0, 0)] m Q :=
  ch_enter mf_x_warrants (by intro v hv; simp only [List.mem_cons, List.not_mem_nil, or_false] at hv; rcases hv with rfl <;> rfl) (Nat.le_of_ble_eq_true rfl) h
set_option maxHeartbeats 1600000 in
theorem g_x_warrants_0 (g : ch_G) (Q : ch_O → ch_M → Prop)  (m : ch_M) (h : (∀ m1 : ch_M, m1 = ch_wr m (6, 1, 0) 1 0 → ch_J g m_x_warrants (ch_rm m_x_warrants) (ch_E g m_x_warrants Q) 10 [some (.inr (0, 0, 0)), some (.inl (.int 0)), none] [] m1 0)) : ch_J g m_x_warrants (ch_rm m_x_warrants) (ch_E g m_x_warrants Q) 0 [some (.inr (0, 0, 0)), none, none] [] m 0 := by
  refine ch_aload_n (i := 0) d_x_warrants_0 rfl rfl ?_
  refine ch_get (v := .inr (6, 1, 0)) d_x_warrants_1 fl_x_60 rfl ?_
  refine ch_iconst (v := 0) d_x_warrants_4 (by decide) ?_
  refine ch_put d_x_warrants_5 fp_x_203 rfl rfl rfl ?_
  generalize hmm1 : ch_wr m (6, 1, 0) 1 0 = m1
  replace h := h m1 hmm1.symm
  refine ch_iconst (v := 0) d_x_warrants_8 (by decide) ?_
  refine ch_istore_n (i := 1) d_x_warrants_9 rfl (Nat.le_of_ble_eq_true rfl) (ls' := [some (.inr (0, 0, 0)), some (.inl (.int 0)), none]) rfl ?_
  exact h
set_option maxHeartbeats 1600000 in
theorem g_x_warrants_10 (g : ch_G) (Q : ch_O → ch_M → Prop) (x1 : Int32) (o2 : Option ch_V) (m : ch_M) (h : (((m (1, 0, 0) 9) ≤ x1 → Q (.inl (some (.inl (.int (m (6, 1, 0) 1))))) m) ∧ (¬ (m (1, 0, 0) 9) ≤ x1 → (vp_in x1 5) ∧ (ch_C g m_x_putBlankBetween [.inr (0, 0, 0)] m (ch_ov (fun (m3 : ch_M) => (vp_in (m (1, 0, 8) (Int32.toNatClampNeg x1)) 5) ∧ (ch_C g m_x_putPair [.inr (0, 0, 0), .inl (.int (m (1, 0, 8) (Int32.toNatClampNeg x1))), .inl (.int 33), .inl (.int (m3 (1, 0, 5) (Int32.toNatClampNeg (m (1, 0, 8) (Int32.toNatClampNeg x1)))))] m3 (ch_ov (fun (m6 : ch_M) => ch_J g m_x_warrants (ch_rm m_x_warrants) (ch_E g m_x_warrants Q) 10 [some (.inr (0, 0, 0)), some (.inl (.int (x1 + 1))), some (.inl (.int (m (1, 0, 8) (Int32.toNatClampNeg x1))))] [] m6 0))))))))) : ch_J g m_x_warrants (ch_rm m_x_warrants) (ch_E g m_x_warrants Q) 10 [some (.inr (0, 0, 0)), some (.inl (.int x1)), o2] [] m 0 := by
  refine ch_iload_n (i := 1) d_x_warrants_10 rfl rfl ?_
  refine ch_aload_n (i := 0) d_x_warrants_11 rfl rfl ?_
  refine ch_get (v := .inr (1, 0, 0)) d_x_warrants_12 fl_x_10 rfl ?_
  refine ch_get (v := .inl (.int (m (1, 0, 0) 9))) d_x_warrants_15 fl_x_138 rfl ?_
  refine ch_icmp_ge (tgt := 57) d_x_warrants_18 (by decide) (fun c => ?_) (fun c => ?_)
  · replace h := h.1 c
    refine ch_aload_n (i := 0) d_x_warrants_57 rfl rfl ?_
    refine ch_get (v := .inr (6, 1, 0)) d_x_warrants_58 fl_x_60 rfl ?_
    refine ch_get (v := .inl (.int (m (6, 1, 0) 1))) d_x_warrants_61 fl_x_203 rfl ?_
    exact ch_iret (ty := .int) d_x_warrants_64 rfl rfl (Nat.le_of_ble_eq_true rfl) h
  · replace h := h.2 c
    refine ch_aload_n (i := 0) d_x_warrants_21 rfl rfl ?_
    refine ch_get (v := .inr (1, 0, 0)) d_x_warrants_22 fl_x_10 rfl ?_
    refine ch_get (v := .inr (1, 0, 8)) d_x_warrants_25 fl_x_144 rfl ?_
    refine ch_iload_n (i := 1) d_x_warrants_28 rfl rfl ?_
    have b1 := h.1
    replace h := h.2
    refine ch_iald (n := 5) d_x_warrants_29 (by decide) rfl b1 ?_
    refine ch_istore_n (i := 2) d_x_warrants_30 rfl (Nat.le_of_ble_eq_true rfl) (ls' := [some (.inr (0, 0, 0)), some (.inl (.int x1)), some (.inl (.int (m (1, 0, 8) (Int32.toNatClampNeg x1))))]) rfl ?_
    refine ch_aload_n (i := 0) d_x_warrants_31 rfl rfl ?_
    refine ch_callV (as := []) d_x_warrants_32 lk_x_234 mi_x_putBlankBetween me_x_putBlankBetween rfl rfl rfl ⟨Nat.le_of_ble_eq_true rfl, Nat.le_of_ble_eq_true rfl⟩ (Nat.le_of_ble_eq_true rfl) ⟨Nat.le_of_ble_eq_true rfl, Nat.le_of_ble_eq_true rfl⟩ (ch_mono (ch_Kv (fun m3 h => ?_)) h)
    refine ch_aload_n (i := 0) d_x_warrants_35 rfl rfl ?_
    refine ch_iload_n (i := 2) d_x_warrants_36 rfl rfl ?_
    refine ch_bipush (v := 33) d_x_warrants_37 (by decide) ?_
    refine ch_aload_n (i := 0) d_x_warrants_39 rfl rfl ?_
    refine ch_get (v := .inr (1, 0, 0)) d_x_warrants_40 fl_x_10 rfl ?_
    refine ch_get (v := .inr (1, 0, 5)) d_x_warrants_43 fl_x_115 rfl ?_
    refine ch_iload_n (i := 2) d_x_warrants_46 rfl rfl ?_
    have b4 := h.1
    replace h := h.2
    refine ch_iald (n := 5) d_x_warrants_47 (by decide) rfl b4 ?_
    refine ch_callV (as := [.inl (.int (m (1, 0, 8) (Int32.toNatClampNeg x1))), .inl (.int 33), .inl (.int (m3 (1, 0, 5) (Int32.toNatClampNeg (m (1, 0, 8) (Int32.toNatClampNeg x1)))))]) d_x_warrants_48 lk_x_237 mi_x_putPair me_x_putPair rfl rfl rfl ⟨Nat.le_of_ble_eq_true rfl, Nat.le_of_ble_eq_true rfl⟩ (Nat.le_of_ble_eq_true rfl) ⟨Nat.le_of_ble_eq_true rfl, Nat.le_of_ble_eq_true rfl⟩ (ch_mono (ch_Kv (fun m6 h => ?_)) h)
    refine ch_iinc (i := 1) (v := (x1 + 1)) d_x_warrants_51 rfl rfl (Nat.le_of_ble_eq_true rfl) (ls' := [some (.inr (0, 0, 0)), some (.inl (.int (x1 + 1))), some (.inl (.int (m (1, 0, 8) (Int32.toNatClampNeg x1))))]) rfl ?_
    refine ch_goto (tgt := 10) d_x_warrants_54 (by decide) ?_
    exact h
theorem e_x_character (g : ch_G) (Q : ch_O → ch_M → Prop) (p1 : Int32) (m : ch_M) (h : ch_J g m_x_character (ch_rm m_x_character) (ch_E g m_x_character Q) 0 [some (.inr (0, 0, 0)), some (.inl (.int p1))] [] m 0) : ch_C g m_x_character [.inr (0, 0, 0), .inl (.int p1)] m Q :=
  ch_enter mf_x_character (by intro v hv; simp only [List.mem_cons, List.not_mem_nil, or_false] at hv; rcases hv with rfl | rfl <;> rfl) (Nat.le_of_ble_eq_true rfl) h
set_option maxHeartbeats 1600000 in
theorem g_x_character_0 (g : ch_G) (Q : ch_O → ch_M → Prop) (p1 : Int32) (m : ch_M) (h : ((p1 < 0 → Q (.inr 1) m) ∧ (¬ p1 < 0 → ((p1 < (m (6, 1, 0) 1) → (vp_in p1 60) ∧ (narrow .char (.int (m (6, 1, 1) (Int32.toNatClampNeg p1))) = .int (m (6, 1, 1) (Int32.toNatClampNeg p1))) ∧ Q (.inl (some (.inl (.int (m (6, 1, 1) (Int32.toNatClampNeg p1)))))) m) ∧ (¬ p1 < (m (6, 1, 0) 1) → Q (.inr 1) m))))) : ch_J g m_x_character (ch_rm m_x_character) (ch_E g m_x_character Q) 0 [some (.inr (0, 0, 0)), some (.inl (.int p1))] [] m 0 := by
  refine ch_iload_n (i := 1) d_x_character_0 rfl rfl ?_
  refine ch_if_lt (tgt := 15) d_x_character_1 (by decide) (fun c => ?_) (fun c => ?_)
  · replace h := h.1 c
    exact ch_throw d_x_character_15 d_x_character_18 d_x_character_19 d_x_character_22 tw_x_96 (by decide) rfl (Nat.le_of_ble_eq_true rfl) (Nat.le_of_ble_eq_true rfl) (Nat.le_of_ble_eq_true rfl) h
  · replace h := h.2 c
    refine ch_iload_n (i := 1) d_x_character_4 rfl rfl ?_
    refine ch_aload_n (i := 0) d_x_character_5 rfl rfl ?_
    refine ch_get (v := .inr (6, 1, 0)) d_x_character_6 fl_x_60 rfl ?_
    refine ch_get (v := .inl (.int (m (6, 1, 0) 1))) d_x_character_9 fl_x_203 rfl ?_
    refine ch_icmp_lt (tgt := 23) d_x_character_12 (by decide) (fun c => ?_) (fun c => ?_)
    · replace h := h.1 c
      refine ch_aload_n (i := 0) d_x_character_23 rfl rfl ?_
      refine ch_get (v := .inr (6, 1, 0)) d_x_character_24 fl_x_60 rfl ?_
      refine ch_get (v := .inr (6, 1, 1)) d_x_character_27 fl_x_241 rfl ?_
      refine ch_iload_n (i := 1) d_x_character_30 rfl rfl ?_
      have b1 := h.1
      replace h := h.2
      refine ch_cald (n := 60) d_x_character_31 (by decide) rfl b1 ?_
      exact ch_iret (ty := .char) d_x_character_32 rfl h.1 (Nat.le_of_ble_eq_true rfl) h.2
    · replace h := h.2 c
      exact ch_throw d_x_character_15 d_x_character_18 d_x_character_19 d_x_character_22 tw_x_96 (by decide) rfl (Nat.le_of_ble_eq_true rfl) (Nat.le_of_ble_eq_true rfl) (Nat.le_of_ble_eq_true rfl) h
theorem e_x_meanChalk (g : ch_G) (Q : ch_O → ch_M → Prop)  (m : ch_M) (h : ch_J g m_x_meanChalk (ch_rm m_x_meanChalk) (ch_E g m_x_meanChalk Q) 0 [some (.inr (0, 0, 0)), none] [] m 0) : ch_C g m_x_meanChalk [.inr (0, 0, 0)] m Q :=
  ch_enter mf_x_meanChalk (by intro v hv; simp only [List.mem_cons, List.not_mem_nil, or_false] at hv; rcases hv with rfl <;> rfl) (Nat.le_of_ble_eq_true rfl) h
set_option maxHeartbeats 1600000 in
theorem g_x_meanChalk_0 (g : ch_G) (Q : ch_O → ch_M → Prop)  (m : ch_M) (h : (ch_C g m_y_countOwned [.inr (1, 0, 0), .inl (.int (-1))] m (ch_oi (fun (r1 : Int32) (m2 : ch_M) => ((¬ (12 - r1) = 0 → (ch_C g m_y_sumAllChalk [.inr (1, 0, 0)] m2 (ch_oi (fun (r3 : Int32) (m4 : ch_M) => (vf_n64 (FP.ddiv (FP.i2d r3) (FP.i2d (12 - r1)))) ∧ Q (.inl (some (.inl (.double (FP.ddiv (FP.i2d r3) (FP.i2d (12 - r1))))))) m4)))) ∧ ((12 - r1) = 0 → Q (.inr 5) m2)))))) : ch_J g m_x_meanChalk (ch_rm m_x_meanChalk) (ch_E g m_x_meanChalk Q) 0 [some (.inr (0, 0, 0)), none] [] m 0 := by
  refine ch_bipush (v := 12) d_x_meanChalk_0 (by decide) ?_
  refine ch_aload_n (i := 0) d_x_meanChalk_2 rfl rfl ?_
  refine ch_get (v := .inr (1, 0, 0)) d_x_meanChalk_3 fl_x_10 rfl ?_
  refine ch_iconst (v := (-1)) d_x_meanChalk_6 (by decide) ?_
  refine ch_callV (as := [.inl (.int (-1))]) d_x_meanChalk_7 lk_x_118 mi_y_countOwned me_y_countOwned rfl rfl rfl ⟨Nat.le_of_ble_eq_true rfl, Nat.le_of_ble_eq_true rfl⟩ (Nat.le_of_ble_eq_true rfl) ⟨Nat.le_of_ble_eq_true rfl, Nat.le_of_ble_eq_true rfl⟩ (ch_mono (ch_Ki (fun r1 m2 h => ?_)) h)
  refine ch_isub d_x_meanChalk_10 ?_
  refine ch_istore_n (i := 1) d_x_meanChalk_11 rfl (Nat.le_of_ble_eq_true rfl) (ls' := [some (.inr (0, 0, 0)), some (.inl (.int (12 - r1)))]) rfl ?_
  refine ch_iload_n (i := 1) d_x_meanChalk_12 rfl rfl ?_
  refine ch_if_ne (tgt := 24) d_x_meanChalk_13 (by decide) (fun c => ?_) (fun c => ?_)
  · replace h := h.1 c
    refine ch_aload_n (i := 0) d_x_meanChalk_24 rfl rfl ?_
    refine ch_get (v := .inr (1, 0, 0)) d_x_meanChalk_25 fl_x_10 rfl ?_
    refine ch_callV (as := []) d_x_meanChalk_28 lk_x_247 mi_y_sumAllChalk me_y_sumAllChalk rfl rfl rfl ⟨Nat.le_of_ble_eq_true rfl, Nat.le_of_ble_eq_true rfl⟩ (Nat.le_of_ble_eq_true rfl) ⟨Nat.le_of_ble_eq_true rfl, Nat.le_of_ble_eq_true rfl⟩ (ch_mono (ch_Ki (fun r3 m4 h => ?_)) h)
    refine ch_i2d d_x_meanChalk_31 ?_
    refine ch_iload_n (i := 1) d_x_meanChalk_32 rfl rfl ?_
    refine ch_i2d d_x_meanChalk_33 ?_
    refine ch_ddiv d_x_meanChalk_34 h.1 ?_
    replace h := h.2
    exact ch_dret d_x_meanChalk_35 rfl (Nat.le_of_ble_eq_true rfl) h
  · replace h := h.2 c
    exact ch_throw d_x_meanChalk_16 d_x_meanChalk_19 d_x_meanChalk_20 d_x_meanChalk_23 tw_x_244 (by decide) rfl (Nat.le_of_ble_eq_true rfl) (Nat.le_of_ble_eq_true rfl) (Nat.le_of_ble_eq_true rfl) h
theorem e_x_ownedShare (g : ch_G) (Q : ch_O → ch_M → Prop)  (m : ch_M) (h : ch_J g m_x_ownedShare (ch_rm m_x_ownedShare) (ch_E g m_x_ownedShare Q) 0 [some (.inr (0, 0, 0))] [] m 0) : ch_C g m_x_ownedShare [.inr (0, 0, 0)] m Q :=
  ch_enter mf_x_ownedShare (by intro v hv; simp only [List.mem_cons, List.not_mem_nil, or_false] at hv; rcases hv with rfl <;> rfl) (Nat.le_of_ble_eq_true rfl) h
set_option maxHeartbeats 1600000 in
theorem g_x_ownedShare_0 (g : ch_G) (Q : ch_O → ch_M → Prop)  (m : ch_M) (h : (ch_C g m_y_countOwned [.inr (1, 0, 0), .inl (.int (-1))] m (ch_oi (fun (r1 : Int32) (m2 : ch_M) => (vf_n32 (FP.fdiv (FP.i2f (12 - r1)) 1094713344)) ∧ Q (.inl (some (.inl (.float (FP.fdiv (FP.i2f (12 - r1)) 1094713344))))) m2)))) : ch_J g m_x_ownedShare (ch_rm m_x_ownedShare) (ch_E g m_x_ownedShare Q) 0 [some (.inr (0, 0, 0))] [] m 0 := by
  refine ch_bipush (v := 12) d_x_ownedShare_0 (by decide) ?_
  refine ch_aload_n (i := 0) d_x_ownedShare_2 rfl rfl ?_
  refine ch_get (v := .inr (1, 0, 0)) d_x_ownedShare_3 fl_x_10 rfl ?_
  refine ch_iconst (v := (-1)) d_x_ownedShare_6 (by decide) ?_
  refine ch_callV (as := [.inl (.int (-1))]) d_x_ownedShare_7 lk_x_118 mi_y_countOwned me_y_countOwned rfl rfl rfl ⟨Nat.le_of_ble_eq_true rfl, Nat.le_of_ble_eq_true rfl⟩ (Nat.le_of_ble_eq_true rfl) ⟨Nat.le_of_ble_eq_true rfl, Nat.le_of_ble_eq_true rfl⟩ (ch_mono (ch_Ki (fun r1 m2 h => ?_)) h)
  refine ch_isub d_x_ownedShare_10 ?_
  refine ch_i2f d_x_ownedShare_11 ?_
  refine ch_ldcf d_x_ownedShare_12 lc_x_250 ?_
  refine ch_fdiv d_x_ownedShare_14 h.1 ?_
  replace h := h.2
  exact ch_fret d_x_ownedShare_15 rfl (Nat.le_of_ble_eq_true rfl) h
theorem e_x_account (g : ch_G) (Q : ch_O → ch_M → Prop) (p1 : Int32) (m : ch_M) (h : ch_J g m_x_account (ch_rm m_x_account) (ch_E g m_x_account Q) 0 [some (.inr (0, 0, 0)), some (.inl (.int p1))] [] m 0) : ch_C g m_x_account [.inr (0, 0, 0), .inl (.int p1)] m Q :=
  ch_enter mf_x_account (by intro v hv; simp only [List.mem_cons, List.not_mem_nil, or_false] at hv; rcases hv with rfl | rfl <;> rfl) (Nat.le_of_ble_eq_true rfl) h
set_option maxHeartbeats 1600000 in
theorem g_x_account_0 (g : ch_G) (Q : ch_O → ch_M → Prop) (p1 : Int32) (m : ch_M) (h : ((p1 = 0 → Q (.inl (some (.inl (.int (m (1, 0, 0) 8))))) m) ∧ (p1 = 1 → (ch_C g m_y_sumPebbles [.inr (1, 0, 0)] m (ch_oi (fun (r1 : Int32) (m2 : ch_M) => Q (.inl (some (.inl (.int r1)))) m2)))) ∧ (p1 = 2 → Q (.inl (some (.inl (.int (m (1, 0, 0) 10))))) m) ∧ (p1 = 3 → (ch_C g m_y_countOwned [.inr (1, 0, 0), .inl (.int (-1))] m (ch_oi (fun (r3 : Int32) (m4 : ch_M) => Q (.inl (some (.inl (.int (12 - r3))))) m4)))) ∧ (p1 = 4 → Q (.inl (some (.inl (.int (m (1, 0, 0) 9))))) m) ∧ (p1 = 5 → Q (.inl (some (.inl (.int (m (1, 0, 0) 12))))) m) ∧ (p1 = 6 → Q (.inl (some (.inl (.int (m (1, 0, 0) 13))))) m) ∧ (p1 = 7 → Q (.inl (some (.inl (.int (m (1, 0, 0) 14))))) m) ∧ (p1 = 8 → Q (.inl (some (.inl (.int (m (1, 0, 0) 15))))) m) ∧ (p1 = 9 → Q (.inl (some (.inl (.int (m (1, 0, 0) 16))))) m) ∧ (p1 = 10 → Q (.inl (some (.inl (.int (m (2, 0, 0) 2))))) m) ∧ (p1 = 11 → Q (.inl (some (.inl (.int (m (6, 0, 0) 1))))) m) ∧ ((Int32.toInt p1 < 0 ∨ 11 < Int32.toInt p1) → Q (.inr 2) m))) : ch_J g m_x_account (ch_rm m_x_account) (ch_E g m_x_account Q) 0 [some (.inr (0, 0, 0)), some (.inl (.int p1))] [] m 0 := by
  refine ch_iload_n (i := 1) d_x_account_0 rfl rfl ?_
  by_cases e0 : p1 = 0
  · replace h := h.1 e0
    refine ch_tswIn (tgt := 64) (off := 63) d_x_account_1 (by rw [e0]; decide) (by rw [e0]; decide) (by rw [e0]; rfl) (by decide) ?_
    refine ch_aload_n (i := 0) d_x_account_64 rfl rfl ?_
    refine ch_get (v := .inr (1, 0, 0)) d_x_account_65 fl_x_10 rfl ?_
    refine ch_get (v := .inl (.int (m (1, 0, 0) 8))) d_x_account_68 fl_x_184 rfl ?_
    exact ch_iret (ty := .int) d_x_account_71 rfl rfl (Nat.le_of_ble_eq_true rfl) h
  replace h := h.2
  by_cases e1 : p1 = 1
  · replace h := h.1 e1
    refine ch_tswIn (tgt := 72) (off := 71) d_x_account_1 (by rw [e1]; decide) (by rw [e1]; decide) (by rw [e1]; rfl) (by decide) ?_
    refine ch_aload_n (i := 0) d_x_account_72 rfl rfl ?_
    refine ch_get (v := .inr (1, 0, 0)) d_x_account_73 fl_x_10 rfl ?_
    refine ch_callV (as := []) d_x_account_76 lk_x_193 mi_y_sumPebbles me_y_sumPebbles rfl rfl rfl ⟨Nat.le_of_ble_eq_true rfl, Nat.le_of_ble_eq_true rfl⟩ (Nat.le_of_ble_eq_true rfl) ⟨Nat.le_of_ble_eq_true rfl, Nat.le_of_ble_eq_true rfl⟩ (ch_mono (ch_Ki (fun r1 m2 h => ?_)) h)
    exact ch_iret (ty := .int) d_x_account_79 rfl rfl (Nat.le_of_ble_eq_true rfl) h
  replace h := h.2
  by_cases e2 : p1 = 2
  · replace h := h.1 e2
    refine ch_tswIn (tgt := 80) (off := 79) d_x_account_1 (by rw [e2]; decide) (by rw [e2]; decide) (by rw [e2]; rfl) (by decide) ?_
    refine ch_aload_n (i := 0) d_x_account_80 rfl rfl ?_
    refine ch_get (v := .inr (1, 0, 0)) d_x_account_81 fl_x_10 rfl ?_
    refine ch_get (v := .inl (.int (m (1, 0, 0) 10))) d_x_account_84 fl_x_196 rfl ?_
    exact ch_iret (ty := .int) d_x_account_87 rfl rfl (Nat.le_of_ble_eq_true rfl) h
  replace h := h.2
  by_cases e3 : p1 = 3
  · replace h := h.1 e3
    refine ch_tswIn (tgt := 88) (off := 87) d_x_account_1 (by rw [e3]; decide) (by rw [e3]; decide) (by rw [e3]; rfl) (by decide) ?_
    refine ch_bipush (v := 12) d_x_account_88 (by decide) ?_
    refine ch_aload_n (i := 0) d_x_account_90 rfl rfl ?_
    refine ch_get (v := .inr (1, 0, 0)) d_x_account_91 fl_x_10 rfl ?_
    refine ch_iconst (v := (-1)) d_x_account_94 (by decide) ?_
    refine ch_callV (as := [.inl (.int (-1))]) d_x_account_95 lk_x_118 mi_y_countOwned me_y_countOwned rfl rfl rfl ⟨Nat.le_of_ble_eq_true rfl, Nat.le_of_ble_eq_true rfl⟩ (Nat.le_of_ble_eq_true rfl) ⟨Nat.le_of_ble_eq_true rfl, Nat.le_of_ble_eq_true rfl⟩ (ch_mono (ch_Ki (fun r3 m4 h => ?_)) h)
    refine ch_isub d_x_account_98 ?_
    exact ch_iret (ty := .int) d_x_account_99 rfl rfl (Nat.le_of_ble_eq_true rfl) h
  replace h := h.2
  by_cases e4 : p1 = 4
  · replace h := h.1 e4
    refine ch_tswIn (tgt := 100) (off := 99) d_x_account_1 (by rw [e4]; decide) (by rw [e4]; decide) (by rw [e4]; rfl) (by decide) ?_
    refine ch_aload_n (i := 0) d_x_account_100 rfl rfl ?_
    refine ch_get (v := .inr (1, 0, 0)) d_x_account_101 fl_x_10 rfl ?_
    refine ch_get (v := .inl (.int (m (1, 0, 0) 9))) d_x_account_104 fl_x_138 rfl ?_
    exact ch_iret (ty := .int) d_x_account_107 rfl rfl (Nat.le_of_ble_eq_true rfl) h
  replace h := h.2
  by_cases e5 : p1 = 5
  · replace h := h.1 e5
    refine ch_tswIn (tgt := 108) (off := 107) d_x_account_1 (by rw [e5]; decide) (by rw [e5]; decide) (by rw [e5]; rfl) (by decide) ?_
    refine ch_aload_n (i := 0) d_x_account_108 rfl rfl ?_
    refine ch_get (v := .inr (1, 0, 0)) d_x_account_109 fl_x_10 rfl ?_
    refine ch_get (v := .inl (.int (m (1, 0, 0) 12))) d_x_account_112 fl_x_251 rfl ?_
    exact ch_iret (ty := .int) d_x_account_115 rfl rfl (Nat.le_of_ble_eq_true rfl) h
  replace h := h.2
  by_cases e6 : p1 = 6
  · replace h := h.1 e6
    refine ch_tswIn (tgt := 116) (off := 115) d_x_account_1 (by rw [e6]; decide) (by rw [e6]; decide) (by rw [e6]; rfl) (by decide) ?_
    refine ch_aload_n (i := 0) d_x_account_116 rfl rfl ?_
    refine ch_get (v := .inr (1, 0, 0)) d_x_account_117 fl_x_10 rfl ?_
    refine ch_get (v := .inl (.int (m (1, 0, 0) 13))) d_x_account_120 fl_x_254 rfl ?_
    exact ch_iret (ty := .int) d_x_account_123 rfl rfl (Nat.le_of_ble_eq_true rfl) h
  replace h := h.2
  by_cases e7 : p1 = 7
  · replace h := h.1 e7
    refine ch_tswIn (tgt := 124) (off := 123) d_x_account_1 (by rw [e7]; decide) (by rw [e7]; decide) (by rw [e7]; rfl) (by decide) ?_
    refine ch_aload_n (i := 0) d_x_account_124 rfl rfl ?_
    refine ch_get (v := .inr (1, 0, 0)) d_x_account_125 fl_x_10 rfl ?_
    refine ch_get (v := .inl (.int (m (1, 0, 0) 14))) d_x_account_128 fl_x_256 rfl ?_
    exact ch_iret (ty := .int) d_x_account_131 rfl rfl (Nat.le_of_ble_eq_true rfl) h
  replace h := h.2
  by_cases e8 : p1 = 8
  · replace h := h.1 e8
    refine ch_tswIn (tgt := 132) (off := 131) d_x_account_1 (by rw [e8]; decide) (by rw [e8]; decide) (by rw [e8]; rfl) (by decide) ?_
    refine ch_aload_n (i := 0) d_x_account_132 rfl rfl ?_
    refine ch_get (v := .inr (1, 0, 0)) d_x_account_133 fl_x_10 rfl ?_
    refine ch_get (v := .inl (.int (m (1, 0, 0) 15))) d_x_account_136 fl_x_259 rfl ?_
    exact ch_iret (ty := .int) d_x_account_139 rfl rfl (Nat.le_of_ble_eq_true rfl) h
  replace h := h.2
  by_cases e9 : p1 = 9
  · replace h := h.1 e9
    refine ch_tswIn (tgt := 140) (off := 139) d_x_account_1 (by rw [e9]; decide) (by rw [e9]; decide) (by rw [e9]; rfl) (by decide) ?_
    refine ch_aload_n (i := 0) d_x_account_140 rfl rfl ?_
    refine ch_get (v := .inr (1, 0, 0)) d_x_account_141 fl_x_10 rfl ?_
    refine ch_get (v := .inl (.int (m (1, 0, 0) 16))) d_x_account_144 fl_x_262 rfl ?_
    exact ch_iret (ty := .int) d_x_account_147 rfl rfl (Nat.le_of_ble_eq_true rfl) h
  replace h := h.2
  by_cases e10 : p1 = 10
  · replace h := h.1 e10
    refine ch_tswIn (tgt := 148) (off := 147) d_x_account_1 (by rw [e10]; decide) (by rw [e10]; decide) (by rw [e10]; rfl) (by decide) ?_
    refine ch_aload_n (i := 0) d_x_account_148 rfl rfl ?_
    refine ch_get (v := .inr (2, 0, 0)) d_x_account_149 fl_x_28 rfl ?_
    refine ch_get (v := .inl (.int (m (2, 0, 0) 2))) d_x_account_152 fl_x_265 rfl ?_
    exact ch_iret (ty := .int) d_x_account_155 rfl rfl (Nat.le_of_ble_eq_true rfl) h
  replace h := h.2
  by_cases e11 : p1 = 11
  · replace h := h.1 e11
    refine ch_tswIn (tgt := 156) (off := 155) d_x_account_1 (by rw [e11]; decide) (by rw [e11]; decide) (by rw [e11]; rfl) (by decide) ?_
    refine ch_aload_n (i := 0) d_x_account_156 rfl rfl ?_
    refine ch_get (v := .inr (6, 0, 0)) d_x_account_157 fl_x_49 rfl ?_
    refine ch_get (v := .inl (.int (m (6, 0, 0) 1))) d_x_account_160 fl_x_203 rfl ?_
    exact ch_iret (ty := .int) d_x_account_163 rfl rfl (Nat.le_of_ble_eq_true rfl) h
  replace h := h.2
  have hx : (Int32.toInt p1 < 0 ∨ 11 < Int32.toInt p1) := by
    have f0 : Int32.toInt p1 ≠ 0 := fun q => e0 (Int32.toInt_inj.mp (q.trans (by decide)))
    have f1 : Int32.toInt p1 ≠ 1 := fun q => e1 (Int32.toInt_inj.mp (q.trans (by decide)))
    have f2 : Int32.toInt p1 ≠ 2 := fun q => e2 (Int32.toInt_inj.mp (q.trans (by decide)))
    have f3 : Int32.toInt p1 ≠ 3 := fun q => e3 (Int32.toInt_inj.mp (q.trans (by decide)))
    have f4 : Int32.toInt p1 ≠ 4 := fun q => e4 (Int32.toInt_inj.mp (q.trans (by decide)))
    have f5 : Int32.toInt p1 ≠ 5 := fun q => e5 (Int32.toInt_inj.mp (q.trans (by decide)))
    have f6 : Int32.toInt p1 ≠ 6 := fun q => e6 (Int32.toInt_inj.mp (q.trans (by decide)))
    have f7 : Int32.toInt p1 ≠ 7 := fun q => e7 (Int32.toInt_inj.mp (q.trans (by decide)))
    have f8 : Int32.toInt p1 ≠ 8 := fun q => e8 (Int32.toInt_inj.mp (q.trans (by decide)))
    have f9 : Int32.toInt p1 ≠ 9 := fun q => e9 (Int32.toInt_inj.mp (q.trans (by decide)))
    have f10 : Int32.toInt p1 ≠ 10 := fun q => e10 (Int32.toInt_inj.mp (q.trans (by decide)))
    have f11 : Int32.toInt p1 ≠ 11 := fun q => e11 (Int32.toInt_inj.mp (q.trans (by decide)))
    omega
  replace h := h hx
  refine ch_tswOut (tgt := 164) d_x_account_1 hx (by decide) ?_
  exact ch_throw d_x_account_164 d_x_account_167 d_x_account_168 d_x_account_171 tw_x_131 (by decide) rfl (Nat.le_of_ble_eq_true rfl) (Nat.le_of_ble_eq_true rfl) (Nat.le_of_ble_eq_true rfl) h
theorem e_x_undo (g : ch_G) (Q : ch_O → ch_M → Prop)  (m : ch_M) (h : ch_J g m_x_undo (ch_rm m_x_undo) (ch_E g m_x_undo Q) 0 [some (.inr (0, 0, 0))] [] m 0) : ch_C g m_x_undo [.inr (0, 0, 0)] m Q :=
  ch_enter mf_x_undo (by intro v hv; simp only [List.mem_cons, List.not_mem_nil, or_false] at hv; rcases hv with rfl <;> rfl) (Nat.le_of_ble_eq_true rfl) h
set_option maxHeartbeats 1600000 in
theorem g_x_undo_0 (g : ch_G) (Q : ch_O → ch_M → Prop)  (m : ch_M) (h : ((¬ (m (2, 0, 0) 2) = 0 → (ch_C g m_p_giveBack [.inr (2, 0, 0), .inr (1, 0, 0)] m (ch_ov (fun (m2 : ch_M) => Q (.inl (some (.inl (.int (m2 (2, 0, 0) 2))))) m2)))) ∧ ((m (2, 0, 0) 2) = 0 → Q (.inr 4) m))) : ch_J g m_x_undo (ch_rm m_x_undo) (ch_E g m_x_undo Q) 0 [some (.inr (0, 0, 0))] [] m 0 := by
  refine ch_aload_n (i := 0) d_x_undo_0 rfl rfl ?_
  refine ch_get (v := .inr (2, 0, 0)) d_x_undo_1 fl_x_28 rfl ?_
  refine ch_get (v := .inl (.int (m (2, 0, 0) 2))) d_x_undo_4 fl_x_265 rfl ?_
  refine ch_if_ne (tgt := 18) d_x_undo_7 (by decide) (fun c => ?_) (fun c => ?_)
  · replace h := h.1 c
    refine ch_aload_n (i := 0) d_x_undo_18 rfl rfl ?_
    refine ch_get (v := .inr (2, 0, 0)) d_x_undo_19 fl_x_28 rfl ?_
    refine ch_aload_n (i := 0) d_x_undo_22 rfl rfl ?_
    refine ch_get (v := .inr (1, 0, 0)) d_x_undo_23 fl_x_10 rfl ?_
    refine ch_callV (as := [.inr (1, 0, 0)]) d_x_undo_26 lk_x_266 mi_p_giveBack me_p_giveBack rfl rfl rfl ⟨Nat.le_of_ble_eq_true rfl, Nat.le_of_ble_eq_true rfl⟩ (Nat.le_of_ble_eq_true rfl) ⟨Nat.le_of_ble_eq_true rfl, Nat.le_of_ble_eq_true rfl⟩ (ch_mono (ch_Kv (fun m2 h => ?_)) h)
    refine ch_aload_n (i := 0) d_x_undo_29 rfl rfl ?_
    refine ch_get (v := .inr (2, 0, 0)) d_x_undo_30 fl_x_28 rfl ?_
    refine ch_get (v := .inl (.int (m2 (2, 0, 0) 2))) d_x_undo_33 fl_x_265 rfl ?_
    exact ch_iret (ty := .int) d_x_undo_36 rfl rfl (Nat.le_of_ble_eq_true rfl) h
  · replace h := h.2 c
    exact ch_throw d_x_undo_10 d_x_undo_13 d_x_undo_14 d_x_undo_17 tw_x_206 (by decide) rfl (Nat.le_of_ble_eq_true rfl) (Nat.le_of_ble_eq_true rfl) (Nat.le_of_ble_eq_true rfl) h
