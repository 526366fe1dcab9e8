theorem e_d_findFault (g : ch_G) (Q : ch_O → ch_M → Prop) (j1 : Nat) (m : ch_M) (h : ch_J g m_d_findFault (ch_rm m_d_findFault) (ch_E g m_d_findFault Q) 0 [some (.inr (7, 0, 0)), some (.inr (6, j1, 0)), some (.inr (4, 0, 0)), none] [] m 0) : ch_C g m_d_findFault [.inr (7, 0, 0), .inr (6, j1, 0), .inr (4, 0, 0)] m Q :=
  ch_enter mf_d_findFault (by intro v hv; simp only [List.mem_cons, List.not_mem_nil, or_false] at hv; rcases hv with rfl | rfl | rfl <;> rfl) (Nat.le_of_ble_eq_true rfl) h
set_option maxHeartbeats 1600000 in
theorem g_d_findFault_0 (g : ch_G) (Q : ch_O → ch_M → Prop) (j1 : Nat) (m : ch_M) (h : (∀ m1 : ch_M, m1 = ch_wr m (7, 0, 0) 0 0 → ch_J g m_d_findFault (ch_rm m_d_findFault) (ch_E g m_d_findFault Q) 7 [some (.inr (7, 0, 0)), some (.inr (6, j1, 0)), some (.inr (4, 0, 0)), some (.inl (.int 0))] [] m1 0)) : ch_J g m_d_findFault (ch_rm m_d_findFault) (ch_E g m_d_findFault Q) 0 [some (.inr (7, 0, 0)), some (.inr (6, j1, 0)), some (.inr (4, 0, 0)), none] [] m 0 := by
  refine ch_aload_n (i := 0) d_d_findFault_0 rfl rfl ?_
  refine ch_iconst (v := 0) d_d_findFault_1 (by decide) ?_
  refine ch_put d_d_findFault_2 fp_d_9 rfl rfl rfl ?_
  generalize hmm1 : ch_wr m (7, 0, 0) 0 0 = m1
  replace h := h m1 hmm1.symm
  refine ch_iconst (v := 0) d_d_findFault_5 (by decide) ?_
  refine ch_istore_n (i := 3) d_d_findFault_6 rfl (Nat.le_of_ble_eq_true rfl) (ls' := [some (.inr (7, 0, 0)), some (.inr (6, j1, 0)), some (.inr (4, 0, 0)), some (.inl (.int 0))]) rfl ?_
  exact h
set_option maxHeartbeats 1600000 in
theorem g_d_findFault_7 (g : ch_G) (Q : ch_O → ch_M → Prop) (j1 : Nat) (x3 : Int32) (m : ch_M) (h : ((60 ≤ x3 → Q (.inl (some (.inl (.int (m (7, 0, 0) 0))))) m) ∧ (¬ 60 ≤ x3 → (ch_C g m_d_takeCommand [.inr (7, 0, 0), .inr (6, j1, 0), .inr (4, 0, 0)] m (ch_oi (fun (r1 : Int32) (m2 : ch_M) => ((¬ r1 = 0 → ((¬ (m2 (7, 0, 0) 0) = (m2 (6, j1, 0) 1) → (ch_C g m_d_takeSign [.inr (7, 0, 0), .inr (6, j1, 0), .inl (.int 59)] m2 (ch_oi (fun (r3 : Int32) (m4 : ch_M) => ((¬ r3 = 0 → ch_J g m_d_findFault (ch_rm m_d_findFault) (ch_E g m_d_findFault Q) 7 [some (.inr (7, 0, 0)), some (.inr (6, j1, 0)), some (.inr (4, 0, 0)), some (.inl (.int (x3 + 1)))] [] m4 0) ∧ (r3 = 0 → Q (.inl (some (.inl (.int (m4 (7, 0, 0) 0))))) m4)))))) ∧ ((m2 (7, 0, 0) 0) = (m2 (6, j1, 0) 1) → Q (.inl (some (.inl (.int (-1))))) m2))) ∧ (r1 = 0 → Q (.inl (some (.inl (.int (m2 (7, 0, 0) 0))))) m2)))))))) : ch_J g m_d_findFault (ch_rm m_d_findFault) (ch_E g m_d_findFault Q) 7 [some (.inr (7, 0, 0)), some (.inr (6, j1, 0)), some (.inr (4, 0, 0)), some (.inl (.int x3))] [] m 0 := by
  refine ch_iload_n (i := 3) d_d_findFault_7 rfl rfl ?_
  refine ch_bipush (v := 60) d_d_findFault_8 (by decide) ?_
  refine ch_icmp_ge (tgt := 61) d_d_findFault_10 (by decide) (fun c => ?_) (fun c => ?_)
  · replace h := h.1 c
    refine ch_aload_n (i := 0) d_d_findFault_61 rfl rfl ?_
    refine ch_get (v := .inl (.int (m (7, 0, 0) 0))) d_d_findFault_62 fl_d_9 rfl ?_
    exact ch_iret (ty := .int) d_d_findFault_65 rfl rfl (Nat.le_of_ble_eq_true rfl) h
  · replace h := h.2 c
    refine ch_aload_n (i := 0) d_d_findFault_13 rfl rfl ?_
    refine ch_aload_n (i := 1) d_d_findFault_14 rfl rfl ?_
    refine ch_aload_n (i := 2) d_d_findFault_15 rfl rfl ?_
    refine ch_callV (as := [.inr (6, j1, 0), .inr (4, 0, 0)]) d_d_findFault_16 lk_d_15 mi_d_takeCommand me_d_takeCommand rfl rfl rfl ⟨Nat.le_of_ble_eq_true rfl, Nat.le_of_ble_eq_true rfl⟩ (Nat.le_of_ble_eq_true rfl) ⟨Nat.le_of_ble_eq_true rfl, Nat.le_of_ble_eq_true rfl⟩ (ch_mono (ch_Ki (fun r1 m2 h => ?_)) h)
    refine ch_if_ne (tgt := 27) d_d_findFault_19 (by decide) (fun c => ?_) (fun c => ?_)
    · replace h := h.1 c
      refine ch_aload_n (i := 0) d_d_findFault_27 rfl rfl ?_
      refine ch_get (v := .inl (.int (m2 (7, 0, 0) 0))) d_d_findFault_28 fl_d_9 rfl ?_
      refine ch_aload_n (i := 1) d_d_findFault_31 rfl rfl ?_
      refine ch_get (v := .inl (.int (m2 (6, j1, 0) 1))) d_d_findFault_32 fl_d_19 rfl ?_
      refine ch_icmp_ne (tgt := 40) d_d_findFault_35 (by decide) (fun c => ?_) (fun c => ?_)
      · replace h := h.1 c
        refine ch_aload_n (i := 0) d_d_findFault_40 rfl rfl ?_
        refine ch_aload_n (i := 1) d_d_findFault_41 rfl rfl ?_
        refine ch_bipush (v := 59) d_d_findFault_42 (by decide) ?_
        refine ch_callV (as := [.inr (6, j1, 0), .inl (.int 59)]) d_d_findFault_44 lk_d_24 mi_d_takeSign me_d_takeSign rfl rfl rfl ⟨Nat.le_of_ble_eq_true rfl, Nat.le_of_ble_eq_true rfl⟩ (Nat.le_of_ble_eq_true rfl) ⟨Nat.le_of_ble_eq_true rfl, Nat.le_of_ble_eq_true rfl⟩ (ch_mono (ch_Ki (fun r3 m4 h => ?_)) h)
        refine ch_if_ne (tgt := 55) d_d_findFault_47 (by decide) (fun c => ?_) (fun c => ?_)
        · replace h := h.1 c
          refine ch_iinc (i := 3) (v := (x3 + 1)) d_d_findFault_55 rfl rfl (Nat.le_of_ble_eq_true rfl) (ls' := [some (.inr (7, 0, 0)), some (.inr (6, j1, 0)), some (.inr (4, 0, 0)), some (.inl (.int (x3 + 1)))]) rfl ?_
          refine ch_goto (tgt := 7) d_d_findFault_58 (by decide) ?_
          exact h
        · replace h := h.2 c
          refine ch_aload_n (i := 0) d_d_findFault_50 rfl rfl ?_
          refine ch_get (v := .inl (.int (m4 (7, 0, 0) 0))) d_d_findFault_51 fl_d_9 rfl ?_
          exact ch_iret (ty := .int) d_d_findFault_54 rfl rfl (Nat.le_of_ble_eq_true rfl) h
      · replace h := h.2 c
        refine ch_iconst (v := (-1)) d_d_findFault_38 (by decide) ?_
        exact ch_iret (ty := .int) d_d_findFault_39 rfl rfl (Nat.le_of_ble_eq_true rfl) h
    · replace h := h.2 c
      refine ch_aload_n (i := 0) d_d_findFault_22 rfl rfl ?_
      refine ch_get (v := .inl (.int (m2 (7, 0, 0) 0))) d_d_findFault_23 fl_d_9 rfl ?_
      exact ch_iret (ty := .int) d_d_findFault_26 rfl rfl (Nat.le_of_ble_eq_true rfl) h
theorem e_d_takeCommand (g : ch_G) (Q : ch_O → ch_M → Prop) (j1 : Nat) (m : ch_M) (h : ch_J g m_d_takeCommand (ch_rm m_d_takeCommand) (ch_E g m_d_takeCommand Q) 0 [some (.inr (7, 0, 0)), some (.inr (6, j1, 0)), some (.inr (4, 0, 0)), none] [] m 0) : ch_C g m_d_takeCommand [.inr (7, 0, 0), .inr (6, j1, 0), .inr (4, 0, 0)] m Q :=
  ch_enter mf_d_takeCommand (by intro v hv; simp only [List.mem_cons, List.not_mem_nil, or_false] at hv; rcases hv with rfl | rfl | rfl <;> rfl) (Nat.le_of_ble_eq_true rfl) h
set_option maxHeartbeats 1600000 in
theorem g_d_takeCommand_0 (g : ch_G) (Q : ch_O → ch_M → Prop) (j1 : Nat) (m : ch_M) (h : (ch_C g m_d_signAt [.inr (7, 0, 0), .inr (6, j1, 0)] m (ch_oi (fun (r1 : Int32) (m2 : ch_M) => (ch_C g m_d_isKind [.inr (7, 0, 0), .inl (.int r1)] m2 (ch_oi (fun (r3 : Int32) (m4 : ch_M) => ((¬ r3 = 0 → (∀ m5 : ch_M, m5 = ch_wr m4 (7, 0, 0) 0 ((m4 (7, 0, 0) 0) + 1) → (ch_C g m_c_set [.inr (4, 0, 0), .inl (.int r1), .inl (.int 0), .inl (.int 0), .inl (.int 0)] m5 (ch_ov (fun (m7 : ch_M) => ((r1 = 99 → (ch_C g m_d_takeChild [.inr (7, 0, 0), .inr (6, j1, 0), .inr (4, 0, 0)] m7 (ch_oi (fun (r8 : Int32) (m9 : ch_M) => ((r8 = 0 → Q (.inl (some (.inl (.int 0)))) m9) ∧ (¬ r8 = 0 → (ch_C g m_d_takeSign [.inr (7, 0, 0), .inr (6, j1, 0), .inl (.int 64)] m9 (ch_oi (fun (r10 : Int32) (m11 : ch_M) => ((r10 = 0 → Q (.inl (some (.inl (.int 0)))) m11) ∧ (¬ r10 = 0 → (ch_C g m_d_takeNumber [.inr (7, 0, 0), .inr (6, j1, 0), .inr (4, 0, 0)] m11 (ch_oi (fun (r12 : Int32) (m13 : ch_M) => ((r12 = 0 → Q (.inl (some (.inl (.int 0)))) m13) ∧ (¬ r12 = 0 → Q (.inl (some (.inl (.int 1)))) m13)))))))))))))))) ∧ (r1 = 100 → (ch_C g m_d_takeChild [.inr (7, 0, 0), .inr (6, j1, 0), .inr (4, 0, 0)] m7 (ch_oi (fun (r14 : Int32) (m15 : ch_M) => (narrow .boolean (.int r14) = .int r14) ∧ Q (.inl (some (.inl (.int r14)))) m15)))) ∧ (r1 = 101 → (ch_C g m_d_takeChild [.inr (7, 0, 0), .inr (6, j1, 0), .inr (4, 0, 0)] m7 (ch_oi (fun (r16 : Int32) (m17 : ch_M) => (narrow .boolean (.int r16) = .int r16) ∧ Q (.inl (some (.inl (.int r16)))) m17)))) ∧ (r1 = 102 → (ch_C g m_d_takeChild [.inr (7, 0, 0), .inr (6, j1, 0), .inr (4, 0, 0)] m7 (ch_oi (fun (r18 : Int32) (m19 : ch_M) => (narrow .boolean (.int r18) = .int r18) ∧ Q (.inl (some (.inl (.int r18)))) m19)))) ∧ (r1 = 103 → (ch_C g m_d_takeChild [.inr (7, 0, 0), .inr (6, j1, 0), .inr (4, 0, 0)] m7 (ch_oi (fun (r20 : Int32) (m21 : ch_M) => ((r20 = 0 → Q (.inl (some (.inl (.int 0)))) m21) ∧ (¬ r20 = 0 → (ch_C g m_d_takeSign [.inr (7, 0, 0), .inr (6, j1, 0), .inl (.int 62)] m21 (ch_oi (fun (r22 : Int32) (m23 : ch_M) => ((r22 = 0 → Q (.inl (some (.inl (.int 0)))) m23) ∧ (¬ r22 = 0 → (ch_C g m_d_takeOther [.inr (7, 0, 0), .inr (6, j1, 0), .inr (4, 0, 0)] m23 (ch_oi (fun (r24 : Int32) (m25 : ch_M) => ((r24 = 0 → Q (.inl (some (.inl (.int 0)))) m25) ∧ (¬ r24 = 0 → (ch_C g m_d_takeSign [.inr (7, 0, 0), .inr (6, j1, 0), .inl (.int 42)] m25 (ch_oi (fun (r26 : Int32) (m27 : ch_M) => ((r26 = 0 → Q (.inl (some (.inl (.int 0)))) m27) ∧ (¬ r26 = 0 → (ch_C g m_d_takeNumber [.inr (7, 0, 0), .inr (6, j1, 0), .inr (4, 0, 0)] m27 (ch_oi (fun (r28 : Int32) (m29 : ch_M) => ((r28 = 0 → Q (.inl (some (.inl (.int 0)))) m29) ∧ (¬ r28 = 0 → Q (.inl (some (.inl (.int 1)))) m29)))))))))))))))))))))))))) ∧ (r1 = 104 → (ch_C g m_d_takeChild [.inr (7, 0, 0), .inr (6, j1, 0), .inr (4, 0, 0)] m7 (ch_oi (fun (r30 : Int32) (m31 : ch_M) => ((r30 = 0 → Q (.inl (some (.inl (.int 0)))) m31) ∧ (¬ r30 = 0 → (ch_C g m_d_takeSign [.inr (7, 0, 0), .inr (6, j1, 0), .inl (.int 58)] m31 (ch_oi (fun (r32 : Int32) (m33 : ch_M) => ((r32 = 0 → Q (.inl (some (.inl (.int 0)))) m33) ∧ (¬ r32 = 0 → (ch_C g m_d_takeSteps [.inr (7, 0, 0), .inr (6, j1, 0), .inr (5, 0, 0)] m33 (ch_oi (fun (r34 : Int32) (m35 : ch_M) => ((r34 = 0 → Q (.inl (some (.inl (.int 0)))) m35) ∧ (¬ r34 = 0 → Q (.inl (some (.inl (.int 1)))) m35)))))))))))))))) ∧ (r1 = 105 → (ch_C g m_d_takeChild [.inr (7, 0, 0), .inr (6, j1, 0), .inr (4, 0, 0)] m7 (ch_oi (fun (r36 : Int32) (m37 : ch_M) => (narrow .boolean (.int r36) = .int r36) ∧ Q (.inl (some (.inl (.int r36)))) m37)))) ∧ (r1 = 106 → (ch_C g m_d_takeChild [.inr (7, 0, 0), .inr (6, j1, 0), .inr (4, 0, 0)] m7 (ch_oi (fun (r38 : Int32) (m39 : ch_M) => (narrow .boolean (.int r38) = .int r38) ∧ Q (.inl (some (.inl (.int r38)))) m39)))) ∧ (r1 = 107 → (ch_C g m_d_takeChild [.inr (7, 0, 0), .inr (6, j1, 0), .inr (4, 0, 0)] m7 (ch_oi (fun (r40 : Int32) (m41 : ch_M) => (narrow .boolean (.int r40) = .int r40) ∧ Q (.inl (some (.inl (.int r40)))) m41)))) ∧ (r1 = 108 → (ch_C g m_d_takeChild [.inr (7, 0, 0), .inr (6, j1, 0), .inr (4, 0, 0)] m7 (ch_oi (fun (r42 : Int32) (m43 : ch_M) => (narrow .boolean (.int r42) = .int r42) ∧ Q (.inl (some (.inl (.int r42)))) m43)))) ∧ (r1 = 109 → (ch_C g m_d_takeChild [.inr (7, 0, 0), .inr (6, j1, 0), .inr (4, 0, 0)] m7 (ch_oi (fun (r44 : Int32) (m45 : ch_M) => (narrow .boolean (.int r44) = .int r44) ∧ Q (.inl (some (.inl (.int r44)))) m45)))) ∧ (r1 = 110 → (ch_C g m_d_takeNumber [.inr (7, 0, 0), .inr (6, j1, 0), .inr (4, 0, 0)] m7 (ch_oi (fun (r46 : Int32) (m47 : ch_M) => (narrow .boolean (.int r46) = .int r46) ∧ Q (.inl (some (.inl (.int r46)))) m47)))) ∧ (r1 = 111 → (ch_C g m_d_takeChild [.inr (7, 0, 0), .inr (6, j1, 0), .inr (4, 0, 0)] m7 (ch_oi (fun (r48 : Int32) (m49 : ch_M) => (narrow .boolean (.int r48) = .int r48) ∧ Q (.inl (some (.inl (.int r48)))) m49)))) ∧ (r1 = 112 → (ch_C g m_d_takeChild [.inr (7, 0, 0), .inr (6, j1, 0), .inr (4, 0, 0)] m7 (ch_oi (fun (r50 : Int32) (m51 : ch_M) => (narrow .boolean (.int r50) = .int r50) ∧ Q (.inl (some (.inl (.int r50)))) m51)))) ∧ (r1 = 113 → (ch_C g m_d_takeChild [.inr (7, 0, 0), .inr (6, j1, 0), .inr (4, 0, 0)] m7 (ch_oi (fun (r52 : Int32) (m53 : ch_M) => (narrow .boolean (.int r52) = .int r52) ∧ Q (.inl (some (.inl (.int r52)))) m53)))) ∧ (r1 = 114 → (ch_C g m_d_takeDigit [.inr (7, 0, 0), .inr (6, j1, 0), .inr (4, 0, 0)] m7 (ch_oi (fun (r54 : Int32) (m55 : ch_M) => (narrow .boolean (.int r54) = .int r54) ∧ Q (.inl (some (.inl (.int r54)))) m55)))) ∧ (r1 = 115 → (ch_C g m_d_takeChild [.inr (7, 0, 0), .inr (6, j1, 0), .inr (4, 0, 0)] m7 (ch_oi (fun (r56 : Int32) (m57 : ch_M) => (narrow .boolean (.int r56) = .int r56) ∧ Q (.inl (some (.inl (.int r56)))) m57)))) ∧ (r1 = 116 → Q (.inl (some (.inl (.int 1)))) m7) ∧ ((Int32.toInt r1 < 99 ∨ 116 < Int32.toInt r1) → (ch_C g m_d_takeChild [.inr (7, 0, 0), .inr (6, j1, 0), .inr (4, 0, 0)] m7 (ch_oi (fun (r58 : Int32) (m59 : ch_M) => (narrow .boolean (.int r58) = .int r58) ∧ Q (.inl (some (.inl (.int r58)))) m59)))))))))) ∧ (r3 = 0 → Q (.inl (some (.inl (.int 0)))) m4))))))))) : ch_J g m_d_takeCommand (ch_rm m_d_takeCommand) (ch_E g m_d_takeCommand Q) 0 [some (.inr (7, 0, 0)), some (.inr (6, j1, 0)), some (.inr (4, 0, 0)), none] [] m 0 := by
  refine ch_aload_n (i := 0) d_d_takeCommand_0 rfl rfl ?_
  refine ch_aload_n (i := 1) d_d_takeCommand_1 rfl rfl ?_
  refine ch_callV (as := [.inr (6, j1, 0)]) d_d_takeCommand_2 lk_d_28 mi_d_signAt me_d_signAt rfl rfl rfl ⟨Nat.le_of_ble_eq_true rfl, Nat.le_of_ble_eq_true rfl⟩ (Nat.le_of_ble_eq_true rfl) ⟨Nat.le_of_ble_eq_true rfl, Nat.le_of_ble_eq_true rfl⟩ (ch_mono (ch_Ki (fun r1 m2 h => ?_)) h)
  refine ch_istore_n (i := 3) d_d_takeCommand_5 rfl (Nat.le_of_ble_eq_true rfl) (ls' := [some (.inr (7, 0, 0)), some (.inr (6, j1, 0)), some (.inr (4, 0, 0)), some (.inl (.int r1))]) rfl ?_
  refine ch_aload_n (i := 0) d_d_takeCommand_6 rfl rfl ?_
  refine ch_iload_n (i := 3) d_d_takeCommand_7 rfl rfl ?_
  refine ch_callV (as := [.inl (.int r1)]) d_d_takeCommand_8 lk_d_32 mi_d_isKind me_d_isKind rfl rfl rfl ⟨Nat.le_of_ble_eq_true rfl, Nat.le_of_ble_eq_true rfl⟩ (Nat.le_of_ble_eq_true rfl) ⟨Nat.le_of_ble_eq_true rfl, Nat.le_of_ble_eq_true rfl⟩ (ch_mono (ch_Ki (fun r3 m4 h => ?_)) h)
  refine ch_if_ne (tgt := 16) d_d_takeCommand_11 (by decide) (fun c => ?_) (fun c => ?_)
  · replace h := h.1 c
    refine ch_aload_n (i := 0) d_d_takeCommand_16 rfl rfl ?_
    refine ch_dup d_d_takeCommand_17 rfl ?_
    refine ch_get (v := .inl (.int (m4 (7, 0, 0) 0))) d_d_takeCommand_18 fl_d_9 rfl ?_
    refine ch_iconst (v := 1) d_d_takeCommand_21 (by decide) ?_
    refine ch_iadd d_d_takeCommand_22 ?_
    refine ch_put d_d_takeCommand_23 fp_d_9 rfl rfl rfl ?_
    generalize hmm5 : ch_wr m4 (7, 0, 0) 0 ((m4 (7, 0, 0) 0) + 1) = m5
    replace h := h m5 hmm5.symm
    refine ch_aload_n (i := 2) d_d_takeCommand_26 rfl rfl ?_
    refine ch_iload_n (i := 3) d_d_takeCommand_27 rfl rfl ?_
    refine ch_iconst (v := 0) d_d_takeCommand_28 (by decide) ?_
    refine ch_iconst (v := 0) d_d_takeCommand_29 (by decide) ?_
    refine ch_iconst (v := 0) d_d_takeCommand_30 (by decide) ?_
    refine ch_callV (as := [.inl (.int r1), .inl (.int 0), .inl (.int 0), .inl (.int 0)]) d_d_takeCommand_31 lk_d_36 mi_c_set me_c_set rfl rfl rfl ⟨Nat.le_of_ble_eq_true rfl, Nat.le_of_ble_eq_true rfl⟩ (Nat.le_of_ble_eq_true rfl) ⟨Nat.le_of_ble_eq_true rfl, Nat.le_of_ble_eq_true rfl⟩ (ch_mono (ch_Kv (fun m7 h => ?_)) h)
    refine ch_iload_n (i := 3) d_d_takeCommand_34 rfl rfl ?_
    by_cases e99 : r1 = 99
    · replace h := h.1 e99
      refine ch_tswIn (tgt := 127) (off := 92) d_d_takeCommand_35 (by rw [e99]; decide) (by rw [e99]; decide) (by rw [e99]; rfl) (by decide) ?_
      refine ch_aload_n (i := 0) d_d_takeCommand_127 rfl rfl ?_
      refine ch_aload_n (i := 1) d_d_takeCommand_128 rfl rfl ?_
      refine ch_aload_n (i := 2) d_d_takeCommand_129 rfl rfl ?_
      refine ch_callV (as := [.inr (6, j1, 0), .inr (4, 0, 0)]) d_d_takeCommand_130 lk_d_45 mi_d_takeChild me_d_takeChild rfl rfl rfl ⟨Nat.le_of_ble_eq_true rfl, Nat.le_of_ble_eq_true rfl⟩ (Nat.le_of_ble_eq_true rfl) ⟨Nat.le_of_ble_eq_true rfl, Nat.le_of_ble_eq_true rfl⟩ (ch_mono (ch_Ki (fun r8 m9 h => ?_)) h)
      refine ch_if_eq (tgt := 159) d_d_takeCommand_133 (by decide) (fun c => ?_) (fun c => ?_)
      · replace h := h.1 c
        refine ch_iconst (v := 0) d_d_takeCommand_159 (by decide) ?_
        exact ch_iret (ty := .boolean) d_d_takeCommand_160 rfl rfl (Nat.le_of_ble_eq_true rfl) h
      · replace h := h.2 c
        refine ch_aload_n (i := 0) d_d_takeCommand_136 rfl rfl ?_
        refine ch_aload_n (i := 1) d_d_takeCommand_137 rfl rfl ?_
        refine ch_bipush (v := 64) d_d_takeCommand_138 (by decide) ?_
        refine ch_callV (as := [.inr (6, j1, 0), .inl (.int 64)]) d_d_takeCommand_140 lk_d_24 mi_d_takeSign me_d_takeSign rfl rfl rfl ⟨Nat.le_of_ble_eq_true rfl, Nat.le_of_ble_eq_true rfl⟩ (Nat.le_of_ble_eq_true rfl) ⟨Nat.le_of_ble_eq_true rfl, Nat.le_of_ble_eq_true rfl⟩ (ch_mono (ch_Ki (fun r10 m11 h => ?_)) h)
        refine ch_if_eq (tgt := 159) d_d_takeCommand_143 (by decide) (fun c => ?_) (fun c => ?_)
        · replace h := h.1 c
          refine ch_iconst (v := 0) d_d_takeCommand_159 (by decide) ?_
          exact ch_iret (ty := .boolean) d_d_takeCommand_160 rfl rfl (Nat.le_of_ble_eq_true rfl) h
        · replace h := h.2 c
          refine ch_aload_n (i := 0) d_d_takeCommand_146 rfl rfl ?_
          refine ch_aload_n (i := 1) d_d_takeCommand_147 rfl rfl ?_
          refine ch_aload_n (i := 2) d_d_takeCommand_148 rfl rfl ?_
          refine ch_callV (as := [.inr (6, j1, 0), .inr (4, 0, 0)]) d_d_takeCommand_149 lk_d_42 mi_d_takeNumber me_d_takeNumber rfl rfl rfl ⟨Nat.le_of_ble_eq_true rfl, Nat.le_of_ble_eq_true rfl⟩ (Nat.le_of_ble_eq_true rfl) ⟨Nat.le_of_ble_eq_true rfl, Nat.le_of_ble_eq_true rfl⟩ (ch_mono (ch_Ki (fun r12 m13 h => ?_)) h)
          refine ch_if_eq (tgt := 159) d_d_takeCommand_152 (by decide) (fun c => ?_) (fun c => ?_)
          · replace h := h.1 c
            refine ch_iconst (v := 0) d_d_takeCommand_159 (by decide) ?_
            exact ch_iret (ty := .boolean) d_d_takeCommand_160 rfl rfl (Nat.le_of_ble_eq_true rfl) h
          · replace h := h.2 c
            refine ch_iconst (v := 1) d_d_takeCommand_155 (by decide) ?_
            refine ch_goto (tgt := 160) d_d_takeCommand_156 (by decide) ?_
            exact ch_iret (ty := .boolean) d_d_takeCommand_160 rfl rfl (Nat.le_of_ble_eq_true rfl) h
    replace h := h.2
    by_cases e100 : r1 = 100
    · replace h := h.1 e100
      refine ch_tswIn (tgt := 260) (off := 225) d_d_takeCommand_35 (by rw [e100]; decide) (by rw [e100]; decide) (by rw [e100]; rfl) (by decide) ?_
      refine ch_aload_n (i := 0) d_d_takeCommand_260 rfl rfl ?_
      refine ch_aload_n (i := 1) d_d_takeCommand_261 rfl rfl ?_
      refine ch_aload_n (i := 2) d_d_takeCommand_262 rfl rfl ?_
      refine ch_callV (as := [.inr (6, j1, 0), .inr (4, 0, 0)]) d_d_takeCommand_263 lk_d_45 mi_d_takeChild me_d_takeChild rfl rfl rfl ⟨Nat.le_of_ble_eq_true rfl, Nat.le_of_ble_eq_true rfl⟩ (Nat.le_of_ble_eq_true rfl) ⟨Nat.le_of_ble_eq_true rfl, Nat.le_of_ble_eq_true rfl⟩ (ch_mono (ch_Ki (fun r14 m15 h => ?_)) h)
      exact ch_iret (ty := .boolean) d_d_takeCommand_266 rfl h.1 (Nat.le_of_ble_eq_true rfl) h.2
    replace h := h.2
    by_cases e101 : r1 = 101
    · replace h := h.1 e101
      refine ch_tswIn (tgt := 260) (off := 225) d_d_takeCommand_35 (by rw [e101]; decide) (by rw [e101]; decide) (by rw [e101]; rfl) (by decide) ?_
      refine ch_aload_n (i := 0) d_d_takeCommand_260 rfl rfl ?_
      refine ch_aload_n (i := 1) d_d_takeCommand_261 rfl rfl ?_
      refine ch_aload_n (i := 2) d_d_takeCommand_262 rfl rfl ?_
      refine ch_callV (as := [.inr (6, j1, 0), .inr (4, 0, 0)]) d_d_takeCommand_263 lk_d_45 mi_d_takeChild me_d_takeChild rfl rfl rfl ⟨Nat.le_of_ble_eq_true rfl, Nat.le_of_ble_eq_true rfl⟩ (Nat.le_of_ble_eq_true rfl) ⟨Nat.le_of_ble_eq_true rfl, Nat.le_of_ble_eq_true rfl⟩ (ch_mono (ch_Ki (fun r16 m17 h => ?_)) h)
      exact ch_iret (ty := .boolean) d_d_takeCommand_266 rfl h.1 (Nat.le_of_ble_eq_true rfl) h.2
    replace h := h.2
    by_cases e102 : r1 = 102
    · replace h := h.1 e102
      refine ch_tswIn (tgt := 260) (off := 225) d_d_takeCommand_35 (by rw [e102]; decide) (by rw [e102]; decide) (by rw [e102]; rfl) (by decide) ?_
      refine ch_aload_n (i := 0) d_d_takeCommand_260 rfl rfl ?_
      refine ch_aload_n (i := 1) d_d_takeCommand_261 rfl rfl ?_
      refine ch_aload_n (i := 2) d_d_takeCommand_262 rfl rfl ?_
      refine ch_callV (as := [.inr (6, j1, 0), .inr (4, 0, 0)]) d_d_takeCommand_263 lk_d_45 mi_d_takeChild me_d_takeChild rfl rfl rfl ⟨Nat.le_of_ble_eq_true rfl, Nat.le_of_ble_eq_true rfl⟩ (Nat.le_of_ble_eq_true rfl) ⟨Nat.le_of_ble_eq_true rfl, Nat.le_of_ble_eq_true rfl⟩ (ch_mono (ch_Ki (fun r18 m19 h => ?_)) h)
      exact ch_iret (ty := .boolean) d_d_takeCommand_266 rfl h.1 (Nat.le_of_ble_eq_true rfl) h.2
    replace h := h.2
    by_cases e103 : r1 = 103
    · replace h := h.1 e103
      refine ch_tswIn (tgt := 207) (off := 172) d_d_takeCommand_35 (by rw [e103]; decide) (by rw [e103]; decide) (by rw [e103]; rfl) (by decide) ?_
      refine ch_aload_n (i := 0) d_d_takeCommand_207 rfl rfl ?_
      refine ch_aload_n (i := 1) d_d_takeCommand_208 rfl rfl ?_
      refine ch_aload_n (i := 2) d_d_takeCommand_209 rfl rfl ?_
      refine ch_callV (as := [.inr (6, j1, 0), .inr (4, 0, 0)]) d_d_takeCommand_210 lk_d_45 mi_d_takeChild me_d_takeChild rfl rfl rfl ⟨Nat.le_of_ble_eq_true rfl, Nat.le_of_ble_eq_true rfl⟩ (Nat.le_of_ble_eq_true rfl) ⟨Nat.le_of_ble_eq_true rfl, Nat.le_of_ble_eq_true rfl⟩ (ch_mono (ch_Ki (fun r20 m21 h => ?_)) h)
      refine ch_if_eq (tgt := 258) d_d_takeCommand_213 (by decide) (fun c => ?_) (fun c => ?_)
      · replace h := h.1 c
        refine ch_iconst (v := 0) d_d_takeCommand_258 (by decide) ?_
        exact ch_iret (ty := .boolean) d_d_takeCommand_259 rfl rfl (Nat.le_of_ble_eq_true rfl) h
      · replace h := h.2 c
        refine ch_aload_n (i := 0) d_d_takeCommand_216 rfl rfl ?_
        refine ch_aload_n (i := 1) d_d_takeCommand_217 rfl rfl ?_
        refine ch_bipush (v := 62) d_d_takeCommand_218 (by decide) ?_
        refine ch_callV (as := [.inr (6, j1, 0), .inl (.int 62)]) d_d_takeCommand_220 lk_d_24 mi_d_takeSign me_d_takeSign rfl rfl rfl ⟨Nat.le_of_ble_eq_true rfl, Nat.le_of_ble_eq_true rfl⟩ (Nat.le_of_ble_eq_true rfl) ⟨Nat.le_of_ble_eq_true rfl, Nat.le_of_ble_eq_true rfl⟩ (ch_mono (ch_Ki (fun r22 m23 h => ?_)) h)
        refine ch_if_eq (tgt := 258) d_d_takeCommand_223 (by decide) (fun c => ?_) (fun c => ?_)
        · replace h := h.1 c
          refine ch_iconst (v := 0) d_d_takeCommand_258 (by decide) ?_
          exact ch_iret (ty := .boolean) d_d_takeCommand_259 rfl rfl (Nat.le_of_ble_eq_true rfl) h
        · replace h := h.2 c
          refine ch_aload_n (i := 0) d_d_takeCommand_226 rfl rfl ?_
          refine ch_aload_n (i := 1) d_d_takeCommand_227 rfl rfl ?_
          refine ch_aload_n (i := 2) d_d_takeCommand_228 rfl rfl ?_
          refine ch_callV (as := [.inr (6, j1, 0), .inr (4, 0, 0)]) d_d_takeCommand_229 lk_d_59 mi_d_takeOther me_d_takeOther rfl rfl rfl ⟨Nat.le_of_ble_eq_true rfl, Nat.le_of_ble_eq_true rfl⟩ (Nat.le_of_ble_eq_true rfl) ⟨Nat.le_of_ble_eq_true rfl, Nat.le_of_ble_eq_true rfl⟩ (ch_mono (ch_Ki (fun r24 m25 h => ?_)) h)
          refine ch_if_eq (tgt := 258) d_d_takeCommand_232 (by decide) (fun c => ?_) (fun c => ?_)
          · replace h := h.1 c
            refine ch_iconst (v := 0) d_d_takeCommand_258 (by decide) ?_
            exact ch_iret (ty := .boolean) d_d_takeCommand_259 rfl rfl (Nat.le_of_ble_eq_true rfl) h
          · replace h := h.2 c
            refine ch_aload_n (i := 0) d_d_takeCommand_235 rfl rfl ?_
            refine ch_aload_n (i := 1) d_d_takeCommand_236 rfl rfl ?_
            refine ch_bipush (v := 42) d_d_takeCommand_237 (by decide) ?_
            refine ch_callV (as := [.inr (6, j1, 0), .inl (.int 42)]) d_d_takeCommand_239 lk_d_24 mi_d_takeSign me_d_takeSign rfl rfl rfl ⟨Nat.le_of_ble_eq_true rfl, Nat.le_of_ble_eq_true rfl⟩ (Nat.le_of_ble_eq_true rfl) ⟨Nat.le_of_ble_eq_true rfl, Nat.le_of_ble_eq_true rfl⟩ (ch_mono (ch_Ki (fun r26 m27 h => ?_)) h)
            refine ch_if_eq (tgt := 258) d_d_takeCommand_242 (by decide) (fun c => ?_) (fun c => ?_)
            · replace h := h.1 c
              refine ch_iconst (v := 0) d_d_takeCommand_258 (by decide) ?_
              exact ch_iret (ty := .boolean) d_d_takeCommand_259 rfl rfl (Nat.le_of_ble_eq_true rfl) h
            · replace h := h.2 c
              refine ch_aload_n (i := 0) d_d_takeCommand_245 rfl rfl ?_
              refine ch_aload_n (i := 1) d_d_takeCommand_246 rfl rfl ?_
              refine ch_aload_n (i := 2) d_d_takeCommand_247 rfl rfl ?_
              refine ch_callV (as := [.inr (6, j1, 0), .inr (4, 0, 0)]) d_d_takeCommand_248 lk_d_42 mi_d_takeNumber me_d_takeNumber rfl rfl rfl ⟨Nat.le_of_ble_eq_true rfl, Nat.le_of_ble_eq_true rfl⟩ (Nat.le_of_ble_eq_true rfl) ⟨Nat.le_of_ble_eq_true rfl, Nat.le_of_ble_eq_true rfl⟩ (ch_mono (ch_Ki (fun r28 m29 h => ?_)) h)
              refine ch_if_eq (tgt := 258) d_d_takeCommand_251 (by decide) (fun c => ?_) (fun c => ?_)
              · replace h := h.1 c
                refine ch_iconst (v := 0) d_d_takeCommand_258 (by decide) ?_
                exact ch_iret (ty := .boolean) d_d_takeCommand_259 rfl rfl (Nat.le_of_ble_eq_true rfl) h
              · replace h := h.2 c
                refine ch_iconst (v := 1) d_d_takeCommand_254 (by decide) ?_
                refine ch_goto (tgt := 259) d_d_takeCommand_255 (by decide) ?_
                exact ch_iret (ty := .boolean) d_d_takeCommand_259 rfl rfl (Nat.le_of_ble_eq_true rfl) h
    replace h := h.2
    by_cases e104 : r1 = 104
    · replace h := h.1 e104
      refine ch_tswIn (tgt := 161) (off := 126) d_d_takeCommand_35 (by rw [e104]; decide) (by rw [e104]; decide) (by rw [e104]; rfl) (by decide) ?_
      refine ch_aload_n (i := 0) d_d_takeCommand_161 rfl rfl ?_
      refine ch_aload_n (i := 1) d_d_takeCommand_162 rfl rfl ?_
      refine ch_aload_n (i := 2) d_d_takeCommand_163 rfl rfl ?_
      refine ch_callV (as := [.inr (6, j1, 0), .inr (4, 0, 0)]) d_d_takeCommand_164 lk_d_45 mi_d_takeChild me_d_takeChild rfl rfl rfl ⟨Nat.le_of_ble_eq_true rfl, Nat.le_of_ble_eq_true rfl⟩ (Nat.le_of_ble_eq_true rfl) ⟨Nat.le_of_ble_eq_true rfl, Nat.le_of_ble_eq_true rfl⟩ (ch_mono (ch_Ki (fun r30 m31 h => ?_)) h)
      refine ch_if_eq (tgt := 196) d_d_takeCommand_167 (by decide) (fun c => ?_) (fun c => ?_)
      · replace h := h.1 c
        refine ch_iconst (v := 0) d_d_takeCommand_196 (by decide) ?_
        exact ch_iret (ty := .boolean) d_d_takeCommand_197 rfl rfl (Nat.le_of_ble_eq_true rfl) h
      · replace h := h.2 c
        refine ch_aload_n (i := 0) d_d_takeCommand_170 rfl rfl ?_
        refine ch_aload_n (i := 1) d_d_takeCommand_171 rfl rfl ?_
        refine ch_bipush (v := 58) d_d_takeCommand_172 (by decide) ?_
        refine ch_callV (as := [.inr (6, j1, 0), .inl (.int 58)]) d_d_takeCommand_174 lk_d_24 mi_d_takeSign me_d_takeSign rfl rfl rfl ⟨Nat.le_of_ble_eq_true rfl, Nat.le_of_ble_eq_true rfl⟩ (Nat.le_of_ble_eq_true rfl) ⟨Nat.le_of_ble_eq_true rfl, Nat.le_of_ble_eq_true rfl⟩ (ch_mono (ch_Ki (fun r32 m33 h => ?_)) h)
        refine ch_if_eq (tgt := 196) d_d_takeCommand_177 (by decide) (fun c => ?_) (fun c => ?_)
        · replace h := h.1 c
          refine ch_iconst (v := 0) d_d_takeCommand_196 (by decide) ?_
          exact ch_iret (ty := .boolean) d_d_takeCommand_197 rfl rfl (Nat.le_of_ble_eq_true rfl) h
        · replace h := h.2 c
          refine ch_aload_n (i := 0) d_d_takeCommand_180 rfl rfl ?_
          refine ch_aload_n (i := 1) d_d_takeCommand_181 rfl rfl ?_
          refine ch_aload_n (i := 2) d_d_takeCommand_182 rfl rfl ?_
          refine ch_get (v := .inr (5, 0, 0)) d_d_takeCommand_183 fl_d_48 rfl ?_
          refine ch_callV (as := [.inr (6, j1, 0), .inr (5, 0, 0)]) d_d_takeCommand_186 lk_d_52 mi_d_takeSteps me_d_takeSteps rfl rfl rfl ⟨Nat.le_of_ble_eq_true rfl, Nat.le_of_ble_eq_true rfl⟩ (Nat.le_of_ble_eq_true rfl) ⟨Nat.le_of_ble_eq_true rfl, Nat.le_of_ble_eq_true rfl⟩ (ch_mono (ch_Ki (fun r34 m35 h => ?_)) h)
          refine ch_if_eq (tgt := 196) d_d_takeCommand_189 (by decide) (fun c => ?_) (fun c => ?_)
          · replace h := h.1 c
            refine ch_iconst (v := 0) d_d_takeCommand_196 (by decide) ?_
            exact ch_iret (ty := .boolean) d_d_takeCommand_197 rfl rfl (Nat.le_of_ble_eq_true rfl) h
          · replace h := h.2 c
            refine ch_iconst (v := 1) d_d_takeCommand_192 (by decide) ?_
            refine ch_goto (tgt := 197) d_d_takeCommand_193 (by decide) ?_
            exact ch_iret (ty := .boolean) d_d_takeCommand_197 rfl rfl (Nat.le_of_ble_eq_true rfl) h
    replace h := h.2
    by_cases e105 : r1 = 105
    · replace h := h.1 e105
      refine ch_tswIn (tgt := 260) (off := 225) d_d_takeCommand_35 (by rw [e105]; decide) (by rw [e105]; decide) (by rw [e105]; rfl) (by decide) ?_
      refine ch_aload_n (i := 0) d_d_takeCommand_260 rfl rfl ?_
      refine ch_aload_n (i := 1) d_d_takeCommand_261 rfl rfl ?_
      refine ch_aload_n (i := 2) d_d_takeCommand_262 rfl rfl ?_
      refine ch_callV (as := [.inr (6, j1, 0), .inr (4, 0, 0)]) d_d_takeCommand_263 lk_d_45 mi_d_takeChild me_d_takeChild rfl rfl rfl ⟨Nat.le_of_ble_eq_true rfl, Nat.le_of_ble_eq_true rfl⟩ (Nat.le_of_ble_eq_true rfl) ⟨Nat.le_of_ble_eq_true rfl, Nat.le_of_ble_eq_true rfl⟩ (ch_mono (ch_Ki (fun r36 m37 h => ?_)) h)
      exact ch_iret (ty := .boolean) d_d_takeCommand_266 rfl h.1 (Nat.le_of_ble_eq_true rfl) h.2
    replace h := h.2
    by_cases e106 : r1 = 106
    · replace h := h.1 e106
      refine ch_tswIn (tgt := 260) (off := 225) d_d_takeCommand_35 (by rw [e106]; decide) (by rw [e106]; decide) (by rw [e106]; rfl) (by decide) ?_
      refine ch_aload_n (i := 0) d_d_takeCommand_260 rfl rfl ?_
      refine ch_aload_n (i := 1) d_d_takeCommand_261 rfl rfl ?_
      refine ch_aload_n (i := 2) d_d_takeCommand_262 rfl rfl ?_
      refine ch_callV (as := [.inr (6, j1, 0), .inr (4, 0, 0)]) d_d_takeCommand_263 lk_d_45 mi_d_takeChild me_d_takeChild rfl rfl rfl ⟨Nat.le_of_ble_eq_true rfl, Nat.le_of_ble_eq_true rfl⟩ (Nat.le_of_ble_eq_true rfl) ⟨Nat.le_of_ble_eq_true rfl, Nat.le_of_ble_eq_true rfl⟩ (ch_mono (ch_Ki (fun r38 m39 h => ?_)) h)
      exact ch_iret (ty := .boolean) d_d_takeCommand_266 rfl h.1 (Nat.le_of_ble_eq_true rfl) h.2
    replace h := h.2
    by_cases e107 : r1 = 107
    · replace h := h.1 e107
      refine ch_tswIn (tgt := 260) (off := 225) d_d_takeCommand_35 (by rw [e107]; decide) (by rw [e107]; decide) (by rw [e107]; rfl) (by decide) ?_
      refine ch_aload_n (i := 0) d_d_takeCommand_260 rfl rfl ?_
      refine ch_aload_n (i := 1) d_d_takeCommand_261 rfl rfl ?_
      refine ch_aload_n (i := 2) d_d_takeCommand_262 rfl rfl ?_
      refine ch_callV (as := [.inr (6, j1, 0), .inr (4, 0, 0)]) d_d_takeCommand_263 lk_d_45 mi_d_takeChild me_d_takeChild rfl rfl rfl ⟨Nat.le_of_ble_eq_true rfl, Nat.le_of_ble_eq_true rfl⟩ (Nat.le_of_ble_eq_true rfl) ⟨Nat.le_of_ble_eq_true rfl, Nat.le_of_ble_eq_true rfl⟩ (ch_mono (ch_Ki (fun r40 m41 h => ?_)) h)
      exact ch_iret (ty := .boolean) d_d_takeCommand_266 rfl h.1 (Nat.le_of_ble_eq_true rfl) h.2
    replace h := h.2
    by_cases e108 : r1 = 108
    · replace h := h.1 e108
      refine ch_tswIn (tgt := 260) (off := 225) d_d_takeCommand_35 (by rw [e108]; decide) (by rw [e108]; decide) (by rw [e108]; rfl) (by decide) ?_
      refine ch_aload_n (i := 0) d_d_takeCommand_260 rfl rfl ?_
      refine ch_aload_n (i := 1) d_d_takeCommand_261 rfl rfl ?_
      refine ch_aload_n (i := 2) d_d_takeCommand_262 rfl rfl ?_
      refine ch_callV (as := [.inr (6, j1, 0), .inr (4, 0, 0)]) d_d_takeCommand_263 lk_d_45 mi_d_takeChild me_d_takeChild rfl rfl rfl ⟨Nat.le_of_ble_eq_true rfl, Nat.le_of_ble_eq_true rfl⟩ (Nat.le_of_ble_eq_true rfl) ⟨Nat.le_of_ble_eq_true rfl, Nat.le_of_ble_eq_true rfl⟩ (ch_mono (ch_Ki (fun r42 m43 h => ?_)) h)
      exact ch_iret (ty := .boolean) d_d_takeCommand_266 rfl h.1 (Nat.le_of_ble_eq_true rfl) h.2
    replace h := h.2
    by_cases e109 : r1 = 109
    · replace h := h.1 e109
      refine ch_tswIn (tgt := 260) (off := 225) d_d_takeCommand_35 (by rw [e109]; decide) (by rw [e109]; decide) (by rw [e109]; rfl) (by decide) ?_
      refine ch_aload_n (i := 0) d_d_takeCommand_260 rfl rfl ?_
      refine ch_aload_n (i := 1) d_d_takeCommand_261 rfl rfl ?_
      refine ch_aload_n (i := 2) d_d_takeCommand_262 rfl rfl ?_
      refine ch_callV (as := [.inr (6, j1, 0), .inr (4, 0, 0)]) d_d_takeCommand_263 lk_d_45 mi_d_takeChild me_d_takeChild rfl rfl rfl ⟨Nat.le_of_ble_eq_true rfl, Nat.le_of_ble_eq_true rfl⟩ (Nat.le_of_ble_eq_true rfl) ⟨Nat.le_of_ble_eq_true rfl, Nat.le_of_ble_eq_true rfl⟩ (ch_mono (ch_Ki (fun r44 m45 h => ?_)) h)
      exact ch_iret (ty := .boolean) d_d_takeCommand_266 rfl h.1 (Nat.le_of_ble_eq_true rfl) h.2
    replace h := h.2
    by_cases e110 : r1 = 110
    · replace h := h.1 e110
      refine ch_tswIn (tgt := 120) (off := 85) d_d_takeCommand_35 (by rw [e110]; decide) (by rw [e110]; decide) (by rw [e110]; rfl) (by decide) ?_
      refine ch_aload_n (i := 0) d_d_takeCommand_120 rfl rfl ?_
      refine ch_aload_n (i := 1) d_d_takeCommand_121 rfl rfl ?_
      refine ch_aload_n (i := 2) d_d_takeCommand_122 rfl rfl ?_
      refine ch_callV (as := [.inr (6, j1, 0), .inr (4, 0, 0)]) d_d_takeCommand_123 lk_d_42 mi_d_takeNumber me_d_takeNumber rfl rfl rfl ⟨Nat.le_of_ble_eq_true rfl, Nat.le_of_ble_eq_true rfl⟩ (Nat.le_of_ble_eq_true rfl) ⟨Nat.le_of_ble_eq_true rfl, Nat.le_of_ble_eq_true rfl⟩ (ch_mono (ch_Ki (fun r46 m47 h => ?_)) h)
      exact ch_iret (ty := .boolean) d_d_takeCommand_126 rfl h.1 (Nat.le_of_ble_eq_true rfl) h.2
    replace h := h.2
    by_cases e111 : r1 = 111
    · replace h := h.1 e111
      refine ch_tswIn (tgt := 260) (off := 225) d_d_takeCommand_35 (by rw [e111]; decide) (by rw [e111]; decide) (by rw [e111]; rfl) (by decide) ?_
      refine ch_aload_n (i := 0) d_d_takeCommand_260 rfl rfl ?_
      refine ch_aload_n (i := 1) d_d_takeCommand_261 rfl rfl ?_
      refine ch_aload_n (i := 2) d_d_takeCommand_262 rfl rfl ?_
      refine ch_callV (as := [.inr (6, j1, 0), .inr (4, 0, 0)]) d_d_takeCommand_263 lk_d_45 mi_d_takeChild me_d_takeChild rfl rfl rfl ⟨Nat.le_of_ble_eq_true rfl, Nat.le_of_ble_eq_true rfl⟩ (Nat.le_of_ble_eq_true rfl) ⟨Nat.le_of_ble_eq_true rfl, Nat.le_of_ble_eq_true rfl⟩ (ch_mono (ch_Ki (fun r48 m49 h => ?_)) h)
      exact ch_iret (ty := .boolean) d_d_takeCommand_266 rfl h.1 (Nat.le_of_ble_eq_true rfl) h.2
    replace h := h.2
    by_cases e112 : r1 = 112
    · replace h := h.1 e112
      refine ch_tswIn (tgt := 260) (off := 225) d_d_takeCommand_35 (by rw [e112]; decide) (by rw [e112]; decide) (by rw [e112]; rfl) (by decide) ?_
      refine ch_aload_n (i := 0) d_d_takeCommand_260 rfl rfl ?_
      refine ch_aload_n (i := 1) d_d_takeCommand_261 rfl rfl ?_
      refine ch_aload_n (i := 2) d_d_takeCommand_262 rfl rfl ?_
      refine ch_callV (as := [.inr (6, j1, 0), .inr (4, 0, 0)]) d_d_takeCommand_263 lk_d_45 mi_d_takeChild me_d_takeChild rfl rfl rfl ⟨Nat.le_of_ble_eq_true rfl, Nat.le_of_ble_eq_true rfl⟩ (Nat.le_of_ble_eq_true rfl) ⟨Nat.le_of_ble_eq_true rfl, Nat.le_of_ble_eq_true rfl⟩ (ch_mono (ch_Ki (fun r50 m51 h => ?_)) h)
      exact ch_iret (ty := .boolean) d_d_takeCommand_266 rfl h.1 (Nat.le_of_ble_eq_true rfl) h.2
    replace h := h.2
    by_cases e113 : r1 = 113
    · replace h := h.1 e113
      refine ch_tswIn (tgt := 260) (off := 225) d_d_takeCommand_35 (by rw [e113]; decide) (by rw [e113]; decide) (by rw [e113]; rfl) (by decide) ?_
      refine ch_aload_n (i := 0) d_d_takeCommand_260 rfl rfl ?_
      refine ch_aload_n (i := 1) d_d_takeCommand_261 rfl rfl ?_
      refine ch_aload_n (i := 2) d_d_takeCommand_262 rfl rfl ?_
      refine ch_callV (as := [.inr (6, j1, 0), .inr (4, 0, 0)]) d_d_takeCommand_263 lk_d_45 mi_d_takeChild me_d_takeChild rfl rfl rfl ⟨Nat.le_of_ble_eq_true rfl, Nat.le_of_ble_eq_true rfl⟩ (Nat.le_of_ble_eq_true rfl) ⟨Nat.le_of_ble_eq_true rfl, Nat.le_of_ble_eq_true rfl⟩ (ch_mono (ch_Ki (fun r52 m53 h => ?_)) h)
      exact ch_iret (ty := .boolean) d_d_takeCommand_266 rfl h.1 (Nat.le_of_ble_eq_true rfl) h.2
    replace h := h.2
    by_cases e114 : r1 = 114
    · replace h := h.1 e114
      refine ch_tswIn (tgt := 198) (off := 163) d_d_takeCommand_35 (by rw [e114]; decide) (by rw [e114]; decide) (by rw [e114]; rfl) (by decide) ?_
      refine ch_aload_n (i := 0) d_d_takeCommand_198 rfl rfl ?_
      refine ch_aload_n (i := 1) d_d_takeCommand_199 rfl rfl ?_
      refine ch_aload_n (i := 2) d_d_takeCommand_200 rfl rfl ?_
      refine ch_callV (as := [.inr (6, j1, 0), .inr (4, 0, 0)]) d_d_takeCommand_201 lk_d_56 mi_d_takeDigit me_d_takeDigit rfl rfl rfl ⟨Nat.le_of_ble_eq_true rfl, Nat.le_of_ble_eq_true rfl⟩ (Nat.le_of_ble_eq_true rfl) ⟨Nat.le_of_ble_eq_true rfl, Nat.le_of_ble_eq_true rfl⟩ (ch_mono (ch_Ki (fun r54 m55 h => ?_)) h)
      exact ch_iret (ty := .boolean) d_d_takeCommand_204 rfl h.1 (Nat.le_of_ble_eq_true rfl) h.2
    replace h := h.2
    by_cases e115 : r1 = 115
    · replace h := h.1 e115
      refine ch_tswIn (tgt := 260) (off := 225) d_d_takeCommand_35 (by rw [e115]; decide) (by rw [e115]; decide) (by rw [e115]; rfl) (by decide) ?_
      refine ch_aload_n (i := 0) d_d_takeCommand_260 rfl rfl ?_
      refine ch_aload_n (i := 1) d_d_takeCommand_261 rfl rfl ?_
      refine ch_aload_n (i := 2) d_d_takeCommand_262 rfl rfl ?_
      refine ch_callV (as := [.inr (6, j1, 0), .inr (4, 0, 0)]) d_d_takeCommand_263 lk_d_45 mi_d_takeChild me_d_takeChild rfl rfl rfl ⟨Nat.le_of_ble_eq_true rfl, Nat.le_of_ble_eq_true rfl⟩ (Nat.le_of_ble_eq_true rfl) ⟨Nat.le_of_ble_eq_true rfl, Nat.le_of_ble_eq_true rfl⟩ (ch_mono (ch_Ki (fun r56 m57 h => ?_)) h)
      exact ch_iret (ty := .boolean) d_d_takeCommand_266 rfl h.1 (Nat.le_of_ble_eq_true rfl) h.2
    replace h := h.2
    by_cases e116 : r1 = 116
    · replace h := h.1 e116
      refine ch_tswIn (tgt := 205) (off := 170) d_d_takeCommand_35 (by rw [e116]; decide) (by rw [e116]; decide) (by rw [e116]; rfl) (by decide) ?_
      refine ch_iconst (v := 1) d_d_takeCommand_205 (by decide) ?_
      exact ch_iret (ty := .boolean) d_d_takeCommand_206 rfl rfl (Nat.le_of_ble_eq_true rfl) h
    replace h := h.2
    have hx : (Int32.toInt r1 < 99 ∨ 116 < Int32.toInt r1) := by
      have f99 : Int32.toInt r1 ≠ 99 := fun q => e99 (Int32.toInt_inj.mp (q.trans (by decide)))
      have f100 : Int32.toInt r1 ≠ 100 := fun q => e100 (Int32.toInt_inj.mp (q.trans (by decide)))
      have f101 : Int32.toInt r1 ≠ 101 := fun q => e101 (Int32.toInt_inj.mp (q.trans (by decide)))
      have f102 : Int32.toInt r1 ≠ 102 := fun q => e102 (Int32.toInt_inj.mp (q.trans (by decide)))
      have f103 : Int32.toInt r1 ≠ 103 := fun q => e103 (Int32.toInt_inj.mp (q.trans (by decide)))
      have f104 : Int32.toInt r1 ≠ 104 := fun q => e104 (Int32.toInt_inj.mp (q.trans (by decide)))
      have f105 : Int32.toInt r1 ≠ 105 := fun q => e105 (Int32.toInt_inj.mp (q.trans (by decide)))
      have f106 : Int32.toInt r1 ≠ 106 := fun q => e106 (Int32.toInt_inj.mp (q.trans (by decide)))
      have f107 : Int32.toInt r1 ≠ 107 := fun q => e107 (Int32.toInt_inj.mp (q.trans (by decide)))
      have f108 : Int32.toInt r1 ≠ 108 := fun q => e108 (Int32.toInt_inj.mp (q.trans (by decide)))
      have f109 : Int32.toInt r1 ≠ 109 := fun q => e109 (Int32.toInt_inj.mp (q.trans (by decide)))
      have f110 : Int32.toInt r1 ≠ 110 := fun q => e110 (Int32.toInt_inj.mp (q.trans (by decide)))
      have f111 : Int32.toInt r1 ≠ 111 := fun q => e111 (Int32.toInt_inj.mp (q.trans (by decide)))
      have f112 : Int32.toInt r1 ≠ 112 := fun q => e112 (Int32.toInt_inj.mp (q.trans (by decide)))
      have f113 : Int32.toInt r1 ≠ 113 := fun q => e113 (Int32.toInt_inj.mp (q.trans (by decide)))
      have f114 : Int32.toInt r1 ≠ 114 := fun q => e114 (Int32.toInt_inj.mp (q.trans (by decide)))
      have f115 : Int32.toInt r1 ≠ 115 := fun q => e115 (Int32.toInt_inj.mp (q.trans (by decide)))
      have f116 : Int32.toInt r1 ≠ 116 := fun q => e116 (Int32.toInt_inj.mp (q.trans (by decide)))
      omega
    replace h := h hx
    refine ch_tswOut (tgt := 260) d_d_takeCommand_35 hx (by decide) ?_
    refine ch_aload_n (i := 0) d_d_takeCommand_260 rfl rfl ?_
    refine ch_aload_n (i := 1) d_d_takeCommand_261 rfl rfl ?_
    refine ch_aload_n (i := 2) d_d_takeCommand_262 rfl rfl ?_
    refine ch_callV (as := [.inr (6, j1, 0), .inr (4, 0, 0)]) d_d_takeCommand_263 lk_d_45 mi_d_takeChild me_d_takeChild rfl rfl rfl ⟨Nat.le_of_ble_eq_true rfl, Nat.le_of_ble_eq_true rfl⟩ (Nat.le_of_ble_eq_true rfl) ⟨Nat.le_of_ble_eq_true rfl, Nat.le_of_ble_eq_true rfl⟩ (ch_mono (ch_Ki (fun r58 m59 h => ?_)) h)
    exact ch_iret (ty := .boolean) d_d_takeCommand_266 rfl h.1 (Nat.le_of_ble_eq_true rfl) h.2
  · replace h := h.2 c
    refine ch_iconst (v := 0) d_d_takeCommand_14 (by decide) ?_
    exact ch_iret (ty := .boolean) d_d_takeCommand_15 rfl rfl (Nat.le_of_ble_eq_true rfl) h
theorem e_d_takeSign (g : ch_G) (Q : ch_O → ch_M → Prop) (j1 : Nat) (p2 : Int32) (m : ch_M) (h : ch_J g m_d_takeSign (ch_rm m_d_takeSign) (ch_E g m_d_takeSign Q) 0 [some (.inr (7, 0, 0)), some (.inr (6, j1, 0)), some (.inl (.int p2))] [] m 0) : ch_C g m_d_takeSign [.inr (7, 0, 0), .inr (6, j1, 0), .inl (.int p2)] m Q :=
  ch_enter mf_d_takeSign (by intro v hv; simp only [List.mem_cons, List.not_mem_nil, or_false] at hv; rcases hv with rfl | rfl | rfl <;> rfl) (Nat.le_of_ble_eq_true rfl) h
set_option maxHeartbeats 1600000 in
theorem g_d_takeSign_0 (g : ch_G) (Q : ch_O → ch_M → Prop) (j1 : Nat) (p2 : Int32) (m : ch_M) (h : (ch_C g m_d_signAt [.inr (7, 0, 0), .inr (6, j1, 0)] m (ch_oi (fun (r1 : Int32) (m2 : ch_M) => ((r1 = p2 → (∀ m3 : ch_M, m3 = ch_wr m2 (7, 0, 0) 0 ((m2 (7, 0, 0) 0) + 1) → Q (.inl (some (.inl (.int 1)))) m3)) ∧ (¬ r1 = p2 → Q (.inl (some (.inl (.int 0)))) m2)))))) : ch_J g m_d_takeSign (ch_rm m_d_takeSign) (ch_E g m_d_takeSign Q) 0 [some (.inr (7, 0, 0)), some (.inr (6, j1, 0)), some (.inl (.int p2))] [] m 0 := by
  refine ch_aload_n (i := 0) d_d_takeSign_0 rfl rfl ?_
  refine ch_aload_n (i := 1) d_d_takeSign_1 rfl rfl ?_
  refine ch_callV (as := [.inr (6, j1, 0)]) d_d_takeSign_2 lk_d_28 mi_d_signAt me_d_signAt rfl rfl rfl ⟨Nat.le_of_ble_eq_true rfl, Nat.le_of_ble_eq_true rfl⟩ (Nat.le_of_ble_eq_true rfl) ⟨Nat.le_of_ble_eq_true rfl, Nat.le_of_ble_eq_true rfl⟩ (ch_mono (ch_Ki (fun r1 m2 h => ?_)) h)
  refine ch_iload_n (i := 2) d_d_takeSign_5 rfl rfl ?_
  refine ch_icmp_eq (tgt := 11) d_d_takeSign_6 (by decide) (fun c => ?_) (fun c => ?_)
  · replace h := h.1 c
    refine ch_aload_n (i := 0) d_d_takeSign_11 rfl rfl ?_
    refine ch_dup d_d_takeSign_12 rfl ?_
    refine ch_get (v := .inl (.int (m2 (7, 0, 0) 0))) d_d_takeSign_13 fl_d_9 rfl ?_
    refine ch_iconst (v := 1) d_d_takeSign_16 (by decide) ?_
    refine ch_iadd d_d_takeSign_17 ?_
    refine ch_put d_d_takeSign_18 fp_d_9 rfl rfl rfl ?_
    generalize hmm3 : ch_wr m2 (7, 0, 0) 0 ((m2 (7, 0, 0) 0) + 1) = m3
    replace h := h m3 hmm3.symm
    refine ch_iconst (v := 1) d_d_takeSign_21 (by decide) ?_
    exact ch_iret (ty := .boolean) d_d_takeSign_22 rfl rfl (Nat.le_of_ble_eq_true rfl) h
  · replace h := h.2 c
    refine ch_iconst (v := 0) d_d_takeSign_9 (by decide) ?_
    exact ch_iret (ty := .boolean) d_d_takeSign_10 rfl rfl (Nat.le_of_ble_eq_true rfl) h
theorem e_d_isKind (g : ch_G) (Q : ch_O → ch_M → Prop) (p1 : Int32) (m : ch_M) (h : ch_J g m_d_isKind (ch_rm m_d_isKind) (ch_E g m_d_isKind Q) 0 [some (.inr (7, 0, 0)), some (.inl (.int p1))] [] m 0) : ch_C g m_d_isKind [.inr (7, 0, 0), .inl (.int p1)] m Q :=
  ch_enter mf_d_isKind (by intro v hv; simp only [List.mem_cons, List.not_mem_nil, or_false] at hv; rcases hv with rfl | rfl <;> rfl) (Nat.le_of_ble_eq_true rfl) h
set_option maxHeartbeats 1600000 in
theorem g_d_isKind_0 (g : ch_G) (Q : ch_O → ch_M → Prop) (p1 : Int32) (m : ch_M) (h : ((p1 = 99 → Q (.inl (some (.inl (.int 1)))) m) ∧ (p1 = 100 → Q (.inl (some (.inl (.int 0)))) m) ∧ (p1 = 101 → Q (.inl (some (.inl (.int 0)))) m) ∧ (p1 = 102 → Q (.inl (some (.inl (.int 0)))) m) ∧ (p1 = 103 → Q (.inl (some (.inl (.int 1)))) m) ∧ (p1 = 104 → Q (.inl (some (.inl (.int 1)))) m) ∧ (p1 = 105 → Q (.inl (some (.inl (.int 0)))) m) ∧ (p1 = 106 → Q (.inl (some (.inl (.int 0)))) m) ∧ (p1 = 107 → Q (.inl (some (.inl (.int 0)))) m) ∧ (p1 = 108 → Q (.inl (some (.inl (.int 0)))) m) ∧ (p1 = 109 → Q (.inl (some (.inl (.int 0)))) m) ∧ (p1 = 110 → Q (.inl (some (.inl (.int 1)))) m) ∧ (p1 = 111 → Q (.inl (some (.inl (.int 0)))) m) ∧ (p1 = 112 → Q (.inl (some (.inl (.int 0)))) m) ∧ (p1 = 113 → Q (.inl (some (.inl (.int 0)))) m) ∧ (p1 = 114 → Q (.inl (some (.inl (.int 1)))) m) ∧ (p1 = 115 → Q (.inl (some (.inl (.int 1)))) m) ∧ (p1 = 116 → Q (.inl (some (.inl (.int 1)))) m) ∧ (p1 = 117 → Q (.inl (some (.inl (.int 0)))) m) ∧ (p1 = 118 → Q (.inl (some (.inl (.int 0)))) m) ∧ (p1 = 119 → Q (.inl (some (.inl (.int 1)))) m) ∧ ((Int32.toInt p1 < 99 ∨ 119 < Int32.toInt p1) → Q (.inl (some (.inl (.int 0)))) m))) : ch_J g m_d_isKind (ch_rm m_d_isKind) (ch_E g m_d_isKind Q) 0 [some (.inr (7, 0, 0)), some (.inl (.int p1))] [] m 0 := by
  refine ch_iload_n (i := 1) d_d_isKind_0 rfl rfl ?_
  by_cases e99 : p1 = 99
  · replace h := h.1 e99
    refine ch_tswIn (tgt := 100) (off := 99) d_d_isKind_1 (by rw [e99]; decide) (by rw [e99]; decide) (by rw [e99]; rfl) (by decide) ?_
    refine ch_iconst (v := 1) d_d_isKind_100 (by decide) ?_
    exact ch_iret (ty := .boolean) d_d_isKind_101 rfl rfl (Nat.le_of_ble_eq_true rfl) h
  replace h := h.2
  by_cases e100 : p1 = 100
  · replace h := h.1 e100
    refine ch_tswIn (tgt := 102) (off := 101) d_d_isKind_1 (by rw [e100]; decide) (by rw [e100]; decide) (by rw [e100]; rfl) (by decide) ?_
    refine ch_iconst (v := 0) d_d_isKind_102 (by decide) ?_
    exact ch_iret (ty := .boolean) d_d_isKind_103 rfl rfl (Nat.le_of_ble_eq_true rfl) h
  replace h := h.2
  by_cases e101 : p1 = 101
  · replace h := h.1 e101
    refine ch_tswIn (tgt := 102) (off := 101) d_d_isKind_1 (by rw [e101]; decide) (by rw [e101]; decide) (by rw [e101]; rfl) (by decide) ?_
    refine ch_iconst (v := 0) d_d_isKind_102 (by decide) ?_
    exact ch_iret (ty := .boolean) d_d_isKind_103 rfl rfl (Nat.le_of_ble_eq_true rfl) h
  replace h := h.2
  by_cases e102 : p1 = 102
  · replace h := h.1 e102
    refine ch_tswIn (tgt := 102) (off := 101) d_d_isKind_1 (by rw [e102]; decide) (by rw [e102]; decide) (by rw [e102]; rfl) (by decide) ?_
    refine ch_iconst (v := 0) d_d_isKind_102 (by decide) ?_
    exact ch_iret (ty := .boolean) d_d_isKind_103 rfl rfl (Nat.le_of_ble_eq_true rfl) h
  replace h := h.2
  by_cases e103 : p1 = 103
  · replace h := h.1 e103
    refine ch_tswIn (tgt := 100) (off := 99) d_d_isKind_1 (by rw [e103]; decide) (by rw [e103]; decide) (by rw [e103]; rfl) (by decide) ?_
    refine ch_iconst (v := 1) d_d_isKind_100 (by decide) ?_
    exact ch_iret (ty := .boolean) d_d_isKind_101 rfl rfl (Nat.le_of_ble_eq_true rfl) h
  replace h := h.2
  by_cases e104 : p1 = 104
  · replace h := h.1 e104
    refine ch_tswIn (tgt := 100) (off := 99) d_d_isKind_1 (by rw [e104]; decide) (by rw [e104]; decide) (by rw [e104]; rfl) (by decide) ?_
    refine ch_iconst (v := 1) d_d_isKind_100 (by decide) ?_
    exact ch_iret (ty := .boolean) d_d_isKind_101 rfl rfl (Nat.le_of_ble_eq_true rfl) h
  replace h := h.2
  by_cases e105 : p1 = 105
  · replace h := h.1 e105
    refine ch_tswIn (tgt := 102) (off := 101) d_d_isKind_1 (by rw [e105]; decide) (by rw [e105]; decide) (by rw [e105]; rfl) (by decide) ?_
    refine ch_iconst (v := 0) d_d_isKind_102 (by decide) ?_
    exact ch_iret (ty := .boolean) d_d_isKind_103 rfl rfl (Nat.le_of_ble_eq_true rfl) h
  replace h := h.2
  by_cases e106 : p1 = 106
  · replace h := h.1 e106
    refine ch_tswIn (tgt := 102) (off := 101) d_d_isKind_1 (by rw [e106]; decide) (by rw [e106]; decide) (by rw [e106]; rfl) (by decide) ?_
    refine ch_iconst (v := 0) d_d_isKind_102 (by decide) ?_
    exact ch_iret (ty := .boolean) d_d_isKind_103 rfl rfl (Nat.le_of_ble_eq_true rfl) h
  replace h := h.2
  by_cases e107 : p1 = 107
  · replace h := h.1 e107
    refine ch_tswIn (tgt := 102) (off := 101) d_d_isKind_1 (by rw [e107]; decide) (by rw [e107]; decide) (by rw [e107]; rfl) (by decide) ?_
    refine ch_iconst (v := 0) d_d_isKind_102 (by decide) ?_
    exact ch_iret (ty := .boolean) d_d_isKind_103 rfl rfl (Nat.le_of_ble_eq_true rfl) h
  replace h := h.2
  by_cases e108 : p1 = 108
  · replace h := h.1 e108
    refine ch_tswIn (tgt := 102) (off := 101) d_d_isKind_1 (by rw [e108]; decide) (by rw [e108]; decide) (by rw [e108]; rfl) (by decide) ?_
    refine ch_iconst (v := 0) d_d_isKind_102 (by decide) ?_
    exact ch_iret (ty := .boolean) d_d_isKind_103 rfl rfl (Nat.le_of_ble_eq_true rfl) h
  replace h := h.2
  by_cases e109 : p1 = 109
  · replace h := h.1 e109
    refine ch_tswIn (tgt := 102) (off := 101) d_d_isKind_1 (by rw [e109]; decide) (by rw [e109]; decide) (by rw [e109]; rfl) (by decide) ?_
    refine ch_iconst (v := 0) d_d_isKind_102 (by decide) ?_
    exact ch_iret (ty := .boolean) d_d_isKind_103 rfl rfl (Nat.le_of_ble_eq_true rfl) h
  replace h := h.2
  by_cases e110 : p1 = 110
  · replace h := h.1 e110
    refine ch_tswIn (tgt := 100) (off := 99) d_d_isKind_1 (by rw [e110]; decide) (by rw [e110]; decide) (by rw [e110]; rfl) (by decide) ?_
    refine ch_iconst (v := 1) d_d_isKind_100 (by decide) ?_
    exact ch_iret (ty := .boolean) d_d_isKind_101 rfl rfl (Nat.le_of_ble_eq_true rfl) h
  replace h := h.2
  by_cases e111 : p1 = 111
  · replace h := h.1 e111
    refine ch_tswIn (tgt := 102) (off := 101) d_d_isKind_1 (by rw [e111]; decide) (by rw [e111]; decide) (by rw [e111]; rfl) (by decide) ?_
    refine ch_iconst (v := 0) d_d_isKind_102 (by decide) ?_
    exact ch_iret (ty := .boolean) d_d_isKind_103 rfl rfl (Nat.le_of_ble_eq_true rfl) h
  replace h := h.2
  by_cases e112 : p1 = 112
  · replace h := h.1 e112
    refine ch_tswIn (tgt := 102) (off := 101) d_d_isKind_1 (by rw [e112]; decide) (by rw [e112]; decide) (by rw [e112]; rfl) (by decide) ?_
    refine ch_iconst (v := 0) d_d_isKind_102 (by decide) ?_
    exact ch_iret (ty := .boolean) d_d_isKind_103 rfl rfl (Nat.le_of_ble_eq_true rfl) h
  replace h := h.2
  by_cases e113 : p1 = 113
  · replace h := h.1 e113
    refine ch_tswIn (tgt := 102) (off := 101) d_d_isKind_1 (by rw [e113]; decide) (by rw [e113]; decide) (by rw [e113]; rfl) (by decide) ?_
    refine ch_iconst (v := 0) d_d_isKind_102 (by decide) ?_
    exact ch_iret (ty := .boolean) d_d_isKind_103 rfl rfl (Nat.le_of_ble_eq_true rfl) h
  replace h := h.2
  by_cases e114 : p1 = 114
  · replace h := h.1 e114
    refine ch_tswIn (tgt := 100) (off := 99) d_d_isKind_1 (by rw [e114]; decide) (by rw [e114]; decide) (by rw [e114]; rfl) (by decide) ?_
    refine ch_iconst (v := 1) d_d_isKind_100 (by decide) ?_
    exact ch_iret (ty := .boolean) d_d_isKind_101 rfl rfl (Nat.le_of_ble_eq_true rfl) h
  replace h := h.2
  by_cases e115 : p1 = 115
  · replace h := h.1 e115
    refine ch_tswIn (tgt := 100) (off := 99) d_d_isKind_1 (by rw [e115]; decide) (by rw [e115]; decide) (by rw [e115]; rfl) (by decide) ?_
    refine ch_iconst (v := 1) d_d_isKind_100 (by decide) ?_
    exact ch_iret (ty := .boolean) d_d_isKind_101 rfl rfl (Nat.le_of_ble_eq_true rfl) h
  replace h := h.2
  by_cases e116 : p1 = 116
  · replace h := h.1 e116
    refine ch_tswIn (tgt := 100) (off := 99) d_d_isKind_1 (by rw [e116]; decide) (by rw [e116]; decide) (by rw [e116]; rfl) (by decide) ?_
    refine ch_iconst (v := 1) d_d_isKind_100 (by decide) ?_
    exact ch_iret (ty := .boolean) d_d_isKind_101 rfl rfl (Nat.le_of_ble_eq_true rfl) h
  replace h := h.2
  by_cases e117 : p1 = 117
  · replace h := h.1 e117
    refine ch_tswIn (tgt := 102) (off := 101) d_d_isKind_1 (by rw [e117]; decide) (by rw [e117]; decide) (by rw [e117]; rfl) (by decide) ?_
    refine ch_iconst (v := 0) d_d_isKind_102 (by decide) ?_
    exact ch_iret (ty := .boolean) d_d_isKind_103 rfl rfl (Nat.le_of_ble_eq_true rfl) h
  replace h := h.2
  by_cases e118 : p1 = 118
  · replace h := h.1 e118
    refine ch_tswIn (tgt := 102) (off := 101) d_d_isKind_1 (by rw [e118]; decide) (by rw [e118]; decide) (by rw [e118]; rfl) (by decide) ?_
    refine ch_iconst (v := 0) d_d_isKind_102 (by decide) ?_
    exact ch_iret (ty := .boolean) d_d_isKind_103 rfl rfl (Nat.le_of_ble_eq_true rfl) h
  replace h := h.2
  by_cases e119 : p1 = 119
  · replace h := h.1 e119
    refine ch_tswIn (tgt := 100) (off := 99) d_d_isKind_1 (by rw [e119]; decide) (by rw [e119]; decide) (by rw [e119]; rfl) (by decide) ?_
    refine ch_iconst (v := 1) d_d_isKind_100 (by decide) ?_
    exact ch_iret (ty := .boolean) d_d_isKind_101 rfl rfl (Nat.le_of_ble_eq_true rfl) h
  replace h := h.2
  have hx : (Int32.toInt p1 < 99 ∨ 119 < Int32.toInt p1) := by
    have f99 : Int32.toInt p1 ≠ 99 := fun q => e99 (Int32.toInt_inj.mp (q.trans (by decide)))
    have f100 : Int32.toInt p1 ≠ 100 := fun q => e100 (Int32.toInt_inj.mp (q.trans (by decide)))
    have f101 : Int32.toInt p1 ≠ 101 := fun q => e101 (Int32.toInt_inj.mp (q.trans (by decide)))
    have f102 : Int32.toInt p1 ≠ 102 := fun q => e102 (Int32.toInt_inj.mp (q.trans (by decide)))
    have f103 : Int32.toInt p1 ≠ 103 := fun q => e103 (Int32.toInt_inj.mp (q.trans (by decide)))
    have f104 : Int32.toInt p1 ≠ 104 := fun q => e104 (Int32.toInt_inj.mp (q.trans (by decide)))
    have f105 : Int32.toInt p1 ≠ 105 := fun q => e105 (Int32.toInt_inj.mp (q.trans (by decide)))
    have f106 : Int32.toInt p1 ≠ 106 := fun q => e106 (Int32.toInt_inj.mp (q.trans (by decide)))
    have f107 : Int32.toInt p1 ≠ 107 := fun q => e107 (Int32.toInt_inj.mp (q.trans (by decide)))
    have f108 : Int32.toInt p1 ≠ 108 := fun q => e108 (Int32.toInt_inj.mp (q.trans (by decide)))
    have f109 : Int32.toInt p1 ≠ 109 := fun q => e109 (Int32.toInt_inj.mp (q.trans (by decide)))
    have f110 : Int32.toInt p1 ≠ 110 := fun q => e110 (Int32.toInt_inj.mp (q.trans (by decide)))
    have f111 : Int32.toInt p1 ≠ 111 := fun q => e111 (Int32.toInt_inj.mp (q.trans (by decide)))
    have f112 : Int32.toInt p1 ≠ 112 := fun q => e112 (Int32.toInt_inj.mp (q.trans (by decide)))
    have f113 : Int32.toInt p1 ≠ 113 := fun q => e113 (Int32.toInt_inj.mp (q.trans (by decide)))
    have f114 : Int32.toInt p1 ≠ 114 := fun q => e114 (Int32.toInt_inj.mp (q.trans (by decide)))
    have f115 : Int32.toInt p1 ≠ 115 := fun q => e115 (Int32.toInt_inj.mp (q.trans (by decide)))
    have f116 : Int32.toInt p1 ≠ 116 := fun q => e116 (Int32.toInt_inj.mp (q.trans (by decide)))
    have f117 : Int32.toInt p1 ≠ 117 := fun q => e117 (Int32.toInt_inj.mp (q.trans (by decide)))
    have f118 : Int32.toInt p1 ≠ 118 := fun q => e118 (Int32.toInt_inj.mp (q.trans (by decide)))
    have f119 : Int32.toInt p1 ≠ 119 := fun q => e119 (Int32.toInt_inj.mp (q.trans (by decide)))
    omega
  replace h := h hx
  refine ch_tswOut (tgt := 102) d_d_isKind_1 hx (by decide) ?_
  refine ch_iconst (v := 0) d_d_isKind_102 (by decide) ?_
  exact ch_iret (ty := .boolean) d_d_isKind_103 rfl rfl (Nat.le_of_ble_eq_true rfl) h
theorem e_d_takeChild (g : ch_G) (Q : ch_O → ch_M → Prop) (j1 : Nat) (m : ch_M) (h : ch_J g m_d_takeChild (ch_rm m_d_takeChild) (ch_E g m_d_takeChild Q) 0 [some (.inr (7, 0, 0)), some (.inr (6, j1, 0)), some (.inr (4, 0, 0))] [] m 0) : ch_C g m_d_takeChild [.inr (7, 0, 0), .inr (6, j1, 0), .inr (4, 0, 0)] m Q :=
  ch_enter mf_d_takeChild (by intro v hv; simp only [List.mem_cons, List.not_mem_nil, or_false] at hv; rcases hv with rfl | rfl | rfl <;> rfl) (Nat.le_of_ble_eq_true rfl) h
set_option maxHeartbeats 1600000 in
theorem g_d_takeChild_0 (g : ch_G) (Q : ch_O → ch_M → Prop) (j1 : Nat) (m : ch_M) (h : (ch_C g m_d_digitAt [.inr (7, 0, 0), .inr (6, j1, 0)] m (ch_oi (fun (r1 : Int32) (m2 : ch_M) => (∀ m3 : ch_M, m3 = ch_wr m2 (4, 0, 0) 2 r1 → (ch_C g m_d_passDigit [.inr (7, 0, 0), .inr (6, j1, 0)] m3 (ch_oi (fun (r4 : Int32) (m5 : ch_M) => (narrow .boolean (.int r4) = .int r4) ∧ Q (.inl (some (.inl (.int r4)))) m5)))))))) : ch_J g m_d_takeChild (ch_rm m_d_takeChild) (ch_E g m_d_takeChild Q) 0 [some (.inr (7, 0, 0)), some (.inr (6, j1, 0)), some (.inr (4, 0, 0))] [] m 0 := by
  refine ch_aload_n (i := 2) d_d_takeChild_0 rfl rfl ?_
  refine ch_aload_n (i := 0) d_d_takeChild_1 rfl rfl ?_
  refine ch_aload_n (i := 1) d_d_takeChild_2 rfl rfl ?_
  refine ch_callV (as := [.inr (6, j1, 0)]) d_d_takeChild_3 lk_d_62 mi_d_digitAt me_d_digitAt rfl rfl rfl ⟨Nat.le_of_ble_eq_true rfl, Nat.le_of_ble_eq_true rfl⟩ (Nat.le_of_ble_eq_true rfl) ⟨Nat.le_of_ble_eq_true rfl, Nat.le_of_ble_eq_true rfl⟩ (ch_mono (ch_Ki (fun r1 m2 h => ?_)) h)
  refine ch_put d_d_takeChild_6 fp_d_65 rfl rfl rfl ?_
  generalize hmm3 : ch_wr m2 (4, 0, 0) 2 r1 = m3
  replace h := h m3 hmm3.symm
  refine ch_aload_n (i := 0) d_d_takeChild_9 rfl rfl ?_
  refine ch_aload_n (i := 1) d_d_takeChild_10 rfl rfl ?_
  refine ch_callV (as := [.inr (6, j1, 0)]) d_d_takeChild_11 lk_d_68 mi_d_passDigit me_d_passDigit rfl rfl rfl ⟨Nat.le_of_ble_eq_true rfl, Nat.le_of_ble_eq_true rfl⟩ (Nat.le_of_ble_eq_true rfl) ⟨Nat.le_of_ble_eq_true rfl, Nat.le_of_ble_eq_true rfl⟩ (ch_mono (ch_Ki (fun r4 m5 h => ?_)) h)
  exact ch_iret (ty := .boolean) d_d_takeChild_14 rfl h.1 (Nat.le_of_ble_eq_true rfl) h.2
theorem e_d_takeOther (g : ch_G) (Q : ch_O → ch_M → Prop) (j1 : Nat) (m : ch_M) (h : ch_J g m_d_takeOther (ch_rm m_d_takeOther) (ch_E g m_d_takeOther Q) 0 [some (.inr (7, 0, 0)), some (.inr (6, j1, 0)), some (.inr (4, 0, 0))] [] m 0) : ch_C g m_d_takeOther [.inr (7, 0, 0), .inr (6, j1, 0), .inr (4, 0, 0)] m Q :=
  ch_enter mf_d_takeOther (by intro v hv; simp only [List.mem_cons, List.not_mem_nil, or_false] at hv; rcases hv with rfl | rfl | rfl <;> rfl) (Nat.le_of_ble_eq_true rfl) h
set_option maxHeartbeats 1600000 in
theorem g_d_takeOther_0 (g : ch_G) (Q : ch_O → ch_M → Prop) (j1 : Nat) (m : ch_M) (h : (ch_C g m_d_digitAt [.inr (7, 0, 0), .inr (6, j1, 0)] m (ch_oi (fun (r1 : Int32) (m2 : ch_M) => (∀ m3 : ch_M, m3 = ch_wr m2 (4, 0, 0) 3 r1 → (ch_C g m_d_passDigit [.inr (7, 0, 0), .inr (6, j1, 0)] m3 (ch_oi (fun (r4 : Int32) (m5 : ch_M) => (narrow .boolean (.int r4) = .int r4) ∧ Q (.inl (some (.inl (.int r4)))) m5)))))))) : ch_J g m_d_takeOther (ch_rm m_d_takeOther) (ch_E g m_d_takeOther Q) 0 [some (.inr (7, 0, 0)), some (.inr (6, j1, 0)), some (.inr (4, 0, 0))] [] m 0 := by
  refine ch_aload_n (i := 2) d_d_takeOther_0 rfl rfl ?_
  refine ch_aload_n (i := 0) d_d_takeOther_1 rfl rfl ?_
  refine ch_aload_n (i := 1) d_d_takeOther_2 rfl rfl ?_
  refine ch_callV (as := [.inr (6, j1, 0)]) d_d_takeOther_3 lk_d_62 mi_d_digitAt me_d_digitAt rfl rfl rfl ⟨Nat.le_of_ble_eq_true rfl, Nat.le_of_ble_eq_true rfl⟩ (Nat.le_of_ble_eq_true rfl) ⟨Nat.le_of_ble_eq_true rfl, Nat.le_of_ble_eq_true rfl⟩ (ch_mono (ch_Ki (fun r1 m2 h => ?_)) h)
  refine ch_put d_d_takeOther_6 fp_d_72 rfl rfl rfl ?_
  generalize hmm3 : ch_wr m2 (4, 0, 0) 3 r1 = m3
  replace h := h m3 hmm3.symm
  refine ch_aload_n (i := 0) d_d_takeOther_9 rfl rfl ?_
  refine ch_aload_n (i := 1) d_d_takeOther_10 rfl rfl ?_
  refine ch_callV (as := [.inr (6, j1, 0)]) d_d_takeOther_11 lk_d_68 mi_d_passDigit me_d_passDigit rfl rfl rfl ⟨Nat.le_of_ble_eq_true rfl, Nat.le_of_ble_eq_true rfl⟩ (Nat.le_of_ble_eq_true rfl) ⟨Nat.le_of_ble_eq_true rfl, Nat.le_of_ble_eq_true rfl⟩ (ch_mono (ch_Ki (fun r4 m5 h => ?_)) h)
  exact ch_iret (ty := .boolean) d_d_takeOther_14 rfl h.1 (Nat.le_of_ble_eq_true rfl) h.2
