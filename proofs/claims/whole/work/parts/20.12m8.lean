theorem e_m_carries (g : ch_G) (Q : ch_O → ch_M → Prop)  (m : ch_M) (h : ch_J g m_m_carries (ch_rm m_m_carries) (ch_E g m_m_carries Q) 0 [some (.inr (9, 0, 0))] [] m 0) : ch_C g m_m_carries [.inr (9, 0, 0)] m Q :=
  ch_enter mf_m_carries (by intro v hv; simp only [List.mem_cons, List.not_mem_nil, or_false] at hv; rcases hv with rfl <;> rfl) (Nat.le_of_ble_eq_true rfl) h
set_option maxHeartbeats 1600000 in
theorem g_m_carries_0 (g : ch_G) (Q : ch_O → ch_M → Prop)  (m : ch_M) (h : (((m (9, 0, 0) 12) = 99 → (ch_C g m_m_chalks [.inr (9, 0, 0), .inl (.int (m (9, 0, 8) (0))), .inl (.int (m (9, 0, 8) (1)))] m (ch_oi (fun (r1 : Int32) (m2 : ch_M) => (narrow .boolean (.int r1) = .int r1) ∧ Q (.inl (some (.inl (.int r1)))) m2)))) ∧ ((m (9, 0, 0) 12) = 100 → (((m (9, 0, 1) (0)) ≤ 0 → (ch_C g m_m_refuses [.inr (9, 0, 0), .inl (.int 13), .inl (.int 0)] m (ch_oi (fun (r3 : Int32) (m4 : ch_M) => (narrow .boolean (.int r3) = .int r3) ∧ Q (.inl (some (.inl (.int r3)))) m4)))) ∧ (¬ (m (9, 0, 1) (0)) ≤ 0 → (ch_C g m_m_goesBy [.inr (9, 0, 0)] m (ch_oi (fun (r5 : Int32) (m6 : ch_M) => (ch_C g m_m_does [.inr (9, 0, 0), .inl (.int r5)] m6 (ch_oi (fun (r7 : Int32) (m8 : ch_M) => (narrow .boolean (.int r7) = .int r7) ∧ Q (.inl (some (.inl (.int r7)))) m8))))))))) ∧ ((m (9, 0, 0) 12) = 101 → (((m (9, 0, 1) (0)) ≤ 0 → (ch_C g m_m_refuses [.inr (9, 0, 0), .inl (.int 13), .inl (.int 0)] m (ch_oi (fun (r9 : Int32) (m10 : ch_M) => (narrow .boolean (.int r9) = .int r9) ∧ Q (.inl (some (.inl (.int r9)))) m10)))) ∧ (¬ (m (9, 0, 1) (0)) ≤ 0 → (ch_C g m_m_goesBy [.inr (9, 0, 0)] m (ch_oi (fun (r11 : Int32) (m12 : ch_M) => (ch_C g m_m_does [.inr (9, 0, 0), .inl (.int r11)] m12 (ch_oi (fun (r13 : Int32) (m14 : ch_M) => (narrow .boolean (.int r13) = .int r13) ∧ Q (.inl (some (.inl (.int r13)))) m14))))))))) ∧ ((m (9, 0, 0) 12) = 102 → (((m (9, 0, 1) (0)) ≤ 0 → (ch_C g m_m_refuses [.inr (9, 0, 0), .inl (.int 13), .inl (.int 0)] m (ch_oi (fun (r15 : Int32) (m16 : ch_M) => (narrow .boolean (.int r15) = .int r15) ∧ Q (.inl (some (.inl (.int r15)))) m16)))) ∧ (¬ (m (9, 0, 1) (0)) ≤ 0 → (ch_C g m_m_goesBy [.inr (9, 0, 0)] m (ch_oi (fun (r17 : Int32) (m18 : ch_M) => (ch_C g m_m_does [.inr (9, 0, 0), .inl (.int r17)] m18 (ch_oi (fun (r19 : Int32) (m20 : ch_M) => (narrow .boolean (.int r19) = .int r19) ∧ Q (.inl (some (.inl (.int r19)))) m20))))))))) ∧ ((m (9, 0, 0) 12) = 103 → (ch_C g m_m_gives [.inr (9, 0, 0), .inl (.int (m (9, 0, 8) (0))), .inl (.int (m (9, 0, 8) (1))), .inl (.int (m (9, 0, 8) (2)))] m (ch_oi (fun (r21 : Int32) (m22 : ch_M) => (narrow .boolean (.int r21) = .int r21) ∧ Q (.inl (some (.inl (.int r21)))) m22)))) ∧ ((m (9, 0, 0) 12) = 104 → (ch_C g m_m_canHop [.inr (9, 0, 0), .inl (.int (m (9, 0, 8) (0)))] m (ch_oi (fun (r23 : Int32) (m24 : ch_M) => ((r23 = 0 → Q (.inl (some (.inl (.int 0)))) m24) ∧ (¬ r23 = 0 → (ch_C g m_m_hops [.inr (9, 0, 0), .inl (.int (m24 (9, 0, 8) (0)))] m24 (ch_oi (fun (r25 : Int32) (m26 : ch_M) => ((r25 = 0 → Q (.inl (some (.inl (.int 0)))) m26) ∧ (¬ r25 = 0 → Q (.inl (some (.inl (.int 1)))) m26))))))))))) ∧ ((m (9, 0, 0) 12) = 105 → (((m (9, 0, 1) (0)) ≤ 0 → (ch_C g m_m_refuses [.inr (9, 0, 0), .inl (.int 13), .inl (.int 0)] m (ch_oi (fun (r27 : Int32) (m28 : ch_M) => (narrow .boolean (.int r27) = .int r27) ∧ Q (.inl (some (.inl (.int r27)))) m28)))) ∧ (¬ (m (9, 0, 1) (0)) ≤ 0 → (ch_C g m_m_goesBy [.inr (9, 0, 0)] m (ch_oi (fun (r29 : Int32) (m30 : ch_M) => (ch_C g m_m_does [.inr (9, 0, 0), .inl (.int r29)] m30 (ch_oi (fun (r31 : Int32) (m32 : ch_M) => (narrow .boolean (.int r31) = .int r31) ∧ Q (.inl (some (.inl (.int r31)))) m32))))))))) ∧ ((m (9, 0, 0) 12) = 106 → (((m (9, 0, 1) (0)) ≤ 0 → (ch_C g m_m_refuses [.inr (9, 0, 0), .inl (.int 13), .inl (.int 0)] m (ch_oi (fun (r33 : Int32) (m34 : ch_M) => (narrow .boolean (.int r33) = .int r33) ∧ Q (.inl (some (.inl (.int r33)))) m34)))) ∧ (¬ (m (9, 0, 1) (0)) ≤ 0 → (ch_C g m_m_goesBy [.inr (9, 0, 0)] m (ch_oi (fun (r35 : Int32) (m36 : ch_M) => (ch_C g m_m_does [.inr (9, 0, 0), .inl (.int r35)] m36 (ch_oi (fun (r37 : Int32) (m38 : ch_M) => (narrow .boolean (.int r37) = .int r37) ∧ Q (.inl (some (.inl (.int r37)))) m38))))))))) ∧ ((m (9, 0, 0) 12) = 107 → (((m (9, 0, 1) (0)) ≤ 0 → (ch_C g m_m_refuses [.inr (9, 0, 0), .inl (.int 13), .inl (.int 0)] m (ch_oi (fun (r39 : Int32) (m40 : ch_M) => (narrow .boolean (.int r39) = .int r39) ∧ Q (.inl (some (.inl (.int r39)))) m40)))) ∧ (¬ (m (9, 0, 1) (0)) ≤ 0 → (ch_C g m_m_goesBy [.inr (9, 0, 0)] m (ch_oi (fun (r41 : Int32) (m42 : ch_M) => (ch_C g m_m_does [.inr (9, 0, 0), .inl (.int r41)] m42 (ch_oi (fun (r43 : Int32) (m44 : ch_M) => (narrow .boolean (.int r43) = .int r43) ∧ Q (.inl (some (.inl (.int r43)))) m44))))))))) ∧ ((m (9, 0, 0) 12) = 108 → (((m (9, 0, 1) (0)) ≤ 0 → (ch_C g m_m_refuses [.inr (9, 0, 0), .inl (.int 13), .inl (.int 0)] m (ch_oi (fun (r45 : Int32) (m46 : ch_M) => (narrow .boolean (.int r45) = .int r45) ∧ Q (.inl (some (.inl (.int r45)))) m46)))) ∧ (¬ (m (9, 0, 1) (0)) ≤ 0 → (ch_C g m_m_goesBy [.inr (9, 0, 0)] m (ch_oi (fun (r47 : Int32) (m48 : ch_M) => (ch_C g m_m_does [.inr (9, 0, 0), .inl (.int r47)] m48 (ch_oi (fun (r49 : Int32) (m50 : ch_M) => (narrow .boolean (.int r49) = .int r49) ∧ Q (.inl (some (.inl (.int r49)))) m50))))))))) ∧ ((m (9, 0, 0) 12) = 109 → (((m (9, 0, 1) (0)) ≤ 0 → (ch_C g m_m_refuses [.inr (9, 0, 0), .inl (.int 13), .inl (.int 0)] m (ch_oi (fun (r51 : Int32) (m52 : ch_M) => (narrow .boolean (.int r51) = .int r51) ∧ Q (.inl (some (.inl (.int r51)))) m52)))) ∧ (¬ (m (9, 0, 1) (0)) ≤ 0 → (ch_C g m_m_goesBy [.inr (9, 0, 0)] m (ch_oi (fun (r53 : Int32) (m54 : ch_M) => (ch_C g m_m_does [.inr (9, 0, 0), .inl (.int r53)] m54 (ch_oi (fun (r55 : Int32) (m56 : ch_M) => (narrow .boolean (.int r55) = .int r55) ∧ Q (.inl (some (.inl (.int r55)))) m56))))))))) ∧ ((m (9, 0, 0) 12) = 110 → (ch_C g m_m_comes [.inr (9, 0, 0), .inl (.int (m (9, 0, 8) (0)))] m (ch_oi (fun (r57 : Int32) (m58 : ch_M) => (narrow .boolean (.int r57) = .int r57) ∧ Q (.inl (some (.inl (.int r57)))) m58)))) ∧ ((m (9, 0, 0) 12) = 111 → (((m (9, 0, 1) (0)) ≤ 0 → (ch_C g m_m_refuses [.inr (9, 0, 0), .inl (.int 13), .inl (.int 0)] m (ch_oi (fun (r59 : Int32) (m60 : ch_M) => (narrow .boolean (.int r59) = .int r59) ∧ Q (.inl (some (.inl (.int r59)))) m60)))) ∧ (¬ (m (9, 0, 1) (0)) ≤ 0 → (ch_C g m_m_goesBy [.inr (9, 0, 0)] m (ch_oi (fun (r61 : Int32) (m62 : ch_M) => (ch_C g m_m_does [.inr (9, 0, 0), .inl (.int r61)] m62 (ch_oi (fun (r63 : Int32) (m64 : ch_M) => (narrow .boolean (.int r63) = .int r63) ∧ Q (.inl (some (.inl (.int r63)))) m64))))))))) ∧ ((m (9, 0, 0) 12) = 112 → (((m (9, 0, 1) (0)) ≤ 0 → (ch_C g m_m_refuses [.inr (9, 0, 0), .inl (.int 13), .inl (.int 0)] m (ch_oi (fun (r65 : Int32) (m66 : ch_M) => (narrow .boolean (.int r65) = .int r65) ∧ Q (.inl (some (.inl (.int r65)))) m66)))) ∧ (¬ (m (9, 0, 1) (0)) ≤ 0 → (ch_C g m_m_goesBy [.inr (9, 0, 0)] m (ch_oi (fun (r67 : Int32) (m68 : ch_M) => (ch_C g m_m_does [.inr (9, 0, 0), .inl (.int r67)] m68 (ch_oi (fun (r69 : Int32) (m70 : ch_M) => (narrow .boolean (.int r69) = .int r69) ∧ Q (.inl (some (.inl (.int r69)))) m70))))))))) ∧ ((m (9, 0, 0) 12) = 113 → (((m (9, 0, 1) (0)) ≤ 0 → (ch_C g m_m_refuses [.inr (9, 0, 0), .inl (.int 13), .inl (.int 0)] m (ch_oi (fun (r71 : Int32) (m72 : ch_M) => (narrow .boolean (.int r71) = .int r71) ∧ Q (.inl (some (.inl (.int r71)))) m72)))) ∧ (¬ (m (9, 0, 1) (0)) ≤ 0 → (ch_C g m_m_goesBy [.inr (9, 0, 0)] m (ch_oi (fun (r73 : Int32) (m74 : ch_M) => (ch_C g m_m_does [.inr (9, 0, 0), .inl (.int r73)] m74 (ch_oi (fun (r75 : Int32) (m76 : ch_M) => (narrow .boolean (.int r75) = .int r75) ∧ Q (.inl (some (.inl (.int r75)))) m76))))))))) ∧ ((m (9, 0, 0) 12) = 114 → (ch_C g m_m_rains [.inr (9, 0, 0), .inl (.int (m (9, 0, 8) (0)))] m (ch_oi (fun (r77 : Int32) (m78 : ch_M) => (narrow .boolean (.int r77) = .int r77) ∧ Q (.inl (some (.inl (.int r77)))) m78)))) ∧ ((m (9, 0, 0) 12) = 115 → (ch_C g m_m_strikes [.inr (9, 0, 0), .inl (.int (m (9, 0, 8) (0)))] m (ch_oi (fun (r79 : Int32) (m80 : ch_M) => (narrow .boolean (.int r79) = .int r79) ∧ Q (.inl (some (.inl (.int r79)))) m80)))) ∧ ((m (9, 0, 0) 12) = 116 → (((m (9, 0, 1) (0)) ≤ 0 → (ch_C g m_m_refuses [.inr (9, 0, 0), .inl (.int 13), .inl (.int 0)] m (ch_oi (fun (r81 : Int32) (m82 : ch_M) => (narrow .boolean (.int r81) = .int r81) ∧ Q (.inl (some (.inl (.int r81)))) m82)))) ∧ (¬ (m (9, 0, 1) (0)) ≤ 0 → (ch_C g m_m_goesBy [.inr (9, 0, 0)] m (ch_oi (fun (r83 : Int32) (m84 : ch_M) => (ch_C g m_m_does [.inr (9, 0, 0), .inl (.int r83)] m84 (ch_oi (fun (r85 : Int32) (m86 : ch_M) => (narrow .boolean (.int r85) = .int r85) ∧ Q (.inl (some (.inl (.int r85)))) m86))))))))) ∧ ((m (9, 0, 0) 12) = 117 → (((m (9, 0, 1) (0)) ≤ 0 → (ch_C g m_m_refuses [.inr (9, 0, 0), .inl (.int 13), .inl (.int 0)] m (ch_oi (fun (r87 : Int32) (m88 : ch_M) => (narrow .boolean (.int r87) = .int r87) ∧ Q (.inl (some (.inl (.int r87)))) m88)))) ∧ (¬ (m (9, 0, 1) (0)) ≤ 0 → (ch_C g m_m_goesBy [.inr (9, 0, 0)] m (ch_oi (fun (r89 : Int32) (m90 : ch_M) => (ch_C g m_m_does [.inr (9, 0, 0), .inl (.int r89)] m90 (ch_oi (fun (r91 : Int32) (m92 : ch_M) => (narrow .boolean (.int r91) = .int r91) ∧ Q (.inl (some (.inl (.int r91)))) m92))))))))) ∧ ((m (9, 0, 0) 12) = 118 → (((m (9, 0, 1) (0)) ≤ 0 → (ch_C g m_m_refuses [.inr (9, 0, 0), .inl (.int 13), .inl (.int 0)] m (ch_oi (fun (r93 : Int32) (m94 : ch_M) => (narrow .boolean (.int r93) = .int r93) ∧ Q (.inl (some (.inl (.int r93)))) m94)))) ∧ (¬ (m (9, 0, 1) (0)) ≤ 0 → (ch_C g m_m_goesBy [.inr (9, 0, 0)] m (ch_oi (fun (r95 : Int32) (m96 : ch_M) => (ch_C g m_m_does [.inr (9, 0, 0), .inl (.int r95)] m96 (ch_oi (fun (r97 : Int32) (m98 : ch_M) => (narrow .boolean (.int r97) = .int r97) ∧ Q (.inl (some (.inl (.int r97)))) m98))))))))) ∧ ((m (9, 0, 0) 12) = 119 → (ch_C g m_m_writes [.inr (9, 0, 0), .inl (.int (m (9, 0, 8) (0)))] m (ch_oi (fun (r99 : Int32) (m100 : ch_M) => (narrow .boolean (.int r99) = .int r99) ∧ Q (.inl (some (.inl (.int r99)))) m100)))) ∧ ((Int32.toInt (m (9, 0, 0) 12) < 99 ∨ 119 < Int32.toInt (m (9, 0, 0) 12)) → (((m (9, 0, 1) (0)) ≤ 0 → (ch_C g m_m_refuses [.inr (9, 0, 0), .inl (.int 13), .inl (.int 0)] m (ch_oi (fun (r101 : Int32) (m102 : ch_M) => (narrow .boolean (.int r101) = .int r101) ∧ Q (.inl (some (.inl (.int r101)))) m102)))) ∧ (¬ (m (9, 0, 1) (0)) ≤ 0 → (ch_C g m_m_goesBy [.inr (9, 0, 0)] m (ch_oi (fun (r103 : Int32) (m104 : ch_M) => (ch_C g m_m_does [.inr (9, 0, 0), .inl (.int r103)] m104 (ch_oi (fun (r105 : Int32) (m106 : ch_M) => (narrow .boolean (.int r105) = .int r105) ∧ Q (.inl (some (.inl (.int r105)))) m106))))))))))) : ch_J g m_m_carries (ch_rm m_m_carries) (ch_E g m_m_carries Q) 0 [some (.inr (9, 0, 0))] [] m 0 := by
  refine ch_aload_n (i := 0) d_m_carries_0 rfl rfl ?_
  refine ch_get (v := .inl (.int (m (9, 0, 0) 12))) d_m_carries_1 fl_m_219 rfl ?_
  by_cases e99 : (m (9, 0, 0) 12) = 99
  · replace h := h.1 e99
    refine ch_tswIn (tgt := 115) (off := 111) d_m_carries_4 (by rw [e99]; decide) (by rw [e99]; decide) (by rw [e99]; rfl) (by decide) ?_
    refine ch_aload_n (i := 0) d_m_carries_115 rfl rfl ?_
    refine ch_aload_n (i := 0) d_m_carries_116 rfl rfl ?_
    refine ch_get (v := .inr (9, 0, 8)) d_m_carries_117 fl_m_32 rfl ?_
    refine ch_iconst (v := 0) d_m_carries_120 (by decide) ?_
    refine ch_iald (n := 3) d_m_carries_121 (by decide) rfl (vp_in_nI (n := 0) (by decide) (by decide)) ?_
    refine ch_aload_n (i := 0) d_m_carries_122 rfl rfl ?_
    refine ch_get (v := .inr (9, 0, 8)) d_m_carries_123 fl_m_32 rfl ?_
    refine ch_iconst (v := 1) d_m_carries_126 (by decide) ?_
    refine ch_iald (n := 3) d_m_carries_127 (by decide) rfl (vp_in_nI (n := 1) (by decide) (by decide)) ?_
    refine ch_callV (as := [.inl (.int (m (9, 0, 8) (0))), .inl (.int (m (9, 0, 8) (1)))]) d_m_carries_128 lk_m_123 mi_m_chalks me_m_chalks rfl rfl rfl ⟨Nat.le_of_ble_eq_true rfl, Nat.le_of_ble_eq_true rfl⟩ (Nat.le_of_ble_eq_true rfl) ⟨Nat.le_of_ble_eq_true rfl, Nat.le_of_ble_eq_true rfl⟩ (ch_mono (ch_Ki (fun r1 m2 h => ?_)) h)
    exact ch_iret (ty := .boolean) d_m_carries_131 rfl h.1 (Nat.le_of_ble_eq_true rfl) h.2
  replace h := h.2
  by_cases e100 : (m (9, 0, 0) 12) = 100
  · replace h := h.1 e100
    refine ch_tswIn (tgt := 220) (off := 216) d_m_carries_4 (by rw [e100]; decide) (by rw [e100]; decide) (by rw [e100]; rfl) (by decide) ?_
    refine ch_aload_n (i := 0) d_m_carries_220 rfl rfl ?_
    refine ch_get (v := .inr (9, 0, 1)) d_m_carries_221 fl_m_9 rfl ?_
    refine ch_iconst (v := 0) d_m_carries_224 (by decide) ?_
    refine ch_iald (n := 63) d_m_carries_225 (by decide) rfl (vp_in_nI (n := 0) (by decide) (by decide)) ?_
    refine ch_if_le (tgt := 240) d_m_carries_226 (by decide) (fun c => ?_) (fun c => ?_)
    · replace h := h.1 c
      refine ch_aload_n (i := 0) d_m_carries_240 rfl rfl ?_
      refine ch_bipush (v := 13) d_m_carries_241 (by decide) ?_
      refine ch_iconst (v := 0) d_m_carries_243 (by decide) ?_
      refine ch_callV (as := [.inl (.int 13), .inl (.int 0)]) d_m_carries_244 lk_m_81 mi_m_refuses me_m_refuses rfl rfl rfl ⟨Nat.le_of_ble_eq_true rfl, Nat.le_of_ble_eq_true rfl⟩ (Nat.le_of_ble_eq_true rfl) ⟨Nat.le_of_ble_eq_true rfl, Nat.le_of_ble_eq_true rfl⟩ (ch_mono (ch_Ki (fun r3 m4 h => ?_)) h)
      exact ch_iret (ty := .boolean) d_m_carries_247 rfl h.1 (Nat.le_of_ble_eq_true rfl) h.2
    · replace h := h.2 c
      refine ch_aload_n (i := 0) d_m_carries_229 rfl rfl ?_
      refine ch_aload_n (i := 0) d_m_carries_230 rfl rfl ?_
      refine ch_callV (as := []) d_m_carries_231 lk_m_176 mi_m_goesBy me_m_goesBy rfl rfl rfl ⟨Nat.le_of_ble_eq_true rfl, Nat.le_of_ble_eq_true rfl⟩ (Nat.le_of_ble_eq_true rfl) ⟨Nat.le_of_ble_eq_true rfl, Nat.le_of_ble_eq_true rfl⟩ (ch_mono (ch_Ki (fun r5 m6 h => ?_)) h)
      refine ch_callV (as := [.inl (.int r5)]) d_m_carries_234 lk_m_93 mi_m_does me_m_does rfl rfl rfl ⟨Nat.le_of_ble_eq_true rfl, Nat.le_of_ble_eq_true rfl⟩ (Nat.le_of_ble_eq_true rfl) ⟨Nat.le_of_ble_eq_true rfl, Nat.le_of_ble_eq_true rfl⟩ (ch_mono (ch_Ki (fun r7 m8 h => ?_)) h)
      refine ch_goto (tgt := 247) d_m_carries_237 (by decide) ?_
      exact ch_iret (ty := .boolean) d_m_carries_247 rfl h.1 (Nat.le_of_ble_eq_true rfl) h.2
  replace h := h.2
  by_cases e101 : (m (9, 0, 0) 12) = 101
  · replace h := h.1 e101
    refine ch_tswIn (tgt := 220) (off := 216) d_m_carries_4 (by rw [e101]; decide) (by rw [e101]; decide) (by rw [e101]; rfl) (by decide) ?_
    refine ch_aload_n (i := 0) d_m_carries_220 rfl rfl ?_
    refine ch_get (v := .inr (9, 0, 1)) d_m_carries_221 fl_m_9 rfl ?_
    refine ch_iconst (v := 0) d_m_carries_224 (by decide) ?_
    refine ch_iald (n := 63) d_m_carries_225 (by decide) rfl (vp_in_nI (n := 0) (by decide) (by decide)) ?_
    refine ch_if_le (tgt := 240) d_m_carries_226 (by decide) (fun c => ?_) (fun c => ?_)
    · replace h := h.1 c
      refine ch_aload_n (i := 0) d_m_carries_240 rfl rfl ?_
      refine ch_bipush (v := 13) d_m_carries_241 (by decide) ?_
      refine ch_iconst (v := 0) d_m_carries_243 (by decide) ?_
      refine ch_callV (as := [.inl (.int 13), .inl (.int 0)]) d_m_carries_244 lk_m_81 mi_m_refuses me_m_refuses rfl rfl rfl ⟨Nat.le_of_ble_eq_true rfl, Nat.le_of_ble_eq_true rfl⟩ (Nat.le_of_ble_eq_true rfl) ⟨Nat.le_of_ble_eq_true rfl, Nat.le_of_ble_eq_true rfl⟩ (ch_mono (ch_Ki (fun r9 m10 h => ?_)) h)
      exact ch_iret (ty := .boolean) d_m_carries_247 rfl h.1 (Nat.le_of_ble_eq_true rfl) h.2
    · replace h := h.2 c
      refine ch_aload_n (i := 0) d_m_carries_229 rfl rfl ?_
      refine ch_aload_n (i := 0) d_m_carries_230 rfl rfl ?_
      refine ch_callV (as := []) d_m_carries_231 lk_m_176 mi_m_goesBy me_m_goesBy rfl rfl rfl ⟨Nat.le_of_ble_eq_true rfl, Nat.le_of_ble_eq_true rfl⟩ (Nat.le_of_ble_eq_true rfl) ⟨Nat.le_of_ble_eq_true rfl, Nat.le_of_ble_eq_true rfl⟩ (ch_mono (ch_Ki (fun r11 m12 h => ?_)) h)
      refine ch_callV (as := [.inl (.int r11)]) d_m_carries_234 lk_m_93 mi_m_does me_m_does rfl rfl rfl ⟨Nat.le_of_ble_eq_true rfl, Nat.le_of_ble_eq_true rfl⟩ (Nat.le_of_ble_eq_true rfl) ⟨Nat.le_of_ble_eq_true rfl, Nat.le_of_ble_eq_true rfl⟩ (ch_mono (ch_Ki (fun r13 m14 h => ?_)) h)
      refine ch_goto (tgt := 247) d_m_carries_237 (by decide) ?_
      exact ch_iret (ty := .boolean) d_m_carries_247 rfl h.1 (Nat.le_of_ble_eq_true rfl) h.2
  replace h := h.2
  by_cases e102 : (m (9, 0, 0) 12) = 102
  · replace h := h.1 e102
    refine ch_tswIn (tgt := 220) (off := 216) d_m_carries_4 (by rw [e102]; decide) (by rw [e102]; decide) (by rw [e102]; rfl) (by decide) ?_
    refine ch_aload_n (i := 0) d_m_carries_220 rfl rfl ?_
    refine ch_get (v := .inr (9, 0, 1)) d_m_carries_221 fl_m_9 rfl ?_
    refine ch_iconst (v := 0) d_m_carries_224 (by decide) ?_
    refine ch_iald (n := 63) d_m_carries_225 (by decide) rfl (vp_in_nI (n := 0) (by decide) (by decide)) ?_
    refine ch_if_le (tgt := 240) d_m_carries_226 (by decide) (fun c => ?_) (fun c => ?_)
    · replace h := h.1 c
      refine ch_aload_n (i := 0) d_m_carries_240 rfl rfl ?_
      refine ch_bipush (v := 13) d_m_carries_241 (by decide) ?_
      refine ch_iconst (v := 0) d_m_carries_243 (by decide) ?_
      refine ch_callV (as := [.inl (.int 13), .inl (.int 0)]) d_m_carries_244 lk_m_81 mi_m_refuses me_m_refuses rfl rfl rfl ⟨Nat.le_of_ble_eq_true rfl, Nat.le_of_ble_eq_true rfl⟩ (Nat.le_of_ble_eq_true rfl) ⟨Nat.le_of_ble_eq_true rfl, Nat.le_of_ble_eq_true rfl⟩ (ch_mono (ch_Ki (fun r15 m16 h => ?_)) h)
      exact ch_iret (ty := .boolean) d_m_carries_247 rfl h.1 (Nat.le_of_ble_eq_true rfl) h.2
    · replace h := h.2 c
      refine ch_aload_n (i := 0) d_m_carries_229 rfl rfl ?_
      refine ch_aload_n (i := 0) d_m_carries_230 rfl rfl ?_
      refine ch_callV (as := []) d_m_carries_231 lk_m_176 mi_m_goesBy me_m_goesBy rfl rfl rfl ⟨Nat.le_of_ble_eq_true rfl, Nat.le_of_ble_eq_true rfl⟩ (Nat.le_of_ble_eq_true rfl) ⟨Nat.le_of_ble_eq_true rfl, Nat.le_of_ble_eq_true rfl⟩ (ch_mono (ch_Ki (fun r17 m18 h => ?_)) h)
      refine ch_callV (as := [.inl (.int r17)]) d_m_carries_234 lk_m_93 mi_m_does me_m_does rfl rfl rfl ⟨Nat.le_of_ble_eq_true rfl, Nat.le_of_ble_eq_true rfl⟩ (Nat.le_of_ble_eq_true rfl) ⟨Nat.le_of_ble_eq_true rfl, Nat.le_of_ble_eq_true rfl⟩ (ch_mono (ch_Ki (fun r19 m20 h => ?_)) h)
      refine ch_goto (tgt := 247) d_m_carries_237 (by decide) ?_
      exact ch_iret (ty := .boolean) d_m_carries_247 rfl h.1 (Nat.le_of_ble_eq_true rfl) h.2
  replace h := h.2
  by_cases e103 : (m (9, 0, 0) 12) = 103
  · replace h := h.1 e103
    refine ch_tswIn (tgt := 197) (off := 193) d_m_carries_4 (by rw [e103]; decide) (by rw [e103]; decide) (by rw [e103]; rfl) (by decide) ?_
    refine ch_aload_n (i := 0) d_m_carries_197 rfl rfl ?_
    refine ch_aload_n (i := 0) d_m_carries_198 rfl rfl ?_
    refine ch_get (v := .inr (9, 0, 8)) d_m_carries_199 fl_m_32 rfl ?_
    refine ch_iconst (v := 0) d_m_carries_202 (by decide) ?_
    refine ch_iald (n := 3) d_m_carries_203 (by decide) rfl (vp_in_nI (n := 0) (by decide) (by decide)) ?_
    refine ch_aload_n (i := 0) d_m_carries_204 rfl rfl ?_
    refine ch_get (v := .inr (9, 0, 8)) d_m_carries_205 fl_m_32 rfl ?_
    refine ch_iconst (v := 1) d_m_carries_208 (by decide) ?_
    refine ch_iald (n := 3) d_m_carries_209 (by decide) rfl (vp_in_nI (n := 1) (by decide) (by decide)) ?_
    refine ch_aload_n (i := 0) d_m_carries_210 rfl rfl ?_
    refine ch_get (v := .inr (9, 0, 8)) d_m_carries_211 fl_m_32 rfl ?_
    refine ch_iconst (v := 2) d_m_carries_214 (by decide) ?_
    refine ch_iald (n := 3) d_m_carries_215 (by decide) rfl (vp_in_nI (n := 2) (by decide) (by decide)) ?_
    refine ch_callV (as := [.inl (.int (m (9, 0, 8) (0))), .inl (.int (m (9, 0, 8) (1))), .inl (.int (m (9, 0, 8) (2)))]) d_m_carries_216 lk_m_179 mi_m_gives me_m_gives rfl rfl rfl ⟨Nat.le_of_ble_eq_true rfl, Nat.le_of_ble_eq_true rfl⟩ (Nat.le_of_ble_eq_true rfl) ⟨Nat.le_of_ble_eq_true rfl, Nat.le_of_ble_eq_true rfl⟩ (ch_mono (ch_Ki (fun r21 m22 h => ?_)) h)
    exact ch_iret (ty := .boolean) d_m_carries_219 rfl h.1 (Nat.le_of_ble_eq_true rfl) h.2
  replace h := h.2
  by_cases e104 : (m (9, 0, 0) 12) = 104
  · replace h := h.1 e104
    refine ch_tswIn (tgt := 132) (off := 128) d_m_carries_4 (by rw [e104]; decide) (by rw [e104]; decide) (by rw [e104]; rfl) (by decide) ?_
    refine ch_aload_n (i := 0) d_m_carries_132 rfl rfl ?_
    refine ch_aload_n (i := 0) d_m_carries_133 rfl rfl ?_
    refine ch_get (v := .inr (9, 0, 8)) d_m_carries_134 fl_m_32 rfl ?_
    refine ch_iconst (v := 0) d_m_carries_137 (by decide) ?_
    refine ch_iald (n := 3) d_m_carries_138 (by decide) rfl (vp_in_nI (n := 0) (by decide) (by decide)) ?_
    refine ch_callV (as := [.inl (.int (m (9, 0, 8) (0)))]) d_m_carries_139 lk_m_144 mi_m_canHop me_m_canHop rfl rfl rfl ⟨Nat.le_of_ble_eq_true rfl, Nat.le_of_ble_eq_true rfl⟩ (Nat.le_of_ble_eq_true rfl) ⟨Nat.le_of_ble_eq_true rfl, Nat.le_of_ble_eq_true rfl⟩ (ch_mono (ch_Ki (fun r23 m24 h => ?_)) h)
    refine ch_if_eq (tgt := 162) d_m_carries_142 (by decide) (fun c => ?_) (fun c => ?_)
    · replace h := h.1 c
      refine ch_iconst (v := 0) d_m_carries_162 (by decide) ?_
      exact ch_iret (ty := .boolean) d_m_carries_163 rfl rfl (Nat.le_of_ble_eq_true rfl) h
    · replace h := h.2 c
      refine ch_aload_n (i := 0) d_m_carries_145 rfl rfl ?_
      refine ch_aload_n (i := 0) d_m_carries_146 rfl rfl ?_
      refine ch_get (v := .inr (9, 0, 8)) d_m_carries_147 fl_m_32 rfl ?_
      refine ch_iconst (v := 0) d_m_carries_150 (by decide) ?_
      refine ch_iald (n := 3) d_m_carries_151 (by decide) rfl (vp_in_nI (n := 0) (by decide) (by decide)) ?_
      refine ch_callV (as := [.inl (.int (m24 (9, 0, 8) (0)))]) d_m_carries_152 lk_m_150 mi_m_hops me_m_hops rfl rfl rfl ⟨Nat.le_of_ble_eq_true rfl, Nat.le_of_ble_eq_true rfl⟩ (Nat.le_of_ble_eq_true rfl) ⟨Nat.le_of_ble_eq_true rfl, Nat.le_of_ble_eq_true rfl⟩ (ch_mono (ch_Ki (fun r25 m26 h => ?_)) h)
      refine ch_if_eq (tgt := 162) d_m_carries_155 (by decide) (fun c => ?_) (fun c => ?_)
      · replace h := h.1 c
        refine ch_iconst (v := 0) d_m_carries_162 (by decide) ?_
        exact ch_iret (ty := .boolean) d_m_carries_163 rfl rfl (Nat.le_of_ble_eq_true rfl) h
      · replace h := h.2 c
        refine ch_iconst (v := 1) d_m_carries_158 (by decide) ?_
        refine ch_goto (tgt := 163) d_m_carries_159 (by decide) ?_
        exact ch_iret (ty := .boolean) d_m_carries_163 rfl rfl (Nat.le_of_ble_eq_true rfl) h
  replace h := h.2
  by_cases e105 : (m (9, 0, 0) 12) = 105
  · replace h := h.1 e105
    refine ch_tswIn (tgt := 220) (off := 216) d_m_carries_4 (by rw [e105]; decide) (by rw [e105]; decide) (by rw [e105]; rfl) (by decide) ?_
    refine ch_aload_n (i := 0) d_m_carries_220 rfl rfl ?_
    refine ch_get (v := .inr (9, 0, 1)) d_m_carries_221 fl_m_9 rfl ?_
    refine ch_iconst (v := 0) d_m_carries_224 (by decide) ?_
    refine ch_iald (n := 63) d_m_carries_225 (by decide) rfl (vp_in_nI (n := 0) (by decide) (by decide)) ?_
    refine ch_if_le (tgt := 240) d_m_carries_226 (by decide) (fun c => ?_) (fun c => ?_)
    · replace h := h.1 c
      refine ch_aload_n (i := 0) d_m_carries_240 rfl rfl ?_
      refine ch_bipush (v := 13) d_m_carries_241 (by decide) ?_
      refine ch_iconst (v := 0) d_m_carries_243 (by decide) ?_
      refine ch_callV (as := [.inl (.int 13), .inl (.int 0)]) d_m_carries_244 lk_m_81 mi_m_refuses me_m_refuses rfl rfl rfl ⟨Nat.le_of_ble_eq_true rfl, Nat.le_of_ble_eq_true rfl⟩ (Nat.le_of_ble_eq_true rfl) ⟨Nat.le_of_ble_eq_true rfl, Nat.le_of_ble_eq_true rfl⟩ (ch_mono (ch_Ki (fun r27 m28 h => ?_)) h)
      exact ch_iret (ty := .boolean) d_m_carries_247 rfl h.1 (Nat.le_of_ble_eq_true rfl) h.2
    · replace h := h.2 c
      refine ch_aload_n (i := 0) d_m_carries_229 rfl rfl ?_
      refine ch_aload_n (i := 0) d_m_carries_230 rfl rfl ?_
      refine ch_callV (as := []) d_m_carries_231 lk_m_176 mi_m_goesBy me_m_goesBy rfl rfl rfl ⟨Nat.le_of_ble_eq_true rfl, Nat.le_of_ble_eq_true rfl⟩ (Nat.le_of_ble_eq_true rfl) ⟨Nat.le_of_ble_eq_true rfl, Nat.le_of_ble_eq_true rfl⟩ (ch_mono (ch_Ki (fun r29 m30 h => ?_)) h)
      refine ch_callV (as := [.inl (.int r29)]) d_m_carries_234 lk_m_93 mi_m_does me_m_does rfl rfl rfl ⟨Nat.le_of_ble_eq_true rfl, Nat.le_of_ble_eq_true rfl⟩ (Nat.le_of_ble_eq_true rfl) ⟨Nat.le_of_ble_eq_true rfl, Nat.le_of_ble_eq_true rfl⟩ (ch_mono (ch_Ki (fun r31 m32 h => ?_)) h)
      refine ch_goto (tgt := 247) d_m_carries_237 (by decide) ?_
      exact ch_iret (ty := .boolean) d_m_carries_247 rfl h.1 (Nat.le_of_ble_eq_true rfl) h.2
  replace h := h.2
  by_cases e106 : (m (9, 0, 0) 12) = 106
  · replace h := h.1 e106
    refine ch_tswIn (tgt := 220) (off := 216) d_m_carries_4 (by rw [e106]; decide) (by rw [e106]; decide) (by rw [e106]; rfl) (by decide) ?_
    refine ch_aload_n (i := 0) d_m_carries_220 rfl rfl ?_
    refine ch_get (v := .inr (9, 0, 1)) d_m_carries_221 fl_m_9 rfl ?_
    refine ch_iconst (v := 0) d_m_carries_224 (by decide) ?_
    refine ch_iald (n := 63) d_m_carries_225 (by decide) rfl (vp_in_nI (n := 0) (by decide) (by decide)) ?_
    refine ch_if_le (tgt := 240) d_m_carries_226 (by decide) (fun c => ?_) (fun c => ?_)
    · replace h := h.1 c
      refine ch_aload_n (i := 0) d_m_carries_240 rfl rfl ?_
      refine ch_bipush (v := 13) d_m_carries_241 (by decide) ?_
      refine ch_iconst (v := 0) d_m_carries_243 (by decide) ?_
      refine ch_callV (as := [.inl (.int 13), .inl (.int 0)]) d_m_carries_244 lk_m_81 mi_m_refuses me_m_refuses rfl rfl rfl ⟨Nat.le_of_ble_eq_true rfl, Nat.le_of_ble_eq_true rfl⟩ (Nat.le_of_ble_eq_true rfl) ⟨Nat.le_of_ble_eq_true rfl, Nat.le_of_ble_eq_true rfl⟩ (ch_mono (ch_Ki (fun r33 m34 h => ?_)) h)
      exact ch_iret (ty := .boolean) d_m_carries_247 rfl h.1 (Nat.le_of_ble_eq_true rfl) h.2
    · replace h := h.2 c
      refine ch_aload_n (i := 0) d_m_carries_229 rfl rfl ?_
      refine ch_aload_n (i := 0) d_m_carries_230 rfl rfl ?_
      refine ch_callV (as := []) d_m_carries_231 lk_m_176 mi_m_goesBy me_m_goesBy rfl rfl rfl ⟨Nat.le_of_ble_eq_true rfl, Nat.le_of_ble_eq_true rfl⟩ (Nat.le_of_ble_eq_true rfl) ⟨Nat.le_of_ble_eq_true rfl, Nat.le_of_ble_eq_true rfl⟩ (ch_mono (ch_Ki (fun r35 m36 h => ?_)) h)
      refine ch_callV (as := [.inl (.int r35)]) d_m_carries_234 lk_m_93 mi_m_does me_m_does rfl rfl rfl ⟨Nat.le_of_ble_eq_true rfl, Nat.le_of_ble_eq_true rfl⟩ (Nat.le_of_ble_eq_true rfl) ⟨Nat.le_of_ble_eq_true rfl, Nat.le_of_ble_eq_true rfl⟩ (ch_mono (ch_Ki (fun r37 m38 h => ?_)) h)
      refine ch_goto (tgt := 247) d_m_carries_237 (by decide) ?_
      exact ch_iret (ty := .boolean) d_m_carries_247 rfl h.1 (Nat.le_of_ble_eq_true rfl) h.2
  replace h := h.2
  by_cases e107 : (m (9, 0, 0) 12) = 107
  · replace h := h.1 e107
    refine ch_tswIn (tgt := 220) (off := 216) d_m_carries_4 (by rw [e107]; decide) (by rw [e107]; decide) (by rw [e107]; rfl) (by decide) ?_
    refine ch_aload_n (i := 0) d_m_carries_220 rfl rfl ?_
    refine ch_get (v := .inr (9, 0, 1)) d_m_carries_221 fl_m_9 rfl ?_
    refine ch_iconst (v := 0) d_m_carries_224 (by decide) ?_
    refine ch_iald (n := 63) d_m_carries_225 (by decide) rfl (vp_in_nI (n := 0) (by decide) (by decide)) ?_
    refine ch_if_le (tgt := 240) d_m_carries_226 (by decide) (fun c => ?_) (fun c => ?_)
    · replace h := h.1 c
      refine ch_aload_n (i := 0) d_m_carries_240 rfl rfl ?_
      refine ch_bipush (v := 13) d_m_carries_241 (by decide) ?_
      refine ch_iconst (v := 0) d_m_carries_243 (by decide) ?_
      refine ch_callV (as := [.inl (.int 13), .inl (.int 0)]) d_m_carries_244 lk_m_81 mi_m_refuses me_m_refuses rfl rfl rfl ⟨Nat.le_of_ble_eq_true rfl, Nat.le_of_ble_eq_true rfl⟩ (Nat.le_of_ble_eq_true rfl) ⟨Nat.le_of_ble_eq_true rfl, Nat.le_of_ble_eq_true rfl⟩ (ch_mono (ch_Ki (fun r39 m40 h => ?_)) h)
      exact ch_iret (ty := .boolean) d_m_carries_247 rfl h.1 (Nat.le_of_ble_eq_true rfl) h.2
    · replace h := h.2 c
      refine ch_aload_n (i := 0) d_m_carries_229 rfl rfl ?_
      refine ch_aload_n (i := 0) d_m_carries_230 rfl rfl ?_
      refine ch_callV (as := []) d_m_carries_231 lk_m_176 mi_m_goesBy me_m_goesBy rfl rfl rfl ⟨Nat.le_of_ble_eq_true rfl, Nat.le_of_ble_eq_true rfl⟩ (Nat.le_of_ble_eq_true rfl) ⟨Nat.le_of_ble_eq_true rfl, Nat.le_of_ble_eq_true rfl⟩ (ch_mono (ch_Ki (fun r41 m42 h => ?_)) h)
      refine ch_callV (as := [.inl (.int r41)]) d_m_carries_234 lk_m_93 mi_m_does me_m_does rfl rfl rfl ⟨Nat.le_of_ble_eq_true rfl, Nat.le_of_ble_eq_true rfl⟩ (Nat.le_of_ble_eq_true rfl) ⟨Nat.le_of_ble_eq_true rfl, Nat.le_of_ble_eq_true rfl⟩ (ch_mono (ch_Ki (fun r43 m44 h => ?_)) h)
      refine ch_goto (tgt := 247) d_m_carries_237 (by decide) ?_
      exact ch_iret (ty := .boolean) d_m_carries_247 rfl h.1 (Nat.le_of_ble_eq_true rfl) h.2
  replace h := h.2
  by_cases e108 : (m (9, 0, 0) 12) = 108
  · replace h := h.1 e108
    refine ch_tswIn (tgt := 220) (off := 216) d_m_carries_4 (by rw [e108]; decide) (by rw [e108]; decide) (by rw [e108]; rfl) (by decide) ?_
    refine ch_aload_n (i := 0) d_m_carries_220 rfl rfl ?_
    refine ch_get (v := .inr (9, 0, 1)) d_m_carries_221 fl_m_9 rfl ?_
    refine ch_iconst (v := 0) d_m_carries_224 (by decide) ?_
    refine ch_iald (n := 63) d_m_carries_225 (by decide) rfl (vp_in_nI (n := 0) (by decide) (by decide)) ?_
    refine ch_if_le (tgt := 240) d_m_carries_226 (by decide) (fun c => ?_) (fun c => ?_)
    · replace h := h.1 c
      refine ch_aload_n (i := 0) d_m_carries_240 rfl rfl ?_
      refine ch_bipush (v := 13) d_m_carries_241 (by decide) ?_
      refine ch_iconst (v := 0) d_m_carries_243 (by decide) ?_
      refine ch_callV (as := [.inl (.int 13), .inl (.int 0)]) d_m_carries_244 lk_m_81 mi_m_refuses me_m_refuses rfl rfl rfl ⟨Nat.le_of_ble_eq_true rfl, Nat.le_of_ble_eq_true rfl⟩ (Nat.le_of_ble_eq_true rfl) ⟨Nat.le_of_ble_eq_true rfl, Nat.le_of_ble_eq_true rfl⟩ (ch_mono (ch_Ki (fun r45 m46 h => ?_)) h)
      exact ch_iret (ty := .boolean) d_m_carries_247 rfl h.1 (Nat.le_of_ble_eq_true rfl) h.2
    · replace h := h.2 c
      refine ch_aload_n (i := 0) d_m_carries_229 rfl rfl ?_
      refine ch_aload_n (i := 0) d_m_carries_230 rfl rfl ?_
      refine ch_callV (as := []) d_m_carries_231 lk_m_176 mi_m_goesBy me_m_goesBy rfl rfl rfl ⟨Nat.le_of_ble_eq_true rfl, Nat.le_of_ble_eq_true rfl⟩ (Nat.le_of_ble_eq_true rfl) ⟨Nat.le_of_ble_eq_true rfl, Nat.le_of_ble_eq_true rfl⟩ (ch_mono (ch_Ki (fun r47 m48 h => ?_)) h)
      refine ch_callV (as := [.inl (.int r47)]) d_m_carries_234 lk_m_93 mi_m_does me_m_does rfl rfl rfl ⟨Nat.le_of_ble_eq_true rfl, Nat.le_of_ble_eq_true rfl⟩ (Nat.le_of_ble_eq_true rfl) ⟨Nat.le_of_ble_eq_true rfl, Nat.le_of_ble_eq_true rfl⟩ (ch_mono (ch_Ki (fun r49 m50 h => ?_)) h)
      refine ch_goto (tgt := 247) d_m_carries_237 (by decide) ?_
      exact ch_iret (ty := .boolean) d_m_carries_247 rfl h.1 (Nat.le_of_ble_eq_true rfl) h.2
  replace h := h.2
  by_cases e109 : (m (9, 0, 0) 12) = 109
  · replace h := h.1 e109
    refine ch_tswIn (tgt := 220) (off := 216) d_m_carries_4 (by rw [e109]; decide) (by rw [e109]; decide) (by rw [e109]; rfl) (by decide) ?_
    refine ch_aload_n (i := 0) d_m_carries_220 rfl rfl ?_
    refine ch_get (v := .inr (9, 0, 1)) d_m_carries_221 fl_m_9 rfl ?_
    refine ch_iconst (v := 0) d_m_carries_224 (by decide) ?_
    refine ch_iald (n := 63) d_m_carries_225 (by decide) rfl (vp_in_nI (n := 0) (by decide) (by decide)) ?_
    refine ch_if_le (tgt := 240) d_m_carries_226 (by decide) (fun c => ?_) (fun c => ?_)
    · replace h := h.1 c
      refine ch_aload_n (i := 0) d_m_carries_240 rfl rfl ?_
      refine ch_bipush (v := 13) d_m_carries_241 (by decide) ?_
      refine ch_iconst (v := 0) d_m_carries_243 (by decide) ?_
      refine ch_callV (as := [.inl (.int 13), .inl (.int 0)]) d_m_carries_244 lk_m_81 mi_m_refuses me_m_refuses rfl rfl rfl ⟨Nat.le_of_ble_eq_true rfl, Nat.le_of_ble_eq_true rfl⟩ (Nat.le_of_ble_eq_true rfl) ⟨Nat.le_of_ble_eq_true rfl, Nat.le_of_ble_eq_true rfl⟩ (ch_mono (ch_Ki (fun r51 m52 h => ?_)) h)
      exact ch_iret (ty := .boolean) d_m_carries_247 rfl h.1 (Nat.le_of_ble_eq_true rfl) h.2
    · replace h := h.2 c
      refine ch_aload_n (i := 0) d_m_carries_229 rfl rfl ?_
      refine ch_aload_n (i := 0) d_m_carries_230 rfl rfl ?_
      refine ch_callV (as := []) d_m_carries_231 lk_m_176 mi_m_goesBy me_m_goesBy rfl rfl rfl ⟨Nat.le_of_ble_eq_true rfl, Nat.le_of_ble_eq_true rfl⟩ (Nat.le_of_ble_eq_true rfl) ⟨Nat.le_of_ble_eq_true rfl, Nat.le_of_ble_eq_true rfl⟩ (ch_mono (ch_Ki (fun r53 m54 h => ?_)) h)
      refine ch_callV (as := [.inl (.int r53)]) d_m_carries_234 lk_m_93 mi_m_does me_m_does rfl rfl rfl ⟨Nat.le_of_ble_eq_true rfl, Nat.le_of_ble_eq_true rfl⟩ (Nat.le_of_ble_eq_true rfl) ⟨Nat.le_of_ble_eq_true rfl, Nat.le_of_ble_eq_true rfl⟩ (ch_mono (ch_Ki (fun r55 m56 h => ?_)) h)
      refine ch_goto (tgt := 247) d_m_carries_237 (by decide) ?_
      exact ch_iret (ty := .boolean) d_m_carries_247 rfl h.1 (Nat.le_of_ble_eq_true rfl) h.2
  replace h := h.2
  by_cases e110 : (m (9, 0, 0) 12) = 110
  · replace h := h.1 e110
    refine ch_tswIn (tgt := 104) (off := 100) d_m_carries_4 (by rw [e110]; decide) (by rw [e110]; decide) (by rw [e110]; rfl) (by decide) ?_
    refine ch_aload_n (i := 0) d_m_carries_104 rfl rfl ?_
    refine ch_aload_n (i := 0) d_m_carries_105 rfl rfl ?_
    refine ch_get (v := .inr (9, 0, 8)) d_m_carries_106 fl_m_32 rfl ?_
    refine ch_iconst (v := 0) d_m_carries_109 (by decide) ?_
    refine ch_iald (n := 3) d_m_carries_110 (by decide) rfl (vp_in_nI (n := 0) (by decide) (by decide)) ?_
    refine ch_callV (as := [.inl (.int (m (9, 0, 8) (0)))]) d_m_carries_111 lk_m_99 mi_m_comes me_m_comes rfl rfl rfl ⟨Nat.le_of_ble_eq_true rfl, Nat.le_of_ble_eq_true rfl⟩ (Nat.le_of_ble_eq_true rfl) ⟨Nat.le_of_ble_eq_true rfl, Nat.le_of_ble_eq_true rfl⟩ (ch_mono (ch_Ki (fun r57 m58 h => ?_)) h)
    exact ch_iret (ty := .boolean) d_m_carries_114 rfl h.1 (Nat.le_of_ble_eq_true rfl) h.2
  replace h := h.2
  by_cases e111 : (m (9, 0, 0) 12) = 111
  · replace h := h.1 e111
    refine ch_tswIn (tgt := 220) (off := 216) d_m_carries_4 (by rw [e111]; decide) (by rw [e111]; decide) (by rw [e111]; rfl) (by decide) ?_
    refine ch_aload_n (i := 0) d_m_carries_220 rfl rfl ?_
    refine ch_get (v := .inr (9, 0, 1)) d_m_carries_221 fl_m_9 rfl ?_
    refine ch_iconst (v := 0) d_m_carries_224 (by decide) ?_
    refine ch_iald (n := 63) d_m_carries_225 (by decide) rfl (vp_in_nI (n := 0) (by decide) (by decide)) ?_
    refine ch_if_le (tgt := 240) d_m_carries_226 (by decide) (fun c => ?_) (fun c => ?_)
    · replace h := h.1 c
      refine ch_aload_n (i := 0) d_m_carries_240 rfl rfl ?_
      refine ch_bipush (v := 13) d_m_carries_241 (by decide) ?_
      refine ch_iconst (v := 0) d_m_carries_243 (by decide) ?_
      refine ch_callV (as := [.inl (.int 13), .inl (.int 0)]) d_m_carries_244 lk_m_81 mi_m_refuses me_m_refuses rfl rfl rfl ⟨Nat.le_of_ble_eq_true rfl, Nat.le_of_ble_eq_true rfl⟩ (Nat.le_of_ble_eq_true rfl) ⟨Nat.le_of_ble_eq_true rfl, Nat.le_of_ble_eq_true rfl⟩ (ch_mono (ch_Ki (fun r59 m60 h => ?_)) h)
      exact ch_iret (ty := .boolean) d_m_carries_247 rfl h.1 (Nat.le_of_ble_eq_true rfl) h.2
    · replace h := h.2 c
      refine ch_aload_n (i := 0) d_m_carries_229 rfl rfl ?_
      refine ch_aload_n (i := 0) d_m_carries_230 rfl rfl ?_
      refine ch_callV (as := []) d_m_carries_231 lk_m_176 mi_m_goesBy me_m_goesBy rfl rfl rfl ⟨Nat.le_of_ble_eq_true rfl, Nat.le_of_ble_eq_true rfl⟩ (Nat.le_of_ble_eq_true rfl) ⟨Nat.le_of_ble_eq_true rfl, Nat.le_of_ble_eq_true rfl⟩ (ch_mono (ch_Ki (fun r61 m62 h => ?_)) h)
      refine ch_callV (as := [.inl (.int r61)]) d_m_carries_234 lk_m_93 mi_m_does me_m_does rfl rfl rfl ⟨Nat.le_of_ble_eq_true rfl, Nat.le_of_ble_eq_true rfl⟩ (Nat.le_of_ble_eq_true rfl) ⟨Nat.le_of_ble_eq_true rfl, Nat.le_of_ble_eq_true rfl⟩ (ch_mono (ch_Ki (fun r63 m64 h => ?_)) h)
      refine ch_goto (tgt := 247) d_m_carries_237 (by decide) ?_
      exact ch_iret (ty := .boolean) d_m_carries_247 rfl h.1 (Nat.le_of_ble_eq_true rfl) h.2
  replace h := h.2
  by_cases e112 : (m (9, 0, 0) 12) = 112
  · replace h := h.1 e112
    refine ch_tswIn (tgt := 220) (off := 216) d_m_carries_4 (by rw [e112]; decide) (by rw [e112]; decide) (by rw [e112]; rfl) (by decide) ?_
    refine ch_aload_n (i := 0) d_m_carries_220 rfl rfl ?_
    refine ch_get (v := .inr (9, 0, 1)) d_m_carries_221 fl_m_9 rfl ?_
    refine ch_iconst (v := 0) d_m_carries_224 (by decide) ?_
    refine ch_iald (n := 63) d_m_carries_225 (by decide) rfl (vp_in_nI (n := 0) (by decide) (by decide)) ?_
    refine ch_if_le (tgt := 240) d_m_carries_226 (by decide) (fun c => ?_) (fun c => ?_)
    · replace h := h.1 c
      refine ch_aload_n (i := 0) d_m_carries_240 rfl rfl ?_
      refine ch_bipush (v := 13) d_m_carries_241 (by decide) ?_
      refine ch_iconst (v := 0) d_m_carries_243 (by decide) ?_
      refine ch_callV (as := [.inl (.int 13), .inl (.int 0)]) d_m_carries_244 lk_m_81 mi_m_refuses me_m_refuses rfl rfl rfl ⟨Nat.le_of_ble_eq_true rfl, Nat.le_of_ble_eq_true rfl⟩ (Nat.le_of_ble_eq_true rfl) ⟨Nat.le_of_ble_eq_true rfl, Nat.le_of_ble_eq_true rfl⟩ (ch_mono (ch_Ki (fun r65 m66 h => ?_)) h)
      exact ch_iret (ty := .boolean) d_m_carries_247 rfl h.1 (Nat.le_of_ble_eq_true rfl) h.2
    · replace h := h.2 c
      refine ch_aload_n (i := 0) d_m_carries_229 rfl rfl ?_
      refine ch_aload_n (i := 0) d_m_carries_230 rfl rfl ?_
      refine ch_callV (as := []) d_m_carries_231 lk_m_176 mi_m_goesBy me_m_goesBy rfl rfl rfl ⟨Nat.le_of_ble_eq_true rfl, Nat.le_of_ble_eq_true rfl⟩ (Nat.le_of_ble_eq_true rfl) ⟨Nat.le_of_ble_eq_true rfl, Nat.le_of_ble_eq_true rfl⟩ (ch_mono (ch_Ki (fun r67 m68 h => ?_)) h)
      refine ch_callV (as := [.inl (.int r67)]) d_m_carries_234 lk_m_93 mi_m_does me_m_does rfl rfl rfl ⟨Nat.le_of_ble_eq_true rfl, Nat.le_of_ble_eq_true rfl⟩ (Nat.le_of_ble_eq_true rfl) ⟨Nat.le_of_ble_eq_true rfl, Nat.le_of_ble_eq_true rfl⟩ (ch_mono (ch_Ki (fun r69 m70 h => ?_)) h)
      refine ch_goto (tgt := 247) d_m_carries_237 (by decide) ?_
      exact ch_iret (ty := .boolean) d_m_carries_247 rfl h.1 (Nat.le_of_ble_eq_true rfl) h.2
  replace h := h.2
  by_cases e113 : (m (9, 0, 0) 12) = 113
  · replace h := h.1 e113
    refine ch_tswIn (tgt := 220) (off := 216) d_m_carries_4 (by rw [e113]; decide) (by rw [e113]; decide) (by rw [e113]; rfl) (by decide) ?_
    refine ch_aload_n (i := 0) d_m_carries_220 rfl rfl ?_
    refine ch_get (v := .inr (9, 0, 1)) d_m_carries_221 fl_m_9 rfl ?_
    refine ch_iconst (v := 0) d_m_carries_224 (by decide) ?_
    refine ch_iald (n := 63) d_m_carries_225 (by decide) rfl (vp_in_nI (n := 0) (by decide) (by decide)) ?_
    refine ch_if_le (tgt := 240) d_m_carries_226 (by decide) (fun c => ?_) (fun c => ?_)
    · replace h := h.1 c
      refine ch_aload_n (i := 0) d_m_carries_240 rfl rfl ?_
      refine ch_bipush (v := 13) d_m_carries_241 (by decide) ?_
      refine ch_iconst (v := 0) d_m_carries_243 (by decide) ?_
      refine ch_callV (as := [.inl (.int 13), .inl (.int 0)]) d_m_carries_244 lk_m_81 mi_m_refuses me_m_refuses rfl rfl rfl ⟨Nat.le_of_ble_eq_true rfl, Nat.le_of_ble_eq_true rfl⟩ (Nat.le_of_ble_eq_true rfl) ⟨Nat.le_of_ble_eq_true rfl, Nat.le_of_ble_eq_true rfl⟩ (ch_mono (ch_Ki (fun r71 m72 h => ?_)) h)
      exact ch_iret (ty := .boolean) d_m_carries_247 rfl h.1 (Nat.le_of_ble_eq_true rfl) h.2
    · replace h := h.2 c
      refine ch_aload_n (i := 0) d_m_carries_229 rfl rfl ?_
      refine ch_aload_n (i := 0) d_m_carries_230 rfl rfl ?_
      refine ch_callV (as := []) d_m_carries_231 lk_m_176 mi_m_goesBy me_m_goesBy rfl rfl rfl ⟨Nat.le_of_ble_eq_true rfl, Nat.le_of_ble_eq_true rfl⟩ (Nat.le_of_ble_eq_true rfl) ⟨Nat.le_of_ble_eq_true rfl, Nat.le_of_ble_eq_true rfl⟩ (ch_mono (ch_Ki (fun r73 m74 h => ?_)) h)
      refine ch_callV (as := [.inl (.int r73)]) d_m_carries_234 lk_m_93 mi_m_does me_m_does rfl rfl rfl ⟨Nat.le_of_ble_eq_true rfl, Nat.le_of_ble_eq_true rfl⟩ (Nat.le_of_ble_eq_true rfl) ⟨Nat.le_of_ble_eq_true rfl, Nat.le_of_ble_eq_true rfl⟩ (ch_mono (ch_Ki (fun r75 m76 h => ?_)) h)
      refine ch_goto (tgt := 247) d_m_carries_237 (by decide) ?_
      exact ch_iret (ty := .boolean) d_m_carries_247 rfl h.1 (Nat.le_of_ble_eq_true rfl) h.2
  replace h := h.2
  by_cases e114 : (m (9, 0, 0) 12) = 114
  · replace h := h.1 e114
    refine ch_tswIn (tgt := 186) (off := 182) d_m_carries_4 (by rw [e114]; decide) (by rw [e114]; decide) (by rw [e114]; rfl) (by decide) ?_
    refine ch_aload_n (i := 0) d_m_carries_186 rfl rfl ?_
    refine ch_aload_n (i := 0) d_m_carries_187 rfl rfl ?_
    refine ch_get (v := .inr (9, 0, 8)) d_m_carries_188 fl_m_32 rfl ?_
    refine ch_iconst (v := 0) d_m_carries_191 (by decide) ?_
    refine ch_iald (n := 3) d_m_carries_192 (by decide) rfl (vp_in_nI (n := 0) (by decide) (by decide)) ?_
    refine ch_callV (as := [.inl (.int (m (9, 0, 8) (0)))]) d_m_carries_193 lk_m_168 mi_m_rains me_m_rains rfl rfl rfl ⟨Nat.le_of_ble_eq_true rfl, Nat.le_of_ble_eq_true rfl⟩ (Nat.le_of_ble_eq_true rfl) ⟨Nat.le_of_ble_eq_true rfl, Nat.le_of_ble_eq_true rfl⟩ (ch_mono (ch_Ki (fun r77 m78 h => ?_)) h)
    exact ch_iret (ty := .boolean) d_m_carries_196 rfl h.1 (Nat.le_of_ble_eq_true rfl) h.2
  replace h := h.2
  by_cases e115 : (m (9, 0, 0) 12) = 115
  · replace h := h.1 e115
    refine ch_tswIn (tgt := 175) (off := 171) d_m_carries_4 (by rw [e115]; decide) (by rw [e115]; decide) (by rw [e115]; rfl) (by decide) ?_
    refine ch_aload_n (i := 0) d_m_carries_175 rfl rfl ?_
    refine ch_aload_n (i := 0) d_m_carries_176 rfl rfl ?_
    refine ch_get (v := .inr (9, 0, 8)) d_m_carries_177 fl_m_32 rfl ?_
    refine ch_iconst (v := 0) d_m_carries_180 (by decide) ?_
    refine ch_iald (n := 3) d_m_carries_181 (by decide) rfl (vp_in_nI (n := 0) (by decide) (by decide)) ?_
    refine ch_callV (as := [.inl (.int (m (9, 0, 8) (0)))]) d_m_carries_182 lk_m_159 mi_m_strikes me_m_strikes rfl rfl rfl ⟨Nat.le_of_ble_eq_true rfl, Nat.le_of_ble_eq_true rfl⟩ (Nat.le_of_ble_eq_true rfl) ⟨Nat.le_of_ble_eq_true rfl, Nat.le_of_ble_eq_true rfl⟩ (ch_mono (ch_Ki (fun r79 m80 h => ?_)) h)
    exact ch_iret (ty := .boolean) d_m_carries_185 rfl h.1 (Nat.le_of_ble_eq_true rfl) h.2
  replace h := h.2
  by_cases e116 : (m (9, 0, 0) 12) = 116
  · replace h := h.1 e116
    refine ch_tswIn (tgt := 220) (off := 216) d_m_carries_4 (by rw [e116]; decide) (by rw [e116]; decide) (by rw [e116]; rfl) (by decide) ?_
    refine ch_aload_n (i := 0) d_m_carries_220 rfl rfl ?_
    refine ch_get (v := .inr (9, 0, 1)) d_m_carries_221 fl_m_9 rfl ?_
    refine ch_iconst (v := 0) d_m_carries_224 (by decide) ?_
    refine ch_iald (n := 63) d_m_carries_225 (by decide) rfl (vp_in_nI (n := 0) (by decide) (by decide)) ?_
    refine ch_if_le (tgt := 240) d_m_carries_226 (by decide) (fun c => ?_) (fun c => ?_)
    · replace h := h.1 c
      refine ch_aload_n (i := 0) d_m_carries_240 rfl rfl ?_
      refine ch_bipush (v := 13) d_m_carries_241 (by decide) ?_
      refine ch_iconst (v := 0) d_m_carries_243 (by decide) ?_
      refine ch_callV (as := [.inl (.int 13), .inl (.int 0)]) d_m_carries_244 lk_m_81 mi_m_refuses me_m_refuses rfl rfl rfl ⟨Nat.le_of_ble_eq_true rfl, Nat.le_of_ble_eq_true rfl⟩ (Nat.le_of_ble_eq_true rfl) ⟨Nat.le_of_ble_eq_true rfl, Nat.le_of_ble_eq_true rfl⟩ (ch_mono (ch_Ki (fun r81 m82 h => ?_)) h)
      exact ch_iret (ty := .boolean) d_m_carries_247 rfl h.1 (Nat.le_of_ble_eq_true rfl) h.2
    · replace h := h.2 c
      refine ch_aload_n (i := 0) d_m_carries_229 rfl rfl ?_
      refine ch_aload_n (i := 0) d_m_carries_230 rfl rfl ?_
      refine ch_callV (as := []) d_m_carries_231 lk_m_176 mi_m_goesBy me_m_goesBy rfl rfl rfl ⟨Nat.le_of_ble_eq_true rfl, Nat.le_of_ble_eq_true rfl⟩ (Nat.le_of_ble_eq_true rfl) ⟨Nat.le_of_ble_eq_true rfl, Nat.le_of_ble_eq_true rfl⟩ (ch_mono (ch_Ki (fun r83 m84 h => ?_)) h)
      refine ch_callV (as := [.inl (.int r83)]) d_m_carries_234 lk_m_93 mi_m_does me_m_does rfl rfl rfl ⟨Nat.le_of_ble_eq_true rfl, Nat.le_of_ble_eq_true rfl⟩ (Nat.le_of_ble_eq_true rfl) ⟨Nat.le_of_ble_eq_true rfl, Nat.le_of_ble_eq_true rfl⟩ (ch_mono (ch_Ki (fun r85 m86 h => ?_)) h)
      refine ch_goto (tgt := 247) d_m_carries_237 (by decide) ?_
      exact ch_iret (ty := .boolean) d_m_carries_247 rfl h.1 (Nat.le_of_ble_eq_true rfl) h.2
  replace h := h.2
  by_cases e117 : (m (9, 0, 0) 12) = 117
  · replace h := h.1 e117
    refine ch_tswIn (tgt := 220) (off := 216) d_m_carries_4 (by rw [e117]; decide) (by rw [e117]; decide) (by rw [e117]; rfl) (by decide) ?_
    refine ch_aload_n (i := 0) d_m_carries_220 rfl rfl ?_
    refine ch_get (v := .inr (9, 0, 1)) d_m_carries_221 fl_m_9 rfl ?_
    refine ch_iconst (v := 0) d_m_carries_224 (by decide) ?_
    refine ch_iald (n := 63) d_m_carries_225 (by decide) rfl (vp_in_nI (n := 0) (by decide) (by decide)) ?_
    refine ch_if_le (tgt := 240) d_m_carries_226 (by decide) (fun c => ?_) (fun c => ?_)
    · replace h := h.1 c
      refine ch_aload_n (i := 0) d_m_carries_240 rfl rfl ?_
      refine ch_bipush (v := 13) d_m_carries_241 (by decide) ?_
      refine ch_iconst (v := 0) d_m_carries_243 (by decide) ?_
      refine ch_callV (as := [.inl (.int 13), .inl (.int 0)]) d_m_carries_244 lk_m_81 mi_m_refuses me_m_refuses rfl rfl rfl ⟨Nat.le_of_ble_eq_true rfl, Nat.le_of_ble_eq_true rfl⟩ (Nat.le_of_ble_eq_true rfl) ⟨Nat.le_of_ble_eq_true rfl, Nat.le_of_ble_eq_true rfl⟩ (ch_mono (ch_Ki (fun r87 m88 h => ?_)) h)
      exact ch_iret (ty := .boolean) d_m_carries_247 rfl h.1 (Nat.le_of_ble_eq_true rfl) h.2
    · replace h := h.2 c
      refine ch_aload_n (i := 0) d_m_carries_229 rfl rfl ?_
      refine ch_aload_n (i := 0) d_m_carries_230 rfl rfl ?_
      refine ch_callV (as := []) d_m_carries_231 lk_m_176 mi_m_goesBy me_m_goesBy rfl rfl rfl ⟨Nat.le_of_ble_eq_true rfl, Nat.le_of_ble_eq_true rfl⟩ (Nat.le_of_ble_eq_true rfl) ⟨Nat.le_of_ble_eq_true rfl, Nat.le_of_ble_eq_true rfl⟩ (ch_mono (ch_Ki (fun r89 m90 h => ?_)) h)
      refine ch_callV (as := [.inl (.int r89)]) d_m_carries_234 lk_m_93 mi_m_does me_m_does rfl rfl rfl ⟨Nat.le_of_ble_eq_true rfl, Nat.le_of_ble_eq_true rfl⟩ (Nat.le_of_ble_eq_true rfl) ⟨Nat.le_of_ble_eq_true rfl, Nat.le_of_ble_eq_true rfl⟩ (ch_mono (ch_Ki (fun r91 m92 h => ?_)) h)
      refine ch_goto (tgt := 247) d_m_carries_237 (by decide) ?_
      exact ch_iret (ty := .boolean) d_m_carries_247 rfl h.1 (Nat.le_of_ble_eq_true rfl) h.2
  replace h := h.2
  by_cases e118 : (m (9, 0, 0) 12) = 118
  · replace h := h.1 e118
    refine ch_tswIn (tgt := 220) (off := 216) d_m_carries_4 (by rw [e118]; decide) (by rw [e118]; decide) (by rw [e118]; rfl) (by decide) ?_
    refine ch_aload_n (i := 0) d_m_carries_220 rfl rfl ?_
    refine ch_get (v := .inr (9, 0, 1)) d_m_carries_221 fl_m_9 rfl ?_
    refine ch_iconst (v := 0) d_m_carries_224 (by decide) ?_
    refine ch_iald (n := 63) d_m_carries_225 (by decide) rfl (vp_in_nI (n := 0) (by decide) (by decide)) ?_
    refine ch_if_le (tgt := 240) d_m_carries_226 (by decide) (fun c => ?_) (fun c => ?_)
    · replace h := h.1 c
      refine ch_aload_n (i := 0) d_m_carries_240 rfl rfl ?_
      refine ch_bipush (v := 13) d_m_carries_241 (by decide) ?_
      refine ch_iconst (v := 0) d_m_carries_243 (by decide) ?_
      refine ch_callV (as := [.inl (.int 13), .inl (.int 0)]) d_m_carries_244 lk_m_81 mi_m_refuses me_m_refuses rfl rfl rfl ⟨Nat.le_of_ble_eq_true rfl, Nat.le_of_ble_eq_true rfl⟩ (Nat.le_of_ble_eq_true rfl) ⟨Nat.le_of_ble_eq_true rfl, Nat.le_of_ble_eq_true rfl⟩ (ch_mono (ch_Ki (fun r93 m94 h => ?_)) h)
      exact ch_iret (ty := .boolean) d_m_carries_247 rfl h.1 (Nat.le_of_ble_eq_true rfl) h.2
    · replace h := h.2 c
      refine ch_aload_n (i := 0) d_m_carries_229 rfl rfl ?_
      refine ch_aload_n (i := 0) d_m_carries_230 rfl rfl ?_
      refine ch_callV (as := []) d_m_carries_231 lk_m_176 mi_m_goesBy me_m_goesBy rfl rfl rfl ⟨Nat.le_of_ble_eq_true rfl, Nat.le_of_ble_eq_true rfl⟩ (Nat.le_of_ble_eq_true rfl) ⟨Nat.le_of_ble_eq_true rfl, Nat.le_of_ble_eq_true rfl⟩ (ch_mono (ch_Ki (fun r95 m96 h => ?_)) h)
      refine ch_callV (as := [.inl (.int r95)]) d_m_carries_234 lk_m_93 mi_m_does me_m_does rfl rfl rfl ⟨Nat.le_of_ble_eq_true rfl, Nat.le_of_ble_eq_true rfl⟩ (Nat.le_of_ble_eq_true rfl) ⟨Nat.le_of_ble_eq_true rfl, Nat.le_of_ble_eq_true rfl⟩ (ch_mono (ch_Ki (fun r97 m98 h => ?_)) h)
      refine ch_goto (tgt := 247) d_m_carries_237 (by decide) ?_
      exact ch_iret (ty := .boolean) d_m_carries_247 rfl h.1 (Nat.le_of_ble_eq_true rfl) h.2
  replace h := h.2
  by_cases e119 : (m (9, 0, 0) 12) = 119
  · replace h := h.1 e119
    refine ch_tswIn (tgt := 164) (off := 160) d_m_carries_4 (by rw [e119]; decide) (by rw [e119]; decide) (by rw [e119]; rfl) (by decide) ?_
    refine ch_aload_n (i := 0) d_m_carries_164 rfl rfl ?_
    refine ch_aload_n (i := 0) d_m_carries_165 rfl rfl ?_
    refine ch_get (v := .inr (9, 0, 8)) d_m_carries_166 fl_m_32 rfl ?_
    refine ch_iconst (v := 0) d_m_carries_169 (by decide) ?_
    refine ch_iald (n := 3) d_m_carries_170 (by decide) rfl (vp_in_nI (n := 0) (by decide) (by decide)) ?_
    refine ch_callV (as := [.inl (.int (m (9, 0, 8) (0)))]) d_m_carries_171 lk_m_153 mi_m_writes me_m_writes rfl rfl rfl ⟨Nat.le_of_ble_eq_true rfl, Nat.le_of_ble_eq_true rfl⟩ (Nat.le_of_ble_eq_true rfl) ⟨Nat.le_of_ble_eq_true rfl, Nat.le_of_ble_eq_true rfl⟩ (ch_mono (ch_Ki (fun r99 m100 h => ?_)) h)
    exact ch_iret (ty := .boolean) d_m_carries_174 rfl h.1 (Nat.le_of_ble_eq_true rfl) h.2
  replace h := h.2
  have hx : (Int32.toInt (m (9, 0, 0) 12) < 99 ∨ 119 < Int32.toInt (m (9, 0, 0) 12)) := by
    have f99 : Int32.toInt (m (9, 0, 0) 12) ≠ 99 := fun q => e99 (Int32.toInt_inj.mp (q.trans (by decide)))
    have f100 : Int32.toInt (m (9, 0, 0) 12) ≠ 100 := fun q => e100 (Int32.toInt_inj.mp (q.trans (by decide)))
    have f101 : Int32.toInt (m (9, 0, 0) 12) ≠ 101 := fun q => e101 (Int32.toInt_inj.mp (q.trans (by decide)))
    have f102 : Int32.toInt (m (9, 0, 0) 12) ≠ 102 := fun q => e102 (Int32.toInt_inj.mp (q.trans (by decide)))
    have f103 : Int32.toInt (m (9, 0, 0) 12) ≠ 103 := fun q => e103 (Int32.toInt_inj.mp (q.trans (by decide)))
    have f104 : Int32.toInt (m (9, 0, 0) 12) ≠ 104 := fun q => e104 (Int32.toInt_inj.mp (q.trans (by decide)))
    have f105 : Int32.toInt (m (9, 0, 0) 12) ≠ 105 := fun q => e105 (Int32.toInt_inj.mp (q.trans (by decide)))
    have f106 : Int32.toInt (m (9, 0, 0) 12) ≠ 106 := fun q => e106 (Int32.toInt_inj.mp (q.trans (by decide)))
    have f107 : Int32.toInt (m (9, 0, 0) 12) ≠ 107 := fun q => e107 (Int32.toInt_inj.mp (q.trans (by decide)))
    have f108 : Int32.toInt (m (9, 0, 0) 12) ≠ 108 := fun q => e108 (Int32.toInt_inj.mp (q.trans (by decide)))
    have f109 : Int32.toInt (m (9, 0, 0) 12) ≠ 109 := fun q => e109 (Int32.toInt_inj.mp (q.trans (by decide)))
    have f110 : Int32.toInt (m (9, 0, 0) 12) ≠ 110 := fun q => e110 (Int32.toInt_inj.mp (q.trans (by decide)))
    have f111 : Int32.toInt (m (9, 0, 0) 12) ≠ 111 := fun q => e111 (Int32.toInt_inj.mp (q.trans (by decide)))
    have f112 : Int32.toInt (m (9, 0, 0) 12) ≠ 112 := fun q => e112 (Int32.toInt_inj.mp (q.trans (by decide)))
    have f113 : Int32.toInt (m (9, 0, 0) 12) ≠ 113 := fun q => e113 (Int32.toInt_inj.mp (q.trans (by decide)))
    have f114 : Int32.toInt (m (9, 0, 0) 12) ≠ 114 := fun q => e114 (Int32.toInt_inj.mp (q.trans (by decide)))
    have f115 : Int32.toInt (m (9, 0, 0) 12) ≠ 115 := fun q => e115 (Int32.toInt_inj.mp (q.trans (by decide)))
    have f116 : Int32.toInt (m (9, 0, 0) 12) ≠ 116 := fun q => e116 (Int32.toInt_inj.mp (q.trans (by decide)))
    have f117 : Int32.toInt (m (9, 0, 0) 12) ≠ 117 := fun q => e117 (Int32.toInt_inj.mp (q.trans (by decide)))
    have f118 : Int32.toInt (m (9, 0, 0) 12) ≠ 118 := fun q => e118 (Int32.toInt_inj.mp (q.trans (by decide)))
    have f119 : Int32.toInt (m (9, 0, 0) 12) ≠ 119 := fun q => e119 (Int32.toInt_inj.mp (q.trans (by decide)))
    omega
  replace h := h hx
  refine ch_tswOut (tgt := 220) d_m_carries_4 hx (by decide) ?_
  refine ch_aload_n (i := 0) d_m_carries_220 rfl rfl ?_
  refine ch_get (v := .inr (9, 0, 1)) d_m_carries_221 fl_m_9 rfl ?_
  refine ch_iconst (v := 0) d_m_carries_224 (by decide) ?_
  refine ch_iald (n := 63) d_m_carries_225 (by decide) rfl (vp_in_nI (n := 0) (by decide) (by decide)) ?_
  refine ch_if_le (tgt := 240) d_m_carries_226 (by decide) (fun c => ?_) (fun c => ?_)
  · replace h := h.1 c
    refine ch_aload_n (i := 0) d_m_carries_240 rfl rfl ?_
    refine ch_bipush (v := 13) d_m_carries_241 (by decide) ?_
    refine ch_iconst (v := 0) d_m_carries_243 (by decide) ?_
    refine ch_callV (as := [.inl (.int 13), .inl (.int 0)]) d_m_carries_244 lk_m_81 mi_m_refuses me_m_refuses rfl rfl rfl ⟨Nat.le_of_ble_eq_true rfl, Nat.le_of_ble_eq_true rfl⟩ (Nat.le_of_ble_eq_true rfl) ⟨Nat.le_of_ble_eq_true rfl, Nat.le_of_ble_eq_true rfl⟩ (ch_mono (ch_Ki (fun r101 m102 h => ?_)) h)
    exact ch_iret (ty := .boolean) d_m_carries_247 rfl h.1 (Nat.le_of_ble_eq_true rfl) h.2
  · replace h := h.2 c
    refine ch_aload_n (i := 0) d_m_carries_229 rfl rfl ?_
    refine ch_aload_n (i := 0) d_m_carries_230 rfl rfl ?_
    refine ch_callV (as := []) d_m_carries_231 lk_m_176 mi_m_goesBy me_m_goesBy rfl rfl rfl ⟨Nat.le_of_ble_eq_true rfl, Nat.le_of_ble_eq_true rfl⟩ (Nat.le_of_ble_eq_true rfl) ⟨Nat.le_of_ble_eq_true rfl, Nat.le_of_ble_eq_true rfl⟩ (ch_mono (ch_Ki (fun r103 m104 h => ?_)) h)
    refine ch_callV (as := [.inl (.int r103)]) d_m_carries_234 lk_m_93 mi_m_does me_m_does rfl rfl rfl ⟨Nat.le_of_ble_eq_true rfl, Nat.le_of_ble_eq_true rfl⟩ (Nat.le_of_ble_eq_true rfl) ⟨Nat.le_of_ble_eq_true rfl, Nat.le_of_ble_eq_true rfl⟩ (ch_mono (ch_Ki (fun r105 m106 h => ?_)) h)
    refine ch_goto (tgt := 247) d_m_carries_237 (by decide) ?_
    exact ch_iret (ty := .boolean) d_m_carries_247 rfl h.1 (Nat.le_of_ble_eq_true rfl) h.2
