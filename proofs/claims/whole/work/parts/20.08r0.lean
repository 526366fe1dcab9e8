theorem e_r_refuse (g : ch_G) (Q : ch_O → ch_M → Prop) (j1 : Nat) (m : ch_M) (h : ch_J g m_r_refuse (ch_rm m_r_refuse) (ch_E g m_r_refuse Q) 0 [some (.inr (3, 0, 0)), some (.inr (1, j1, 0)), some (.inr (4, 0, 0))] [] m 0) : ch_C g m_r_refuse [.inr (3, 0, 0), .inr (1, j1, 0), .inr (4, 0, 0)] m Q :=
  ch_enter mf_r_refuse (by intro v hv; simp only [List.mem_cons, List.not_mem_nil, or_false] at hv; rcases hv with rfl | rfl | rfl <;> rfl) (Nat.le_of_ble_eq_true rfl) h
set_option maxHeartbeats 1600000 in
theorem g_r_refuse_0 (g : ch_G) (Q : ch_O → ch_M → Prop) (j1 : Nat) (m : ch_M) (h : (((m (4, 0, 0) 1) = 99 → (ch_C g m_r_refuseChalk [.inr (3, 0, 0), .inr (1, j1, 0), .inl (.int (m (4, 0, 0) 2)), .inl (.int (m (4, 0, 0) 4))] m (ch_oi (fun (r1 : Int32) (m2 : ch_M) => (narrow .boolean (.int r1) = .int r1) ∧ Q (.inl (some (.inl (.int r1)))) m2)))) ∧ ((m (4, 0, 0) 1) = 100 → (ch_C g m_r_refuseGift [.inr (3, 0, 0), .inr (1, j1, 0), .inl (.int (m (4, 0, 0) 2)), .inl (.int (m (4, 0, 0) 3)), .inl (.int (m (4, 0, 0) 4))] m (ch_oi (fun (r3 : Int32) (m4 : ch_M) => (narrow .boolean (.int r3) = .int r3) ∧ Q (.inl (some (.inl (.int r3)))) m4)))) ∧ ((m (4, 0, 0) 1) = 101 → (ch_C g m_r_refuseGift [.inr (3, 0, 0), .inr (1, j1, 0), .inl (.int (m (4, 0, 0) 2)), .inl (.int (m (4, 0, 0) 3)), .inl (.int (m (4, 0, 0) 4))] m (ch_oi (fun (r5 : Int32) (m6 : ch_M) => (narrow .boolean (.int r5) = .int r5) ∧ Q (.inl (some (.inl (.int r5)))) m6)))) ∧ ((m (4, 0, 0) 1) = 102 → (ch_C g m_r_refuseGift [.inr (3, 0, 0), .inr (1, j1, 0), .inl (.int (m (4, 0, 0) 2)), .inl (.int (m (4, 0, 0) 3)), .inl (.int (m (4, 0, 0) 4))] m (ch_oi (fun (r7 : Int32) (m8 : ch_M) => (narrow .boolean (.int r7) = .int r7) ∧ Q (.inl (some (.inl (.int r7)))) m8)))) ∧ ((m (4, 0, 0) 1) = 103 → (ch_C g m_r_refuseGift [.inr (3, 0, 0), .inr (1, j1, 0), .inl (.int (m (4, 0, 0) 2)), .inl (.int (m (4, 0, 0) 3)), .inl (.int (m (4, 0, 0) 4))] m (ch_oi (fun (r9 : Int32) (m10 : ch_M) => (narrow .boolean (.int r9) = .int r9) ∧ Q (.inl (some (.inl (.int r9)))) m10)))) ∧ ((m (4, 0, 0) 1) = 104 → (ch_C g m_r_refuseHop [.inr (3, 0, 0), .inr (1, j1, 0), .inl (.int (m (4, 0, 0) 2)), .inr (5, 0, 0)] m (ch_oi (fun (r11 : Int32) (m12 : ch_M) => (narrow .boolean (.int r11) = .int r11) ∧ Q (.inl (some (.inl (.int r11)))) m12)))) ∧ ((m (4, 0, 0) 1) = 105 → (ch_C g m_r_refuseGift [.inr (3, 0, 0), .inr (1, j1, 0), .inl (.int (m (4, 0, 0) 2)), .inl (.int (m (4, 0, 0) 3)), .inl (.int (m (4, 0, 0) 4))] m (ch_oi (fun (r13 : Int32) (m14 : ch_M) => (narrow .boolean (.int r13) = .int r13) ∧ Q (.inl (some (.inl (.int r13)))) m14)))) ∧ ((m (4, 0, 0) 1) = 106 → (ch_C g m_r_refuseGift [.inr (3, 0, 0), .inr (1, j1, 0), .inl (.int (m (4, 0, 0) 2)), .inl (.int (m (4, 0, 0) 3)), .inl (.int (m (4, 0, 0) 4))] m (ch_oi (fun (r15 : Int32) (m16 : ch_M) => (narrow .boolean (.int r15) = .int r15) ∧ Q (.inl (some (.inl (.int r15)))) m16)))) ∧ ((m (4, 0, 0) 1) = 107 → (ch_C g m_r_refuseGift [.inr (3, 0, 0), .inr (1, j1, 0), .inl (.int (m (4, 0, 0) 2)), .inl (.int (m (4, 0, 0) 3)), .inl (.int (m (4, 0, 0) 4))] m (ch_oi (fun (r17 : Int32) (m18 : ch_M) => (narrow .boolean (.int r17) = .int r17) ∧ Q (.inl (some (.inl (.int r17)))) m18)))) ∧ ((m (4, 0, 0) 1) = 108 → (ch_C g m_r_refuseGift [.inr (3, 0, 0), .inr (1, j1, 0), .inl (.int (m (4, 0, 0) 2)), .inl (.int (m (4, 0, 0) 3)), .inl (.int (m (4, 0, 0) 4))] m (ch_oi (fun (r19 : Int32) (m20 : ch_M) => (narrow .boolean (.int r19) = .int r19) ∧ Q (.inl (some (.inl (.int r19)))) m20)))) ∧ ((m (4, 0, 0) 1) = 109 → (ch_C g m_r_refuseGift [.inr (3, 0, 0), .inr (1, j1, 0), .inl (.int (m (4, 0, 0) 2)), .inl (.int (m (4, 0, 0) 3)), .inl (.int (m (4, 0, 0) 4))] m (ch_oi (fun (r21 : Int32) (m22 : ch_M) => (narrow .boolean (.int r21) = .int r21) ∧ Q (.inl (some (.inl (.int r21)))) m22)))) ∧ ((m (4, 0, 0) 1) = 110 → (ch_C g m_r_refuseChild [.inr (3, 0, 0), .inr (1, j1, 0), .inl (.int (m (4, 0, 0) 4))] m (ch_oi (fun (r23 : Int32) (m24 : ch_M) => (narrow .boolean (.int r23) = .int r23) ∧ Q (.inl (some (.inl (.int r23)))) m24)))) ∧ ((m (4, 0, 0) 1) = 111 → (ch_C g m_r_refuseGift [.inr (3, 0, 0), .inr (1, j1, 0), .inl (.int (m (4, 0, 0) 2)), .inl (.int (m (4, 0, 0) 3)), .inl (.int (m (4, 0, 0) 4))] m (ch_oi (fun (r25 : Int32) (m26 : ch_M) => (narrow .boolean (.int r25) = .int r25) ∧ Q (.inl (some (.inl (.int r25)))) m26)))) ∧ ((m (4, 0, 0) 1) = 112 → (ch_C g m_r_refuseGift [.inr (3, 0, 0), .inr (1, j1, 0), .inl (.int (m (4, 0, 0) 2)), .inl (.int (m (4, 0, 0) 3)), .inl (.int (m (4, 0, 0) 4))] m (ch_oi (fun (r27 : Int32) (m28 : ch_M) => (narrow .boolean (.int r27) = .int r27) ∧ Q (.inl (some (.inl (.int r27)))) m28)))) ∧ ((m (4, 0, 0) 1) = 113 → (ch_C g m_r_refuseGift [.inr (3, 0, 0), .inr (1, j1, 0), .inl (.int (m (4, 0, 0) 2)), .inl (.int (m (4, 0, 0) 3)), .inl (.int (m (4, 0, 0) 4))] m (ch_oi (fun (r29 : Int32) (m30 : ch_M) => (narrow .boolean (.int r29) = .int r29) ∧ Q (.inl (some (.inl (.int r29)))) m30)))) ∧ ((m (4, 0, 0) 1) = 114 → (ch_C g m_r_refuseRain [.inr (3, 0, 0), .inr (1, j1, 0), .inl (.int (m (4, 0, 0) 4))] m (ch_oi (fun (r31 : Int32) (m32 : ch_M) => (narrow .boolean (.int r31) = .int r31) ∧ Q (.inl (some (.inl (.int r31)))) m32)))) ∧ ((m (4, 0, 0) 1) = 115 → (ch_C g m_r_refuseStrike [.inr (3, 0, 0), .inr (1, j1, 0), .inl (.int (m (4, 0, 0) 2))] m (ch_oi (fun (r33 : Int32) (m34 : ch_M) => (narrow .boolean (.int r33) = .int r33) ∧ Q (.inl (some (.inl (.int r33)))) m34)))) ∧ ((m (4, 0, 0) 1) = 116 → (ch_C g m_r_refuseTerm [.inr (3, 0, 0), .inr (1, j1, 0)] m (ch_oi (fun (r35 : Int32) (m36 : ch_M) => (narrow .boolean (.int r35) = .int r35) ∧ Q (.inl (some (.inl (.int r35)))) m36)))) ∧ ((m (4, 0, 0) 1) = 117 → (ch_C g m_r_refuseGift [.inr (3, 0, 0), .inr (1, j1, 0), .inl (.int (m (4, 0, 0) 2)), .inl (.int (m (4, 0, 0) 3)), .inl (.int (m (4, 0, 0) 4))] m (ch_oi (fun (r37 : Int32) (m38 : ch_M) => (narrow .boolean (.int r37) = .int r37) ∧ Q (.inl (some (.inl (.int r37)))) m38)))) ∧ ((m (4, 0, 0) 1) = 118 → (ch_C g m_r_refuseGift [.inr (3, 0, 0), .inr (1, j1, 0), .inl (.int (m (4, 0, 0) 2)), .inl (.int (m (4, 0, 0) 3)), .inl (.int (m (4, 0, 0) 4))] m (ch_oi (fun (r39 : Int32) (m40 : ch_M) => (narrow .boolean (.int r39) = .int r39) ∧ Q (.inl (some (.inl (.int r39)))) m40)))) ∧ ((m (4, 0, 0) 1) = 119 → (ch_C g m_r_refuseWarrant [.inr (3, 0, 0), .inr (1, j1, 0), .inl (.int (m (4, 0, 0) 2))] m (ch_oi (fun (r41 : Int32) (m42 : ch_M) => (narrow .boolean (.int r41) = .int r41) ∧ Q (.inl (some (.inl (.int r41)))) m42)))) ∧ ((Int32.toInt (m (4, 0, 0) 1) < 99 ∨ 119 < Int32.toInt (m (4, 0, 0) 1)) → (ch_C g m_r_refuseGift [.inr (3, 0, 0), .inr (1, j1, 0), .inl (.int (m (4, 0, 0) 2)), .inl (.int (m (4, 0, 0) 3)), .inl (.int (m (4, 0, 0) 4))] m (ch_oi (fun (r43 : Int32) (m44 : ch_M) => (narrow .boolean (.int r43) = .int r43) ∧ Q (.inl (some (.inl (.int r43)))) m44)))))) : ch_J g m_r_refuse (ch_rm m_r_refuse) (ch_E g m_r_refuse Q) 0 [some (.inr (3, 0, 0)), some (.inr (1, j1, 0)), some (.inr (4, 0, 0))] [] m 0 := by
  refine ch_aload_n (i := 2) d_r_refuse_0 rfl rfl ?_
  refine ch_get (v := .inl (.int (m (4, 0, 0) 1))) d_r_refuse_1 fl_r_9 rfl ?_
  by_cases e99 : (m (4, 0, 0) 1) = 99
  · replace h := h.1 e99
    refine ch_tswIn (tgt := 114) (off := 110) d_r_refuse_4 (by rw [e99]; decide) (by rw [e99]; decide) (by rw [e99]; rfl) (by decide) ?_
    refine ch_aload_n (i := 0) d_r_refuse_114 rfl rfl ?_
    refine ch_aload_n (i := 1) d_r_refuse_115 rfl rfl ?_
    refine ch_aload_n (i := 2) d_r_refuse_116 rfl rfl ?_
    refine ch_get (v := .inl (.int (m (4, 0, 0) 2))) d_r_refuse_117 fl_r_24 rfl ?_
    refine ch_aload_n (i := 2) d_r_refuse_120 rfl rfl ?_
    refine ch_get (v := .inl (.int (m (4, 0, 0) 4))) d_r_refuse_121 fl_r_15 rfl ?_
    refine ch_callV (as := [.inr (1, j1, 0), .inl (.int (m (4, 0, 0) 2)), .inl (.int (m (4, 0, 0) 4))]) d_r_refuse_124 lk_r_27 mi_r_refuseChalk me_r_refuseChalk rfl rfl rfl ⟨Nat.le_of_ble_eq_true rfl, Nat.le_of_ble_eq_true rfl⟩ (Nat.le_of_ble_eq_true rfl) ⟨Nat.le_of_ble_eq_true rfl, Nat.le_of_ble_eq_true rfl⟩ (ch_mono (ch_Ki (fun r1 m2 h => ?_)) h)
    exact ch_iret (ty := .boolean) d_r_refuse_127 rfl h.1 (Nat.le_of_ble_eq_true rfl) h.2
  replace h := h.2
  by_cases e100 : (m (4, 0, 0) 1) = 100
  · replace h := h.1 e100
    refine ch_tswIn (tgt := 178) (off := 174) d_r_refuse_4 (by rw [e100]; decide) (by rw [e100]; decide) (by rw [e100]; rfl) (by decide) ?_
    refine ch_aload_n (i := 0) d_r_refuse_178 rfl rfl ?_
    refine ch_aload_n (i := 1) d_r_refuse_179 rfl rfl ?_
    refine ch_aload_n (i := 2) d_r_refuse_180 rfl rfl ?_
    refine ch_get (v := .inl (.int (m (4, 0, 0) 2))) d_r_refuse_181 fl_r_24 rfl ?_
    refine ch_aload_n (i := 2) d_r_refuse_184 rfl rfl ?_
    refine ch_get (v := .inl (.int (m (4, 0, 0) 3))) d_r_refuse_185 fl_r_52 rfl ?_
    refine ch_aload_n (i := 2) d_r_refuse_188 rfl rfl ?_
    refine ch_get (v := .inl (.int (m (4, 0, 0) 4))) d_r_refuse_189 fl_r_15 rfl ?_
    refine ch_callV (as := [.inr (1, j1, 0), .inl (.int (m (4, 0, 0) 2)), .inl (.int (m (4, 0, 0) 3)), .inl (.int (m (4, 0, 0) 4))]) d_r_refuse_192 lk_r_55 mi_r_refuseGift me_r_refuseGift rfl rfl rfl ⟨Nat.le_of_ble_eq_true rfl, Nat.le_of_ble_eq_true rfl⟩ (Nat.le_of_ble_eq_true rfl) ⟨Nat.le_of_ble_eq_true rfl, Nat.le_of_ble_eq_true rfl⟩ (ch_mono (ch_Ki (fun r3 m4 h => ?_)) h)
    exact ch_iret (ty := .boolean) d_r_refuse_195 rfl h.1 (Nat.le_of_ble_eq_true rfl) h.2
  replace h := h.2
  by_cases e101 : (m (4, 0, 0) 1) = 101
  · replace h := h.1 e101
    refine ch_tswIn (tgt := 178) (off := 174) d_r_refuse_4 (by rw [e101]; decide) (by rw [e101]; decide) (by rw [e101]; rfl) (by decide) ?_
    refine ch_aload_n (i := 0) d_r_refuse_178 rfl rfl ?_
    refine ch_aload_n (i := 1) d_r_refuse_179 rfl rfl ?_
    refine ch_aload_n (i := 2) d_r_refuse_180 rfl rfl ?_
    refine ch_get (v := .inl (.int (m (4, 0, 0) 2))) d_r_refuse_181 fl_r_24 rfl ?_
    refine ch_aload_n (i := 2) d_r_refuse_184 rfl rfl ?_
    refine ch_get (v := .inl (.int (m (4, 0, 0) 3))) d_r_refuse_185 fl_r_52 rfl ?_
    refine ch_aload_n (i := 2) d_r_refuse_188 rfl rfl ?_
    refine ch_get (v := .inl (.int (m (4, 0, 0) 4))) d_r_refuse_189 fl_r_15 rfl ?_
    refine ch_callV (as := [.inr (1, j1, 0), .inl (.int (m (4, 0, 0) 2)), .inl (.int (m (4, 0, 0) 3)), .inl (.int (m (4, 0, 0) 4))]) d_r_refuse_192 lk_r_55 mi_r_refuseGift me_r_refuseGift rfl rfl rfl ⟨Nat.le_of_ble_eq_true rfl, Nat.le_of_ble_eq_true rfl⟩ (Nat.le_of_ble_eq_true rfl) ⟨Nat.le_of_ble_eq_true rfl, Nat.le_of_ble_eq_true rfl⟩ (ch_mono (ch_Ki (fun r5 m6 h => ?_)) h)
    exact ch_iret (ty := .boolean) d_r_refuse_195 rfl h.1 (Nat.le_of_ble_eq_true rfl) h.2
  replace h := h.2
  by_cases e102 : (m (4, 0, 0) 1) = 102
  · replace h := h.1 e102
    refine ch_tswIn (tgt := 178) (off := 174) d_r_refuse_4 (by rw [e102]; decide) (by rw [e102]; decide) (by rw [e102]; rfl) (by decide) ?_
    refine ch_aload_n (i := 0) d_r_refuse_178 rfl rfl ?_
    refine ch_aload_n (i := 1) d_r_refuse_179 rfl rfl ?_
    refine ch_aload_n (i := 2) d_r_refuse_180 rfl rfl ?_
    refine ch_get (v := .inl (.int (m (4, 0, 0) 2))) d_r_refuse_181 fl_r_24 rfl ?_
    refine ch_aload_n (i := 2) d_r_refuse_184 rfl rfl ?_
    refine ch_get (v := .inl (.int (m (4, 0, 0) 3))) d_r_refuse_185 fl_r_52 rfl ?_
    refine ch_aload_n (i := 2) d_r_refuse_188 rfl rfl ?_
    refine ch_get (v := .inl (.int (m (4, 0, 0) 4))) d_r_refuse_189 fl_r_15 rfl ?_
    refine ch_callV (as := [.inr (1, j1, 0), .inl (.int (m (4, 0, 0) 2)), .inl (.int (m (4, 0, 0) 3)), .inl (.int (m (4, 0, 0) 4))]) d_r_refuse_192 lk_r_55 mi_r_refuseGift me_r_refuseGift rfl rfl rfl ⟨Nat.le_of_ble_eq_true rfl, Nat.le_of_ble_eq_true rfl⟩ (Nat.le_of_ble_eq_true rfl) ⟨Nat.le_of_ble_eq_true rfl, Nat.le_of_ble_eq_true rfl⟩ (ch_mono (ch_Ki (fun r7 m8 h => ?_)) h)
    exact ch_iret (ty := .boolean) d_r_refuse_195 rfl h.1 (Nat.le_of_ble_eq_true rfl) h.2
  replace h := h.2
  by_cases e103 : (m (4, 0, 0) 1) = 103
  · replace h := h.1 e103
    refine ch_tswIn (tgt := 178) (off := 174) d_r_refuse_4 (by rw [e103]; decide) (by rw [e103]; decide) (by rw [e103]; rfl) (by decide) ?_
    refine ch_aload_n (i := 0) d_r_refuse_178 rfl rfl ?_
    refine ch_aload_n (i := 1) d_r_refuse_179 rfl rfl ?_
    refine ch_aload_n (i := 2) d_r_refuse_180 rfl rfl ?_
    refine ch_get (v := .inl (.int (m (4, 0, 0) 2))) d_r_refuse_181 fl_r_24 rfl ?_
    refine ch_aload_n (i := 2) d_r_refuse_184 rfl rfl ?_
    refine ch_get (v := .inl (.int (m (4, 0, 0) 3))) d_r_refuse_185 fl_r_52 rfl ?_
    refine ch_aload_n (i := 2) d_r_refuse_188 rfl rfl ?_
    refine ch_get (v := .inl (.int (m (4, 0, 0) 4))) d_r_refuse_189 fl_r_15 rfl ?_
    refine ch_callV (as := [.inr (1, j1, 0), .inl (.int (m (4, 0, 0) 2)), .inl (.int (m (4, 0, 0) 3)), .inl (.int (m (4, 0, 0) 4))]) d_r_refuse_192 lk_r_55 mi_r_refuseGift me_r_refuseGift rfl rfl rfl ⟨Nat.le_of_ble_eq_true rfl, Nat.le_of_ble_eq_true rfl⟩ (Nat.le_of_ble_eq_true rfl) ⟨Nat.le_of_ble_eq_true rfl, Nat.le_of_ble_eq_true rfl⟩ (ch_mono (ch_Ki (fun r9 m10 h => ?_)) h)
    exact ch_iret (ty := .boolean) d_r_refuse_195 rfl h.1 (Nat.le_of_ble_eq_true rfl) h.2
  replace h := h.2
  by_cases e104 : (m (4, 0, 0) 1) = 104
  · replace h := h.1 e104
    refine ch_tswIn (tgt := 128) (off := 124) d_r_refuse_4 (by rw [e104]; decide) (by rw [e104]; decide) (by rw [e104]; rfl) (by decide) ?_
    refine ch_aload_n (i := 0) d_r_refuse_128 rfl rfl ?_
    refine ch_aload_n (i := 1) d_r_refuse_129 rfl rfl ?_
    refine ch_aload_n (i := 2) d_r_refuse_130 rfl rfl ?_
    refine ch_get (v := .inl (.int (m (4, 0, 0) 2))) d_r_refuse_131 fl_r_24 rfl ?_
    refine ch_aload_n (i := 2) d_r_refuse_134 rfl rfl ?_
    refine ch_get (v := .inr (5, 0, 0)) d_r_refuse_135 fl_r_31 rfl ?_
    refine ch_callV (as := [.inr (1, j1, 0), .inl (.int (m (4, 0, 0) 2)), .inr (5, 0, 0)]) d_r_refuse_138 lk_r_35 mi_r_refuseHop me_r_refuseHop rfl rfl rfl ⟨Nat.le_of_ble_eq_true rfl, Nat.le_of_ble_eq_true rfl⟩ (Nat.le_of_ble_eq_true rfl) ⟨Nat.le_of_ble_eq_true rfl, Nat.le_of_ble_eq_true rfl⟩ (ch_mono (ch_Ki (fun r11 m12 h => ?_)) h)
    exact ch_iret (ty := .boolean) d_r_refuse_141 rfl h.1 (Nat.le_of_ble_eq_true rfl) h.2
  replace h := h.2
  by_cases e105 : (m (4, 0, 0) 1) = 105
  · replace h := h.1 e105
    refine ch_tswIn (tgt := 178) (off := 174) d_r_refuse_4 (by rw [e105]; decide) (by rw [e105]; decide) (by rw [e105]; rfl) (by decide) ?_
    refine ch_aload_n (i := 0) d_r_refuse_178 rfl rfl ?_
    refine ch_aload_n (i := 1) d_r_refuse_179 rfl rfl ?_
    refine ch_aload_n (i := 2) d_r_refuse_180 rfl rfl ?_
    refine ch_get (v := .inl (.int (m (4, 0, 0) 2))) d_r_refuse_181 fl_r_24 rfl ?_
    refine ch_aload_n (i := 2) d_r_refuse_184 rfl rfl ?_
    refine ch_get (v := .inl (.int (m (4, 0, 0) 3))) d_r_refuse_185 fl_r_52 rfl ?_
    refine ch_aload_n (i := 2) d_r_refuse_188 rfl rfl ?_
    refine ch_get (v := .inl (.int (m (4, 0, 0) 4))) d_r_refuse_189 fl_r_15 rfl ?_
    refine ch_callV (as := [.inr (1, j1, 0), .inl (.int (m (4, 0, 0) 2)), .inl (.int (m (4, 0, 0) 3)), .inl (.int (m (4, 0, 0) 4))]) d_r_refuse_192 lk_r_55 mi_r_refuseGift me_r_refuseGift rfl rfl rfl ⟨Nat.le_of_ble_eq_true rfl, Nat.le_of_ble_eq_true rfl⟩ (Nat.le_of_ble_eq_true rfl) ⟨Nat.le_of_ble_eq_true rfl, Nat.le_of_ble_eq_true rfl⟩ (ch_mono (ch_Ki (fun r13 m14 h => ?_)) h)
    exact ch_iret (ty := .boolean) d_r_refuse_195 rfl h.1 (Nat.le_of_ble_eq_true rfl) h.2
  replace h := h.2
  by_cases e106 : (m (4, 0, 0) 1) = 106
  · replace h := h.1 e106
    refine ch_tswIn (tgt := 178) (off := 174) d_r_refuse_4 (by rw [e106]; decide) (by rw [e106]; decide) (by rw [e106]; rfl) (by decide) ?_
    refine ch_aload_n (i := 0) d_r_refuse_178 rfl rfl ?_
    refine ch_aload_n (i := 1) d_r_refuse_179 rfl rfl ?_
    refine ch_aload_n (i := 2) d_r_refuse_180 rfl rfl ?_
    refine ch_get (v := .inl (.int (m (4, 0, 0) 2))) d_r_refuse_181 fl_r_24 rfl ?_
    refine ch_aload_n (i := 2) d_r_refuse_184 rfl rfl ?_
    refine ch_get (v := .inl (.int (m (4, 0, 0) 3))) d_r_refuse_185 fl_r_52 rfl ?_
    refine ch_aload_n (i := 2) d_r_refuse_188 rfl rfl ?_
    refine ch_get (v := .inl (.int (m (4, 0, 0) 4))) d_r_refuse_189 fl_r_15 rfl ?_
    refine ch_callV (as := [.inr (1, j1, 0), .inl (.int (m (4, 0, 0) 2)), .inl (.int (m (4, 0, 0) 3)), .inl (.int (m (4, 0, 0) 4))]) d_r_refuse_192 lk_r_55 mi_r_refuseGift me_r_refuseGift rfl rfl rfl ⟨Nat.le_of_ble_eq_true rfl, Nat.le_of_ble_eq_true rfl⟩ (Nat.le_of_ble_eq_true rfl) ⟨Nat.le_of_ble_eq_true rfl, Nat.le_of_ble_eq_true rfl⟩ (ch_mono (ch_Ki (fun r15 m16 h => ?_)) h)
    exact ch_iret (ty := .boolean) d_r_refuse_195 rfl h.1 (Nat.le_of_ble_eq_true rfl) h.2
  replace h := h.2
  by_cases e107 : (m (4, 0, 0) 1) = 107
  · replace h := h.1 e107
    refine ch_tswIn (tgt := 178) (off := 174) d_r_refuse_4 (by rw [e107]; decide) (by rw [e107]; decide) (by rw [e107]; rfl) (by decide) ?_
    refine ch_aload_n (i := 0) d_r_refuse_178 rfl rfl ?_
    refine ch_aload_n (i := 1) d_r_refuse_179 rfl rfl ?_
    refine ch_aload_n (i := 2) d_r_refuse_180 rfl rfl ?_
    refine ch_get (v := .inl (.int (m (4, 0, 0) 2))) d_r_refuse_181 fl_r_24 rfl ?_
    refine ch_aload_n (i := 2) d_r_refuse_184 rfl rfl ?_
    refine ch_get (v := .inl (.int (m (4, 0, 0) 3))) d_r_refuse_185 fl_r_52 rfl ?_
    refine ch_aload_n (i := 2) d_r_refuse_188 rfl rfl ?_
    refine ch_get (v := .inl (.int (m (4, 0, 0) 4))) d_r_refuse_189 fl_r_15 rfl ?_
    refine ch_callV (as := [.inr (1, j1, 0), .inl (.int (m (4, 0, 0) 2)), .inl (.int (m (4, 0, 0) 3)), .inl (.int (m (4, 0, 0) 4))]) d_r_refuse_192 lk_r_55 mi_r_refuseGift me_r_refuseGift rfl rfl rfl ⟨Nat.le_of_ble_eq_true rfl, Nat.le_of_ble_eq_true rfl⟩ (Nat.le_of_ble_eq_true rfl) ⟨Nat.le_of_ble_eq_true rfl, Nat.le_of_ble_eq_true rfl⟩ (ch_mono (ch_Ki (fun r17 m18 h => ?_)) h)
    exact ch_iret (ty := .boolean) d_r_refuse_195 rfl h.1 (Nat.le_of_ble_eq_true rfl) h.2
  replace h := h.2
  by_cases e108 : (m (4, 0, 0) 1) = 108
  · replace h := h.1 e108
    refine ch_tswIn (tgt := 178) (off := 174) d_r_refuse_4 (by rw [e108]; decide) (by rw [e108]; decide) (by rw [e108]; rfl) (by decide) ?_
    refine ch_aload_n (i := 0) d_r_refuse_178 rfl rfl ?_
    refine ch_aload_n (i := 1) d_r_refuse_179 rfl rfl ?_
    refine ch_aload_n (i := 2) d_r_refuse_180 rfl rfl ?_
    refine ch_get (v := .inl (.int (m (4, 0, 0) 2))) d_r_refuse_181 fl_r_24 rfl ?_
    refine ch_aload_n (i := 2) d_r_refuse_184 rfl rfl ?_
    refine ch_get (v := .inl (.int (m (4, 0, 0) 3))) d_r_refuse_185 fl_r_52 rfl ?_
    refine ch_aload_n (i := 2) d_r_refuse_188 rfl rfl ?_
    refine ch_get (v := .inl (.int (m (4, 0, 0) 4))) d_r_refuse_189 fl_r_15 rfl ?_
    refine ch_callV (as := [.inr (1, j1, 0), .inl (.int (m (4, 0, 0) 2)), .inl (.int (m (4, 0, 0) 3)), .inl (.int (m (4, 0, 0) 4))]) d_r_refuse_192 lk_r_55 mi_r_refuseGift me_r_refuseGift rfl rfl rfl ⟨Nat.le_of_ble_eq_true rfl, Nat.le_of_ble_eq_true rfl⟩ (Nat.le_of_ble_eq_true rfl) ⟨Nat.le_of_ble_eq_true rfl, Nat.le_of_ble_eq_true rfl⟩ (ch_mono (ch_Ki (fun r19 m20 h => ?_)) h)
    exact ch_iret (ty := .boolean) d_r_refuse_195 rfl h.1 (Nat.le_of_ble_eq_true rfl) h.2
  replace h := h.2
  by_cases e109 : (m (4, 0, 0) 1) = 109
  · replace h := h.1 e109
    refine ch_tswIn (tgt := 178) (off := 174) d_r_refuse_4 (by rw [e109]; decide) (by rw [e109]; decide) (by rw [e109]; rfl) (by decide) ?_
    refine ch_aload_n (i := 0) d_r_refuse_178 rfl rfl ?_
    refine ch_aload_n (i := 1) d_r_refuse_179 rfl rfl ?_
    refine ch_aload_n (i := 2) d_r_refuse_180 rfl rfl ?_
    refine ch_get (v := .inl (.int (m (4, 0, 0) 2))) d_r_refuse_181 fl_r_24 rfl ?_
    refine ch_aload_n (i := 2) d_r_refuse_184 rfl rfl ?_
    refine ch_get (v := .inl (.int (m (4, 0, 0) 3))) d_r_refuse_185 fl_r_52 rfl ?_
    refine ch_aload_n (i := 2) d_r_refuse_188 rfl rfl ?_
    refine ch_get (v := .inl (.int (m (4, 0, 0) 4))) d_r_refuse_189 fl_r_15 rfl ?_
    refine ch_callV (as := [.inr (1, j1, 0), .inl (.int (m (4, 0, 0) 2)), .inl (.int (m (4, 0, 0) 3)), .inl (.int (m (4, 0, 0) 4))]) d_r_refuse_192 lk_r_55 mi_r_refuseGift me_r_refuseGift rfl rfl rfl ⟨Nat.le_of_ble_eq_true rfl, Nat.le_of_ble_eq_true rfl⟩ (Nat.le_of_ble_eq_true rfl) ⟨Nat.le_of_ble_eq_true rfl, Nat.le_of_ble_eq_true rfl⟩ (ch_mono (ch_Ki (fun r21 m22 h => ?_)) h)
    exact ch_iret (ty := .boolean) d_r_refuse_195 rfl h.1 (Nat.le_of_ble_eq_true rfl) h.2
  replace h := h.2
  by_cases e110 : (m (4, 0, 0) 1) = 110
  · replace h := h.1 e110
    refine ch_tswIn (tgt := 104) (off := 100) d_r_refuse_4 (by rw [e110]; decide) (by rw [e110]; decide) (by rw [e110]; rfl) (by decide) ?_
    refine ch_aload_n (i := 0) d_r_refuse_104 rfl rfl ?_
    refine ch_aload_n (i := 1) d_r_refuse_105 rfl rfl ?_
    refine ch_aload_n (i := 2) d_r_refuse_106 rfl rfl ?_
    refine ch_get (v := .inl (.int (m (4, 0, 0) 4))) d_r_refuse_107 fl_r_15 rfl ?_
    refine ch_callV (as := [.inr (1, j1, 0), .inl (.int (m (4, 0, 0) 4))]) d_r_refuse_110 lk_r_18 mi_r_refuseChild me_r_refuseChild rfl rfl rfl ⟨Nat.le_of_ble_eq_true rfl, Nat.le_of_ble_eq_true rfl⟩ (Nat.le_of_ble_eq_true rfl) ⟨Nat.le_of_ble_eq_true rfl, Nat.le_of_ble_eq_true rfl⟩ (ch_mono (ch_Ki (fun r23 m24 h => ?_)) h)
    exact ch_iret (ty := .boolean) d_r_refuse_113 rfl h.1 (Nat.le_of_ble_eq_true rfl) h.2
  replace h := h.2
  by_cases e111 : (m (4, 0, 0) 1) = 111
  · replace h := h.1 e111
    refine ch_tswIn (tgt := 178) (off := 174) d_r_refuse_4 (by rw [e111]; decide) (by rw [e111]; decide) (by rw [e111]; rfl) (by decide) ?_
    refine ch_aload_n (i := 0) d_r_refuse_178 rfl rfl ?_
    refine ch_aload_n (i := 1) d_r_refuse_179 rfl rfl ?_
    refine ch_aload_n (i := 2) d_r_refuse_180 rfl rfl ?_
    refine ch_get (v := .inl (.int (m (4, 0, 0) 2))) d_r_refuse_181 fl_r_24 rfl ?_
    refine ch_aload_n (i := 2) d_r_refuse_184 rfl rfl ?_
    refine ch_get (v := .inl (.int (m (4, 0, 0) 3))) d_r_refuse_185 fl_r_52 rfl ?_
    refine ch_aload_n (i := 2) d_r_refuse_188 rfl rfl ?_
    refine ch_get (v := .inl (.int (m (4, 0, 0) 4))) d_r_refuse_189 fl_r_15 rfl ?_
    refine ch_callV (as := [.inr (1, j1, 0), .inl (.int (m (4, 0, 0) 2)), .inl (.int (m (4, 0, 0) 3)), .inl (.int (m (4, 0, 0) 4))]) d_r_refuse_192 lk_r_55 mi_r_refuseGift me_r_refuseGift rfl rfl rfl ⟨Nat.le_of_ble_eq_true rfl, Nat.le_of_ble_eq_true rfl⟩ (Nat.le_of_ble_eq_true rfl) ⟨Nat.le_of_ble_eq_true rfl, Nat.le_of_ble_eq_true rfl⟩ (ch_mono (ch_Ki (fun r25 m26 h => ?_)) h)
    exact ch_iret (ty := .boolean) d_r_refuse_195 rfl h.1 (Nat.le_of_ble_eq_true rfl) h.2
  replace h := h.2
  by_cases e112 : (m (4, 0, 0) 1) = 112
  · replace h := h.1 e112
    refine ch_tswIn (tgt := 178) (off := 174) d_r_refuse_4 (by rw [e112]; decide) (by rw [e112]; decide) (by rw [e112]; rfl) (by decide) ?_
    refine ch_aload_n (i := 0) d_r_refuse_178 rfl rfl ?_
    refine ch_aload_n (i := 1) d_r_refuse_179 rfl rfl ?_
    refine ch_aload_n (i := 2) d_r_refuse_180 rfl rfl ?_
    refine ch_get (v := .inl (.int (m (4, 0, 0) 2))) d_r_refuse_181 fl_r_24 rfl ?_
    refine ch_aload_n (i := 2) d_r_refuse_184 rfl rfl ?_
    refine ch_get (v := .inl (.int (m (4, 0, 0) 3))) d_r_refuse_185 fl_r_52 rfl ?_
    refine ch_aload_n (i := 2) d_r_refuse_188 rfl rfl ?_
    refine ch_get (v := .inl (.int (m (4, 0, 0) 4))) d_r_refuse_189 fl_r_15 rfl ?_
    refine ch_callV (as := [.inr (1, j1, 0), .inl (.int (m (4, 0, 0) 2)), .inl (.int (m (4, 0, 0) 3)), .inl (.int (m (4, 0, 0) 4))]) d_r_refuse_192 lk_r_55 mi_r_refuseGift me_r_refuseGift rfl rfl rfl ⟨Nat.le_of_ble_eq_true rfl, Nat.le_of_ble_eq_true rfl⟩ (Nat.le_of_ble_eq_true rfl) ⟨Nat.le_of_ble_eq_true rfl, Nat.le_of_ble_eq_true rfl⟩ (ch_mono (ch_Ki (fun r27 m28 h => ?_)) h)
    exact ch_iret (ty := .boolean) d_r_refuse_195 rfl h.1 (Nat.le_of_ble_eq_true rfl) h.2
  replace h := h.2
  by_cases e113 : (m (4, 0, 0) 1) = 113
  · replace h := h.1 e113
    refine ch_tswIn (tgt := 178) (off := 174) d_r_refuse_4 (by rw [e113]; decide) (by rw [e113]; decide) (by rw [e113]; rfl) (by decide) ?_
    refine ch_aload_n (i := 0) d_r_refuse_178 rfl rfl ?_
    refine ch_aload_n (i := 1) d_r_refuse_179 rfl rfl ?_
    refine ch_aload_n (i := 2) d_r_refuse_180 rfl rfl ?_
    refine ch_get (v := .inl (.int (m (4, 0, 0) 2))) d_r_refuse_181 fl_r_24 rfl ?_
    refine ch_aload_n (i := 2) d_r_refuse_184 rfl rfl ?_
    refine ch_get (v := .inl (.int (m (4, 0, 0) 3))) d_r_refuse_185 fl_r_52 rfl ?_
    refine ch_aload_n (i := 2) d_r_refuse_188 rfl rfl ?_
    refine ch_get (v := .inl (.int (m (4, 0, 0) 4))) d_r_refuse_189 fl_r_15 rfl ?_
    refine ch_callV (as := [.inr (1, j1, 0), .inl (.int (m (4, 0, 0) 2)), .inl (.int (m (4, 0, 0) 3)), .inl (.int (m (4, 0, 0) 4))]) d_r_refuse_192 lk_r_55 mi_r_refuseGift me_r_refuseGift rfl rfl rfl ⟨Nat.le_of_ble_eq_true rfl, Nat.le_of_ble_eq_true rfl⟩ (Nat.le_of_ble_eq_true rfl) ⟨Nat.le_of_ble_eq_true rfl, Nat.le_of_ble_eq_true rfl⟩ (ch_mono (ch_Ki (fun r29 m30 h => ?_)) h)
    exact ch_iret (ty := .boolean) d_r_refuse_195 rfl h.1 (Nat.le_of_ble_eq_true rfl) h.2
  replace h := h.2
  by_cases e114 : (m (4, 0, 0) 1) = 114
  · replace h := h.1 e114
    refine ch_tswIn (tgt := 162) (off := 158) d_r_refuse_4 (by rw [e114]; decide) (by rw [e114]; decide) (by rw [e114]; rfl) (by decide) ?_
    refine ch_aload_n (i := 0) d_r_refuse_162 rfl rfl ?_
    refine ch_aload_n (i := 1) d_r_refuse_163 rfl rfl ?_
    refine ch_aload_n (i := 2) d_r_refuse_164 rfl rfl ?_
    refine ch_get (v := .inl (.int (m (4, 0, 0) 4))) d_r_refuse_165 fl_r_15 rfl ?_
    refine ch_callV (as := [.inr (1, j1, 0), .inl (.int (m (4, 0, 0) 4))]) d_r_refuse_168 lk_r_45 mi_r_refuseRain me_r_refuseRain rfl rfl rfl ⟨Nat.le_of_ble_eq_true rfl, Nat.le_of_ble_eq_true rfl⟩ (Nat.le_of_ble_eq_true rfl) ⟨Nat.le_of_ble_eq_true rfl, Nat.le_of_ble_eq_true rfl⟩ (ch_mono (ch_Ki (fun r31 m32 h => ?_)) h)
    exact ch_iret (ty := .boolean) d_r_refuse_171 rfl h.1 (Nat.le_of_ble_eq_true rfl) h.2
  replace h := h.2
  by_cases e115 : (m (4, 0, 0) 1) = 115
  · replace h := h.1 e115
    refine ch_tswIn (tgt := 152) (off := 148) d_r_refuse_4 (by rw [e115]; decide) (by rw [e115]; decide) (by rw [e115]; rfl) (by decide) ?_
    refine ch_aload_n (i := 0) d_r_refuse_152 rfl rfl ?_
    refine ch_aload_n (i := 1) d_r_refuse_153 rfl rfl ?_
    refine ch_aload_n (i := 2) d_r_refuse_154 rfl rfl ?_
    refine ch_get (v := .inl (.int (m (4, 0, 0) 2))) d_r_refuse_155 fl_r_24 rfl ?_
    refine ch_callV (as := [.inr (1, j1, 0), .inl (.int (m (4, 0, 0) 2))]) d_r_refuse_158 lk_r_42 mi_r_refuseStrike me_r_refuseStrike rfl rfl rfl ⟨Nat.le_of_ble_eq_true rfl, Nat.le_of_ble_eq_true rfl⟩ (Nat.le_of_ble_eq_true rfl) ⟨Nat.le_of_ble_eq_true rfl, Nat.le_of_ble_eq_true rfl⟩ (ch_mono (ch_Ki (fun r33 m34 h => ?_)) h)
    exact ch_iret (ty := .boolean) d_r_refuse_161 rfl h.1 (Nat.le_of_ble_eq_true rfl) h.2
  replace h := h.2
  by_cases e116 : (m (4, 0, 0) 1) = 116
  · replace h := h.1 e116
    refine ch_tswIn (tgt := 172) (off := 168) d_r_refuse_4 (by rw [e116]; decide) (by rw [e116]; decide) (by rw [e116]; rfl) (by decide) ?_
    refine ch_aload_n (i := 0) d_r_refuse_172 rfl rfl ?_
    refine ch_aload_n (i := 1) d_r_refuse_173 rfl rfl ?_
    refine ch_callV (as := [.inr (1, j1, 0)]) d_r_refuse_174 lk_r_48 mi_r_refuseTerm me_r_refuseTerm rfl rfl rfl ⟨Nat.le_of_ble_eq_true rfl, Nat.le_of_ble_eq_true rfl⟩ (Nat.le_of_ble_eq_true rfl) ⟨Nat.le_of_ble_eq_true rfl, Nat.le_of_ble_eq_true rfl⟩ (ch_mono (ch_Ki (fun r35 m36 h => ?_)) h)
    exact ch_iret (ty := .boolean) d_r_refuse_177 rfl h.1 (Nat.le_of_ble_eq_true rfl) h.2
  replace h := h.2
  by_cases e117 : (m (4, 0, 0) 1) = 117
  · replace h := h.1 e117
    refine ch_tswIn (tgt := 178) (off := 174) d_r_refuse_4 (by rw [e117]; decide) (by rw [e117]; decide) (by rw [e117]; rfl) (by decide) ?_
    refine ch_aload_n (i := 0) d_r_refuse_178 rfl rfl ?_
    refine ch_aload_n (i := 1) d_r_refuse_179 rfl rfl ?_
    refine ch_aload_n (i := 2) d_r_refuse_180 rfl rfl ?_
    refine ch_get (v := .inl (.int (m (4, 0, 0) 2))) d_r_refuse_181 fl_r_24 rfl ?_
    refine ch_aload_n (i := 2) d_r_refuse_184 rfl rfl ?_
    refine ch_get (v := .inl (.int (m (4, 0, 0) 3))) d_r_refuse_185 fl_r_52 rfl ?_
    refine ch_aload_n (i := 2) d_r_refuse_188 rfl rfl ?_
    refine ch_get (v := .inl (.int (m (4, 0, 0) 4))) d_r_refuse_189 fl_r_15 rfl ?_
    refine ch_callV (as := [.inr (1, j1, 0), .inl (.int (m (4, 0, 0) 2)), .inl (.int (m (4, 0, 0) 3)), .inl (.int (m (4, 0, 0) 4))]) d_r_refuse_192 lk_r_55 mi_r_refuseGift me_r_refuseGift rfl rfl rfl ⟨Nat.le_of_ble_eq_true rfl, Nat.le_of_ble_eq_true rfl⟩ (Nat.le_of_ble_eq_true rfl) ⟨Nat.le_of_ble_eq_true rfl, Nat.le_of_ble_eq_true rfl⟩ (ch_mono (ch_Ki (fun r37 m38 h => ?_)) h)
    exact ch_iret (ty := .boolean) d_r_refuse_195 rfl h.1 (Nat.le_of_ble_eq_true rfl) h.2
  replace h := h.2
  by_cases e118 : (m (4, 0, 0) 1) = 118
  · replace h := h.1 e118
    refine ch_tswIn (tgt := 178) (off := 174) d_r_refuse_4 (by rw [e118]; decide) (by rw [e118]; decide) (by rw [e118]; rfl) (by decide) ?_
    refine ch_aload_n (i := 0) d_r_refuse_178 rfl rfl ?_
    refine ch_aload_n (i := 1) d_r_refuse_179 rfl rfl ?_
    refine ch_aload_n (i := 2) d_r_refuse_180 rfl rfl ?_
    refine ch_get (v := .inl (.int (m (4, 0, 0) 2))) d_r_refuse_181 fl_r_24 rfl ?_
    refine ch_aload_n (i := 2) d_r_refuse_184 rfl rfl ?_
    refine ch_get (v := .inl (.int (m (4, 0, 0) 3))) d_r_refuse_185 fl_r_52 rfl ?_
    refine ch_aload_n (i := 2) d_r_refuse_188 rfl rfl ?_
    refine ch_get (v := .inl (.int (m (4, 0, 0) 4))) d_r_refuse_189 fl_r_15 rfl ?_
    refine ch_callV (as := [.inr (1, j1, 0), .inl (.int (m (4, 0, 0) 2)), .inl (.int (m (4, 0, 0) 3)), .inl (.int (m (4, 0, 0) 4))]) d_r_refuse_192 lk_r_55 mi_r_refuseGift me_r_refuseGift rfl rfl rfl ⟨Nat.le_of_ble_eq_true rfl, Nat.le_of_ble_eq_true rfl⟩ (Nat.le_of_ble_eq_true rfl) ⟨Nat.le_of_ble_eq_true rfl, Nat.le_of_ble_eq_true rfl⟩ (ch_mono (ch_Ki (fun r39 m40 h => ?_)) h)
    exact ch_iret (ty := .boolean) d_r_refuse_195 rfl h.1 (Nat.le_of_ble_eq_true rfl) h.2
  replace h := h.2
  by_cases e119 : (m (4, 0, 0) 1) = 119
  · replace h := h.1 e119
    refine ch_tswIn (tgt := 142) (off := 138) d_r_refuse_4 (by rw [e119]; decide) (by rw [e119]; decide) (by rw [e119]; rfl) (by decide) ?_
    refine ch_aload_n (i := 0) d_r_refuse_142 rfl rfl ?_
    refine ch_aload_n (i := 1) d_r_refuse_143 rfl rfl ?_
    refine ch_aload_n (i := 2) d_r_refuse_144 rfl rfl ?_
    refine ch_get (v := .inl (.int (m (4, 0, 0) 2))) d_r_refuse_145 fl_r_24 rfl ?_
    refine ch_callV (as := [.inr (1, j1, 0), .inl (.int (m (4, 0, 0) 2))]) d_r_refuse_148 lk_r_39 mi_r_refuseWarrant me_r_refuseWarrant rfl rfl rfl ⟨Nat.le_of_ble_eq_true rfl, Nat.le_of_ble_eq_true rfl⟩ (Nat.le_of_ble_eq_true rfl) ⟨Nat.le_of_ble_eq_true rfl, Nat.le_of_ble_eq_true rfl⟩ (ch_mono (ch_Ki (fun r41 m42 h => ?_)) h)
    exact ch_iret (ty := .boolean) d_r_refuse_151 rfl h.1 (Nat.le_of_ble_eq_true rfl) h.2
  replace h := h.2
  have hx : (Int32.toInt (m (4, 0, 0) 1) < 99 ∨ 119 < Int32.toInt (m (4, 0, 0) 1)) := by
    have f99 : Int32.toInt (m (4, 0, 0) 1) ≠ 99 := fun q => e99 (Int32.toInt_inj.mp (q.trans (by decide)))
    have f100 : Int32.toInt (m (4, 0, 0) 1) ≠ 100 := fun q => e100 (Int32.toInt_inj.mp (q.trans (by decide)))
    have f101 : Int32.toInt (m (4, 0, 0) 1) ≠ 101 := fun q => e101 (Int32.toInt_inj.mp (q.trans (by decide)))
    have f102 : Int32.toInt (m (4, 0, 0) 1) ≠ 102 := fun q => e102 (Int32.toInt_inj.mp (q.trans (by decide)))
    have f103 : Int32.toInt (m (4, 0, 0) 1) ≠ 103 := fun q => e103 (Int32.toInt_inj.mp (q.trans (by decide)))
    have f104 : Int32.toInt (m (4, 0, 0) 1) ≠ 104 := fun q => e104 (Int32.toInt_inj.mp (q.trans (by decide)))
    have f105 : Int32.toInt (m (4, 0, 0) 1) ≠ 105 := fun q => e105 (Int32.toInt_inj.mp (q.trans (by decide)))
    have f106 : Int32.toInt (m (4, 0, 0) 1) ≠ 106 := fun q => e106 (Int32.toInt_inj.mp (q.trans (by decide)))
    have f107 : Int32.toInt (m (4, 0, 0) 1) ≠ 107 := fun q => e107 (Int32.toInt_inj.mp (q.trans (by decide)))
    have f108 : Int32.toInt (m (4, 0, 0) 1) ≠ 108 := fun q => e108 (Int32.toInt_inj.mp (q.trans (by decide)))
    have f109 : Int32.toInt (m (4, 0, 0) 1) ≠ 109 := fun q => e109 (Int32.toInt_inj.mp (q.trans (by decide)))
    have f110 : Int32.toInt (m (4, 0, 0) 1) ≠ 110 := fun q => e110 (Int32.toInt_inj.mp (q.trans (by decide)))
    have f111 : Int32.toInt (m (4, 0, 0) 1) ≠ 111 := fun q => e111 (Int32.toInt_inj.mp (q.trans (by decide)))
    have f112 : Int32.toInt (m (4, 0, 0) 1) ≠ 112 := fun q => e112 (Int32.toInt_inj.mp (q.trans (by decide)))
    have f113 : Int32.toInt (m (4, 0, 0) 1) ≠ 113 := fun q => e113 (Int32.toInt_inj.mp (q.trans (by decide)))
    have f114 : Int32.toInt (m (4, 0, 0) 1) ≠ 114 := fun q => e114 (Int32.toInt_inj.mp (q.trans (by decide)))
    have f115 : Int32.toInt (m (4, 0, 0) 1) ≠ 115 := fun q => e115 (Int32.toInt_inj.mp (q.trans (by decide)))
    have f116 : Int32.toInt (m (4, 0, 0) 1) ≠ 116 := fun q => e116 (Int32.toInt_inj.mp (q.trans (by decide)))
    have f117 : Int32.toInt (m (4, 0, 0) 1) ≠ 117 := fun q => e117 (Int32.toInt_inj.mp (q.trans (by decide)))
    have f118 : Int32.toInt (m (4, 0, 0) 1) ≠ 118 := fun q => e118 (Int32.toInt_inj.mp (q.trans (by decide)))
    have f119 : Int32.toInt (m (4, 0, 0) 1) ≠ 119 := fun q => e119 (Int32.toInt_inj.mp (q.trans (by decide)))
    omega
  replace h := h hx
  refine ch_tswOut (tgt := 178) d_r_refuse_4 hx (by decide) ?_
  refine ch_aload_n (i := 0) d_r_refuse_178 rfl rfl ?_
  refine ch_aload_n (i := 1) d_r_refuse_179 rfl rfl ?_
  refine ch_aload_n (i := 2) d_r_refuse_180 rfl rfl ?_
  refine ch_get (v := .inl (.int (m (4, 0, 0) 2))) d_r_refuse_181 fl_r_24 rfl ?_
  refine ch_aload_n (i := 2) d_r_refuse_184 rfl rfl ?_
  refine ch_get (v := .inl (.int (m (4, 0, 0) 3))) d_r_refuse_185 fl_r_52 rfl ?_
  refine ch_aload_n (i := 2) d_r_refuse_188 rfl rfl ?_
  refine ch_get (v := .inl (.int (m (4, 0, 0) 4))) d_r_refuse_189 fl_r_15 rfl ?_
  refine ch_callV (as := [.inr (1, j1, 0), .inl (.int (m (4, 0, 0) 2)), .inl (.int (m (4, 0, 0) 3)), .inl (.int (m (4, 0, 0) 4))]) d_r_refuse_192 lk_r_55 mi_r_refuseGift me_r_refuseGift rfl rfl rfl ⟨Nat.le_of_ble_eq_true rfl, Nat.le_of_ble_eq_true rfl⟩ (Nat.le_of_ble_eq_true rfl) ⟨Nat.le_of_ble_eq_true rfl, Nat.le_of_ble_eq_true rfl⟩ (ch_mono (ch_Ki (fun r43 m44 h => ?_)) h)
  exact ch_iret (ty := .boolean) d_r_refuse_195 rfl h.1 (Nat.le_of_ble_eq_true rfl) h.2
theorem e_r_refuseChild (g : ch_G) (Q : ch_O → ch_M → Prop) (j1 : Nat) (p2 : Int32) (m : ch_M) (h : ch_J g m_r_refuseChild (ch_rm m_r_refuseChild) (ch_E g m_r_refuseChild Q) 0 [some (.inr (3, 0, 0)), some (.inr (1, j1, 0)), some (.inl (.int p2))] [] m 0) : ch_C g m_r_refuseChild [.inr (3, 0, 0), .inr (1, j1, 0), .inl (.int p2)] m Q :=
  ch_enter mf_r_refuseChild (by intro v hv; simp only [List.mem_cons, List.not_mem_nil, or_false] at hv; rcases hv with rfl | rfl | rfl <;> rfl) (Nat.le_of_ble_eq_true rfl) h
set_option maxHeartbeats 1600000 in
theorem g_r_refuseChild_0 (g : ch_G) (Q : ch_O → ch_M → Prop) (j1 : Nat) (p2 : Int32) (m : ch_M) (h : (ch_C g m_r_lacksRange [.inr (3, 0, 0), .inl (.int p2), .inl (.int 0), .inl (.int 99)] m (ch_oi (fun (r1 : Int32) (m2 : ch_M) => ((¬ r1 = 0 → Q (.inl (some (.inl (.int 1)))) m2) ∧ (r1 = 0 → (((m2 (1, j1, 0) 8) < 5 → Q (.inl (some (.inl (.int 0)))) m2) ∧ (¬ (m2 (1, j1, 0) 8) < 5 → (ch_C g m_r_keep [.inr (3, 0, 0), .inl (.int 2), .inl (.int (m2 (1, j1, 0) 8))] m2 (ch_oi (fun (r3 : Int32) (m4 : ch_M) => ((r3 = 0 → Q (.inl (some (.inl (.int 0)))) m4) ∧ (¬ r3 = 0 → Q (.inl (some (.inl (.int 1)))) m4))))))))))))) : ch_J g m_r_refuseChild (ch_rm m_r_refuseChild) (ch_E g m_r_refuseChild Q) 0 [some (.inr (3, 0, 0)), some (.inr (1, j1, 0)), some (.inl (.int p2))] [] m 0 := by
  refine ch_aload_n (i := 0) d_r_refuseChild_0 rfl rfl ?_
  refine ch_iload_n (i := 2) d_r_refuseChild_1 rfl rfl ?_
  refine ch_iconst (v := 0) d_r_refuseChild_2 (by decide) ?_
  refine ch_bipush (v := 99) d_r_refuseChild_3 (by decide) ?_
  refine ch_callV (as := [.inl (.int p2), .inl (.int 0), .inl (.int 99)]) d_r_refuseChild_5 lk_r_59 mi_r_lacksRange me_r_lacksRange rfl rfl rfl ⟨Nat.le_of_ble_eq_true rfl, Nat.le_of_ble_eq_true rfl⟩ (Nat.le_of_ble_eq_true rfl) ⟨Nat.le_of_ble_eq_true rfl, Nat.le_of_ble_eq_true rfl⟩ (ch_mono (ch_Ki (fun r1 m2 h => ?_)) h)
  refine ch_if_ne (tgt := 31) d_r_refuseChild_8 (by decide) (fun c => ?_) (fun c => ?_)
  · replace h := h.1 c
    refine ch_iconst (v := 1) d_r_refuseChild_31 (by decide) ?_
    refine ch_goto (tgt := 36) d_r_refuseChild_32 (by decide) ?_
    exact ch_iret (ty := .boolean) d_r_refuseChild_36 rfl rfl (Nat.le_of_ble_eq_true rfl) h
  · replace h := h.2 c
    refine ch_aload_n (i := 1) d_r_refuseChild_11 rfl rfl ?_
    refine ch_get (v := .inl (.int (m2 (1, j1, 0) 8))) d_r_refuseChild_12 fl_r_63 rfl ?_
    refine ch_iconst (v := 5) d_r_refuseChild_15 (by decide) ?_
    refine ch_icmp_lt (tgt := 35) d_r_refuseChild_16 (by decide) (fun c => ?_) (fun c => ?_)
    · replace h := h.1 c
      refine ch_iconst (v := 0) d_r_refuseChild_35 (by decide) ?_
      exact ch_iret (ty := .boolean) d_r_refuseChild_36 rfl rfl (Nat.le_of_ble_eq_true rfl) h
    · replace h := h.2 c
      refine ch_aload_n (i := 0) d_r_refuseChild_19 rfl rfl ?_
      refine ch_iconst (v := 2) d_r_refuseChild_20 (by decide) ?_
      refine ch_aload_n (i := 1) d_r_refuseChild_21 rfl rfl ?_
      refine ch_get (v := .inl (.int (m2 (1, j1, 0) 8))) d_r_refuseChild_22 fl_r_63 rfl ?_
      refine ch_callV (as := [.inl (.int 2), .inl (.int (m2 (1, j1, 0) 8))]) d_r_refuseChild_25 lk_r_68 mi_r_keep me_r_keep rfl rfl rfl ⟨Nat.le_of_ble_eq_true rfl, Nat.le_of_ble_eq_true rfl⟩ (Nat.le_of_ble_eq_true rfl) ⟨Nat.le_of_ble_eq_true rfl, Nat.le_of_ble_eq_true rfl⟩ (ch_mono (ch_Ki (fun r3 m4 h => ?_)) h)
      refine ch_if_eq (tgt := 35) d_r_refuseChild_28 (by decide) (fun c => ?_) (fun c => ?_)
      · replace h := h.1 c
        refine ch_iconst (v := 0) d_r_refuseChild_35 (by decide) ?_
        exact ch_iret (ty := .boolean) d_r_refuseChild_36 rfl rfl (Nat.le_of_ble_eq_true rfl) h
      · replace h := h.2 c
        refine ch_iconst (v := 1) d_r_refuseChild_31 (by decide) ?_
        refine ch_goto (tgt := 36) d_r_refuseChild_32 (by decide) ?_
        exact ch_iret (ty := .boolean) d_r_refuseChild_36 rfl rfl (Nat.le_of_ble_eq_true rfl) h
theorem e_r_refuseChalk (g : ch_G) (Q : ch_O → ch_M → Prop) (j1 : Nat) (p2 : Int32) (p3 : Int32) (m : ch_M) (h : ch_J g m_r_refuseChalk (ch_rm m_r_refuseChalk) (ch_E g m_r_refuseChalk Q) 0 [some (.inr (3, 0, 0)), some (.inr (1, j1, 0)), some (.inl (.int p2)), some (.inl (.int p3)), none] [] m 0) : ch_C g m_r_refuseChalk [.inr (3, 0, 0), .inr (1, j1, 0), .inl (.int p2), .inl (.int p3)] m Q :=
  ch_enter mf_r_refuseChalk (by intro v hv; simp only [List.mem_cons, List.not_mem_nil, or_false] at hv; rcases hv with rfl | rfl | rfl | rfl <;> rfl) (Nat.le_of_ble_eq_true rfl) h
set_option maxHeartbeats 1600000 in
theorem g_r_refuseChalk_0 (g : ch_G) (Q : ch_O → ch_M → Prop) (j1 : Nat) (p2 : Int32) (p3 : Int32) (m : ch_M) (h : (ch_C g m_r_lacksChild [.inr (3, 0, 0), .inr (1, j1, 0), .inl (.int p2)] m (ch_oi (fun (r1 : Int32) (m2 : ch_M) => ((¬ r1 = 0 → Q (.inl (some (.inl (.int 1)))) m2) ∧ (r1 = 0 → (ch_C g m_r_lacksRange [.inr (3, 0, 0), .inl (.int p3), .inl (.int 0), .inl (.int 11)] m2 (ch_oi (fun (r3 : Int32) (m4 : ch_M) => ((r3 = 0 → (vp_in p3 12) ∧ (((m4 (1, j1, 1) (Int32.toNatClampNeg p3)) = (-1) → (((m4 (1, j1, 2) (Int32.toNatClampNeg p3)) < 9 → (ch_C g m_r_lacksPebbles [.inr (3, 0, 0), .inr (1, j1, 0), .inl (.int p2), .inl (.int 1)] m4 (ch_oi (fun (r6 : Int32) (m7 : ch_M) => (narrow .boolean (.int r6) = .int r6) ∧ Q (.inl (some (.inl (.int r6)))) m7)))) ∧ (¬ (m4 (1, j1, 2) (Int32.toNatClampNeg p3)) < 9 → (ch_C g m_r_keep [.inr (3, 0, 0), .inl (.int 6), .inl (.int p3)] m4 (ch_oi (fun (r8 : Int32) (m9 : ch_M) => (narrow .boolean (.int r8) = .int r8) ∧ Q (.inl (some (.inl (.int r8)))) m9)))))) ∧ (¬ (m4 (1, j1, 1) (Int32.toNatClampNeg p3)) = (-1) → (((m4 (1, j1, 1) (Int32.toNatClampNeg p3)) = p2 → (((m4 (1, j1, 2) (Int32.toNatClampNeg p3)) < 9 → (ch_C g m_r_lacksPebbles [.inr (3, 0, 0), .inr (1, j1, 0), .inl (.int p2), .inl (.int 1)] m4 (ch_oi (fun (r10 : Int32) (m11 : ch_M) => (narrow .boolean (.int r10) = .int r10) ∧ Q (.inl (some (.inl (.int r10)))) m11)))) ∧ (¬ (m4 (1, j1, 2) (Int32.toNatClampNeg p3)) < 9 → (ch_C g m_r_keep [.inr (3, 0, 0), .inl (.int 6), .inl (.int p3)] m4 (ch_oi (fun (r12 : Int32) (m13 : ch_M) => (narrow .boolean (.int r12) = .int r12) ∧ Q (.inl (some (.inl (.int r12)))) m13)))))) ∧ (¬ (m4 (1, j1, 1) (Int32.toNatClampNeg p3)) = p2 → (ch_C g m_r_keep [.inr (3, 0, 0), .inl (.int 4), .inl (.int (m4 (1, j1, 1) (Int32.toNatClampNeg p3)))] m4 (ch_oi (fun (r14 : Int32) (m15 : ch_M) => (narrow .boolean (.int r14) = .int r14) ∧ Q (.inl (some (.inl (.int r14)))) m15)))))))) ∧ (¬ r3 = 0 → Q (.inl (some (.inl (.int 1)))) m4))))))))))) : ch_J g m_r_refuseChalk (ch_rm m_r_refuseChalk) (ch_E g m_r_refuseChalk Q) 0 [some (.inr (3, 0, 0)), some (.inr (1, j1, 0)), some (.inl (.int p2)), some (.inl (.int p3)), none] [] m 0 := by
  refine ch_aload_n (i := 0) d_r_refuseChalk_0 rfl rfl ?_
  refine ch_aload_n (i := 1) d_r_refuseChalk_1 rfl rfl ?_
  refine ch_iload_n (i := 2) d_r_refuseChalk_2 rfl rfl ?_
  refine ch_callV (as := [.inr (1, j1, 0), .inl (.int p2)]) d_r_refuseChalk_3 lk_r_72 mi_r_lacksChild me_r_lacksChild rfl rfl rfl ⟨Nat.le_of_ble_eq_true rfl, Nat.le_of_ble_eq_true rfl⟩ (Nat.le_of_ble_eq_true rfl) ⟨Nat.le_of_ble_eq_true rfl, Nat.le_of_ble_eq_true rfl⟩ (ch_mono (ch_Ki (fun r1 m2 h => ?_)) h)
  refine ch_if_ne (tgt := 20) d_r_refuseChalk_6 (by decide) (fun c => ?_) (fun c => ?_)
  · replace h := h.1 c
    refine ch_iconst (v := 1) d_r_refuseChalk_20 (by decide) ?_
    exact ch_iret (ty := .boolean) d_r_refuseChalk_21 rfl rfl (Nat.le_of_ble_eq_true rfl) h
  · replace h := h.2 c
    refine ch_aload_n (i := 0) d_r_refuseChalk_9 rfl rfl ?_
    refine ch_iload_n (i := 3) d_r_refuseChalk_10 rfl rfl ?_
    refine ch_iconst (v := 0) d_r_refuseChalk_11 (by decide) ?_
    refine ch_bipush (v := 11) d_r_refuseChalk_12 (by decide) ?_
    refine ch_callV (as := [.inl (.int p3), .inl (.int 0), .inl (.int 11)]) d_r_refuseChalk_14 lk_r_59 mi_r_lacksRange me_r_lacksRange rfl rfl rfl ⟨Nat.le_of_ble_eq_true rfl, Nat.le_of_ble_eq_true rfl⟩ (Nat.le_of_ble_eq_true rfl) ⟨Nat.le_of_ble_eq_true rfl, Nat.le_of_ble_eq_true rfl⟩ (ch_mono (ch_Ki (fun r3 m4 h => ?_)) h)
    refine ch_if_eq (tgt := 22) d_r_refuseChalk_17 (by decide) (fun c => ?_) (fun c => ?_)
    · replace h := h.1 c
      refine ch_aload_n (i := 1) d_r_refuseChalk_22 rfl rfl ?_
      refine ch_get (v := .inr (1, j1, 1)) d_r_refuseChalk_23 fl_r_75 rfl ?_
      refine ch_iload_n (i := 3) d_r_refuseChalk_26 rfl rfl ?_
      have b5 := h.1
      replace h := h.2
      refine ch_iald (n := 12) d_r_refuseChalk_27 (by decide) rfl b5 ?_
      refine ch_istore (i := 4) d_r_refuseChalk_28 (Nat.le_of_ble_eq_true rfl) (ls' := [some (.inr (3, 0, 0)), some (.inr (1, j1, 0)), some (.inl (.int p2)), some (.inl (.int p3)), some (.inl (.int (m4 (1, j1, 1) (Int32.toNatClampNeg p3))))]) rfl ?_
      refine ch_iload d_r_refuseChalk_30 rfl ?_
      refine ch_iconst (v := (-1)) d_r_refuseChalk_32 (by decide) ?_
      refine ch_icmp_eq (tgt := 50) d_r_refuseChalk_33 (by decide) (fun c => ?_) (fun c => ?_)
      · replace h := h.1 c
        refine ch_aload_n (i := 1) d_r_refuseChalk_50 rfl rfl ?_
        refine ch_get (v := .inr (1, j1, 2)) d_r_refuseChalk_51 fl_r_79 rfl ?_
        refine ch_iload_n (i := 3) d_r_refuseChalk_54 rfl rfl ?_
        refine ch_iald (n := 12) d_r_refuseChalk_55 (by decide) rfl b5 ?_
        refine ch_bipush (v := 9) d_r_refuseChalk_56 (by decide) ?_
        refine ch_icmp_lt (tgt := 69) d_r_refuseChalk_58 (by decide) (fun c => ?_) (fun c => ?_)
        · replace h := h.1 c
          refine ch_aload_n (i := 0) d_r_refuseChalk_69 rfl rfl ?_
          refine ch_aload_n (i := 1) d_r_refuseChalk_70 rfl rfl ?_
          refine ch_iload_n (i := 2) d_r_refuseChalk_71 rfl rfl ?_
          refine ch_iconst (v := 1) d_r_refuseChalk_72 (by decide) ?_
          refine ch_callV (as := [.inr (1, j1, 0), .inl (.int p2), .inl (.int 1)]) d_r_refuseChalk_73 lk_r_82 mi_r_lacksPebbles me_r_lacksPebbles rfl rfl rfl ⟨Nat.le_of_ble_eq_true rfl, Nat.le_of_ble_eq_true rfl⟩ (Nat.le_of_ble_eq_true rfl) ⟨Nat.le_of_ble_eq_true rfl, Nat.le_of_ble_eq_true rfl⟩ (ch_mono (ch_Ki (fun r6 m7 h => ?_)) h)
          exact ch_iret (ty := .boolean) d_r_refuseChalk_76 rfl h.1 (Nat.le_of_ble_eq_true rfl) h.2
        · replace h := h.2 c
          refine ch_aload_n (i := 0) d_r_refuseChalk_61 rfl rfl ?_
          refine ch_bipush (v := 6) d_r_refuseChalk_62 (by decide) ?_
          refine ch_iload_n (i := 3) d_r_refuseChalk_64 rfl rfl ?_
          refine ch_callV (as := [.inl (.int 6), .inl (.int p3)]) d_r_refuseChalk_65 lk_r_68 mi_r_keep me_r_keep rfl rfl rfl ⟨Nat.le_of_ble_eq_true rfl, Nat.le_of_ble_eq_true rfl⟩ (Nat.le_of_ble_eq_true rfl) ⟨Nat.le_of_ble_eq_true rfl, Nat.le_of_ble_eq_true rfl⟩ (ch_mono (ch_Ki (fun r8 m9 h => ?_)) h)
          exact ch_iret (ty := .boolean) d_r_refuseChalk_68 rfl h.1 (Nat.le_of_ble_eq_true rfl) h.2
      · replace h := h.2 c
        refine ch_iload d_r_refuseChalk_36 rfl ?_
        refine ch_iload_n (i := 2) d_r_refuseChalk_38 rfl rfl ?_
        refine ch_icmp_eq (tgt := 50) d_r_refuseChalk_39 (by decide) (fun c => ?_) (fun c => ?_)
        · replace h := h.1 c
          refine ch_aload_n (i := 1) d_r_refuseChalk_50 rfl rfl ?_
          refine ch_get (v := .inr (1, j1, 2)) d_r_refuseChalk_51 fl_r_79 rfl ?_
          refine ch_iload_n (i := 3) d_r_refuseChalk_54 rfl rfl ?_
          refine ch_iald (n := 12) d_r_refuseChalk_55 (by decide) rfl b5 ?_
          refine ch_bipush (v := 9) d_r_refuseChalk_56 (by decide) ?_
          refine ch_icmp_lt (tgt := 69) d_r_refuseChalk_58 (by decide) (fun c => ?_) (fun c => ?_)
          · replace h := h.1 c
            refine ch_aload_n (i := 0) d_r_refuseChalk_69 rfl rfl ?_
            refine ch_aload_n (i := 1) d_r_refuseChalk_70 rfl rfl ?_
            refine ch_iload_n (i := 2) d_r_refuseChalk_71 rfl rfl ?_
            refine ch_iconst (v := 1) d_r_refuseChalk_72 (by decide) ?_
            refine ch_callV (as := [.inr (1, j1, 0), .inl (.int p2), .inl (.int 1)]) d_r_refuseChalk_73 lk_r_82 mi_r_lacksPebbles me_r_lacksPebbles rfl rfl rfl ⟨Nat.le_of_ble_eq_true rfl, Nat.le_of_ble_eq_true rfl⟩ (Nat.le_of_ble_eq_true rfl) ⟨Nat.le_of_ble_eq_true rfl, Nat.le_of_ble_eq_true rfl⟩ (ch_mono (ch_Ki (fun r10 m11 h => ?_)) h)
            exact ch_iret (ty := .boolean) d_r_refuseChalk_76 rfl h.1 (Nat.le_of_ble_eq_true rfl) h.2
          · replace h := h.2 c
            refine ch_aload_n (i := 0) d_r_refuseChalk_61 rfl rfl ?_
            refine ch_bipush (v := 6) d_r_refuseChalk_62 (by decide) ?_
            refine ch_iload_n (i := 3) d_r_refuseChalk_64 rfl rfl ?_
            refine ch_callV (as := [.inl (.int 6), .inl (.int p3)]) d_r_refuseChalk_65 lk_r_68 mi_r_keep me_r_keep rfl rfl rfl ⟨Nat.le_of_ble_eq_true rfl, Nat.le_of_ble_eq_true rfl⟩ (Nat.le_of_ble_eq_true rfl) ⟨Nat.le_of_ble_eq_true rfl, Nat.le_of_ble_eq_true rfl⟩ (ch_mono (ch_Ki (fun r12 m13 h => ?_)) h)
            exact ch_iret (ty := .boolean) d_r_refuseChalk_68 rfl h.1 (Nat.le_of_ble_eq_true rfl) h.2
        · replace h := h.2 c
          refine ch_aload_n (i := 0) d_r_refuseChalk_42 rfl rfl ?_
          refine ch_iconst (v := 4) d_r_refuseChalk_43 (by decide) ?_
          refine ch_iload d_r_refuseChalk_44 rfl ?_
          refine ch_callV (as := [.inl (.int 4), .inl (.int (m4 (1, j1, 1) (Int32.toNatClampNeg p3)))]) d_r_refuseChalk_46 lk_r_68 mi_r_keep me_r_keep rfl rfl rfl ⟨Nat.le_of_ble_eq_true rfl, Nat.le_of_ble_eq_true rfl⟩ (Nat.le_of_ble_eq_true rfl) ⟨Nat.le_of_ble_eq_true rfl, Nat.le_of_ble_eq_true rfl⟩ (ch_mono (ch_Ki (fun r14 m15 h => ?_)) h)
          exact ch_iret (ty := .boolean) d_r_refuseChalk_49 rfl h.1 (Nat.le_of_ble_eq_true rfl) h.2
    · replace h := h.2 c
      refine ch_iconst (v := 1) d_r_refuseChalk_20 (by decide) ?_
      exact ch_iret (ty := .boolean) d_r_refuseChalk_21 rfl rfl (Nat.le_of_ble_eq_true rfl) h
theorem e_r_refuseHop (g : ch_G) (Q : ch_O → ch_M → Prop) (j1 : Nat) (p2 : Int32) (j3 : Nat) (m : ch_M) (h : ch_J g m_r_refuseHop (ch_rm m_r_refuseHop) (ch_E g m_r_refuseHop Q) 0 [some (.inr (3, 0, 0)), some (.inr (1, j1, 0)), some (.inl (.int p2)), some (.inr (5, j3, 0)), none] [] m 0) : ch_C g m_r_refuseHop [.inr (3, 0, 0), .inr (1, j1, 0), .inl (.int p2), .inr (5, j3, 0)] m Q :=
  ch_enter mf_r_refuseHop (by intro v hv; simp only [List.mem_cons, List.not_mem_nil, or_false] at hv; rcases hv with rfl | rfl | rfl | rfl <;> rfl) (Nat.le_of_ble_eq_true rfl) h
set_option maxHeartbeats 1600000 in
theorem g_r_refuseHop_0 (g : ch_G) (Q : ch_O → ch_M → Prop) (j1 : Nat) (p2 : Int32) (j3 : Nat) (m : ch_M) (h : (ch_C g m_r_lacksChild [.inr (3, 0, 0), .inr (1, j1, 0), .inl (.int p2)] m (ch_oi (fun (r1 : Int32) (m2 : ch_M) => ((¬ r1 = 0 → Q (.inl (some (.inl (.int 1)))) m2) ∧ (r1 = 0 → (ch_C g m_r_isWanted [.inr (3, 0, 0), .inr (1, j1, 0), .inl (.int p2)] m2 (ch_oi (fun (r3 : Int32) (m4 : ch_M) => ((r3 = 0 → ((¬ (m4 (5, j3, 0) 1) = 0 → (ch_C g m_s_misfit [.inr (5, j3, 0)] m4 (ch_oi (fun (r5 : Int32) (m6 : ch_M) => ((r5 = (-1) → Q (.inl (some (.inl (.int 0)))) m6) ∧ (¬ r5 = (-1) → (ch_C g m_r_keep [.inr (3, 0, 0), .inl (.int 8), .inl (.int r5)] m6 (ch_oi (fun (r7 : Int32) (m8 : ch_M) => ((r7 = 0 → Q (.inl (some (.inl (.int 0)))) m8) ∧ (¬ r7 = 0 → Q (.inl (some (.inl (.int 1)))) m8))))))))))) ∧ ((m4 (5, j3, 0) 1) = 0 → (ch_C g m_r_keep [.inr (3, 0, 0), .inl (.int 1), .inl (.int 0)] m4 (ch_oi (fun (r9 : Int32) (m10 : ch_M) => (narrow .boolean (.int r9) = .int r9) ∧ Q (.inl (some (.inl (.int r9)))) m10)))))) ∧ (¬ r3 = 0 → Q (.inl (some (.inl (.int 1)))) m4))))))))))) : ch_J g m_r_refuseHop (ch_rm m_r_refuseHop) (ch_E g m_r_refuseHop Q) 0 [some (.inr (3, 0, 0)), some (.inr (1, j1, 0)), some (.inl (.int p2)), some (.inr (5, j3, 0)), none] [] m 0 := by
  refine ch_aload_n (i := 0) d_r_refuseHop_0 rfl rfl ?_
  refine ch_aload_n (i := 1) d_r_refuseHop_1 rfl rfl ?_
  refine ch_iload_n (i := 2) d_r_refuseHop_2 rfl rfl ?_
  refine ch_callV (as := [.inr (1, j1, 0), .inl (.int p2)]) d_r_refuseHop_3 lk_r_72 mi_r_lacksChild me_r_lacksChild rfl rfl rfl ⟨Nat.le_of_ble_eq_true rfl, Nat.le_of_ble_eq_true rfl⟩ (Nat.le_of_ble_eq_true rfl) ⟨Nat.le_of_ble_eq_true rfl, Nat.le_of_ble_eq_true rfl⟩ (ch_mono (ch_Ki (fun r1 m2 h => ?_)) h)
  refine ch_if_ne (tgt := 18) d_r_refuseHop_6 (by decide) (fun c => ?_) (fun c => ?_)
  · replace h := h.1 c
    refine ch_iconst (v := 1) d_r_refuseHop_18 (by decide) ?_
    exact ch_iret (ty := .boolean) d_r_refuseHop_19 rfl rfl (Nat.le_of_ble_eq_true rfl) h
  · replace h := h.2 c
    refine ch_aload_n (i := 0) d_r_refuseHop_9 rfl rfl ?_
    refine ch_aload_n (i := 1) d_r_refuseHop_10 rfl rfl ?_
    refine ch_iload_n (i := 2) d_r_refuseHop_11 rfl rfl ?_
    refine ch_callV (as := [.inr (1, j1, 0), .inl (.int p2)]) d_r_refuseHop_12 lk_r_85 mi_r_isWanted me_r_isWanted rfl rfl rfl ⟨Nat.le_of_ble_eq_true rfl, Nat.le_of_ble_eq_true rfl⟩ (Nat.le_of_ble_eq_true rfl) ⟨Nat.le_of_ble_eq_true rfl, Nat.le_of_ble_eq_true rfl⟩ (ch_mono (ch_Ki (fun r3 m4 h => ?_)) h)
    refine ch_if_eq (tgt := 20) d_r_refuseHop_15 (by decide) (fun c => ?_) (fun c => ?_)
    · replace h := h.1 c
      refine ch_aload_n (i := 3) d_r_refuseHop_20 rfl rfl ?_
      refine ch_get (v := .inl (.int (m4 (5, j3, 0) 1))) d_r_refuseHop_21 fl_r_88 rfl ?_
      refine ch_if_ne (tgt := 34) d_r_refuseHop_24 (by decide) (fun c => ?_) (fun c => ?_)
      · replace h := h.1 c
        refine ch_aload_n (i := 3) d_r_refuseHop_34 rfl rfl ?_
        refine ch_callV (as := []) d_r_refuseHop_35 lk_r_93 mi_s_misfit me_s_misfit rfl rfl rfl ⟨Nat.le_of_ble_eq_true rfl, Nat.le_of_ble_eq_true rfl⟩ (Nat.le_of_ble_eq_true rfl) ⟨Nat.le_of_ble_eq_true rfl, Nat.le_of_ble_eq_true rfl⟩ (ch_mono (ch_Ki (fun r5 m6 h => ?_)) h)
        refine ch_istore (i := 4) d_r_refuseHop_38 (Nat.le_of_ble_eq_true rfl) (ls' := [some (.inr (3, 0, 0)), some (.inr (1, j1, 0)), some (.inl (.int p2)), some (.inr (5, j3, 0)), some (.inl (.int r5))]) rfl ?_
        refine ch_iload d_r_refuseHop_40 rfl ?_
        refine ch_iconst (v := (-1)) d_r_refuseHop_42 (by decide) ?_
        refine ch_icmp_eq (tgt := 61) d_r_refuseHop_43 (by decide) (fun c => ?_) (fun c => ?_)
        · replace h := h.1 c
          refine ch_iconst (v := 0) d_r_refuseHop_61 (by decide) ?_
          exact ch_iret (ty := .boolean) d_r_refuseHop_62 rfl rfl (Nat.le_of_ble_eq_true rfl) h
        · replace h := h.2 c
          refine ch_aload_n (i := 0) d_r_refuseHop_46 rfl rfl ?_
          refine ch_bipush (v := 8) d_r_refuseHop_47 (by decide) ?_
          refine ch_iload d_r_refuseHop_49 rfl ?_
          refine ch_callV (as := [.inl (.int 8), .inl (.int r5)]) d_r_refuseHop_51 lk_r_68 mi_r_keep me_r_keep rfl rfl rfl ⟨Nat.le_of_ble_eq_true rfl, Nat.le_of_ble_eq_true rfl⟩ (Nat.le_of_ble_eq_true rfl) ⟨Nat.le_of_ble_eq_true rfl, Nat.le_of_ble_eq_true rfl⟩ (ch_mono (ch_Ki (fun r7 m8 h => ?_)) h)
          refine ch_if_eq (tgt := 61) d_r_refuseHop_54 (by decide) (fun c => ?_) (fun c => ?_)
          · replace h := h.1 c
            refine ch_iconst (v := 0) d_r_refuseHop_61 (by decide) ?_
            exact ch_iret (ty := .boolean) d_r_refuseHop_62 rfl rfl (Nat.le_of_ble_eq_true rfl) h
          · replace h := h.2 c
            refine ch_iconst (v := 1) d_r_refuseHop_57 (by decide) ?_
            refine ch_goto (tgt := 62) d_r_refuseHop_58 (by decide) ?_
            exact ch_iret (ty := .boolean) d_r_refuseHop_62 rfl rfl (Nat.le_of_ble_eq_true rfl) h
      · replace h := h.2 c
        refine ch_aload_n (i := 0) d_r_refuseHop_27 rfl rfl ?_
        refine ch_iconst (v := 1) d_r_refuseHop_28 (by decide) ?_
        refine ch_iconst (v := 0) d_r_refuseHop_29 (by decide) ?_
        refine ch_callV (as := [.inl (.int 1), .inl (.int 0)]) d_r_refuseHop_30 lk_r_68 mi_r_keep me_r_keep rfl rfl rfl ⟨Nat.le_of_ble_eq_true rfl, Nat.le_of_ble_eq_true rfl⟩ (Nat.le_of_ble_eq_true rfl) ⟨Nat.le_of_ble_eq_true rfl, Nat.le_of_ble_eq_true rfl⟩ (ch_mono (ch_Ki (fun r9 m10 h => ?_)) h)
        exact ch_iret (ty := .boolean) d_r_refuseHop_33 rfl h.1 (Nat.le_of_ble_eq_true rfl) h.2
    · replace h := h.2 c
      refine ch_iconst (v := 1) d_r_refuseHop_18 (by decide) ?_
      exact ch_iret (ty := .boolean) d_r_refuseHop_19 rfl rfl (Nat.le_of_ble_eq_true rfl) h
theorem e_r_refuseWarrant (g : ch_G) (Q : ch_O → ch_M → Prop) (j1 : Nat) (p2 : Int32) (m : ch_M) (h : ch_J g m_r_refuseWarrant (ch_rm m_r_refuseWarrant) (ch_E g m_r_refuseWarrant Q) 0 [some (.inr (3, 0, 0)), some (.inr (1, j1, 0)), some (.inl (.int p2))] [] m 0) : ch_C g m_r_refuseWarrant [.inr (3, 0, 0), .inr (1, j1, 0), .inl (.int p2)] m Q :=
  ch_enter mf_r_refuseWarrant (by intro v hv; simp only [List.mem_cons, List.not_mem_nil, or_false] at hv; rcases hv with rfl | rfl | rfl <;> rfl) (Nat.le_of_ble_eq_true rfl) h
set_option maxHeartbeats 1600000 in
theorem g_r_refuseWarrant_0 (g : ch_G) (Q : ch_O → ch_M → Prop) (j1 : Nat) (p2 : Int32) (m : ch_M) (h : (ch_C g m_r_lacksChild [.inr (3, 0, 0), .inr (1, j1, 0), .inl (.int p2)] m (ch_oi (fun (r1 : Int32) (m2 : ch_M) => ((¬ r1 = 0 → Q (.inl (some (.inl (.int 1)))) m2) ∧ (r1 = 0 → (ch_C g m_r_isWanted [.inr (3, 0, 0), .inr (1, j1, 0), .inl (.int p2)] m2 (ch_oi (fun (r3 : Int32) (m4 : ch_M) => ((¬ r3 = 0 → Q (.inl (some (.inl (.int 1)))) m4) ∧ (r3 = 0 → (vp_in p2 5) ∧ ((3 ≤ (m4 (1, j1, 4) (Int32.toNatClampNeg p2)) → Q (.inl (some (.inl (.int 0)))) m4) ∧ (¬ 3 ≤ (m4 (1, j1, 4) (Int32.toNatClampNeg p2)) → (ch_C g m_r_keep [.inr (3, 0, 0), .inl (.int 9), .inl (.int (m4 (1, j1, 4) (Int32.toNatClampNeg p2)))] m4 (ch_oi (fun (r6 : Int32) (m7 : ch_M) => ((r6 = 0 → Q (.inl (some (.inl (.int 0)))) m7) ∧ (¬ r6 = 0 → Q (.inl (some (.inl (.int 1)))) m7)))))))))))))))))) : ch_J g m_r_refuseWarrant (ch_rm m_r_refuseWarrant) (ch_E g m_r_refuseWarrant Q) 0 [some (.inr (3, 0, 0)), some (.inr (1, j1, 0)), some (.inl (.int p2))] [] m 0 := by
  refine ch_aload_n (i := 0) d_r_refuseWarrant_0 rfl rfl ?_
  refine ch_aload_n (i := 1) d_r_refuseWarrant_1 rfl rfl ?_
  refine ch_iload_n (i := 2) d_r_refuseWarrant_2 rfl rfl ?_
  refine ch_callV (as := [.inr (1, j1, 0), .inl (.int p2)]) d_r_refuseWarrant_3 lk_r_72 mi_r_lacksChild me_r_lacksChild rfl rfl rfl ⟨Nat.le_of_ble_eq_true rfl, Nat.le_of_ble_eq_true rfl⟩ (Nat.le_of_ble_eq_true rfl) ⟨Nat.le_of_ble_eq_true rfl, Nat.le_of_ble_eq_true rfl⟩ (ch_mono (ch_Ki (fun r1 m2 h => ?_)) h)
  refine ch_if_ne (tgt := 43) d_r_refuseWarrant_6 (by decide) (fun c => ?_) (fun c => ?_)
  · replace h := h.1 c
    refine ch_iconst (v := 1) d_r_refuseWarrant_43 (by decide) ?_
    refine ch_goto (tgt := 48) d_r_refuseWarrant_44 (by decide) ?_
    exact ch_iret (ty := .boolean) d_r_refuseWarrant_48 rfl rfl (Nat.le_of_ble_eq_true rfl) h
  · replace h := h.2 c
    refine ch_aload_n (i := 0) d_r_refuseWarrant_9 rfl rfl ?_
    refine ch_aload_n (i := 1) d_r_refuseWarrant_10 rfl rfl ?_
    refine ch_iload_n (i := 2) d_r_refuseWarrant_11 rfl rfl ?_
    refine ch_callV (as := [.inr (1, j1, 0), .inl (.int p2)]) d_r_refuseWarrant_12 lk_r_85 mi_r_isWanted me_r_isWanted rfl rfl rfl ⟨Nat.le_of_ble_eq_true rfl, Nat.le_of_ble_eq_true rfl⟩ (Nat.le_of_ble_eq_true rfl) ⟨Nat.le_of_ble_eq_true rfl, Nat.le_of_ble_eq_true rfl⟩ (ch_mono (ch_Ki (fun r3 m4 h => ?_)) h)
    refine ch_if_ne (tgt := 43) d_r_refuseWarrant_15 (by decide) (fun c => ?_) (fun c => ?_)
    · replace h := h.1 c
      refine ch_iconst (v := 1) d_r_refuseWarrant_43 (by decide) ?_
      refine ch_goto (tgt := 48) d_r_refuseWarrant_44 (by decide) ?_
      exact ch_iret (ty := .boolean) d_r_refuseWarrant_48 rfl rfl (Nat.le_of_ble_eq_true rfl) h
    · replace h := h.2 c
      refine ch_aload_n (i := 1) d_r_refuseWarrant_18 rfl rfl ?_
      refine ch_get (v := .inr (1, j1, 4)) d_r_refuseWarrant_19 fl_r_97 rfl ?_
      refine ch_iload_n (i := 2) d_r_refuseWarrant_22 rfl rfl ?_
      have b5 := h.1
      replace h := h.2
      refine ch_iald (n := 5) d_r_refuseWarrant_23 (by decide) rfl b5 ?_
      refine ch_iconst (v := 3) d_r_refuseWarrant_24 (by decide) ?_
      refine ch_icmp_ge (tgt := 47) d_r_refuseWarrant_25 (by decide) (fun c => ?_) (fun c => ?_)
      · replace h := h.1 c
        refine ch_iconst (v := 0) d_r_refuseWarrant_47 (by decide) ?_
        exact ch_iret (ty := .boolean) d_r_refuseWarrant_48 rfl rfl (Nat.le_of_ble_eq_true rfl) h
      · replace h := h.2 c
        refine ch_aload_n (i := 0) d_r_refuseWarrant_28 rfl rfl ?_
        refine ch_bipush (v := 9) d_r_refuseWarrant_29 (by decide) ?_
        refine ch_aload_n (i := 1) d_r_refuseWarrant_31 rfl rfl ?_
        refine ch_get (v := .inr (1, j1, 4)) d_r_refuseWarrant_32 fl_r_97 rfl ?_
        refine ch_iload_n (i := 2) d_r_refuseWarrant_35 rfl rfl ?_
        refine ch_iald (n := 5) d_r_refuseWarrant_36 (by decide) rfl b5 ?_
        refine ch_callV (as := [.inl (.int 9), .inl (.int (m4 (1, j1, 4) (Int32.toNatClampNeg p2)))]) d_r_refuseWarrant_37 lk_r_68 mi_r_keep me_r_keep rfl rfl rfl ⟨Nat.le_of_ble_eq_true rfl, Nat.le_of_ble_eq_true rfl⟩ (Nat.le_of_ble_eq_true rfl) ⟨Nat.le_of_ble_eq_true rfl, Nat.le_of_ble_eq_true rfl⟩ (ch_mono (ch_Ki (fun r6 m7 h => ?_)) h)
        refine ch_if_eq (tgt := 47) d_r_refuseWarrant_40 (by decide) (fun c => ?_) (fun c => ?_)
        · replace h := h.1 c
          refine ch_iconst (v := 0) d_r_refuseWarrant_47 (by decide) ?_
          exact ch_iret (ty := .boolean) d_r_refuseWarrant_48 rfl rfl (Nat.le_of_ble_eq_true rfl) h
        · replace h := h.2 c
          refine ch_iconst (v := 1) d_r_refuseWarrant_43 (by decide) ?_
          refine ch_goto (tgt := 48) d_r_refuseWarrant_44 (by decide) ?_
          exact ch_iret (ty := .boolean) d_r_refuseWarrant_48 rfl rfl (Nat.le_of_ble_eq_true rfl) h
