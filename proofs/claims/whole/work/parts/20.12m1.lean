theorem e_m_chalks (g : ch_G) (Q : ch_O → ch_M → Prop) (p1 : Int32) (p2 : Int32) (m : ch_M) (h : ch_J g m_m_chalks (ch_rm m_m_chalks) (ch_E g m_m_chalks Q) 0 [some (.inr (9, 0, 0)), some (.inl (.int p1)), some (.inl (.int p2))] [] m 0) : ch_C g m_m_chalks [.inr (9, 0, 0), .inl (.int p1), .inl (.int p2)] m Q :=
  ch_enter mf_m_chalks (by intro v hv; simp only [List.mem_cons, List.not_mem_nil, or_false] at hv; rcases hv with rfl | rfl | rfl <;> rfl) (Nat.le_of_ble_eq_true rfl) h
set_option maxHeartbeats 1600000 in
theorem g_m_chalks_0 (g : ch_G) (Q : ch_O → ch_M → Prop) (p1 : Int32) (p2 : Int32) (m : ch_M) (h : (ch_C g m_m_isThere [.inr (9, 0, 0), .inl (.int p1)] m (ch_oi (fun (r1 : Int32) (m2 : ch_M) => ((¬ r1 = 0 → (ch_C g m_m_in [.inl (.int p2), .inl (.int 0), .inl (.int 11)] m2 (ch_oi (fun (r3 : Int32) (m4 : ch_M) => ((¬ r3 = 0 → (ch_C g m_m_owner [.inr (9, 0, 0), .inl (.int p2)] m4 (ch_oi (fun (r5 : Int32) (m6 : ch_M) => ((r5 < 0 → ch_J g m_m_chalks (ch_rm m_m_chalks) (ch_E g m_m_chalks Q) 55 [some (.inr (9, 0, 0)), some (.inl (.int p1)), some (.inl (.int p2))] [] m6 0) ∧ (¬ r5 < 0 → (ch_C g m_m_owner [.inr (9, 0, 0), .inl (.int p2)] m6 (ch_oi (fun (r7 : Int32) (m8 : ch_M) => ((r7 = p1 → ch_J g m_m_chalks (ch_rm m_m_chalks) (ch_E g m_m_chalks Q) 55 [some (.inr (9, 0, 0)), some (.inl (.int p1)), some (.inl (.int p2))] [] m8 0) ∧ (¬ r7 = p1 → (ch_C g m_m_owner [.inr (9, 0, 0), .inl (.int p2)] m8 (ch_oi (fun (r9 : Int32) (m10 : ch_M) => (ch_C g m_m_refuses [.inr (9, 0, 0), .inl (.int 4), .inl (.int r9)] m10 (ch_oi (fun (r11 : Int32) (m12 : ch_M) => (narrow .boolean (.int r11) = .int r11) ∧ Q (.inl (some (.inl (.int r11)))) m12))))))))))))))))) ∧ (r3 = 0 → (ch_C g m_m_refuses [.inr (9, 0, 0), .inl (.int 1), .inl (.int 0)] m4 (ch_oi (fun (r13 : Int32) (m14 : ch_M) => (narrow .boolean (.int r13) = .int r13) ∧ Q (.inl (some (.inl (.int r13)))) m14))))))))) ∧ (r1 = 0 → Q (.inl (some (.inl (.int 0)))) m2)))))) : ch_J g m_m_chalks (ch_rm m_m_chalks) (ch_E g m_m_chalks Q) 0 [some (.inr (9, 0, 0)), some (.inl (.int p1)), some (.inl (.int p2))] [] m 0 := by
  refine ch_aload_n (i := 0) d_m_chalks_0 rfl rfl ?_
  refine ch_iload_n (i := 1) d_m_chalks_1 rfl rfl ?_
  refine ch_callV (as := [.inl (.int p1)]) d_m_chalks_2 lk_m_106 mi_m_isThere me_m_isThere rfl rfl rfl ⟨Nat.le_of_ble_eq_true rfl, Nat.le_of_ble_eq_true rfl⟩ (Nat.le_of_ble_eq_true rfl) ⟨Nat.le_of_ble_eq_true rfl, Nat.le_of_ble_eq_true rfl⟩ (ch_mono (ch_Ki (fun r1 m2 h => ?_)) h)
  refine ch_if_ne (tgt := 10) d_m_chalks_5 (by decide) (fun c => ?_) (fun c => ?_)
  · replace h := h.1 c
    refine ch_iload_n (i := 2) d_m_chalks_10 rfl rfl ?_
    refine ch_iconst (v := 0) d_m_chalks_11 (by decide) ?_
    refine ch_bipush (v := 11) d_m_chalks_12 (by decide) ?_
    refine ch_callS (as := [.inl (.int p2), .inl (.int 0), .inl (.int 11)]) d_m_chalks_14 lk_m_73 ms_m_in rfl rfl ⟨Nat.le_of_ble_eq_true rfl, Nat.le_of_ble_eq_true rfl⟩ (Nat.le_of_ble_eq_true rfl) ⟨Nat.le_of_ble_eq_true rfl, Nat.le_of_ble_eq_true rfl⟩ (ch_mono (ch_Ki (fun r3 m4 h => ?_)) h)
    refine ch_if_ne (tgt := 27) d_m_chalks_17 (by decide) (fun c => ?_) (fun c => ?_)
    · replace h := h.1 c
      refine ch_aload_n (i := 0) d_m_chalks_27 rfl rfl ?_
      refine ch_iload_n (i := 2) d_m_chalks_28 rfl rfl ?_
      refine ch_callV (as := [.inl (.int p2)]) d_m_chalks_29 lk_m_109 mi_m_owner me_m_owner rfl rfl rfl ⟨Nat.le_of_ble_eq_true rfl, Nat.le_of_ble_eq_true rfl⟩ (Nat.le_of_ble_eq_true rfl) ⟨Nat.le_of_ble_eq_true rfl, Nat.le_of_ble_eq_true rfl⟩ (ch_mono (ch_Ki (fun r5 m6 h => ?_)) h)
      refine ch_if_lt (tgt := 55) d_m_chalks_32 (by decide) (fun c => ?_) (fun c => ?_)
      · replace h := h.1 c
        exact h
      · replace h := h.2 c
        refine ch_aload_n (i := 0) d_m_chalks_35 rfl rfl ?_
        refine ch_iload_n (i := 2) d_m_chalks_36 rfl rfl ?_
        refine ch_callV (as := [.inl (.int p2)]) d_m_chalks_37 lk_m_109 mi_m_owner me_m_owner rfl rfl rfl ⟨Nat.le_of_ble_eq_true rfl, Nat.le_of_ble_eq_true rfl⟩ (Nat.le_of_ble_eq_true rfl) ⟨Nat.le_of_ble_eq_true rfl, Nat.le_of_ble_eq_true rfl⟩ (ch_mono (ch_Ki (fun r7 m8 h => ?_)) h)
        refine ch_iload_n (i := 1) d_m_chalks_40 rfl rfl ?_
        refine ch_icmp_eq (tgt := 55) d_m_chalks_41 (by decide) (fun c => ?_) (fun c => ?_)
        · replace h := h.1 c
          exact h
        · replace h := h.2 c
          refine ch_aload_n (i := 0) d_m_chalks_44 rfl rfl ?_
          refine ch_iconst (v := 4) d_m_chalks_45 (by decide) ?_
          refine ch_aload_n (i := 0) d_m_chalks_46 rfl rfl ?_
          refine ch_iload_n (i := 2) d_m_chalks_47 rfl rfl ?_
          refine ch_callV (as := [.inl (.int p2)]) d_m_chalks_48 lk_m_109 mi_m_owner me_m_owner rfl rfl rfl ⟨Nat.le_of_ble_eq_true rfl, Nat.le_of_ble_eq_true rfl⟩ (Nat.le_of_ble_eq_true rfl) ⟨Nat.le_of_ble_eq_true rfl, Nat.le_of_ble_eq_true rfl⟩ (ch_mono (ch_Ki (fun r9 m10 h => ?_)) h)
          refine ch_callV (as := [.inl (.int 4), .inl (.int r9)]) d_m_chalks_51 lk_m_81 mi_m_refuses me_m_refuses rfl rfl rfl ⟨Nat.le_of_ble_eq_true rfl, Nat.le_of_ble_eq_true rfl⟩ (Nat.le_of_ble_eq_true rfl) ⟨Nat.le_of_ble_eq_true rfl, Nat.le_of_ble_eq_true rfl⟩ (ch_mono (ch_Ki (fun r11 m12 h => ?_)) h)
          exact ch_iret (ty := .boolean) d_m_chalks_54 rfl h.1 (Nat.le_of_ble_eq_true rfl) h.2
    · replace h := h.2 c
      refine ch_aload_n (i := 0) d_m_chalks_20 rfl rfl ?_
      refine ch_iconst (v := 1) d_m_chalks_21 (by decide) ?_
      refine ch_iconst (v := 0) d_m_chalks_22 (by decide) ?_
      refine ch_callV (as := [.inl (.int 1), .inl (.int 0)]) d_m_chalks_23 lk_m_81 mi_m_refuses me_m_refuses rfl rfl rfl ⟨Nat.le_of_ble_eq_true rfl, Nat.le_of_ble_eq_true rfl⟩ (Nat.le_of_ble_eq_true rfl) ⟨Nat.le_of_ble_eq_true rfl, Nat.le_of_ble_eq_true rfl⟩ (ch_mono (ch_Ki (fun r13 m14 h => ?_)) h)
      exact ch_iret (ty := .boolean) d_m_chalks_26 rfl h.1 (Nat.le_of_ble_eq_true rfl) h.2
  · replace h := h.2 c
    refine ch_iconst (v := 0) d_m_chalks_8 (by decide) ?_
    exact ch_iret (ty := .boolean) d_m_chalks_9 rfl rfl (Nat.le_of_ble_eq_true rfl) h
set_option maxHeartbeats 1600000 in
theorem g_m_chalks_55 (g : ch_G) (Q : ch_O → ch_M → Prop) (x1 : Int32) (x2 : Int32) (m : ch_M) (h : (ch_C g m_m_chalkOf [.inr (9, 0, 0), .inl (.int x2)] m (ch_oi (fun (r1 : Int32) (m2 : ch_M) => ((¬ r1 = 9 → (ch_C g m_m_pays [.inr (9, 0, 0), .inl (.int x1), .inl (.int 1)] m2 (ch_oi (fun (r3 : Int32) (m4 : ch_M) => ((¬ r3 = 0 → (ch_C g m_m_owner [.inr (9, 0, 0), .inl (.int x2)] m4 (ch_oi (fun (r5 : Int32) (m6 : ch_M) => ((¬ r5 = x1 → (vp_in ((14 + (2 * x2)) + 1) 63) ∧ (∀ m8 : ch_M, m8 = ch_wr m6 (9, 0, 1) (Int32.toNatClampNeg ((14 + (2 * x2)) + 1)) 5 → (vp_in (14 + (2 * x2)) 63) ∧ (∀ m10 : ch_M, m10 = ch_wr m8 (9, 0, 1) (Int32.toNatClampNeg (14 + (2 * x2))) (x1 + 1) → (ch_C g m_m_chalkOf [.inr (9, 0, 0), .inl (.int x2)] m10 (ch_oi (fun (r11 : Int32) (m12 : ch_M) => (ch_C g m_m_does [.inr (9, 0, 0), .inl (.int r11)] m12 (ch_oi (fun (r13 : Int32) (m14 : ch_M) => (narrow .boolean (.int r13) = .int r13) ∧ Q (.inl (some (.inl (.int r13)))) m14))))))))) ∧ (r5 = x1 → (ch_C g m_m_chalkOf [.inr (9, 0, 0), .inl (.int x2)] m6 (ch_oi (fun (r15 : Int32) (m16 : ch_M) => (vp_in ((14 + (2 * x2)) + 1) 63) ∧ (∀ m18 : ch_M, m18 = ch_wr m16 (9, 0, 1) (Int32.toNatClampNeg ((14 + (2 * x2)) + 1)) (if (r15 + 2) < 9 then (r15 + 2) else 9) → (vp_in (14 + (2 * x2)) 63) ∧ (∀ m20 : ch_M, m20 = ch_wr m18 (9, 0, 1) (Int32.toNatClampNeg (14 + (2 * x2))) (x1 + 1) → (ch_C g m_m_chalkOf [.inr (9, 0, 0), .inl (.int x2)] m20 (ch_oi (fun (r21 : Int32) (m22 : ch_M) => (ch_C g m_m_does [.inr (9, 0, 0), .inl (.int r21)] m22 (ch_oi (fun (r23 : Int32) (m24 : ch_M) => (narrow .boolean (.int r23) = .int r23) ∧ Q (.inl (some (.inl (.int r23)))) m24))))))))))))))))) ∧ (r3 = 0 → Q (.inl (some (.inl (.int 0)))) m4)))))) ∧ (r1 = 9 → (ch_C g m_m_refuses [.inr (9, 0, 0), .inl (.int 6), .inl (.int x2)] m2 (ch_oi (fun (r25 : Int32) (m26 : ch_M) => (narrow .boolean (.int r25) = .int r25) ∧ Q (.inl (some (.inl (.int r25)))) m26))))))))) : ch_J g m_m_chalks (ch_rm m_m_chalks) (ch_E g m_m_chalks Q) 55 [some (.inr (9, 0, 0)), some (.inl (.int x1)), some (.inl (.int x2))] [] m 0 := by
  refine ch_aload_n (i := 0) d_m_chalks_55 rfl rfl ?_
  refine ch_iload_n (i := 2) d_m_chalks_56 rfl rfl ?_
  refine ch_callV (as := [.inl (.int x2)]) d_m_chalks_57 lk_m_112 mi_m_chalkOf me_m_chalkOf rfl rfl rfl ⟨Nat.le_of_ble_eq_true rfl, Nat.le_of_ble_eq_true rfl⟩ (Nat.le_of_ble_eq_true rfl) ⟨Nat.le_of_ble_eq_true rfl, Nat.le_of_ble_eq_true rfl⟩ (ch_mono (ch_Ki (fun r1 m2 h => ?_)) h)
  refine ch_bipush (v := 9) d_m_chalks_60 (by decide) ?_
  refine ch_icmp_ne (tgt := 73) d_m_chalks_62 (by decide) (fun c => ?_) (fun c => ?_)
  · replace h := h.1 c
    refine ch_aload_n (i := 0) d_m_chalks_73 rfl rfl ?_
    refine ch_iload_n (i := 1) d_m_chalks_74 rfl rfl ?_
    refine ch_iconst (v := 1) d_m_chalks_75 (by decide) ?_
    refine ch_callV (as := [.inl (.int x1), .inl (.int 1)]) d_m_chalks_76 lk_m_115 mi_m_pays me_m_pays rfl rfl rfl ⟨Nat.le_of_ble_eq_true rfl, Nat.le_of_ble_eq_true rfl⟩ (Nat.le_of_ble_eq_true rfl) ⟨Nat.le_of_ble_eq_true rfl, Nat.le_of_ble_eq_true rfl⟩ (ch_mono (ch_Ki (fun r3 m4 h => ?_)) h)
    refine ch_if_ne (tgt := 84) d_m_chalks_79 (by decide) (fun c => ?_) (fun c => ?_)
    · replace h := h.1 c
      refine ch_aload_n (i := 0) d_m_chalks_84 rfl rfl ?_
      refine ch_get (v := .inr (9, 0, 1)) d_m_chalks_85 fl_m_9 rfl ?_
      refine ch_bipush (v := 14) d_m_chalks_88 (by decide) ?_
      refine ch_iconst (v := 2) d_m_chalks_90 (by decide) ?_
      refine ch_iload_n (i := 2) d_m_chalks_91 rfl rfl ?_
      refine ch_imul d_m_chalks_92 ?_
      refine ch_iadd d_m_chalks_93 ?_
      refine ch_iconst (v := 1) d_m_chalks_94 (by decide) ?_
      refine ch_iadd d_m_chalks_95 ?_
      refine ch_aload_n (i := 0) d_m_chalks_96 rfl rfl ?_
      refine ch_iload_n (i := 2) d_m_chalks_97 rfl rfl ?_
      refine ch_callV (as := [.inl (.int x2)]) d_m_chalks_98 lk_m_109 mi_m_owner me_m_owner rfl rfl rfl ⟨Nat.le_of_ble_eq_true rfl, Nat.le_of_ble_eq_true rfl⟩ (Nat.le_of_ble_eq_true rfl) ⟨Nat.le_of_ble_eq_true rfl, Nat.le_of_ble_eq_true rfl⟩ (ch_mono (ch_Ki (fun r5 m6 h => ?_)) h)
      refine ch_iload_n (i := 1) d_m_chalks_101 rfl rfl ?_
      refine ch_icmp_ne (tgt := 120) d_m_chalks_102 (by decide) (fun c => ?_) (fun c => ?_)
      · replace h := h.1 c
        refine ch_iconst (v := 5) d_m_chalks_120 (by decide) ?_
        have b7 := h.1
        replace h := h.2
        refine ch_iast (n := 63) d_m_chalks_121 (by decide) rfl b7 ?_
        show ch_J g _ _ _ _ _ _ (ch_wr m6 (9, 0, 1) (Int32.toNatClampNeg ((14 + (2 * x2)) + 1)) 5) _
        generalize hmm8 : ch_wr m6 (9, 0, 1) (Int32.toNatClampNeg ((14 + (2 * x2)) + 1)) 5 = m8
        replace h := h m8 hmm8.symm
        refine ch_aload_n (i := 0) d_m_chalks_122 rfl rfl ?_
        refine ch_get (v := .inr (9, 0, 1)) d_m_chalks_123 fl_m_9 rfl ?_
        refine ch_bipush (v := 14) d_m_chalks_126 (by decide) ?_
        refine ch_iconst (v := 2) d_m_chalks_128 (by decide) ?_
        refine ch_iload_n (i := 2) d_m_chalks_129 rfl rfl ?_
        refine ch_imul d_m_chalks_130 ?_
        refine ch_iadd d_m_chalks_131 ?_
        refine ch_iload_n (i := 1) d_m_chalks_132 rfl rfl ?_
        refine ch_iconst (v := 1) d_m_chalks_133 (by decide) ?_
        refine ch_iadd d_m_chalks_134 ?_
        have b9 := h.1
        replace h := h.2
        refine ch_iast (n := 63) d_m_chalks_135 (by decide) rfl b9 ?_
        show ch_J g _ _ _ _ _ _ (ch_wr m8 (9, 0, 1) (Int32.toNatClampNeg (14 + (2 * x2))) (x1 + 1)) _
        generalize hmm10 : ch_wr m8 (9, 0, 1) (Int32.toNatClampNeg (14 + (2 * x2))) (x1 + 1) = m10
        replace h := h m10 hmm10.symm
        refine ch_aload_n (i := 0) d_m_chalks_136 rfl rfl ?_
        refine ch_aload_n (i := 0) d_m_chalks_137 rfl rfl ?_
        refine ch_iload_n (i := 2) d_m_chalks_138 rfl rfl ?_
        refine ch_callV (as := [.inl (.int x2)]) d_m_chalks_139 lk_m_112 mi_m_chalkOf me_m_chalkOf rfl rfl rfl ⟨Nat.le_of_ble_eq_true rfl, Nat.le_of_ble_eq_true rfl⟩ (Nat.le_of_ble_eq_true rfl) ⟨Nat.le_of_ble_eq_true rfl, Nat.le_of_ble_eq_true rfl⟩ (ch_mono (ch_Ki (fun r11 m12 h => ?_)) h)
        refine ch_callV (as := [.inl (.int r11)]) d_m_chalks_142 lk_m_93 mi_m_does me_m_does rfl rfl rfl ⟨Nat.le_of_ble_eq_true rfl, Nat.le_of_ble_eq_true rfl⟩ (Nat.le_of_ble_eq_true rfl) ⟨Nat.le_of_ble_eq_true rfl, Nat.le_of_ble_eq_true rfl⟩ (ch_mono (ch_Ki (fun r13 m14 h => ?_)) h)
        exact ch_iret (ty := .boolean) d_m_chalks_145 rfl h.1 (Nat.le_of_ble_eq_true rfl) h.2
      · replace h := h.2 c
        refine ch_bipush (v := 9) d_m_chalks_105 (by decide) ?_
        refine ch_aload_n (i := 0) d_m_chalks_107 rfl rfl ?_
        refine ch_iload_n (i := 2) d_m_chalks_108 rfl rfl ?_
        refine ch_callV (as := [.inl (.int x2)]) d_m_chalks_109 lk_m_112 mi_m_chalkOf me_m_chalkOf rfl rfl rfl ⟨Nat.le_of_ble_eq_true rfl, Nat.le_of_ble_eq_true rfl⟩ (Nat.le_of_ble_eq_true rfl) ⟨Nat.le_of_ble_eq_true rfl, Nat.le_of_ble_eq_true rfl⟩ (ch_mono (ch_Ki (fun r15 m16 h => ?_)) h)
        refine ch_iconst (v := 2) d_m_chalks_112 (by decide) ?_
        refine ch_iadd d_m_chalks_113 ?_
        refine ch_min d_m_chalks_114 lk_m_118 ⟨Nat.le_of_ble_eq_true rfl, Nat.le_of_ble_eq_true rfl⟩ ⟨Nat.le_of_ble_eq_true rfl, Nat.le_of_ble_eq_true rfl⟩ (Nat.le_of_ble_eq_true rfl) ?_
        refine ch_goto (tgt := 121) d_m_chalks_117 (by decide) ?_
        have b17 := h.1
        replace h := h.2
        refine ch_iast (n := 63) d_m_chalks_121 (by decide) rfl b17 ?_
        show ch_J g _ _ _ _ _ _ (ch_wr m16 (9, 0, 1) (Int32.toNatClampNeg ((14 + (2 * x2)) + 1)) (if (r15 + 2) < 9 then (r15 + 2) else 9)) _
        generalize hmm18 : ch_wr m16 (9, 0, 1) (Int32.toNatClampNeg ((14 + (2 * x2)) + 1)) (if (r15 + 2) < 9 then (r15 + 2) else 9) = m18
        replace h := h m18 hmm18.symm
        refine ch_aload_n (i := 0) d_m_chalks_122 rfl rfl ?_
        refine ch_get (v := .inr (9, 0, 1)) d_m_chalks_123 fl_m_9 rfl ?_
        refine ch_bipush (v := 14) d_m_chalks_126 (by decide) ?_
        refine ch_iconst (v := 2) d_m_chalks_128 (by decide) ?_
        refine ch_iload_n (i := 2) d_m_chalks_129 rfl rfl ?_
        refine ch_imul d_m_chalks_130 ?_
        refine ch_iadd d_m_chalks_131 ?_
        refine ch_iload_n (i := 1) d_m_chalks_132 rfl rfl ?_
        refine ch_iconst (v := 1) d_m_chalks_133 (by decide) ?_
        refine ch_iadd d_m_chalks_134 ?_
        have b19 := h.1
        replace h := h.2
        refine ch_iast (n := 63) d_m_chalks_135 (by decide) rfl b19 ?_
        show ch_J g _ _ _ _ _ _ (ch_wr m18 (9, 0, 1) (Int32.toNatClampNeg (14 + (2 * x2))) (x1 + 1)) _
        generalize hmm20 : ch_wr m18 (9, 0, 1) (Int32.toNatClampNeg (14 + (2 * x2))) (x1 + 1) = m20
        replace h := h m20 hmm20.symm
        refine ch_aload_n (i := 0) d_m_chalks_136 rfl rfl ?_
        refine ch_aload_n (i := 0) d_m_chalks_137 rfl rfl ?_
        refine ch_iload_n (i := 2) d_m_chalks_138 rfl rfl ?_
        refine ch_callV (as := [.inl (.int x2)]) d_m_chalks_139 lk_m_112 mi_m_chalkOf me_m_chalkOf rfl rfl rfl ⟨Nat.le_of_ble_eq_true rfl, Nat.le_of_ble_eq_true rfl⟩ (Nat.le_of_ble_eq_true rfl) ⟨Nat.le_of_ble_eq_true rfl, Nat.le_of_ble_eq_true rfl⟩ (ch_mono (ch_Ki (fun r21 m22 h => ?_)) h)
        refine ch_callV (as := [.inl (.int r21)]) d_m_chalks_142 lk_m_93 mi_m_does me_m_does rfl rfl rfl ⟨Nat.le_of_ble_eq_true rfl, Nat.le_of_ble_eq_true rfl⟩ (Nat.le_of_ble_eq_true rfl) ⟨Nat.le_of_ble_eq_true rfl, Nat.le_of_ble_eq_true rfl⟩ (ch_mono (ch_Ki (fun r23 m24 h => ?_)) h)
        exact ch_iret (ty := .boolean) d_m_chalks_145 rfl h.1 (Nat.le_of_ble_eq_true rfl) h.2
    · replace h := h.2 c
      refine ch_iconst (v := 0) d_m_chalks_82 (by decide) ?_
      exact ch_iret (ty := .boolean) d_m_chalks_83 rfl rfl (Nat.le_of_ble_eq_true rfl) h
  · replace h := h.2 c
    refine ch_aload_n (i := 0) d_m_chalks_65 rfl rfl ?_
    refine ch_bipush (v := 6) d_m_chalks_66 (by decide) ?_
    refine ch_iload_n (i := 2) d_m_chalks_68 rfl rfl ?_
    refine ch_callV (as := [.inl (.int 6), .inl (.int x2)]) d_m_chalks_69 lk_m_81 mi_m_refuses me_m_refuses rfl rfl rfl ⟨Nat.le_of_ble_eq_true rfl, Nat.le_of_ble_eq_true rfl⟩ (Nat.le_of_ble_eq_true rfl) ⟨Nat.le_of_ble_eq_true rfl, Nat.le_of_ble_eq_true rfl⟩ (ch_mono (ch_Ki (fun r25 m26 h => ?_)) h)
    exact ch_iret (ty := .boolean) d_m_chalks_72 rfl h.1 (Nat.le_of_ble_eq_true rfl) h.2
theorem e_m_chalk (g : ch_G) (Q : ch_O → ch_M → Prop) (p1 : Int32) (p2 : Int32) (m : ch_M) (h : ch_J g m_m_chalk (ch_rm m_m_chalk) (ch_E g m_m_chalk Q) 0 [some (.inr (9, 0, 0)), some (.inl (.int p1)), some (.inl (.int p2))] [] m 0) : ch_C g m_m_chalk [.inr (9, 0, 0), .inl (.int p1), .inl (.int p2)] m Q :=
  ch_enter mf_m_chalk (by intro v hv; simp only [List.mem_cons, List.not_mem_nil, or_false] at hv; rcases hv with rfl | rfl | rfl <;> rfl) (Nat.le_of_ble_eq_true rfl) h
set_option maxHeartbeats 1600000 in
theorem g_m_chalk_0 (g : ch_G) (Q : ch_O → ch_M → Prop) (p1 : Int32) (p2 : Int32) (m : ch_M) (h : (ch_C g m_m_tries [.inr (9, 0, 0)] m (ch_ov (fun (m2 : ch_M) => (ch_C g m_m_chalks [.inr (9, 0, 0), .inl (.int p1), .inl (.int p2)] m2 (ch_oi (fun (r3 : Int32) (m4 : ch_M) => (ch_C g m_m_ends [.inr (9, 0, 0), .inl (.int r3)] m4 (ch_oi (fun (r5 : Int32) (m6 : ch_M) => Q (.inl (some (.inl (.int r5)))) m6)))))))))) : ch_J g m_m_chalk (ch_rm m_m_chalk) (ch_E g m_m_chalk Q) 0 [some (.inr (9, 0, 0)), some (.inl (.int p1)), some (.inl (.int p2))] [] m 0 := by
  refine ch_aload_n (i := 0) d_m_chalk_0 rfl rfl ?_
  refine ch_callV (as := []) d_m_chalk_1 lk_m_96 mi_m_tries me_m_tries rfl rfl rfl ⟨Nat.le_of_ble_eq_true rfl, Nat.le_of_ble_eq_true rfl⟩ (Nat.le_of_ble_eq_true rfl) ⟨Nat.le_of_ble_eq_true rfl, Nat.le_of_ble_eq_true rfl⟩ (ch_mono (ch_Kv (fun m2 h => ?_)) h)
  refine ch_aload_n (i := 0) d_m_chalk_4 rfl rfl ?_
  refine ch_aload_n (i := 0) d_m_chalk_5 rfl rfl ?_
  refine ch_iload_n (i := 1) d_m_chalk_6 rfl rfl ?_
  refine ch_iload_n (i := 2) d_m_chalk_7 rfl rfl ?_
  refine ch_callV (as := [.inl (.int p1), .inl (.int p2)]) d_m_chalk_8 lk_m_123 mi_m_chalks me_m_chalks rfl rfl rfl ⟨Nat.le_of_ble_eq_true rfl, Nat.le_of_ble_eq_true rfl⟩ (Nat.le_of_ble_eq_true rfl) ⟨Nat.le_of_ble_eq_true rfl, Nat.le_of_ble_eq_true rfl⟩ (ch_mono (ch_Ki (fun r3 m4 h => ?_)) h)
  refine ch_callV (as := [.inl (.int r3)]) d_m_chalk_11 lk_m_102 mi_m_ends me_m_ends rfl rfl rfl ⟨Nat.le_of_ble_eq_true rfl, Nat.le_of_ble_eq_true rfl⟩ (Nat.le_of_ble_eq_true rfl) ⟨Nat.le_of_ble_eq_true rfl, Nat.le_of_ble_eq_true rfl⟩ (ch_mono (ch_Ki (fun r5 m6 h => ?_)) h)
  exact ch_iret (ty := .int) d_m_chalk_14 rfl rfl (Nat.le_of_ble_eq_true rfl) h
theorem e_m_areSteps (g : ch_G) (Q : ch_O → ch_M → Prop) (p1 : Int32) (m : ch_M) (h : ch_J g m_m_areSteps (ch_rm m_m_areSteps) (ch_E g m_m_areSteps Q) 0 [some (.inr (9, 0, 0)), some (.inl (.int p1)), none, none, none] [] m 0) : ch_C g m_m_areSteps [.inr (9, 0, 0), .inl (.int p1)] m Q :=
  ch_enter mf_m_areSteps (by intro v hv; simp only [List.mem_cons, List.not_mem_nil, or_false] at hv; rcases hv with rfl | rfl <;> rfl) (Nat.le_of_ble_eq_true rfl) h
set_option maxHeartbeats 1600000 in
theorem g_m_areSteps_0 (g : ch_G) (Q : ch_O → ch_M → Prop) (p1 : Int32) (m : ch_M) (h : (∀ m1 : ch_M, m1 = ch_wr m (9, 0, 0) 21 0 → ((1 ≤ p1 → ch_J g m_m_areSteps (ch_rm m_m_areSteps) (ch_E g m_m_areSteps Q) 16 [some (.inr (9, 0, 0)), some (.inl (.int p1)), some (.inl (.int 0)), some (.inl (.int p1)), none] [] m1 0) ∧ (¬ 1 ≤ p1 → Q (.inl (some (.inl (.int 0)))) m1)))) : ch_J g m_m_areSteps (ch_rm m_m_areSteps) (ch_E g m_m_areSteps Q) 0 [some (.inr (9, 0, 0)), some (.inl (.int p1)), none, none, none] [] m 0 := by
  refine ch_aload_n (i := 0) d_m_areSteps_0 rfl rfl ?_
  refine ch_iconst (v := 0) d_m_areSteps_1 (by decide) ?_
  refine ch_put d_m_areSteps_2 fp_m_126 rfl rfl rfl ?_
  generalize hmm1 : ch_wr m (9, 0, 0) 21 0 = m1
  replace h := h m1 hmm1.symm
  refine ch_iload_n (i := 1) d_m_areSteps_5 rfl rfl ?_
  refine ch_iconst (v := 1) d_m_areSteps_6 (by decide) ?_
  refine ch_icmp_ge (tgt := 12) d_m_areSteps_7 (by decide) (fun c => ?_) (fun c => ?_)
  · replace h := h.1 c
    refine ch_iconst (v := 0) d_m_areSteps_12 (by decide) ?_
    refine ch_istore_n (i := 2) d_m_areSteps_13 rfl (Nat.le_of_ble_eq_true rfl) (ls' := [some (.inr (9, 0, 0)), some (.inl (.int p1)), some (.inl (.int 0)), none, none]) rfl ?_
    refine ch_iload_n (i := 1) d_m_areSteps_14 rfl rfl ?_
    refine ch_istore_n (i := 3) d_m_areSteps_15 rfl (Nat.le_of_ble_eq_true rfl) (ls' := [some (.inr (9, 0, 0)), some (.inl (.int p1)), some (.inl (.int 0)), some (.inl (.int p1)), none]) rfl ?_
    exact h
  · replace h := h.2 c
    refine ch_iconst (v := 0) d_m_areSteps_10 (by decide) ?_
    exact ch_iret (ty := .boolean) d_m_areSteps_11 rfl rfl (Nat.le_of_ble_eq_true rfl) h
set_option maxHeartbeats 1600000 in
theorem g_m_areSteps_16 (g : ch_G) (Q : ch_O → ch_M → Prop) (x1 : Int32) (x2 : Int32) (x3 : Int32) (o4 : Option ch_V) (m : ch_M) (h : ((x3 ≤ 0 → ((x2 ≤ 9 → ch_J g m_m_areSteps (ch_rm m_m_areSteps) (ch_E g m_m_areSteps Q) 46 [some (.inr (9, 0, 0)), some (.inl (.int x1)), some (.inl (.int x2)), some (.inl (.int x1)), some (.inl (.int (x2 - 1)))] [] m 0) ∧ (¬ x2 ≤ 9 → Q (.inl (some (.inl (.int 0)))) m))) ∧ (¬ x3 ≤ 0 → ch_J g m_m_areSteps (ch_rm m_m_areSteps) (ch_E g m_m_areSteps Q) 16 [some (.inr (9, 0, 0)), some (.inl (.int x1)), some (.inl (.int (x2 + 1))), some (.inl (.int (x3 / 10))), o4] [] m 0))) : ch_J g m_m_areSteps (ch_rm m_m_areSteps) (ch_E g m_m_areSteps Q) 16 [some (.inr (9, 0, 0)), some (.inl (.int x1)), some (.inl (.int x2)), some (.inl (.int x3)), o4] [] m 0 := by
  refine ch_iload_n (i := 3) d_m_areSteps_16 rfl rfl ?_
  refine ch_if_le (tgt := 31) d_m_areSteps_17 (by decide) (fun c => ?_) (fun c => ?_)
  · replace h := h.1 c
    refine ch_iload_n (i := 2) d_m_areSteps_31 rfl rfl ?_
    refine ch_bipush (v := 9) d_m_areSteps_32 (by decide) ?_
    refine ch_icmp_le (tgt := 39) d_m_areSteps_34 (by decide) (fun c => ?_) (fun c => ?_)
    · replace h := h.1 c
      refine ch_iload_n (i := 1) d_m_areSteps_39 rfl rfl ?_
      refine ch_istore_n (i := 3) d_m_areSteps_40 rfl (Nat.le_of_ble_eq_true rfl) (ls' := [some (.inr (9, 0, 0)), some (.inl (.int x1)), some (.inl (.int x2)), some (.inl (.int x1)), o4]) rfl ?_
      refine ch_iload_n (i := 2) d_m_areSteps_41 rfl rfl ?_
      refine ch_iconst (v := 1) d_m_areSteps_42 (by decide) ?_
      refine ch_isub d_m_areSteps_43 ?_
      refine ch_istore (i := 4) d_m_areSteps_44 (Nat.le_of_ble_eq_true rfl) (ls' := [some (.inr (9, 0, 0)), some (.inl (.int x1)), some (.inl (.int x2)), some (.inl (.int x1)), some (.inl (.int (x2 - 1)))]) rfl ?_
      exact h
    · replace h := h.2 c
      refine ch_iconst (v := 0) d_m_areSteps_37 (by decide) ?_
      exact ch_iret (ty := .boolean) d_m_areSteps_38 rfl rfl (Nat.le_of_ble_eq_true rfl) h
  · replace h := h.2 c
    refine ch_iinc (i := 2) (v := (x2 + 1)) d_m_areSteps_20 rfl rfl (Nat.le_of_ble_eq_true rfl) (ls' := [some (.inr (9, 0, 0)), some (.inl (.int x1)), some (.inl (.int (x2 + 1))), some (.inl (.int x3)), o4]) rfl ?_
    refine ch_iload_n (i := 3) d_m_areSteps_23 rfl rfl ?_
    refine ch_bipush (v := 10) d_m_areSteps_24 (by decide) ?_
    refine ch_idiv d_m_areSteps_26 (by decide) ?_
    refine ch_istore_n (i := 3) d_m_areSteps_27 rfl (Nat.le_of_ble_eq_true rfl) (ls' := [some (.inr (9, 0, 0)), some (.inl (.int x1)), some (.inl (.int (x2 + 1))), some (.inl (.int (x3 / 10))), o4]) rfl ?_
    refine ch_goto (tgt := 16) d_m_areSteps_28 (by decide) ?_
    exact h
set_option maxHeartbeats 1600000 in
theorem g_m_areSteps_46 (g : ch_G) (Q : ch_O → ch_M → Prop) (x1 : Int32) (x2 : Int32) (x3 : Int32) (x4 : Int32) (m : ch_M) (h : ((x4 < 0 → (∀ m1 : ch_M, m1 = ch_wr m (9, 0, 0) 21 x2 → Q (.inl (some (.inl (.int 1)))) m1)) ∧ (¬ x4 < 0 → (vp_in x4 12) ∧ (∀ m3 : ch_M, m3 = ch_wr m (9, 0, 9) (Int32.toNatClampNeg x4) (x3 - x3 / 10 * 10) → (ch_C g m_m_in [.inl (.int (m3 (9, 0, 9) (Int32.toNatClampNeg x4))), .inl (.int 1), .inl (.int 3)] m3 (ch_oi (fun (r4 : Int32) (m5 : ch_M) => ((¬ r4 = 0 → ch_J g m_m_areSteps (ch_rm m_m_areSteps) (ch_E g m_m_areSteps Q) 46 [some (.inr (9, 0, 0)), some (.inl (.int x1)), some (.inl (.int x2)), some (.inl (.int (x3 / 10))), some (.inl (.int (x4 + (-1))))] [] m5 0) ∧ (r4 = 0 → Q (.inl (some (.inl (.int 0)))) m5))))))))) : ch_J g m_m_areSteps (ch_rm m_m_areSteps) (ch_E g m_m_areSteps Q) 46 [some (.inr (9, 0, 0)), some (.inl (.int x1)), some (.inl (.int x2)), some (.inl (.int x3)), some (.inl (.int x4))] [] m 0 := by
  refine ch_iload d_m_areSteps_46 rfl ?_
  refine ch_if_lt (tgt := 90) d_m_areSteps_48 (by decide) (fun c => ?_) (fun c => ?_)
  · replace h := h.1 c
    refine ch_aload_n (i := 0) d_m_areSteps_90 rfl rfl ?_
    refine ch_iload_n (i := 2) d_m_areSteps_91 rfl rfl ?_
    refine ch_put d_m_areSteps_92 fp_m_126 rfl rfl rfl ?_
    generalize hmm1 : ch_wr m (9, 0, 0) 21 x2 = m1
    replace h := h m1 hmm1.symm
    refine ch_iconst (v := 1) d_m_areSteps_95 (by decide) ?_
    exact ch_iret (ty := .boolean) d_m_areSteps_96 rfl rfl (Nat.le_of_ble_eq_true rfl) h
  · replace h := h.2 c
    refine ch_aload_n (i := 0) d_m_areSteps_51 rfl rfl ?_
    refine ch_get (v := .inr (9, 0, 9)) d_m_areSteps_52 fl_m_39 rfl ?_
    refine ch_iload d_m_areSteps_55 rfl ?_
    refine ch_iload_n (i := 3) d_m_areSteps_57 rfl rfl ?_
    refine ch_bipush (v := 10) d_m_areSteps_58 (by decide) ?_
    refine ch_irem d_m_areSteps_60 (by decide) ?_
    have b2 := h.1
    replace h := h.2
    refine ch_iast (n := 12) d_m_areSteps_61 (by decide) rfl b2 ?_
    show ch_J g _ _ _ _ _ _ (ch_wr m (9, 0, 9) (Int32.toNatClampNeg x4) (x3 - x3 / 10 * 10)) _
    generalize hmm3 : ch_wr m (9, 0, 9) (Int32.toNatClampNeg x4) (x3 - x3 / 10 * 10) = m3
    replace h := h m3 hmm3.symm
    refine ch_aload_n (i := 0) d_m_areSteps_62 rfl rfl ?_
    refine ch_get (v := .inr (9, 0, 9)) d_m_areSteps_63 fl_m_39 rfl ?_
    refine ch_iload d_m_areSteps_66 rfl ?_
    refine ch_iald (n := 12) d_m_areSteps_68 (by decide) rfl b2 ?_
    refine ch_iconst (v := 1) d_m_areSteps_69 (by decide) ?_
    refine ch_iconst (v := 3) d_m_areSteps_70 (by decide) ?_
    refine ch_callS (as := [.inl (.int (m3 (9, 0, 9) (Int32.toNatClampNeg x4))), .inl (.int 1), .inl (.int 3)]) d_m_areSteps_71 lk_m_73 ms_m_in rfl rfl ⟨Nat.le_of_ble_eq_true rfl, Nat.le_of_ble_eq_true rfl⟩ (Nat.le_of_ble_eq_true rfl) ⟨Nat.le_of_ble_eq_true rfl, Nat.le_of_ble_eq_true rfl⟩ (ch_mono (ch_Ki (fun r4 m5 h => ?_)) h)
    refine ch_if_ne (tgt := 79) d_m_areSteps_74 (by decide) (fun c => ?_) (fun c => ?_)
    · replace h := h.1 c
      refine ch_iload_n (i := 3) d_m_areSteps_79 rfl rfl ?_
      refine ch_bipush (v := 10) d_m_areSteps_80 (by decide) ?_
      refine ch_idiv d_m_areSteps_82 (by decide) ?_
      refine ch_istore_n (i := 3) d_m_areSteps_83 rfl (Nat.le_of_ble_eq_true rfl) (ls' := [some (.inr (9, 0, 0)), some (.inl (.int x1)), some (.inl (.int x2)), some (.inl (.int (x3 / 10))), some (.inl (.int x4))]) rfl ?_
      refine ch_iinc (i := 4) (v := (x4 + (-1))) d_m_areSteps_84 rfl rfl (Nat.le_of_ble_eq_true rfl) (ls' := [some (.inr (9, 0, 0)), some (.inl (.int x1)), some (.inl (.int x2)), some (.inl (.int (x3 / 10))), some (.inl (.int (x4 + (-1))))]) rfl ?_
      refine ch_goto (tgt := 46) d_m_areSteps_87 (by decide) ?_
      exact h
    · replace h := h.2 c
      refine ch_iconst (v := 0) d_m_areSteps_77 (by decide) ?_
      exact ch_iret (ty := .boolean) d_m_areSteps_78 rfl rfl (Nat.le_of_ble_eq_true rfl) h
theorem e_m_where (g : ch_G) (Q : ch_O → ch_M → Prop)  (m : ch_M) (h : ch_J g m_m_where (ch_rm m_m_where) (ch_E g m_m_where Q) 0 [some (.inr (9, 0, 0)), none, none] [] m 0) : ch_C g m_m_where [.inr (9, 0, 0)] m Q :=
  ch_enter mf_m_where (by intro v hv; simp only [List.mem_cons, List.not_mem_nil, or_false] at hv; rcases hv with rfl <;> rfl) (Nat.le_of_ble_eq_true rfl) h
set_option maxHeartbeats 1600000 in
theorem g_m_where_0 (g : ch_G) (Q : ch_O → ch_M → Prop)  (m : ch_M) (h : ch_J g m_m_where (ch_rm m_m_where) (ch_E g m_m_where Q) 4 [some (.inr (9, 0, 0)), some (.inl (.int (-1))), some (.inl (.int 0))] [] m 0) : ch_J g m_m_where (ch_rm m_m_where) (ch_E g m_m_where Q) 0 [some (.inr (9, 0, 0)), none, none] [] m 0 := by
  refine ch_iconst (v := (-1)) d_m_where_0 (by decide) ?_
  refine ch_istore_n (i := 1) d_m_where_1 rfl (Nat.le_of_ble_eq_true rfl) (ls' := [some (.inr (9, 0, 0)), some (.inl (.int (-1))), none]) rfl ?_
  refine ch_iconst (v := 0) d_m_where_2 (by decide) ?_
  refine ch_istore_n (i := 2) d_m_where_3 rfl (Nat.le_of_ble_eq_true rfl) (ls' := [some (.inr (9, 0, 0)), some (.inl (.int (-1))), some (.inl (.int 0))]) rfl ?_
  exact h
set_option maxHeartbeats 1600000 in
theorem g_m_where_4 (g : ch_G) (Q : ch_O → ch_M → Prop) (x1 : Int32) (x2 : Int32) (m : ch_M) (h : (((m (9, 0, 0) 21) ≤ x2 → Q (.inl (some (.inl (.int x1)))) m) ∧ (¬ (m (9, 0, 0) 21) ≤ x2 → ((x1 < 11 → (vp_in x2 12) ∧ ch_J g m_m_where (ch_rm m_m_where) (ch_E g m_m_where Q) 4 [some (.inr (9, 0, 0)), some (.inl (.int (x1 + (m (9, 0, 9) (Int32.toNatClampNeg x2))))), some (.inl (.int (x2 + 1)))] [] m 0) ∧ (¬ x1 < 11 → Q (.inl (some (.inl (.int 12)))) m))))) : ch_J g m_m_where (ch_rm m_m_where) (ch_E g m_m_where Q) 4 [some (.inr (9, 0, 0)), some (.inl (.int x1)), some (.inl (.int x2))] [] m 0 := by
  refine ch_iload_n (i := 2) d_m_where_4 rfl rfl ?_
  refine ch_aload_n (i := 0) d_m_where_5 rfl rfl ?_
  refine ch_get (v := .inl (.int (m (9, 0, 0) 21))) d_m_where_6 fl_m_126 rfl ?_
  refine ch_icmp_ge (tgt := 36) d_m_where_9 (by decide) (fun c => ?_) (fun c => ?_)
  · replace h := h.1 c
    refine ch_iload_n (i := 1) d_m_where_36 rfl rfl ?_
    exact ch_iret (ty := .int) d_m_where_37 rfl rfl (Nat.le_of_ble_eq_true rfl) h
  · replace h := h.2 c
    refine ch_iload_n (i := 1) d_m_where_12 rfl rfl ?_
    refine ch_bipush (v := 11) d_m_where_13 (by decide) ?_
    refine ch_icmp_lt (tgt := 21) d_m_where_15 (by decide) (fun c => ?_) (fun c => ?_)
    · replace h := h.1 c
      refine ch_iload_n (i := 1) d_m_where_21 rfl rfl ?_
      refine ch_aload_n (i := 0) d_m_where_22 rfl rfl ?_
      refine ch_get (v := .inr (9, 0, 9)) d_m_where_23 fl_m_39 rfl ?_
      refine ch_iload_n (i := 2) d_m_where_26 rfl rfl ?_
      have b1 := h.1
      replace h := h.2
      refine ch_iald (n := 12) d_m_where_27 (by decide) rfl b1 ?_
      refine ch_iadd d_m_where_28 ?_
      refine ch_istore_n (i := 1) d_m_where_29 rfl (Nat.le_of_ble_eq_true rfl) (ls' := [some (.inr (9, 0, 0)), some (.inl (.int (x1 + (m (9, 0, 9) (Int32.toNatClampNeg x2))))), some (.inl (.int x2))]) rfl ?_
      refine ch_iinc (i := 2) (v := (x2 + 1)) d_m_where_30 rfl rfl (Nat.le_of_ble_eq_true rfl) (ls' := [some (.inr (9, 0, 0)), some (.inl (.int (x1 + (m (9, 0, 9) (Int32.toNatClampNeg x2))))), some (.inl (.int (x2 + 1)))]) rfl ?_
      refine ch_goto (tgt := 4) d_m_where_33 (by decide) ?_
      exact h
    · replace h := h.2 c
      refine ch_bipush (v := 12) d_m_where_18 (by decide) ?_
      exact ch_iret (ty := .int) d_m_where_20 rfl rfl (Nat.le_of_ble_eq_true rfl) h
theorem e_m_isOver (g : ch_G) (Q : ch_O → ch_M → Prop)  (m : ch_M) (h : ch_J g m_m_isOver (ch_rm m_m_isOver) (ch_E g m_m_isOver Q) 0 [some (.inr (9, 0, 0)), none, none] [] m 0) : ch_C g m_m_isOver [.inr (9, 0, 0)] m Q :=
  ch_enter mf_m_isOver (by intro v hv; simp only [List.mem_cons, List.not_mem_nil, or_false] at hv; rcases hv with rfl <;> rfl) (Nat.le_of_ble_eq_true rfl) h
set_option maxHeartbeats 1600000 in
theorem g_m_isOver_0 (g : ch_G) (Q : ch_O → ch_M → Prop)  (m : ch_M) (h : ch_J g m_m_isOver (ch_rm m_m_isOver) (ch_E g m_m_isOver Q) 4 [some (.inr (9, 0, 0)), some (.inl (.int (-1))), some (.inl (.int 0))] [] m 0) : ch_J g m_m_isOver (ch_rm m_m_isOver) (ch_E g m_m_isOver Q) 0 [some (.inr (9, 0, 0)), none, none] [] m 0 := by
  refine ch_iconst (v := (-1)) d_m_isOver_0 (by decide) ?_
  refine ch_istore_n (i := 1) d_m_isOver_1 rfl (Nat.le_of_ble_eq_true rfl) (ls' := [some (.inr (9, 0, 0)), some (.inl (.int (-1))), none]) rfl ?_
  refine ch_iconst (v := 0) d_m_isOver_2 (by decide) ?_
  refine ch_istore_n (i := 2) d_m_isOver_3 rfl (Nat.le_of_ble_eq_true rfl) (ls' := [some (.inr (9, 0, 0)), some (.inl (.int (-1))), some (.inl (.int 0))]) rfl ?_
  exact h
set_option maxHeartbeats 1600000 in
theorem g_m_isOver_4 (g : ch_G) (Q : ch_O → ch_M → Prop) (x1 : Int32) (x2 : Int32) (m : ch_M) (h : (((m (9, 0, 0) 21) ≤ x2 → ((x1 < 11 → Q (.inl (some (.inl (.int 0)))) m) ∧ (¬ x1 < 11 → Q (.inl (some (.inl (.int 1)))) m))) ∧ (¬ (m (9, 0, 0) 21) ≤ x2 → ((x1 < 11 → (vp_in x2 12) ∧ ch_J g m_m_isOver (ch_rm m_m_isOver) (ch_E g m_m_isOver Q) 4 [some (.inr (9, 0, 0)), some (.inl (.int (x1 + (m (9, 0, 9) (Int32.toNatClampNeg x2))))), some (.inl (.int (x2 + 1)))] [] m 0) ∧ (¬ x1 < 11 → Q (.inl (some (.inl (.int 0)))) m))))) : ch_J g m_m_isOver (ch_rm m_m_isOver) (ch_E g m_m_isOver Q) 4 [some (.inr (9, 0, 0)), some (.inl (.int x1)), some (.inl (.int x2))] [] m 0 := by
  refine ch_iload_n (i := 2) d_m_isOver_4 rfl rfl ?_
  refine ch_aload_n (i := 0) d_m_isOver_5 rfl rfl ?_
  refine ch_get (v := .inl (.int (m (9, 0, 0) 21))) d_m_isOver_6 fl_m_126 rfl ?_
  refine ch_icmp_ge (tgt := 35) d_m_isOver_9 (by decide) (fun c => ?_) (fun c => ?_)
  · replace h := h.1 c
    refine ch_iload_n (i := 1) d_m_isOver_35 rfl rfl ?_
    refine ch_bipush (v := 11) d_m_isOver_36 (by decide) ?_
    refine ch_icmp_lt (tgt := 45) d_m_isOver_38 (by decide) (fun c => ?_) (fun c => ?_)
    · replace h := h.1 c
      refine ch_iconst (v := 0) d_m_isOver_45 (by decide) ?_
      exact ch_iret (ty := .boolean) d_m_isOver_46 rfl rfl (Nat.le_of_ble_eq_true rfl) h
    · replace h := h.2 c
      refine ch_iconst (v := 1) d_m_isOver_41 (by decide) ?_
      refine ch_goto (tgt := 46) d_m_isOver_42 (by decide) ?_
      exact ch_iret (ty := .boolean) d_m_isOver_46 rfl rfl (Nat.le_of_ble_eq_true rfl) h
  · replace h := h.2 c
    refine ch_iload_n (i := 1) d_m_isOver_12 rfl rfl ?_
    refine ch_bipush (v := 11) d_m_isOver_13 (by decide) ?_
    refine ch_icmp_lt (tgt := 20) d_m_isOver_15 (by decide) (fun c => ?_) (fun c => ?_)
    · replace h := h.1 c
      refine ch_iload_n (i := 1) d_m_isOver_20 rfl rfl ?_
      refine ch_aload_n (i := 0) d_m_isOver_21 rfl rfl ?_
      refine ch_get (v := .inr (9, 0, 9)) d_m_isOver_22 fl_m_39 rfl ?_
      refine ch_iload_n (i := 2) d_m_isOver_25 rfl rfl ?_
      have b1 := h.1
      replace h := h.2
      refine ch_iald (n := 12) d_m_isOver_26 (by decide) rfl b1 ?_
      refine ch_iadd d_m_isOver_27 ?_
      refine ch_istore_n (i := 1) d_m_isOver_28 rfl (Nat.le_of_ble_eq_true rfl) (ls' := [some (.inr (9, 0, 0)), some (.inl (.int (x1 + (m (9, 0, 9) (Int32.toNatClampNeg x2))))), some (.inl (.int x2))]) rfl ?_
      refine ch_iinc (i := 2) (v := (x2 + 1)) d_m_isOver_29 rfl rfl (Nat.le_of_ble_eq_true rfl) (ls' := [some (.inr (9, 0, 0)), some (.inl (.int (x1 + (m (9, 0, 9) (Int32.toNatClampNeg x2))))), some (.inl (.int (x2 + 1)))]) rfl ?_
      refine ch_goto (tgt := 4) d_m_isOver_32 (by decide) ?_
      exact h
    · replace h := h.2 c
      refine ch_iconst (v := 0) d_m_isOver_18 (by decide) ?_
      exact ch_iret (ty := .boolean) d_m_isOver_19 rfl rfl (Nat.le_of_ble_eq_true rfl) h
theorem e_m_isLine (g : ch_G) (Q : ch_O → ch_M → Prop) (p1 : Int32) (p2 : Int32) (m : ch_M) (h : ch_J g m_m_isLine (ch_rm m_m_isLine) (ch_E g m_m_isLine Q) 0 [some (.inr (9, 0, 0)), some (.inl (.int p1)), some (.inl (.int p2))] [] m 0) : ch_C g m_m_isLine [.inr (9, 0, 0), .inl (.int p1), .inl (.int p2)] m Q :=
  ch_enter mf_m_isLine (by intro v hv; simp only [List.mem_cons, List.not_mem_nil, or_false] at hv; rcases hv with rfl | rfl | rfl <;> rfl) (Nat.le_of_ble_eq_true rfl) h
set_option maxHeartbeats 1600000 in
theorem g_m_isLine_0 (g : ch_G) (Q : ch_O → ch_M → Prop) (p1 : Int32) (p2 : Int32) (m : ch_M) (h : ((12 ≤ p2 → Q (.inl (some (.inl (.int 0)))) m) ∧ (¬ 12 ≤ p2 → (ch_C g m_m_owner [.inr (9, 0, 0), .inl (.int p2)] m (ch_oi (fun (r1 : Int32) (m2 : ch_M) => ((r1 < 0 → Q (.inl (some (.inl (.int 0)))) m2) ∧ (¬ r1 < 0 → (ch_C g m_m_owner [.inr (9, 0, 0), .inl (.int p2)] m2 (ch_oi (fun (r3 : Int32) (m4 : ch_M) => ((r3 = p1 → Q (.inl (some (.inl (.int 0)))) m4) ∧ (¬ r3 = p1 → Q (.inl (some (.inl (.int 1)))) m4))))))))))))) : ch_J g m_m_isLine (ch_rm m_m_isLine) (ch_E g m_m_isLine Q) 0 [some (.inr (9, 0, 0)), some (.inl (.int p1)), some (.inl (.int p2))] [] m 0 := by
  refine ch_iload_n (i := 2) d_m_isLine_0 rfl rfl ?_
  refine ch_bipush (v := 12) d_m_isLine_1 (by decide) ?_
  refine ch_icmp_ge (tgt := 27) d_m_isLine_3 (by decide) (fun c => ?_) (fun c => ?_)
  · replace h := h.1 c
    refine ch_iconst (v := 0) d_m_isLine_27 (by decide) ?_
    exact ch_iret (ty := .boolean) d_m_isLine_28 rfl rfl (Nat.le_of_ble_eq_true rfl) h
  · replace h := h.2 c
    refine ch_aload_n (i := 0) d_m_isLine_6 rfl rfl ?_
    refine ch_iload_n (i := 2) d_m_isLine_7 rfl rfl ?_
    refine ch_callV (as := [.inl (.int p2)]) d_m_isLine_8 lk_m_109 mi_m_owner me_m_owner rfl rfl rfl ⟨Nat.le_of_ble_eq_true rfl, Nat.le_of_ble_eq_true rfl⟩ (Nat.le_of_ble_eq_true rfl) ⟨Nat.le_of_ble_eq_true rfl, Nat.le_of_ble_eq_true rfl⟩ (ch_mono (ch_Ki (fun r1 m2 h => ?_)) h)
    refine ch_if_lt (tgt := 27) d_m_isLine_11 (by decide) (fun c => ?_) (fun c => ?_)
    · replace h := h.1 c
      refine ch_iconst (v := 0) d_m_isLine_27 (by decide) ?_
      exact ch_iret (ty := .boolean) d_m_isLine_28 rfl rfl (Nat.le_of_ble_eq_true rfl) h
    · replace h := h.2 c
      refine ch_aload_n (i := 0) d_m_isLine_14 rfl rfl ?_
      refine ch_iload_n (i := 2) d_m_isLine_15 rfl rfl ?_
      refine ch_callV (as := [.inl (.int p2)]) d_m_isLine_16 lk_m_109 mi_m_owner me_m_owner rfl rfl rfl ⟨Nat.le_of_ble_eq_true rfl, Nat.le_of_ble_eq_true rfl⟩ (Nat.le_of_ble_eq_true rfl) ⟨Nat.le_of_ble_eq_true rfl, Nat.le_of_ble_eq_true rfl⟩ (ch_mono (ch_Ki (fun r3 m4 h => ?_)) h)
      refine ch_iload_n (i := 1) d_m_isLine_19 rfl rfl ?_
      refine ch_icmp_eq (tgt := 27) d_m_isLine_20 (by decide) (fun c => ?_) (fun c => ?_)
      · replace h := h.1 c
        refine ch_iconst (v := 0) d_m_isLine_27 (by decide) ?_
        exact ch_iret (ty := .boolean) d_m_isLine_28 rfl rfl (Nat.le_of_ble_eq_true rfl) h
      · replace h := h.2 c
        refine ch_iconst (v := 1) d_m_isLine_23 (by decide) ?_
        refine ch_goto (tgt := 28) d_m_isLine_24 (by decide) ?_
        exact ch_iret (ty := .boolean) d_m_isLine_28 rfl rfl (Nat.le_of_ble_eq_true rfl) h
theorem e_m_treadsBy (g : ch_G) (Q : ch_O → ch_M → Prop) (p1 : Int32) (m : ch_M) (h : ch_J g m_m_treadsBy (ch_rm m_m_treadsBy) (ch_E g m_m_treadsBy Q) 0 [some (.inr (9, 0, 0)), some (.inl (.int p1)), none, none, none] [] m 0) : ch_C g m_m_treadsBy [.inr (9, 0, 0), .inl (.int p1)] m Q :=
  ch_enter mf_m_treadsBy (by intro v hv; simp only [List.mem_cons, List.not_mem_nil, or_false] at hv; rcases hv with rfl | rfl <;> rfl) (Nat.le_of_ble_eq_true rfl) h
set_option maxHeartbeats 1600000 in
theorem g_m_treadsBy_0 (g : ch_G) (Q : ch_O → ch_M → Prop) (p1 : Int32) (m : ch_M) (h : ch_J g m_m_treadsBy (ch_rm m_m_treadsBy) (ch_E g m_m_treadsBy Q) 7 [some (.inr (9, 0, 0)), some (.inl (.int p1)), some (.inl (.int 0)), some (.inl (.int (-1))), some (.inl (.int 0))] [] m 0) : ch_J g m_m_treadsBy (ch_rm m_m_treadsBy) (ch_E g m_m_treadsBy Q) 0 [some (.inr (9, 0, 0)), some (.inl (.int p1)), none, none, none] [] m 0 := by
  refine ch_iconst (v := 0) d_m_treadsBy_0 (by decide) ?_
  refine ch_istore_n (i := 2) d_m_treadsBy_1 rfl (Nat.le_of_ble_eq_true rfl) (ls' := [some (.inr (9, 0, 0)), some (.inl (.int p1)), some (.inl (.int 0)), none, none]) rfl ?_
  refine ch_iconst (v := (-1)) d_m_treadsBy_2 (by decide) ?_
  refine ch_istore_n (i := 3) d_m_treadsBy_3 rfl (Nat.le_of_ble_eq_true rfl) (ls' := [some (.inr (9, 0, 0)), some (.inl (.int p1)), some (.inl (.int 0)), some (.inl (.int (-1))), none]) rfl ?_
  refine ch_iconst (v := 0) d_m_treadsBy_4 (by decide) ?_
  refine ch_istore (i := 4) d_m_treadsBy_5 (Nat.le_of_ble_eq_true rfl) (ls' := [some (.inr (9, 0, 0)), some (.inl (.int p1)), some (.inl (.int 0)), some (.inl (.int (-1))), some (.inl (.int 0))]) rfl ?_
  exact h
set_option maxHeartbeats 1600000 in
theorem g_m_treadsBy_7 (g : ch_G) (Q : ch_O → ch_M → Prop) (x1 : Int32) (x2 : Int32) (x3 : Int32) (x4 : Int32) (m : ch_M) (h : (((m (9, 0, 0) 21) ≤ x4 → Q (.inl (some (.inl (.int x2)))) m) ∧ (¬ (m (9, 0, 0) 21) ≤ x4 → (vp_in x4 12) ∧ (ch_C g m_m_isLine [.inr (9, 0, 0), .inl (.int x1), .inl (.int (x3 + (m (9, 0, 9) (Int32.toNatClampNeg x4))))] m (ch_oi (fun (r2 : Int32) (m3 : ch_M) => ((r2 = 0 → ch_J g m_m_treadsBy (ch_rm m_m_treadsBy) (ch_E g m_m_treadsBy Q) 7 [some (.inr (9, 0, 0)), some (.inl (.int x1)), some (.inl (.int x2)), some (.inl (.int (x3 + (m (9, 0, 9) (Int32.toNatClampNeg x4))))), some (.inl (.int (x4 + 1)))] [] m3 0) ∧ (¬ r2 = 0 → ch_J g m_m_treadsBy (ch_rm m_m_treadsBy) (ch_E g m_m_treadsBy Q) 7 [some (.inr (9, 0, 0)), some (.inl (.int x1)), some (.inl (.int (x2 + 1))), some (.inl (.int (x3 + (m (9, 0, 9) (Int32.toNatClampNeg x4))))), some (.inl (.int (x4 + 1)))] [] m3 0)))))))) : ch_J g m_m_treadsBy (ch_rm m_m_treadsBy) (ch_E g m_m_treadsBy Q) 7 [some (.inr (9, 0, 0)), some (.inl (.int x1)), some (.inl (.int x2)), some (.inl (.int x3)), some (.inl (.int x4))] [] m 0 := by
  refine ch_iload d_m_treadsBy_7 rfl ?_
  refine ch_aload_n (i := 0) d_m_treadsBy_9 rfl rfl ?_
  refine ch_get (v := .inl (.int (m (9, 0, 0) 21))) d_m_treadsBy_10 fl_m_126 rfl ?_
  refine ch_icmp_ge (tgt := 44) d_m_treadsBy_13 (by decide) (fun c => ?_) (fun c => ?_)
  · replace h := h.1 c
    refine ch_iload_n (i := 2) d_m_treadsBy_44 rfl rfl ?_
    exact ch_iret (ty := .int) d_m_treadsBy_45 rfl rfl (Nat.le_of_ble_eq_true rfl) h
  · replace h := h.2 c
    refine ch_iload_n (i := 3) d_m_treadsBy_16 rfl rfl ?_
    refine ch_aload_n (i := 0) d_m_treadsBy_17 rfl rfl ?_
    refine ch_get (v := .inr (9, 0, 9)) d_m_treadsBy_18 fl_m_39 rfl ?_
    refine ch_iload d_m_treadsBy_21 rfl ?_
    have b1 := h.1
    replace h := h.2
    refine ch_iald (n := 12) d_m_treadsBy_23 (by decide) rfl b1 ?_
    refine ch_iadd d_m_treadsBy_24 ?_
    refine ch_istore_n (i := 3) d_m_treadsBy_25 rfl (Nat.le_of_ble_eq_true rfl) (ls' := [some (.inr (9, 0, 0)), some (.inl (.int x1)), some (.inl (.int x2)), some (.inl (.int (x3 + (m (9, 0, 9) (Int32.toNatClampNeg x4))))), some (.inl (.int x4))]) rfl ?_
    refine ch_aload_n (i := 0) d_m_treadsBy_26 rfl rfl ?_
    refine ch_iload_n (i := 1) d_m_treadsBy_27 rfl rfl ?_
    refine ch_iload_n (i := 3) d_m_treadsBy_28 rfl rfl ?_
    refine ch_callV (as := [.inl (.int x1), .inl (.int (x3 + (m (9, 0, 9) (Int32.toNatClampNeg x4))))]) d_m_treadsBy_29 lk_m_129 mi_m_isLine me_m_isLine rfl rfl rfl ⟨Nat.le_of_ble_eq_true rfl, Nat.le_of_ble_eq_true rfl⟩ (Nat.le_of_ble_eq_true rfl) ⟨Nat.le_of_ble_eq_true rfl, Nat.le_of_ble_eq_true rfl⟩ (ch_mono (ch_Ki (fun r2 m3 h => ?_)) h)
    refine ch_if_eq (tgt := 38) d_m_treadsBy_32 (by decide) (fun c => ?_) (fun c => ?_)
    · replace h := h.1 c
      refine ch_iinc (i := 4) (v := (x4 + 1)) d_m_treadsBy_38 rfl rfl (Nat.le_of_ble_eq_true rfl) (ls' := [some (.inr (9, 0, 0)), some (.inl (.int x1)), some (.inl (.int x2)), some (.inl (.int (x3 + (m (9, 0, 9) (Int32.toNatClampNeg x4))))), some (.inl (.int (x4 + 1)))]) rfl ?_
      refine ch_goto (tgt := 7) d_m_treadsBy_41 (by decide) ?_
      exact h
    · replace h := h.2 c
      refine ch_iinc (i := 2) (v := (x2 + 1)) d_m_treadsBy_35 rfl rfl (Nat.le_of_ble_eq_true rfl) (ls' := [some (.inr (9, 0, 0)), some (.inl (.int x1)), some (.inl (.int (x2 + 1))), some (.inl (.int (x3 + (m (9, 0, 9) (Int32.toNatClampNeg x4))))), some (.inl (.int x4))]) rfl ?_
      refine ch_iinc (i := 4) (v := (x4 + 1)) d_m_treadsBy_38 rfl rfl (Nat.le_of_ble_eq_true rfl) (ls' := [some (.inr (9, 0, 0)), some (.inl (.int x1)), some (.inl (.int (x2 + 1))), some (.inl (.int (x3 + (m (9, 0, 9) (Int32.toNatClampNeg x4))))), some (.inl (.int (x4 + 1)))]) rfl ?_
      refine ch_goto (tgt := 7) d_m_treadsBy_41 (by decide) ?_
      exact h
