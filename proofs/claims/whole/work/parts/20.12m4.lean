theorem e_m_gives (g : ch_G) (Q : ch_O → ch_M → Prop) (p1 : Int32) (p2 : Int32) (p3 : Int32) (m : ch_M) (h : ch_J g m_m_gives (ch_rm m_m_gives) (ch_E g m_m_gives Q) 0 [some (.inr (9, 0, 0)), some (.inl (.int p1)), some (.inl (.int p2)), some (.inl (.int p3))] [] m 0) : ch_C g m_m_gives [.inr (9, 0, 0), .inl (.int p1), .inl (.int p2), .inl (.int p3)] m Q :=
  ch_enter mf_m_gives (by intro v hv; simp only [List.mem_cons, List.not_mem_nil, or_false] at hv; rcases hv with rfl | rfl | rfl | rfl <;> rfl) (Nat.le_of_ble_eq_true rfl) h
set_option maxHeartbeats 1600000 in
theorem g_m_gives_0 (g : ch_G) (Q : ch_O → ch_M → Prop) (p1 : Int32) (p2 : Int32) (p3 : Int32) (m : ch_M) (h : (ch_C g m_m_isThere [.inr (9, 0, 0), .inl (.int p1)] m (ch_oi (fun (r1 : Int32) (m2 : ch_M) => ((r1 = 0 → Q (.inl (some (.inl (.int 0)))) m2) ∧ (¬ r1 = 0 → (ch_C g m_m_isThere [.inr (9, 0, 0), .inl (.int p2)] m2 (ch_oi (fun (r3 : Int32) (m4 : ch_M) => ((¬ r3 = 0 → ((¬ p1 = p2 → (ch_C g m_m_in [.inl (.int p3), .inl (.int 1), .inl (.int 99)] m4 (ch_oi (fun (r5 : Int32) (m6 : ch_M) => ((¬ r5 = 0 → (ch_C g m_m_of [.inr (9, 0, 0), .inl (.int p1), .inl (.int 0)] m6 (ch_oi (fun (r7 : Int32) (m8 : ch_M) => ((p3 ≤ r7 → (ch_C g m_m_of [.inr (9, 0, 0), .inl (.int p1), .inl (.int 0)] m8 (ch_oi (fun (r9 : Int32) (m10 : ch_M) => (ch_C g m_m_sets [.inr (9, 0, 0), .inl (.int p1), .inl (.int 0), .inl (.int (r9 - p3))] m10 (ch_ov (fun (m12 : ch_M) => (ch_C g m_m_of [.inr (9, 0, 0), .inl (.int p2), .inl (.int 0)] m12 (ch_oi (fun (r13 : Int32) (m14 : ch_M) => (ch_C g m_m_sets [.inr (9, 0, 0), .inl (.int p2), .inl (.int 0), .inl (.int (r13 + p3))] m14 (ch_ov (fun (m16 : ch_M) => (ch_C g m_m_of [.inr (9, 0, 0), .inl (.int p1), .inl (.int 0)] m16 (ch_oi (fun (r17 : Int32) (m18 : ch_M) => (ch_C g m_m_does [.inr (9, 0, 0), .inl (.int r17)] m18 (ch_oi (fun (r19 : Int32) (m20 : ch_M) => (narrow .boolean (.int r19) = .int r19) ∧ Q (.inl (some (.inl (.int r19)))) m20))))))))))))))))))) ∧ (¬ p3 ≤ r7 → (ch_C g m_m_of [.inr (9, 0, 0), .inl (.int p1), .inl (.int 0)] m8 (ch_oi (fun (r21 : Int32) (m22 : ch_M) => (ch_C g m_m_refuses [.inr (9, 0, 0), .inl (.int 5), .inl (.int (p3 - r21))] m22 (ch_oi (fun (r23 : Int32) (m24 : ch_M) => (narrow .boolean (.int r23) = .int r23) ∧ Q (.inl (some (.inl (.int r23)))) m24)))))))))))) ∧ (r5 = 0 → (ch_C g m_m_refuses [.inr (9, 0, 0), .inl (.int 1), .inl (.int 0)] m6 (ch_oi (fun (r25 : Int32) (m26 : ch_M) => (narrow .boolean (.int r25) = .int r25) ∧ Q (.inl (some (.inl (.int r25)))) m26))))))))) ∧ (p1 = p2 → (ch_C g m_m_refuses [.inr (9, 0, 0), .inl (.int 11), .inl (.int p1)] m4 (ch_oi (fun (r27 : Int32) (m28 : ch_M) => (narrow .boolean (.int r27) = .int r27) ∧ Q (.inl (some (.inl (.int r27)))) m28)))))) ∧ (r3 = 0 → Q (.inl (some (.inl (.int 0)))) m4))))))))))) : ch_J g m_m_gives (ch_rm m_m_gives) (ch_E g m_m_gives Q) 0 [some (.inr (9, 0, 0)), some (.inl (.int p1)), some (.inl (.int p2)), some (.inl (.int p3))] [] m 0 := by
  refine ch_aload_n (i := 0) d_m_gives_0 rfl rfl ?_
  refine ch_iload_n (i := 1) d_m_gives_1 rfl rfl ?_
  refine ch_callV (as := [.inl (.int p1)]) d_m_gives_2 lk_m_106 mi_m_isThere me_m_isThere rfl rfl rfl ⟨Nat.le_of_ble_eq_true rfl, Nat.le_of_ble_eq_true rfl⟩ (Nat.le_of_ble_eq_true rfl) ⟨Nat.le_of_ble_eq_true rfl, Nat.le_of_ble_eq_true rfl⟩ (ch_mono (ch_Ki (fun r1 m2 h => ?_)) h)
  refine ch_if_eq (tgt := 16) d_m_gives_5 (by decide) (fun c => ?_) (fun c => ?_)
  · replace h := h.1 c
    refine ch_iconst (v := 0) d_m_gives_16 (by decide) ?_
    exact ch_iret (ty := .boolean) d_m_gives_17 rfl rfl (Nat.le_of_ble_eq_true rfl) h
  · replace h := h.2 c
    refine ch_aload_n (i := 0) d_m_gives_8 rfl rfl ?_
    refine ch_iload_n (i := 2) d_m_gives_9 rfl rfl ?_
    refine ch_callV (as := [.inl (.int p2)]) d_m_gives_10 lk_m_106 mi_m_isThere me_m_isThere rfl rfl rfl ⟨Nat.le_of_ble_eq_true rfl, Nat.le_of_ble_eq_true rfl⟩ (Nat.le_of_ble_eq_true rfl) ⟨Nat.le_of_ble_eq_true rfl, Nat.le_of_ble_eq_true rfl⟩ (ch_mono (ch_Ki (fun r3 m4 h => ?_)) h)
    refine ch_if_ne (tgt := 18) d_m_gives_13 (by decide) (fun c => ?_) (fun c => ?_)
    · replace h := h.1 c
      refine ch_iload_n (i := 1) d_m_gives_18 rfl rfl ?_
      refine ch_iload_n (i := 2) d_m_gives_19 rfl rfl ?_
      refine ch_icmp_ne (tgt := 31) d_m_gives_20 (by decide) (fun c => ?_) (fun c => ?_)
      · replace h := h.1 c
        refine ch_iload_n (i := 3) d_m_gives_31 rfl rfl ?_
        refine ch_iconst (v := 1) d_m_gives_32 (by decide) ?_
        refine ch_bipush (v := 99) d_m_gives_33 (by decide) ?_
        refine ch_callS (as := [.inl (.int p3), .inl (.int 1), .inl (.int 99)]) d_m_gives_35 lk_m_73 ms_m_in rfl rfl ⟨Nat.le_of_ble_eq_true rfl, Nat.le_of_ble_eq_true rfl⟩ (Nat.le_of_ble_eq_true rfl) ⟨Nat.le_of_ble_eq_true rfl, Nat.le_of_ble_eq_true rfl⟩ (ch_mono (ch_Ki (fun r5 m6 h => ?_)) h)
        refine ch_if_ne (tgt := 48) d_m_gives_38 (by decide) (fun c => ?_) (fun c => ?_)
        · replace h := h.1 c
          refine ch_aload_n (i := 0) d_m_gives_48 rfl rfl ?_
          refine ch_iload_n (i := 1) d_m_gives_49 rfl rfl ?_
          refine ch_iconst (v := 0) d_m_gives_50 (by decide) ?_
          refine ch_callV (as := [.inl (.int p1), .inl (.int 0)]) d_m_gives_51 lk_m_85 mi_m_of me_m_of rfl rfl rfl ⟨Nat.le_of_ble_eq_true rfl, Nat.le_of_ble_eq_true rfl⟩ (Nat.le_of_ble_eq_true rfl) ⟨Nat.le_of_ble_eq_true rfl, Nat.le_of_ble_eq_true rfl⟩ (ch_mono (ch_Ki (fun r7 m8 h => ?_)) h)
          refine ch_iload_n (i := 3) d_m_gives_54 rfl rfl ?_
          refine ch_icmp_ge (tgt := 72) d_m_gives_55 (by decide) (fun c => ?_) (fun c => ?_)
          · replace h := h.1 c
            refine ch_aload_n (i := 0) d_m_gives_72 rfl rfl ?_
            refine ch_iload_n (i := 1) d_m_gives_73 rfl rfl ?_
            refine ch_iconst (v := 0) d_m_gives_74 (by decide) ?_
            refine ch_aload_n (i := 0) d_m_gives_75 rfl rfl ?_
            refine ch_iload_n (i := 1) d_m_gives_76 rfl rfl ?_
            refine ch_iconst (v := 0) d_m_gives_77 (by decide) ?_
            refine ch_callV (as := [.inl (.int p1), .inl (.int 0)]) d_m_gives_78 lk_m_85 mi_m_of me_m_of rfl rfl rfl ⟨Nat.le_of_ble_eq_true rfl, Nat.le_of_ble_eq_true rfl⟩ (Nat.le_of_ble_eq_true rfl) ⟨Nat.le_of_ble_eq_true rfl, Nat.le_of_ble_eq_true rfl⟩ (ch_mono (ch_Ki (fun r9 m10 h => ?_)) h)
            refine ch_iload_n (i := 3) d_m_gives_81 rfl rfl ?_
            refine ch_isub d_m_gives_82 ?_
            refine ch_callV (as := [.inl (.int p1), .inl (.int 0), .inl (.int (r9 - p3))]) d_m_gives_83 lk_m_89 mi_m_sets me_m_sets rfl rfl rfl ⟨Nat.le_of_ble_eq_true rfl, Nat.le_of_ble_eq_true rfl⟩ (Nat.le_of_ble_eq_true rfl) ⟨Nat.le_of_ble_eq_true rfl, Nat.le_of_ble_eq_true rfl⟩ (ch_mono (ch_Kv (fun m12 h => ?_)) h)
            refine ch_aload_n (i := 0) d_m_gives_86 rfl rfl ?_
            refine ch_iload_n (i := 2) d_m_gives_87 rfl rfl ?_
            refine ch_iconst (v := 0) d_m_gives_88 (by decide) ?_
            refine ch_aload_n (i := 0) d_m_gives_89 rfl rfl ?_
            refine ch_iload_n (i := 2) d_m_gives_90 rfl rfl ?_
            refine ch_iconst (v := 0) d_m_gives_91 (by decide) ?_
            refine ch_callV (as := [.inl (.int p2), .inl (.int 0)]) d_m_gives_92 lk_m_85 mi_m_of me_m_of rfl rfl rfl ⟨Nat.le_of_ble_eq_true rfl, Nat.le_of_ble_eq_true rfl⟩ (Nat.le_of_ble_eq_true rfl) ⟨Nat.le_of_ble_eq_true rfl, Nat.le_of_ble_eq_true rfl⟩ (ch_mono (ch_Ki (fun r13 m14 h => ?_)) h)
            refine ch_iload_n (i := 3) d_m_gives_95 rfl rfl ?_
            refine ch_iadd d_m_gives_96 ?_
            refine ch_callV (as := [.inl (.int p2), .inl (.int 0), .inl (.int (r13 + p3))]) d_m_gives_97 lk_m_89 mi_m_sets me_m_sets rfl rfl rfl ⟨Nat.le_of_ble_eq_true rfl, Nat.le_of_ble_eq_true rfl⟩ (Nat.le_of_ble_eq_true rfl) ⟨Nat.le_of_ble_eq_true rfl, Nat.le_of_ble_eq_true rfl⟩ (ch_mono (ch_Kv (fun m16 h => ?_)) h)
            refine ch_aload_n (i := 0) d_m_gives_100 rfl rfl ?_
            refine ch_aload_n (i := 0) d_m_gives_101 rfl rfl ?_
            refine ch_iload_n (i := 1) d_m_gives_102 rfl rfl ?_
            refine ch_iconst (v := 0) d_m_gives_103 (by decide) ?_
            refine ch_callV (as := [.inl (.int p1), .inl (.int 0)]) d_m_gives_104 lk_m_85 mi_m_of me_m_of rfl rfl rfl ⟨Nat.le_of_ble_eq_true rfl, Nat.le_of_ble_eq_true rfl⟩ (Nat.le_of_ble_eq_true rfl) ⟨Nat.le_of_ble_eq_true rfl, Nat.le_of_ble_eq_true rfl⟩ (ch_mono (ch_Ki (fun r17 m18 h => ?_)) h)
            refine ch_callV (as := [.inl (.int r17)]) d_m_gives_107 lk_m_93 mi_m_does me_m_does rfl rfl rfl ⟨Nat.le_of_ble_eq_true rfl, Nat.le_of_ble_eq_true rfl⟩ (Nat.le_of_ble_eq_true rfl) ⟨Nat.le_of_ble_eq_true rfl, Nat.le_of_ble_eq_true rfl⟩ (ch_mono (ch_Ki (fun r19 m20 h => ?_)) h)
            exact ch_iret (ty := .boolean) d_m_gives_110 rfl h.1 (Nat.le_of_ble_eq_true rfl) h.2
          · replace h := h.2 c
            refine ch_aload_n (i := 0) d_m_gives_58 rfl rfl ?_
            refine ch_iconst (v := 5) d_m_gives_59 (by decide) ?_
            refine ch_iload_n (i := 3) d_m_gives_60 rfl rfl ?_
            refine ch_aload_n (i := 0) d_m_gives_61 rfl rfl ?_
            refine ch_iload_n (i := 1) d_m_gives_62 rfl rfl ?_
            refine ch_iconst (v := 0) d_m_gives_63 (by decide) ?_
            refine ch_callV (as := [.inl (.int p1), .inl (.int 0)]) d_m_gives_64 lk_m_85 mi_m_of me_m_of rfl rfl rfl ⟨Nat.le_of_ble_eq_true rfl, Nat.le_of_ble_eq_true rfl⟩ (Nat.le_of_ble_eq_true rfl) ⟨Nat.le_of_ble_eq_true rfl, Nat.le_of_ble_eq_true rfl⟩ (ch_mono (ch_Ki (fun r21 m22 h => ?_)) h)
            refine ch_isub d_m_gives_67 ?_
            refine ch_callV (as := [.inl (.int 5), .inl (.int (p3 - r21))]) d_m_gives_68 lk_m_81 mi_m_refuses me_m_refuses rfl rfl rfl ⟨Nat.le_of_ble_eq_true rfl, Nat.le_of_ble_eq_true rfl⟩ (Nat.le_of_ble_eq_true rfl) ⟨Nat.le_of_ble_eq_true rfl, Nat.le_of_ble_eq_true rfl⟩ (ch_mono (ch_Ki (fun r23 m24 h => ?_)) h)
            exact ch_iret (ty := .boolean) d_m_gives_71 rfl h.1 (Nat.le_of_ble_eq_true rfl) h.2
        · replace h := h.2 c
          refine ch_aload_n (i := 0) d_m_gives_41 rfl rfl ?_
          refine ch_iconst (v := 1) d_m_gives_42 (by decide) ?_
          refine ch_iconst (v := 0) d_m_gives_43 (by decide) ?_
          refine ch_callV (as := [.inl (.int 1), .inl (.int 0)]) d_m_gives_44 lk_m_81 mi_m_refuses me_m_refuses rfl rfl rfl ⟨Nat.le_of_ble_eq_true rfl, Nat.le_of_ble_eq_true rfl⟩ (Nat.le_of_ble_eq_true rfl) ⟨Nat.le_of_ble_eq_true rfl, Nat.le_of_ble_eq_true rfl⟩ (ch_mono (ch_Ki (fun r25 m26 h => ?_)) h)
          exact ch_iret (ty := .boolean) d_m_gives_47 rfl h.1 (Nat.le_of_ble_eq_true rfl) h.2
      · replace h := h.2 c
        refine ch_aload_n (i := 0) d_m_gives_23 rfl rfl ?_
        refine ch_bipush (v := 11) d_m_gives_24 (by decide) ?_
        refine ch_iload_n (i := 1) d_m_gives_26 rfl rfl ?_
        refine ch_callV (as := [.inl (.int 11), .inl (.int p1)]) d_m_gives_27 lk_m_81 mi_m_refuses me_m_refuses rfl rfl rfl ⟨Nat.le_of_ble_eq_true rfl, Nat.le_of_ble_eq_true rfl⟩ (Nat.le_of_ble_eq_true rfl) ⟨Nat.le_of_ble_eq_true rfl, Nat.le_of_ble_eq_true rfl⟩ (ch_mono (ch_Ki (fun r27 m28 h => ?_)) h)
        exact ch_iret (ty := .boolean) d_m_gives_30 rfl h.1 (Nat.le_of_ble_eq_true rfl) h.2
    · replace h := h.2 c
      refine ch_iconst (v := 0) d_m_gives_16 (by decide) ?_
      exact ch_iret (ty := .boolean) d_m_gives_17 rfl rfl (Nat.le_of_ble_eq_true rfl) h
theorem e_m_give (g : ch_G) (Q : ch_O → ch_M → Prop) (p1 : Int32) (p2 : Int32) (p3 : Int32) (m : ch_M) (h : ch_J g m_m_give (ch_rm m_m_give) (ch_E g m_m_give Q) 0 [some (.inr (9, 0, 0)), some (.inl (.int p1)), some (.inl (.int p2)), some (.inl (.int p3))] [] m 0) : ch_C g m_m_give [.inr (9, 0, 0), .inl (.int p1), .inl (.int p2), .inl (.int p3)] m Q :=
  ch_enter mf_m_give (by intro v hv; simp only [List.mem_cons, List.not_mem_nil, or_false] at hv; rcases hv with rfl | rfl | rfl | rfl <;> rfl) (Nat.le_of_ble_eq_true rfl) h
set_option maxHeartbeats 1600000 in
theorem g_m_give_0 (g : ch_G) (Q : ch_O → ch_M → Prop) (p1 : Int32) (p2 : Int32) (p3 : Int32) (m : ch_M) (h : (ch_C g m_m_tries [.inr (9, 0, 0)] m (ch_ov (fun (m2 : ch_M) => (ch_C g m_m_gives [.inr (9, 0, 0), .inl (.int p1), .inl (.int p2), .inl (.int p3)] m2 (ch_oi (fun (r3 : Int32) (m4 : ch_M) => (ch_C g m_m_ends [.inr (9, 0, 0), .inl (.int r3)] m4 (ch_oi (fun (r5 : Int32) (m6 : ch_M) => Q (.inl (some (.inl (.int r5)))) m6)))))))))) : ch_J g m_m_give (ch_rm m_m_give) (ch_E g m_m_give Q) 0 [some (.inr (9, 0, 0)), some (.inl (.int p1)), some (.inl (.int p2)), some (.inl (.int p3))] [] m 0 := by
  refine ch_aload_n (i := 0) d_m_give_0 rfl rfl ?_
  refine ch_callV (as := []) d_m_give_1 lk_m_96 mi_m_tries me_m_tries rfl rfl rfl ⟨Nat.le_of_ble_eq_true rfl, Nat.le_of_ble_eq_true rfl⟩ (Nat.le_of_ble_eq_true rfl) ⟨Nat.le_of_ble_eq_true rfl, Nat.le_of_ble_eq_true rfl⟩ (ch_mono (ch_Kv (fun m2 h => ?_)) h)
  refine ch_aload_n (i := 0) d_m_give_4 rfl rfl ?_
  refine ch_aload_n (i := 0) d_m_give_5 rfl rfl ?_
  refine ch_iload_n (i := 1) d_m_give_6 rfl rfl ?_
  refine ch_iload_n (i := 2) d_m_give_7 rfl rfl ?_
  refine ch_iload_n (i := 3) d_m_give_8 rfl rfl ?_
  refine ch_callV (as := [.inl (.int p1), .inl (.int p2), .inl (.int p3)]) d_m_give_9 lk_m_179 mi_m_gives me_m_gives rfl rfl rfl ⟨Nat.le_of_ble_eq_true rfl, Nat.le_of_ble_eq_true rfl⟩ (Nat.le_of_ble_eq_true rfl) ⟨Nat.le_of_ble_eq_true rfl, Nat.le_of_ble_eq_true rfl⟩ (ch_mono (ch_Ki (fun r3 m4 h => ?_)) h)
  refine ch_callV (as := [.inl (.int r3)]) d_m_give_12 lk_m_102 mi_m_ends me_m_ends rfl rfl rfl ⟨Nat.le_of_ble_eq_true rfl, Nat.le_of_ble_eq_true rfl⟩ (Nat.le_of_ble_eq_true rfl) ⟨Nat.le_of_ble_eq_true rfl, Nat.le_of_ble_eq_true rfl⟩ (ch_mono (ch_Ki (fun r5 m6 h => ?_)) h)
  exact ch_iret (ty := .int) d_m_give_15 rfl rfl (Nat.le_of_ble_eq_true rfl) h
theorem e_m_squareOf (g : ch_G) (Q : ch_O → ch_M → Prop) (p1 : Int32) (p2 : Int32) (m : ch_M) (h : ch_J g m_m_squareOf (ch_rm m_m_squareOf) (ch_E g m_m_squareOf Q) 0 [some (.inr (9, 0, 0)), some (.inl (.int p1)), some (.inl (.int p2))] [] m 0) : ch_C g m_m_squareOf [.inr (9, 0, 0), .inl (.int p1), .inl (.int p2)] m Q :=
  ch_enter mf_m_squareOf (by intro v hv; simp only [List.mem_cons, List.not_mem_nil, or_false] at hv; rcases hv with rfl | rfl | rfl <;> rfl) (Nat.le_of_ble_eq_true rfl) h
set_option maxHeartbeats 1600000 in
theorem g_m_squareOf_0 (g : ch_G) (Q : ch_O → ch_M → Prop) (p1 : Int32) (p2 : Int32) (m : ch_M) (h : (ch_C g m_m_in [.inl (.int p1), .inl (.int 0), .inl (.int 11)] m (ch_oi (fun (r1 : Int32) (m2 : ch_M) => ((r1 = 0 → (∀ m3 : ch_M, m3 = ch_wr m2 (9, 0, 0) 19 1 → (((m3 (9, 0, 0) 19) ≤ 0 → ((p2 = 0 → (ch_C g m_m_owner [.inr (9, 0, 0), .inl (.int p1)] m3 (ch_oi (fun (r4 : Int32) (m5 : ch_M) => Q (.inl (some (.inl (.int r4)))) m5)))) ∧ (¬ p2 = 0 → (ch_C g m_m_chalkOf [.inr (9, 0, 0), .inl (.int p1)] m3 (ch_oi (fun (r6 : Int32) (m7 : ch_M) => Q (.inl (some (.inl (.int r6)))) m7)))))) ∧ (¬ (m3 (9, 0, 0) 19) ≤ 0 → Q (.inl (some (.inl (.int 0)))) m3)))) ∧ (¬ r1 = 0 → (∀ m8 : ch_M, m8 = ch_wr m2 (9, 0, 0) 19 0 → (((m8 (9, 0, 0) 19) ≤ 0 → ((p2 = 0 → (ch_C g m_m_owner [.inr (9, 0, 0), .inl (.int p1)] m8 (ch_oi (fun (r9 : Int32) (m10 : ch_M) => Q (.inl (some (.inl (.int r9)))) m10)))) ∧ (¬ p2 = 0 → (ch_C g m_m_chalkOf [.inr (9, 0, 0), .inl (.int p1)] m8 (ch_oi (fun (r11 : Int32) (m12 : ch_M) => Q (.inl (some (.inl (.int r11)))) m12)))))) ∧ (¬ (m8 (9, 0, 0) 19) ≤ 0 → Q (.inl (some (.inl (.int 0)))) m8))))))))) : ch_J g m_m_squareOf (ch_rm m_m_squareOf) (ch_E g m_m_squareOf Q) 0 [some (.inr (9, 0, 0)), some (.inl (.int p1)), some (.inl (.int p2))] [] m 0 := by
  refine ch_aload_n (i := 0) d_m_squareOf_0 rfl rfl ?_
  refine ch_iload_n (i := 1) d_m_squareOf_1 rfl rfl ?_
  refine ch_iconst (v := 0) d_m_squareOf_2 (by decide) ?_
  refine ch_bipush (v := 11) d_m_squareOf_3 (by decide) ?_
  refine ch_callS (as := [.inl (.int p1), .inl (.int 0), .inl (.int 11)]) d_m_squareOf_5 lk_m_73 ms_m_in rfl rfl ⟨Nat.le_of_ble_eq_true rfl, Nat.le_of_ble_eq_true rfl⟩ (Nat.le_of_ble_eq_true rfl) ⟨Nat.le_of_ble_eq_true rfl, Nat.le_of_ble_eq_true rfl⟩ (ch_mono (ch_Ki (fun r1 m2 h => ?_)) h)
  refine ch_if_eq (tgt := 15) d_m_squareOf_8 (by decide) (fun c => ?_) (fun c => ?_)
  · replace h := h.1 c
    refine ch_iconst (v := 1) d_m_squareOf_15 (by decide) ?_
    refine ch_put d_m_squareOf_16 fp_m_48 rfl rfl rfl ?_
    generalize hmm3 : ch_wr m2 (9, 0, 0) 19 1 = m3
    replace h := h m3 hmm3.symm
    refine ch_aload_n (i := 0) d_m_squareOf_19 rfl rfl ?_
    refine ch_get (v := .inl (.int (m3 (9, 0, 0) 19))) d_m_squareOf_20 fl_m_48 rfl ?_
    refine ch_if_le (tgt := 30) d_m_squareOf_23 (by decide) (fun c => ?_) (fun c => ?_)
    · replace h := h.1 c
      refine ch_iload_n (i := 2) d_m_squareOf_30 rfl rfl ?_
      refine ch_if_eq (tgt := 42) d_m_squareOf_31 (by decide) (fun c => ?_) (fun c => ?_)
      · replace h := h.1 c
        refine ch_aload_n (i := 0) d_m_squareOf_42 rfl rfl ?_
        refine ch_iload_n (i := 1) d_m_squareOf_43 rfl rfl ?_
        refine ch_callV (as := [.inl (.int p1)]) d_m_squareOf_44 lk_m_109 mi_m_owner me_m_owner rfl rfl rfl ⟨Nat.le_of_ble_eq_true rfl, Nat.le_of_ble_eq_true rfl⟩ (Nat.le_of_ble_eq_true rfl) ⟨Nat.le_of_ble_eq_true rfl, Nat.le_of_ble_eq_true rfl⟩ (ch_mono (ch_Ki (fun r4 m5 h => ?_)) h)
        exact ch_iret (ty := .int) d_m_squareOf_47 rfl rfl (Nat.le_of_ble_eq_true rfl) h
      · replace h := h.2 c
        refine ch_aload_n (i := 0) d_m_squareOf_34 rfl rfl ?_
        refine ch_iload_n (i := 1) d_m_squareOf_35 rfl rfl ?_
        refine ch_callV (as := [.inl (.int p1)]) d_m_squareOf_36 lk_m_112 mi_m_chalkOf me_m_chalkOf rfl rfl rfl ⟨Nat.le_of_ble_eq_true rfl, Nat.le_of_ble_eq_true rfl⟩ (Nat.le_of_ble_eq_true rfl) ⟨Nat.le_of_ble_eq_true rfl, Nat.le_of_ble_eq_true rfl⟩ (ch_mono (ch_Ki (fun r6 m7 h => ?_)) h)
        refine ch_goto (tgt := 47) d_m_squareOf_39 (by decide) ?_
        exact ch_iret (ty := .int) d_m_squareOf_47 rfl rfl (Nat.le_of_ble_eq_true rfl) h
    · replace h := h.2 c
      refine ch_iconst (v := 0) d_m_squareOf_26 (by decide) ?_
      refine ch_goto (tgt := 47) d_m_squareOf_27 (by decide) ?_
      exact ch_iret (ty := .int) d_m_squareOf_47 rfl rfl (Nat.le_of_ble_eq_true rfl) h
  · replace h := h.2 c
    refine ch_iconst (v := 0) d_m_squareOf_11 (by decide) ?_
    refine ch_goto (tgt := 16) d_m_squareOf_12 (by decide) ?_
    refine ch_put d_m_squareOf_16 fp_m_48 rfl rfl rfl ?_
    generalize hmm8 : ch_wr m2 (9, 0, 0) 19 0 = m8
    replace h := h m8 hmm8.symm
    refine ch_aload_n (i := 0) d_m_squareOf_19 rfl rfl ?_
    refine ch_get (v := .inl (.int (m8 (9, 0, 0) 19))) d_m_squareOf_20 fl_m_48 rfl ?_
    refine ch_if_le (tgt := 30) d_m_squareOf_23 (by decide) (fun c => ?_) (fun c => ?_)
    · replace h := h.1 c
      refine ch_iload_n (i := 2) d_m_squareOf_30 rfl rfl ?_
      refine ch_if_eq (tgt := 42) d_m_squareOf_31 (by decide) (fun c => ?_) (fun c => ?_)
      · replace h := h.1 c
        refine ch_aload_n (i := 0) d_m_squareOf_42 rfl rfl ?_
        refine ch_iload_n (i := 1) d_m_squareOf_43 rfl rfl ?_
        refine ch_callV (as := [.inl (.int p1)]) d_m_squareOf_44 lk_m_109 mi_m_owner me_m_owner rfl rfl rfl ⟨Nat.le_of_ble_eq_true rfl, Nat.le_of_ble_eq_true rfl⟩ (Nat.le_of_ble_eq_true rfl) ⟨Nat.le_of_ble_eq_true rfl, Nat.le_of_ble_eq_true rfl⟩ (ch_mono (ch_Ki (fun r9 m10 h => ?_)) h)
        exact ch_iret (ty := .int) d_m_squareOf_47 rfl rfl (Nat.le_of_ble_eq_true rfl) h
      · replace h := h.2 c
        refine ch_aload_n (i := 0) d_m_squareOf_34 rfl rfl ?_
        refine ch_iload_n (i := 1) d_m_squareOf_35 rfl rfl ?_
        refine ch_callV (as := [.inl (.int p1)]) d_m_squareOf_36 lk_m_112 mi_m_chalkOf me_m_chalkOf rfl rfl rfl ⟨Nat.le_of_ble_eq_true rfl, Nat.le_of_ble_eq_true rfl⟩ (Nat.le_of_ble_eq_true rfl) ⟨Nat.le_of_ble_eq_true rfl, Nat.le_of_ble_eq_true rfl⟩ (ch_mono (ch_Ki (fun r11 m12 h => ?_)) h)
        refine ch_goto (tgt := 47) d_m_squareOf_39 (by decide) ?_
        exact ch_iret (ty := .int) d_m_squareOf_47 rfl rfl (Nat.le_of_ble_eq_true rfl) h
    · replace h := h.2 c
      refine ch_iconst (v := 0) d_m_squareOf_26 (by decide) ?_
      refine ch_goto (tgt := 47) d_m_squareOf_27 (by decide) ?_
      exact ch_iret (ty := .int) d_m_squareOf_47 rfl rfl (Nat.le_of_ble_eq_true rfl) h
theorem e_m_ownSet (g : ch_G) (Q : ch_O → ch_M → Prop) (p1 : Int32) (m : ch_M) (h : ch_J g m_m_ownSet (ch_rm m_m_ownSet) (ch_E g m_m_ownSet Q) 0 [some (.inr (9, 0, 0)), some (.inl (.int p1)), none, none] [] m 0) : ch_C g m_m_ownSet [.inr (9, 0, 0), .inl (.int p1)] m Q :=
  ch_enter mf_m_ownSet (by intro v hv; simp only [List.mem_cons, List.not_mem_nil, or_false] at hv; rcases hv with rfl | rfl <;> rfl) (Nat.le_of_ble_eq_true rfl) h
set_option maxHeartbeats 1600000 in
theorem g_m_ownSet_0 (g : ch_G) (Q : ch_O → ch_M → Prop) (p1 : Int32) (m : ch_M) (h : ch_J g m_m_ownSet (ch_rm m_m_ownSet) (ch_E g m_m_ownSet Q) 4 [some (.inr (9, 0, 0)), some (.inl (.int p1)), some (.inl (.int 0)), some (.inl (.int 0))] [] m 0) : ch_J g m_m_ownSet (ch_rm m_m_ownSet) (ch_E g m_m_ownSet Q) 0 [some (.inr (9, 0, 0)), some (.inl (.int p1)), none, none] [] m 0 := by
  refine ch_iconst (v := 0) d_m_ownSet_0 (by decide) ?_
  refine ch_istore_n (i := 2) d_m_ownSet_1 rfl (Nat.le_of_ble_eq_true rfl) (ls' := [some (.inr (9, 0, 0)), some (.inl (.int p1)), some (.inl (.int 0)), none]) rfl ?_
  refine ch_iconst (v := 0) d_m_ownSet_2 (by decide) ?_
  refine ch_istore_n (i := 3) d_m_ownSet_3 rfl (Nat.le_of_ble_eq_true rfl) (ls' := [some (.inr (9, 0, 0)), some (.inl (.int p1)), some (.inl (.int 0)), some (.inl (.int 0))]) rfl ?_
  exact h
set_option maxHeartbeats 1600000 in
theorem g_m_ownSet_4 (g : ch_G) (Q : ch_O → ch_M → Prop) (x1 : Int32) (x2 : Int32) (x3 : Int32) (m : ch_M) (h : ((12 ≤ x3 → Q (.inl (some (.inl (.int x2)))) m) ∧ (¬ 12 ≤ x3 → (ch_C g m_m_owner [.inr (9, 0, 0), .inl (.int x3)] m (ch_oi (fun (r1 : Int32) (m2 : ch_M) => ((¬ r1 = x1 → ch_J g m_m_ownSet (ch_rm m_m_ownSet) (ch_E g m_m_ownSet Q) 4 [some (.inr (9, 0, 0)), some (.inl (.int x1)), some (.inl (.int x2)), some (.inl (.int (x3 + 1)))] [] m2 0) ∧ (r1 = x1 → ch_J g m_m_ownSet (ch_rm m_m_ownSet) (ch_E g m_m_ownSet Q) 4 [some (.inr (9, 0, 0)), some (.inl (.int x1)), some (.inl (.int (x2 ||| (1 <<< (x3 &&& 31))))), some (.inl (.int (x3 + 1)))] [] m2 0)))))))) : ch_J g m_m_ownSet (ch_rm m_m_ownSet) (ch_E g m_m_ownSet Q) 4 [some (.inr (9, 0, 0)), some (.inl (.int x1)), some (.inl (.int x2)), some (.inl (.int x3))] [] m 0 := by
  refine ch_iload_n (i := 3) d_m_ownSet_4 rfl rfl ?_
  refine ch_bipush (v := 12) d_m_ownSet_5 (by decide) ?_
  refine ch_icmp_ge (tgt := 31) d_m_ownSet_7 (by decide) (fun c => ?_) (fun c => ?_)
  · replace h := h.1 c
    refine ch_iload_n (i := 2) d_m_ownSet_31 rfl rfl ?_
    exact ch_iret (ty := .int) d_m_ownSet_32 rfl rfl (Nat.le_of_ble_eq_true rfl) h
  · replace h := h.2 c
    refine ch_aload_n (i := 0) d_m_ownSet_10 rfl rfl ?_
    refine ch_iload_n (i := 3) d_m_ownSet_11 rfl rfl ?_
    refine ch_callV (as := [.inl (.int x3)]) d_m_ownSet_12 lk_m_109 mi_m_owner me_m_owner rfl rfl rfl ⟨Nat.le_of_ble_eq_true rfl, Nat.le_of_ble_eq_true rfl⟩ (Nat.le_of_ble_eq_true rfl) ⟨Nat.le_of_ble_eq_true rfl, Nat.le_of_ble_eq_true rfl⟩ (ch_mono (ch_Ki (fun r1 m2 h => ?_)) h)
    refine ch_iload_n (i := 1) d_m_ownSet_15 rfl rfl ?_
    refine ch_icmp_ne (tgt := 25) d_m_ownSet_16 (by decide) (fun c => ?_) (fun c => ?_)
    · replace h := h.1 c
      refine ch_iinc (i := 3) (v := (x3 + 1)) d_m_ownSet_25 rfl rfl (Nat.le_of_ble_eq_true rfl) (ls' := [some (.inr (9, 0, 0)), some (.inl (.int x1)), some (.inl (.int x2)), some (.inl (.int (x3 + 1)))]) rfl ?_
      refine ch_goto (tgt := 4) d_m_ownSet_28 (by decide) ?_
      exact h
    · replace h := h.2 c
      refine ch_iload_n (i := 2) d_m_ownSet_19 rfl rfl ?_
      refine ch_iconst (v := 1) d_m_ownSet_20 (by decide) ?_
      refine ch_iload_n (i := 3) d_m_ownSet_21 rfl rfl ?_
      refine ch_ishl d_m_ownSet_22 ?_
      refine ch_ior d_m_ownSet_23 ?_
      refine ch_istore_n (i := 2) d_m_ownSet_24 rfl (Nat.le_of_ble_eq_true rfl) (ls' := [some (.inr (9, 0, 0)), some (.inl (.int x1)), some (.inl (.int (x2 ||| (1 <<< (x3 &&& 31))))), some (.inl (.int x3))]) rfl ?_
      refine ch_iinc (i := 3) (v := (x3 + 1)) d_m_ownSet_25 rfl rfl (Nat.le_of_ble_eq_true rfl) (ls' := [some (.inr (9, 0, 0)), some (.inl (.int x1)), some (.inl (.int (x2 ||| (1 <<< (x3 &&& 31))))), some (.inl (.int (x3 + 1)))]) rfl ?_
      refine ch_goto (tgt := 4) d_m_ownSet_28 (by decide) ?_
      exact h
theorem e_m_childOf (g : ch_G) (Q : ch_O → ch_M → Prop) (p1 : Int32) (p2 : Int32) (m : ch_M) (h : ch_J g m_m_childOf (ch_rm m_m_childOf) (ch_E g m_m_childOf Q) 0 [some (.inr (9, 0, 0)), some (.inl (.int p1)), some (.inl (.int p2)), none, none] [] m 0) : ch_C g m_m_childOf [.inr (9, 0, 0), .inl (.int p1), .inl (.int p2)] m Q :=
  ch_enter mf_m_childOf (by intro v hv; simp only [List.mem_cons, List.not_mem_nil, or_false] at hv; rcases hv with rfl | rfl | rfl <;> rfl) (Nat.le_of_ble_eq_true rfl) h
set_option maxHeartbeats 1600000 in
theorem g_m_childOf_0 (g : ch_G) (Q : ch_O → ch_M → Prop) (p1 : Int32) (p2 : Int32) (m : ch_M) (h : (∀ m1 : ch_M, m1 = ch_wr m (9, 0, 0) 19 0 → (ch_C g m_m_isChild [.inr (9, 0, 0), .inl (.int p1)] m1 (ch_oi (fun (r2 : Int32) (m3 : ch_M) => ((¬ r2 = 0 → ((p2 = 0 → (ch_C g m_m_of [.inr (9, 0, 0), .inl (.int p1), .inl (.int p2)] m3 (ch_oi (fun (r4 : Int32) (m5 : ch_M) => Q (.inl (some (.inl (.int r4)))) m5)))) ∧ (p2 = 1 → (ch_C g m_m_of [.inr (9, 0, 0), .inl (.int p1), .inl (.int p2)] m3 (ch_oi (fun (r6 : Int32) (m7 : ch_M) => Q (.inl (some (.inl (.int r6)))) m7)))) ∧ (p2 = 2 → (ch_C g m_m_of [.inr (9, 0, 0), .inl (.int p1), .inl (.int p2)] m3 (ch_oi (fun (r8 : Int32) (m9 : ch_M) => Q (.inl (some (.inl (.int r8)))) m9)))) ∧ (p2 = 3 → (ch_C g m_m_ownSet [.inr (9, 0, 0), .inl (.int p1)] m3 (ch_oi (fun (r10 : Int32) (m11 : ch_M) => (ch_C g m_i_bitCount [.inl (.int r10)] m11 (ch_oi (fun (r12 : Int32) (m13 : ch_M) => Q (.inl (some (.inl (.int r12)))) m13))))))) ∧ (p2 = 4 → ch_J g m_m_childOf (ch_rm m_m_childOf) (ch_E g m_m_childOf Q) 83 [some (.inr (9, 0, 0)), some (.inl (.int p1)), some (.inl (.int p2)), some (.inl (.int 0)), some (.inl (.int 0))] [] m3 0) ∧ (p2 = 5 → (ch_C g m_m_of [.inr (9, 0, 0), .inl (.int p1), .inl (.int 3)] m3 (ch_oi (fun (r14 : Int32) (m15 : ch_M) => Q (.inl (some (.inl (.int r14)))) m15)))) ∧ (p2 = 6 → (ch_C g m_m_of [.inr (9, 0, 0), .inl (.int p1), .inl (.int 4)] m3 (ch_oi (fun (r16 : Int32) (m17 : ch_M) => Q (.inl (some (.inl (.int r16)))) m17)))) ∧ ((Int32.toInt p2 < 0 ∨ 6 < Int32.toInt p2) → (ch_C g m_m_raises [.inr (9, 0, 0), .inl (.int 2)] m3 (ch_oi (fun (r18 : Int32) (m19 : ch_M) => Q (.inl (some (.inl (.int r18)))) m19)))))) ∧ (r2 = 0 → (ch_C g m_m_raises [.inr (9, 0, 0), .inl (.int 1)] m3 (ch_oi (fun (r20 : Int32) (m21 : ch_M) => Q (.inl (some (.inl (.int r20)))) m21)))))))))) : ch_J g m_m_childOf (ch_rm m_m_childOf) (ch_E g m_m_childOf Q) 0 [some (.inr (9, 0, 0)), some (.inl (.int p1)), some (.inl (.int p2)), none, none] [] m 0 := by
  refine ch_aload_n (i := 0) d_m_childOf_0 rfl rfl ?_
  refine ch_iconst (v := 0) d_m_childOf_1 (by decide) ?_
  refine ch_put d_m_childOf_2 fp_m_48 rfl rfl rfl ?_
  generalize hmm1 : ch_wr m (9, 0, 0) 19 0 = m1
  replace h := h m1 hmm1.symm
  refine ch_aload_n (i := 0) d_m_childOf_5 rfl rfl ?_
  refine ch_iload_n (i := 1) d_m_childOf_6 rfl rfl ?_
  refine ch_callV (as := [.inl (.int p1)]) d_m_childOf_7 lk_m_77 mi_m_isChild me_m_isChild rfl rfl rfl ⟨Nat.le_of_ble_eq_true rfl, Nat.le_of_ble_eq_true rfl⟩ (Nat.le_of_ble_eq_true rfl) ⟨Nat.le_of_ble_eq_true rfl, Nat.le_of_ble_eq_true rfl⟩ (ch_mono (ch_Ki (fun r2 m3 h => ?_)) h)
  refine ch_if_ne (tgt := 19) d_m_childOf_10 (by decide) (fun c => ?_) (fun c => ?_)
  · replace h := h.1 c
    refine ch_iconst (v := 0) d_m_childOf_19 (by decide) ?_
    refine ch_istore_n (i := 3) d_m_childOf_20 rfl (Nat.le_of_ble_eq_true rfl) (ls' := [some (.inr (9, 0, 0)), some (.inl (.int p1)), some (.inl (.int p2)), some (.inl (.int 0)), none]) rfl ?_
    refine ch_iload_n (i := 2) d_m_childOf_21 rfl rfl ?_
    by_cases e0 : p2 = 0
    · replace h := h.1 e0
      refine ch_tswIn (tgt := 64) (off := 42) d_m_childOf_22 (by rw [e0]; decide) (by rw [e0]; decide) (by rw [e0]; rfl) (by decide) ?_
      refine ch_aload_n (i := 0) d_m_childOf_64 rfl rfl ?_
      refine ch_iload_n (i := 1) d_m_childOf_65 rfl rfl ?_
      refine ch_iload_n (i := 2) d_m_childOf_66 rfl rfl ?_
      refine ch_callV (as := [.inl (.int p1), .inl (.int p2)]) d_m_childOf_67 lk_m_85 mi_m_of me_m_of rfl rfl rfl ⟨Nat.le_of_ble_eq_true rfl, Nat.le_of_ble_eq_true rfl⟩ (Nat.le_of_ble_eq_true rfl) ⟨Nat.le_of_ble_eq_true rfl, Nat.le_of_ble_eq_true rfl⟩ (ch_mono (ch_Ki (fun r4 m5 h => ?_)) h)
      exact ch_iret (ty := .int) d_m_childOf_70 rfl rfl (Nat.le_of_ble_eq_true rfl) h
    replace h := h.2
    by_cases e1 : p2 = 1
    · replace h := h.1 e1
      refine ch_tswIn (tgt := 64) (off := 42) d_m_childOf_22 (by rw [e1]; decide) (by rw [e1]; decide) (by rw [e1]; rfl) (by decide) ?_
      refine ch_aload_n (i := 0) d_m_childOf_64 rfl rfl ?_
      refine ch_iload_n (i := 1) d_m_childOf_65 rfl rfl ?_
      refine ch_iload_n (i := 2) d_m_childOf_66 rfl rfl ?_
      refine ch_callV (as := [.inl (.int p1), .inl (.int p2)]) d_m_childOf_67 lk_m_85 mi_m_of me_m_of rfl rfl rfl ⟨Nat.le_of_ble_eq_true rfl, Nat.le_of_ble_eq_true rfl⟩ (Nat.le_of_ble_eq_true rfl) ⟨Nat.le_of_ble_eq_true rfl, Nat.le_of_ble_eq_true rfl⟩ (ch_mono (ch_Ki (fun r6 m7 h => ?_)) h)
      exact ch_iret (ty := .int) d_m_childOf_70 rfl rfl (Nat.le_of_ble_eq_true rfl) h
    replace h := h.2
    by_cases e2 : p2 = 2
    · replace h := h.1 e2
      refine ch_tswIn (tgt := 64) (off := 42) d_m_childOf_22 (by rw [e2]; decide) (by rw [e2]; decide) (by rw [e2]; rfl) (by decide) ?_
      refine ch_aload_n (i := 0) d_m_childOf_64 rfl rfl ?_
      refine ch_iload_n (i := 1) d_m_childOf_65 rfl rfl ?_
      refine ch_iload_n (i := 2) d_m_childOf_66 rfl rfl ?_
      refine ch_callV (as := [.inl (.int p1), .inl (.int p2)]) d_m_childOf_67 lk_m_85 mi_m_of me_m_of rfl rfl rfl ⟨Nat.le_of_ble_eq_true rfl, Nat.le_of_ble_eq_true rfl⟩ (Nat.le_of_ble_eq_true rfl) ⟨Nat.le_of_ble_eq_true rfl, Nat.le_of_ble_eq_true rfl⟩ (ch_mono (ch_Ki (fun r8 m9 h => ?_)) h)
      exact ch_iret (ty := .int) d_m_childOf_70 rfl rfl (Nat.le_of_ble_eq_true rfl) h
    replace h := h.2
    by_cases e3 : p2 = 3
    · replace h := h.1 e3
      refine ch_tswIn (tgt := 71) (off := 49) d_m_childOf_22 (by rw [e3]; decide) (by rw [e3]; decide) (by rw [e3]; rfl) (by decide) ?_
      refine ch_aload_n (i := 0) d_m_childOf_71 rfl rfl ?_
      refine ch_iload_n (i := 1) d_m_childOf_72 rfl rfl ?_
      refine ch_callV (as := [.inl (.int p1)]) d_m_childOf_73 lk_m_182 mi_m_ownSet me_m_ownSet rfl rfl rfl ⟨Nat.le_of_ble_eq_true rfl, Nat.le_of_ble_eq_true rfl⟩ (Nat.le_of_ble_eq_true rfl) ⟨Nat.le_of_ble_eq_true rfl, Nat.le_of_ble_eq_true rfl⟩ (ch_mono (ch_Ki (fun r10 m11 h => ?_)) h)
      refine ch_callS (as := [.inl (.int r10)]) d_m_childOf_76 lk_m_171 ms_i_bitCount rfl rfl ⟨Nat.le_of_ble_eq_true rfl, Nat.le_of_ble_eq_true rfl⟩ (Nat.le_of_ble_eq_true rfl) ⟨Nat.le_of_ble_eq_true rfl, Nat.le_of_ble_eq_true rfl⟩ (ch_mono (ch_Ki (fun r12 m13 h => ?_)) h)
      exact ch_iret (ty := .int) d_m_childOf_79 rfl rfl (Nat.le_of_ble_eq_true rfl) h
    replace h := h.2
    by_cases e4 : p2 = 4
    · replace h := h.1 e4
      refine ch_tswIn (tgt := 80) (off := 58) d_m_childOf_22 (by rw [e4]; decide) (by rw [e4]; decide) (by rw [e4]; rfl) (by decide) ?_
      refine ch_iconst (v := 0) d_m_childOf_80 (by decide) ?_
      refine ch_istore (i := 4) d_m_childOf_81 (Nat.le_of_ble_eq_true rfl) (ls' := [some (.inr (9, 0, 0)), some (.inl (.int p1)), some (.inl (.int p2)), some (.inl (.int 0)), some (.inl (.int 0))]) rfl ?_
      exact h
    replace h := h.2
    by_cases e5 : p2 = 5
    · replace h := h.1 e5
      refine ch_tswIn (tgt := 117) (off := 95) d_m_childOf_22 (by rw [e5]; decide) (by rw [e5]; decide) (by rw [e5]; rfl) (by decide) ?_
      refine ch_aload_n (i := 0) d_m_childOf_117 rfl rfl ?_
      refine ch_iload_n (i := 1) d_m_childOf_118 rfl rfl ?_
      refine ch_iconst (v := 3) d_m_childOf_119 (by decide) ?_
      refine ch_callV (as := [.inl (.int p1), .inl (.int 3)]) d_m_childOf_120 lk_m_85 mi_m_of me_m_of rfl rfl rfl ⟨Nat.le_of_ble_eq_true rfl, Nat.le_of_ble_eq_true rfl⟩ (Nat.le_of_ble_eq_true rfl) ⟨Nat.le_of_ble_eq_true rfl, Nat.le_of_ble_eq_true rfl⟩ (ch_mono (ch_Ki (fun r14 m15 h => ?_)) h)
      exact ch_iret (ty := .int) d_m_childOf_123 rfl rfl (Nat.le_of_ble_eq_true rfl) h
    replace h := h.2
    by_cases e6 : p2 = 6
    · replace h := h.1 e6
      refine ch_tswIn (tgt := 124) (off := 102) d_m_childOf_22 (by rw [e6]; decide) (by rw [e6]; decide) (by rw [e6]; rfl) (by decide) ?_
      refine ch_aload_n (i := 0) d_m_childOf_124 rfl rfl ?_
      refine ch_iload_n (i := 1) d_m_childOf_125 rfl rfl ?_
      refine ch_iconst (v := 4) d_m_childOf_126 (by decide) ?_
      refine ch_callV (as := [.inl (.int p1), .inl (.int 4)]) d_m_childOf_127 lk_m_85 mi_m_of me_m_of rfl rfl rfl ⟨Nat.le_of_ble_eq_true rfl, Nat.le_of_ble_eq_true rfl⟩ (Nat.le_of_ble_eq_true rfl) ⟨Nat.le_of_ble_eq_true rfl, Nat.le_of_ble_eq_true rfl⟩ (ch_mono (ch_Ki (fun r16 m17 h => ?_)) h)
      exact ch_iret (ty := .int) d_m_childOf_130 rfl rfl (Nat.le_of_ble_eq_true rfl) h
    replace h := h.2
    have hx : (Int32.toInt p2 < 0 ∨ 6 < Int32.toInt p2) := by
      have f0 : Int32.toInt p2 ≠ 0 := fun q => e0 (Int32.toInt_inj.mp (q.trans (by decide)))
      have f1 : Int32.toInt p2 ≠ 1 := fun q => e1 (Int32.toInt_inj.mp (q.trans (by decide)))
      have f2 : Int32.toInt p2 ≠ 2 := fun q => e2 (Int32.toInt_inj.mp (q.trans (by decide)))
      have f3 : Int32.toInt p2 ≠ 3 := fun q => e3 (Int32.toInt_inj.mp (q.trans (by decide)))
      have f4 : Int32.toInt p2 ≠ 4 := fun q => e4 (Int32.toInt_inj.mp (q.trans (by decide)))
      have f5 : Int32.toInt p2 ≠ 5 := fun q => e5 (Int32.toInt_inj.mp (q.trans (by decide)))
      have f6 : Int32.toInt p2 ≠ 6 := fun q => e6 (Int32.toInt_inj.mp (q.trans (by decide)))
      omega
    replace h := h hx
    refine ch_tswOut (tgt := 131) d_m_childOf_22 hx (by decide) ?_
    refine ch_aload_n (i := 0) d_m_childOf_131 rfl rfl ?_
    refine ch_iconst (v := 2) d_m_childOf_132 (by decide) ?_
    refine ch_callV (as := [.inl (.int 2)]) d_m_childOf_133 lk_m_70 mi_m_raises me_m_raises rfl rfl rfl ⟨Nat.le_of_ble_eq_true rfl, Nat.le_of_ble_eq_true rfl⟩ (Nat.le_of_ble_eq_true rfl) ⟨Nat.le_of_ble_eq_true rfl, Nat.le_of_ble_eq_true rfl⟩ (ch_mono (ch_Ki (fun r18 m19 h => ?_)) h)
    exact ch_iret (ty := .int) d_m_childOf_136 rfl rfl (Nat.le_of_ble_eq_true rfl) h
  · replace h := h.2 c
    refine ch_aload_n (i := 0) d_m_childOf_13 rfl rfl ?_
    refine ch_iconst (v := 1) d_m_childOf_14 (by decide) ?_
    refine ch_callV (as := [.inl (.int 1)]) d_m_childOf_15 lk_m_70 mi_m_raises me_m_raises rfl rfl rfl ⟨Nat.le_of_ble_eq_true rfl, Nat.le_of_ble_eq_true rfl⟩ (Nat.le_of_ble_eq_true rfl) ⟨Nat.le_of_ble_eq_true rfl, Nat.le_of_ble_eq_true rfl⟩ (ch_mono (ch_Ki (fun r20 m21 h => ?_)) h)
    exact ch_iret (ty := .int) d_m_childOf_18 rfl rfl (Nat.le_of_ble_eq_true rfl) h
set_option maxHeartbeats 1600000 in
theorem g_m_childOf_83 (g : ch_G) (Q : ch_O → ch_M → Prop) (x1 : Int32) (x2 : Int32) (x3 : Int32) (x4 : Int32) (m : ch_M) (h : ((12 ≤ x4 → Q (.inl (some (.inl (.int x3)))) m) ∧ (¬ 12 ≤ x4 → (ch_C g m_m_owner [.inr (9, 0, 0), .inl (.int x4)] m (ch_oi (fun (r1 : Int32) (m2 : ch_M) => ((¬ r1 = x1 → ch_J g m_m_childOf (ch_rm m_m_childOf) (ch_E g m_m_childOf Q) 83 [some (.inr (9, 0, 0)), some (.inl (.int x1)), some (.inl (.int x2)), some (.inl (.int x3)), some (.inl (.int (x4 + 1)))] [] m2 0) ∧ (r1 = x1 → (ch_C g m_m_chalkOf [.inr (9, 0, 0), .inl (.int x4)] m2 (ch_oi (fun (r3 : Int32) (m4 : ch_M) => ch_J g m_m_childOf (ch_rm m_m_childOf) (ch_E g m_m_childOf Q) 83 [some (.inr (9, 0, 0)), some (.inl (.int x1)), some (.inl (.int x2)), some (.inl (.int (x3 + r3))), some (.inl (.int (x4 + 1)))] [] m4 0))))))))))) : ch_J g m_m_childOf (ch_rm m_m_childOf) (ch_E g m_m_childOf Q) 83 [some (.inr (9, 0, 0)), some (.inl (.int x1)), some (.inl (.int x2)), some (.inl (.int x3)), some (.inl (.int x4))] [] m 0 := by
  refine ch_iload d_m_childOf_83 rfl ?_
  refine ch_bipush (v := 12) d_m_childOf_85 (by decide) ?_
  refine ch_icmp_ge (tgt := 115) d_m_childOf_87 (by decide) (fun c => ?_) (fun c => ?_)
  · replace h := h.1 c
    refine ch_iload_n (i := 3) d_m_childOf_115 rfl rfl ?_
    exact ch_iret (ty := .int) d_m_childOf_116 rfl rfl (Nat.le_of_ble_eq_true rfl) h
  · replace h := h.2 c
    refine ch_aload_n (i := 0) d_m_childOf_90 rfl rfl ?_
    refine ch_iload d_m_childOf_91 rfl ?_
    refine ch_callV (as := [.inl (.int x4)]) d_m_childOf_93 lk_m_109 mi_m_owner me_m_owner rfl rfl rfl ⟨Nat.le_of_ble_eq_true rfl, Nat.le_of_ble_eq_true rfl⟩ (Nat.le_of_ble_eq_true rfl) ⟨Nat.le_of_ble_eq_true rfl, Nat.le_of_ble_eq_true rfl⟩ (ch_mono (ch_Ki (fun r1 m2 h => ?_)) h)
    refine ch_iload_n (i := 1) d_m_childOf_96 rfl rfl ?_
    refine ch_icmp_ne (tgt := 109) d_m_childOf_97 (by decide) (fun c => ?_) (fun c => ?_)
    · replace h := h.1 c
      refine ch_iinc (i := 4) (v := (x4 + 1)) d_m_childOf_109 rfl rfl (Nat.le_of_ble_eq_true rfl) (ls' := [some (.inr (9, 0, 0)), some (.inl (.int x1)), some (.inl (.int x2)), some (.inl (.int x3)), some (.inl (.int (x4 + 1)))]) rfl ?_
      refine ch_goto (tgt := 83) d_m_childOf_112 (by decide) ?_
      exact h
    · replace h := h.2 c
      refine ch_iload_n (i := 3) d_m_childOf_100 rfl rfl ?_
      refine ch_aload_n (i := 0) d_m_childOf_101 rfl rfl ?_
      refine ch_iload d_m_childOf_102 rfl ?_
      refine ch_callV (as := [.inl (.int x4)]) d_m_childOf_104 lk_m_112 mi_m_chalkOf me_m_chalkOf rfl rfl rfl ⟨Nat.le_of_ble_eq_true rfl, Nat.le_of_ble_eq_true rfl⟩ (Nat.le_of_ble_eq_true rfl) ⟨Nat.le_of_ble_eq_true rfl, Nat.le_of_ble_eq_true rfl⟩ (ch_mono (ch_Ki (fun r3 m4 h => ?_)) h)
      refine ch_iadd d_m_childOf_107 ?_
      refine ch_istore_n (i := 3) d_m_childOf_108 rfl (Nat.le_of_ble_eq_true rfl) (ls' := [some (.inr (9, 0, 0)), some (.inl (.int x1)), some (.inl (.int x2)), some (.inl (.int (x3 + r3))), some (.inl (.int x4))]) rfl ?_
      refine ch_iinc (i := 4) (v := (x4 + 1)) d_m_childOf_109 rfl rfl (Nat.le_of_ble_eq_true rfl) (ls' := [some (.inr (9, 0, 0)), some (.inl (.int x1)), some (.inl (.int x2)), some (.inl (.int (x3 + r3))), some (.inl (.int (x4 + 1)))]) rfl ?_
      refine ch_goto (tgt := 83) d_m_childOf_112 (by decide) ?_
      exact h
theorem e_m_squares (g : ch_G) (Q : ch_O → ch_M → Prop) (p1 : Int32) (m : ch_M) (h : ch_J g m_m_squares (ch_rm m_m_squares) (ch_E g m_m_squares Q) 0 [some (.inr (9, 0, 0)), some (.inl (.int p1))] [] m 0) : ch_C g m_m_squares [.inr (9, 0, 0), .inl (.int p1)] m Q :=
  ch_enter mf_m_squares (by intro v hv; simp only [List.mem_cons, List.not_mem_nil, or_false] at hv; rcases hv with rfl | rfl <;> rfl) (Nat.le_of_ble_eq_true rfl) h
set_option maxHeartbeats 1600000 in
theorem g_m_squares_0 (g : ch_G) (Q : ch_O → ch_M → Prop) (p1 : Int32) (m : ch_M) (h : (ch_C g m_m_isChild [.inr (9, 0, 0), .inl (.int p1)] m (ch_oi (fun (r1 : Int32) (m2 : ch_M) => ((r1 = 0 → (∀ m3 : ch_M, m3 = ch_wr m2 (9, 0, 0) 19 1 → ((¬ (m3 (9, 0, 0) 19) = 0 → Q (.inl (some (.inl (.int 0)))) m3) ∧ ((m3 (9, 0, 0) 19) = 0 → (ch_C g m_m_ownSet [.inr (9, 0, 0), .inl (.int p1)] m3 (ch_oi (fun (r4 : Int32) (m5 : ch_M) => Q (.inl (some (.inl (.int r4)))) m5))))))) ∧ (¬ r1 = 0 → (∀ m6 : ch_M, m6 = ch_wr m2 (9, 0, 0) 19 0 → ((¬ (m6 (9, 0, 0) 19) = 0 → Q (.inl (some (.inl (.int 0)))) m6) ∧ ((m6 (9, 0, 0) 19) = 0 → (ch_C g m_m_ownSet [.inr (9, 0, 0), .inl (.int p1)] m6 (ch_oi (fun (r7 : Int32) (m8 : ch_M) => Q (.inl (some (.inl (.int r7)))) m8)))))))))))) : ch_J g m_m_squares (ch_rm m_m_squares) (ch_E g m_m_squares Q) 0 [some (.inr (9, 0, 0)), some (.inl (.int p1))] [] m 0 := by
  refine ch_aload_n (i := 0) d_m_squares_0 rfl rfl ?_
  refine ch_aload_n (i := 0) d_m_squares_1 rfl rfl ?_
  refine ch_iload_n (i := 1) d_m_squares_2 rfl rfl ?_
  refine ch_callV (as := [.inl (.int p1)]) d_m_squares_3 lk_m_77 mi_m_isChild me_m_isChild rfl rfl rfl ⟨Nat.le_of_ble_eq_true rfl, Nat.le_of_ble_eq_true rfl⟩ (Nat.le_of_ble_eq_true rfl) ⟨Nat.le_of_ble_eq_true rfl, Nat.le_of_ble_eq_true rfl⟩ (ch_mono (ch_Ki (fun r1 m2 h => ?_)) h)
  refine ch_if_eq (tgt := 13) d_m_squares_6 (by decide) (fun c => ?_) (fun c => ?_)
  · replace h := h.1 c
    refine ch_iconst (v := 1) d_m_squares_13 (by decide) ?_
    refine ch_put d_m_squares_14 fp_m_48 rfl rfl rfl ?_
    generalize hmm3 : ch_wr m2 (9, 0, 0) 19 1 = m3
    replace h := h m3 hmm3.symm
    refine ch_aload_n (i := 0) d_m_squares_17 rfl rfl ?_
    refine ch_get (v := .inl (.int (m3 (9, 0, 0) 19))) d_m_squares_18 fl_m_48 rfl ?_
    refine ch_if_ne (tgt := 32) d_m_squares_21 (by decide) (fun c => ?_) (fun c => ?_)
    · replace h := h.1 c
      refine ch_iconst (v := 0) d_m_squares_32 (by decide) ?_
      exact ch_iret (ty := .int) d_m_squares_33 rfl rfl (Nat.le_of_ble_eq_true rfl) h
    · replace h := h.2 c
      refine ch_aload_n (i := 0) d_m_squares_24 rfl rfl ?_
      refine ch_iload_n (i := 1) d_m_squares_25 rfl rfl ?_
      refine ch_callV (as := [.inl (.int p1)]) d_m_squares_26 lk_m_182 mi_m_ownSet me_m_ownSet rfl rfl rfl ⟨Nat.le_of_ble_eq_true rfl, Nat.le_of_ble_eq_true rfl⟩ (Nat.le_of_ble_eq_true rfl) ⟨Nat.le_of_ble_eq_true rfl, Nat.le_of_ble_eq_true rfl⟩ (ch_mono (ch_Ki (fun r4 m5 h => ?_)) h)
      refine ch_goto (tgt := 33) d_m_squares_29 (by decide) ?_
      exact ch_iret (ty := .int) d_m_squares_33 rfl rfl (Nat.le_of_ble_eq_true rfl) h
  · replace h := h.2 c
    refine ch_iconst (v := 0) d_m_squares_9 (by decide) ?_
    refine ch_goto (tgt := 14) d_m_squares_10 (by decide) ?_
    refine ch_put d_m_squares_14 fp_m_48 rfl rfl rfl ?_
    generalize hmm6 : ch_wr m2 (9, 0, 0) 19 0 = m6
    replace h := h m6 hmm6.symm
    refine ch_aload_n (i := 0) d_m_squares_17 rfl rfl ?_
    refine ch_get (v := .inl (.int (m6 (9, 0, 0) 19))) d_m_squares_18 fl_m_48 rfl ?_
    refine ch_if_ne (tgt := 32) d_m_squares_21 (by decide) (fun c => ?_) (fun c => ?_)
    · replace h := h.1 c
      refine ch_iconst (v := 0) d_m_squares_32 (by decide) ?_
      exact ch_iret (ty := .int) d_m_squares_33 rfl rfl (Nat.le_of_ble_eq_true rfl) h
    · replace h := h.2 c
      refine ch_aload_n (i := 0) d_m_squares_24 rfl rfl ?_
      refine ch_iload_n (i := 1) d_m_squares_25 rfl rfl ?_
      refine ch_callV (as := [.inl (.int p1)]) d_m_squares_26 lk_m_182 mi_m_ownSet me_m_ownSet rfl rfl rfl ⟨Nat.le_of_ble_eq_true rfl, Nat.le_of_ble_eq_true rfl⟩ (Nat.le_of_ble_eq_true rfl) ⟨Nat.le_of_ble_eq_true rfl, Nat.le_of_ble_eq_true rfl⟩ (ch_mono (ch_Ki (fun r7 m8 h => ?_)) h)
      refine ch_goto (tgt := 33) d_m_squares_29 (by decide) ?_
      exact ch_iret (ty := .int) d_m_squares_33 rfl rfl (Nat.le_of_ble_eq_true rfl) h
theorem e_m_warrantAt (g : ch_G) (Q : ch_O → ch_M → Prop) (p1 : Int32) (m : ch_M) (h : ch_J g m_m_warrantAt (ch_rm m_m_warrantAt) (ch_E g m_m_warrantAt Q) 0 [some (.inr (9, 0, 0)), some (.inl (.int p1))] [] m 0) : ch_C g m_m_warrantAt [.inr (9, 0, 0), .inl (.int p1)] m Q :=
  ch_enter mf_m_warrantAt (by intro v hv; simp only [List.mem_cons, List.not_mem_nil, or_false] at hv; rcases hv with rfl | rfl <;> rfl) (Nat.le_of_ble_eq_true rfl) h
set_option maxHeartbeats 1600000 in
theorem g_m_warrantAt_0 (g : ch_G) (Q : ch_O → ch_M → Prop) (p1 : Int32) (m : ch_M) (h : (ch_C g m_m_in [.inl (.int p1), .inl (.int 0), .inl (.int ((m (9, 0, 1) (8)) - 1))] m (ch_oi (fun (r1 : Int32) (m2 : ch_M) => ((r1 = 0 → (∀ m3 : ch_M, m3 = ch_wr m2 (9, 0, 0) 19 1 → ((¬ (m3 (9, 0, 0) 19) = 0 → Q (.inl (some (.inl (.int 0)))) m3) ∧ ((m3 (9, 0, 0) 19) = 0 → (vp_in (9 + p1) 63) ∧ Q (.inl (some (.inl (.int (m3 (9, 0, 1) (Int32.toNatClampNeg (9 + p1))))))) m3)))) ∧ (¬ r1 = 0 → (∀ m5 : ch_M, m5 = ch_wr m2 (9, 0, 0) 19 0 → ((¬ (m5 (9, 0, 0) 19) = 0 → Q (.inl (some (.inl (.int 0)))) m5) ∧ ((m5 (9, 0, 0) 19) = 0 → (vp_in (9 + p1) 63) ∧ Q (.inl (some (.inl (.int (m5 (9, 0, 1) (Int32.toNatClampNeg (9 + p1))))))) m5))))))))) : ch_J g m_m_warrantAt (ch_rm m_m_warrantAt) (ch_E g m_m_warrantAt Q) 0 [some (.inr (9, 0, 0)), some (.inl (.int p1))] [] m 0 := by
  refine ch_aload_n (i := 0) d_m_warrantAt_0 rfl rfl ?_
  refine ch_iload_n (i := 1) d_m_warrantAt_1 rfl rfl ?_
  refine ch_iconst (v := 0) d_m_warrantAt_2 (by decide) ?_
  refine ch_aload_n (i := 0) d_m_warrantAt_3 rfl rfl ?_
  refine ch_get (v := .inr (9, 0, 1)) d_m_warrantAt_4 fl_m_9 rfl ?_
  refine ch_bipush (v := 8) d_m_warrantAt_7 (by decide) ?_
  refine ch_iald (n := 63) d_m_warrantAt_9 (by decide) rfl (vp_in_nI (n := 8) (by decide) (by decide)) ?_
  refine ch_iconst (v := 1) d_m_warrantAt_10 (by decide) ?_
  refine ch_isub d_m_warrantAt_11 ?_
  refine ch_callS (as := [.inl (.int p1), .inl (.int 0), .inl (.int ((m (9, 0, 1) (8)) - 1))]) d_m_warrantAt_12 lk_m_73 ms_m_in rfl rfl ⟨Nat.le_of_ble_eq_true rfl, Nat.le_of_ble_eq_true rfl⟩ (Nat.le_of_ble_eq_true rfl) ⟨Nat.le_of_ble_eq_true rfl, Nat.le_of_ble_eq_true rfl⟩ (ch_mono (ch_Ki (fun r1 m2 h => ?_)) h)
  refine ch_if_eq (tgt := 22) d_m_warrantAt_15 (by decide) (fun c => ?_) (fun c => ?_)
  · replace h := h.1 c
    refine ch_iconst (v := 1) d_m_warrantAt_22 (by decide) ?_
    refine ch_put d_m_warrantAt_23 fp_m_48 rfl rfl rfl ?_
    generalize hmm3 : ch_wr m2 (9, 0, 0) 19 1 = m3
    replace h := h m3 hmm3.symm
    refine ch_aload_n (i := 0) d_m_warrantAt_26 rfl rfl ?_
    refine ch_get (v := .inl (.int (m3 (9, 0, 0) 19))) d_m_warrantAt_27 fl_m_48 rfl ?_
    refine ch_if_ne (tgt := 45) d_m_warrantAt_30 (by decide) (fun c => ?_) (fun c => ?_)
    · replace h := h.1 c
      refine ch_iconst (v := 0) d_m_warrantAt_45 (by decide) ?_
      exact ch_iret (ty := .int) d_m_warrantAt_46 rfl rfl (Nat.le_of_ble_eq_true rfl) h
    · replace h := h.2 c
      refine ch_aload_n (i := 0) d_m_warrantAt_33 rfl rfl ?_
      refine ch_get (v := .inr (9, 0, 1)) d_m_warrantAt_34 fl_m_9 rfl ?_
      refine ch_bipush (v := 9) d_m_warrantAt_37 (by decide) ?_
      refine ch_iload_n (i := 1) d_m_warrantAt_39 rfl rfl ?_
      refine ch_iadd d_m_warrantAt_40 ?_
      have b4 := h.1
      replace h := h.2
      refine ch_iald (n := 63) d_m_warrantAt_41 (by decide) rfl b4 ?_
      refine ch_goto (tgt := 46) d_m_warrantAt_42 (by decide) ?_
      exact ch_iret (ty := .int) d_m_warrantAt_46 rfl rfl (Nat.le_of_ble_eq_true rfl) h
  · replace h := h.2 c
    refine ch_iconst (v := 0) d_m_warrantAt_18 (by decide) ?_
    refine ch_goto (tgt := 23) d_m_warrantAt_19 (by decide) ?_
    refine ch_put d_m_warrantAt_23 fp_m_48 rfl rfl rfl ?_
    generalize hmm5 : ch_wr m2 (9, 0, 0) 19 0 = m5
    replace h := h m5 hmm5.symm
    refine ch_aload_n (i := 0) d_m_warrantAt_26 rfl rfl ?_
    refine ch_get (v := .inl (.int (m5 (9, 0, 0) 19))) d_m_warrantAt_27 fl_m_48 rfl ?_
    refine ch_if_ne (tgt := 45) d_m_warrantAt_30 (by decide) (fun c => ?_) (fun c => ?_)
    · replace h := h.1 c
      refine ch_iconst (v := 0) d_m_warrantAt_45 (by decide) ?_
      exact ch_iret (ty := .int) d_m_warrantAt_46 rfl rfl (Nat.le_of_ble_eq_true rfl) h
    · replace h := h.2 c
      refine ch_aload_n (i := 0) d_m_warrantAt_33 rfl rfl ?_
      refine ch_get (v := .inr (9, 0, 1)) d_m_warrantAt_34 fl_m_9 rfl ?_
      refine ch_bipush (v := 9) d_m_warrantAt_37 (by decide) ?_
      refine ch_iload_n (i := 1) d_m_warrantAt_39 rfl rfl ?_
      refine ch_iadd d_m_warrantAt_40 ?_
      have b6 := h.1
      replace h := h.2
      refine ch_iald (n := 63) d_m_warrantAt_41 (by decide) rfl b6 ?_
      refine ch_goto (tgt := 46) d_m_warrantAt_42 (by decide) ?_
      exact ch_iret (ty := .int) d_m_warrantAt_46 rfl rfl (Nat.le_of_ble_eq_true rfl) h
