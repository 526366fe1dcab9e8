theorem e_x_childOf (g : ch_G) (Q : ch_O → ch_M → Prop) (p1 : Int32) (p2 : Int32) (m : ch_M) (h : ch_J g m_x_childOf (ch_rm m_x_childOf) (ch_E g m_x_childOf Q) 0 [some (.inr (0, 0, 0)), some (.inl (.int p1)), some (.inl (.int p2))] [] m 0) : ch_C g m_x_childOf [.inr (0, 0, 0), .inl (.int p1), .inl (.int p2)] m Q :=
  ch_enter mf_x_childOf (by intro v hv; simp only [List.mem_cons, List.not_mem_nil, or_false] at hv; rcases hv with rfl | rfl | rfl <;> rfl) (Nat.le_of_ble_eq_true rfl) h
set_option maxHeartbeats 1600000 in
theorem g_x_childOf_0 (g : ch_G) (Q : ch_O → ch_M → Prop) (p1 : Int32) (p2 : Int32) (m : ch_M) (h : (((0 ≤ p1 ∧ p1 < m (1, 0, 0) 8) → ((p2 = 0 → (vp_in p1 5) ∧ Q (.inl (some (.inl (.int (m (1, 0, 3) (Int32.toNatClampNeg p1)))))) m) ∧ (p2 = 1 → (vp_in p1 5) ∧ Q (.inl (some (.inl (.int (m (1, 0, 4) (Int32.toNatClampNeg p1)))))) m) ∧ (p2 = 2 → (vp_in p1 5) ∧ Q (.inl (some (.inl (.int (m (1, 0, 5) (Int32.toNatClampNeg p1)))))) m) ∧ (p2 = 3 → (Q (.inl (some (.inl (.int (ch_cnO (m (1, 0, 1)) p1 12))))) m)) ∧ (p2 = 4 → (Q (.inl (some (.inl (.int (y_scO (m (1, 0, 1)) (m (1, 0, 2)) p1 12))))) m)) ∧ (p2 = 5 → (vp_in p1 5) ∧ Q (.inl (some (.inl (.int (m (1, 0, 6) (Int32.toNatClampNeg p1)))))) m) ∧ (p2 = 6 → (vp_in p1 5) ∧ Q (.inl (some (.inl (.int (m (1, 0, 7) (Int32.toNatClampNeg p1)))))) m) ∧ ((Int32.toInt p2 < 0 ∨ 6 < Int32.toInt p2) → Q (.inr 2) m))) ∧ ((¬ (0 ≤ p1 ∧ p1 < m (1, 0, 0) 8)) → Q (.inr 1) m))) : ch_J g m_x_childOf (ch_rm m_x_childOf) (ch_E g m_x_childOf Q) 0 [some (.inr (0, 0, 0)), some (.inl (.int p1)), some (.inl (.int p2))] [] m 0 := by
  refine ch_aload_n (i := 0) d_x_childOf_0 rfl rfl ?_
  refine ch_iload_n (i := 1) d_x_childOf_1 rfl rfl ?_
  refine ch_callV (as := [.inl (.int p1)]) d_x_childOf_2 lk_x_106 mi_x_checkChild me_x_checkChild rfl rfl rfl ⟨Nat.le_of_ble_eq_true rfl, Nat.le_of_ble_eq_true rfl⟩ (Nat.le_of_ble_eq_true rfl) ⟨Nat.le_of_ble_eq_true rfl, Nat.le_of_ble_eq_true rfl⟩ (ch_mono (ch_Kx (ch_Kv (fun m2 q3 => ?_)) (fun n4 m5 hn_ q3 => ?_)) (s_x_checkChild g (fun (m_ : ch_M) => ((0 ≤ p1 ∧ p1 < m (1, 0, 0) 8) ∧ m = m_)) (fun (n_ : Nat) (m_ : ch_M) => ((¬ (0 ≤ p1 ∧ p1 < m (1, 0, 0) 8)) ∧ n_ = 1 ∧ m = m_)) (p1) m ⟨(fun c_ => ⟨c_, rfl⟩), (fun c_ => ⟨c_, rfl, rfl⟩)⟩))
  · obtain ⟨c_, rfl⟩ := q3
    replace h := h.1 c_
    refine ch_iload_n (i := 2) d_x_childOf_5 rfl rfl ?_
    by_cases e0 : p2 = 0
    · replace h := h.1 e0
      refine ch_tswIn (tgt := 48) (off := 42) d_x_childOf_6 (by rw [e0]; decide) (by rw [e0]; decide) (by rw [e0]; rfl) (by decide) ?_
      refine ch_aload_n (i := 0) d_x_childOf_48 rfl rfl ?_
      refine ch_get (v := .inr (1, 0, 0)) d_x_childOf_49 fl_x_10 rfl ?_
      refine ch_get (v := .inr (1, 0, 3)) d_x_childOf_52 fl_x_109 rfl ?_
      refine ch_iload_n (i := 1) d_x_childOf_55 rfl rfl ?_
      have b6 := h.1
      replace h := h.2
      refine ch_iald (n := 5) d_x_childOf_56 (by decide) rfl b6 ?_
      exact ch_iret (ty := .int) d_x_childOf_57 rfl rfl (Nat.le_of_ble_eq_true rfl) h
    replace h := h.2
    by_cases e1 : p2 = 1
    · replace h := h.1 e1
      refine ch_tswIn (tgt := 58) (off := 52) d_x_childOf_6 (by rw [e1]; decide) (by rw [e1]; decide) (by rw [e1]; rfl) (by decide) ?_
      refine ch_aload_n (i := 0) d_x_childOf_58 rfl rfl ?_
      refine ch_get (v := .inr (1, 0, 0)) d_x_childOf_59 fl_x_10 rfl ?_
      refine ch_get (v := .inr (1, 0, 4)) d_x_childOf_62 fl_x_112 rfl ?_
      refine ch_iload_n (i := 1) d_x_childOf_65 rfl rfl ?_
      have b7 := h.1
      replace h := h.2
      refine ch_iald (n := 5) d_x_childOf_66 (by decide) rfl b7 ?_
      exact ch_iret (ty := .int) d_x_childOf_67 rfl rfl (Nat.le_of_ble_eq_true rfl) h
    replace h := h.2
    by_cases e2 : p2 = 2
    · replace h := h.1 e2
      refine ch_tswIn (tgt := 68) (off := 62) d_x_childOf_6 (by rw [e2]; decide) (by rw [e2]; decide) (by rw [e2]; rfl) (by decide) ?_
      refine ch_aload_n (i := 0) d_x_childOf_68 rfl rfl ?_
      refine ch_get (v := .inr (1, 0, 0)) d_x_childOf_69 fl_x_10 rfl ?_
      refine ch_get (v := .inr (1, 0, 5)) d_x_childOf_72 fl_x_115 rfl ?_
      refine ch_iload_n (i := 1) d_x_childOf_75 rfl rfl ?_
      have b8 := h.1
      replace h := h.2
      refine ch_iald (n := 5) d_x_childOf_76 (by decide) rfl b8 ?_
      exact ch_iret (ty := .int) d_x_childOf_77 rfl rfl (Nat.le_of_ble_eq_true rfl) h
    replace h := h.2
    by_cases e3 : p2 = 3
    · replace h := h.1 e3
      refine ch_tswIn (tgt := 78) (off := 72) d_x_childOf_6 (by rw [e3]; decide) (by rw [e3]; decide) (by rw [e3]; rfl) (by decide) ?_
      refine ch_aload_n (i := 0) d_x_childOf_78 rfl rfl ?_
      refine ch_get (v := .inr (1, 0, 0)) d_x_childOf_79 fl_x_10 rfl ?_
      refine ch_iload_n (i := 1) d_x_childOf_82 rfl rfl ?_
      refine ch_callV (as := [.inl (.int p1)]) d_x_childOf_83 lk_x_118 mi_y_countOwned me_y_countOwned rfl rfl rfl ⟨Nat.le_of_ble_eq_true rfl, Nat.le_of_ble_eq_true rfl⟩ (Nat.le_of_ble_eq_true rfl) ⟨Nat.le_of_ble_eq_true rfl, Nat.le_of_ble_eq_true rfl⟩ (ch_mono (ch_Ki (fun r9 m10 q11 => ?_)) (s_y_countOwned g (fun (r_ : Int32) (m_ : ch_M) => ((ch_cnO (m (1, 0, 1)) p1 12) = r_ ∧ m = m_)) (0) (p1) m ⟨rfl, rfl⟩))
      obtain ⟨rfl, rfl⟩ := q11
      replace h := h
      exact ch_iret (ty := .int) d_x_childOf_86 rfl rfl (Nat.le_of_ble_eq_true rfl) h
    replace h := h.2
    by_cases e4 : p2 = 4
    · replace h := h.1 e4
      refine ch_tswIn (tgt := 87) (off := 81) d_x_childOf_6 (by rw [e4]; decide) (by rw [e4]; decide) (by rw [e4]; rfl) (by decide) ?_
      refine ch_aload_n (i := 0) d_x_childOf_87 rfl rfl ?_
      refine ch_get (v := .inr (1, 0, 0)) d_x_childOf_88 fl_x_10 rfl ?_
      refine ch_iload_n (i := 1) d_x_childOf_91 rfl rfl ?_
      refine ch_callV (as := [.inl (.int p1)]) d_x_childOf_92 lk_x_122 mi_y_sumChalk me_y_sumChalk rfl rfl rfl ⟨Nat.le_of_ble_eq_true rfl, Nat.le_of_ble_eq_true rfl⟩ (Nat.le_of_ble_eq_true rfl) ⟨Nat.le_of_ble_eq_true rfl, Nat.le_of_ble_eq_true rfl⟩ (ch_mono (ch_Ki (fun r12 m13 q14 => ?_)) (s_y_sumChalk g (fun (r_ : Int32) (m_ : ch_M) => ((y_scO (m (1, 0, 1)) (m (1, 0, 2)) p1 12) = r_ ∧ m = m_)) (0) (p1) m ⟨rfl, rfl⟩))
      obtain ⟨rfl, rfl⟩ := q14
      replace h := h
      exact ch_iret (ty := .int) d_x_childOf_95 rfl rfl (Nat.le_of_ble_eq_true rfl) h
    replace h := h.2
    by_cases e5 : p2 = 5
    · replace h := h.1 e5
      refine ch_tswIn (tgt := 96) (off := 90) d_x_childOf_6 (by rw [e5]; decide) (by rw [e5]; decide) (by rw [e5]; rfl) (by decide) ?_
      refine ch_aload_n (i := 0) d_x_childOf_96 rfl rfl ?_
      refine ch_get (v := .inr (1, 0, 0)) d_x_childOf_97 fl_x_10 rfl ?_
      refine ch_get (v := .inr (1, 0, 6)) d_x_childOf_100 fl_x_125 rfl ?_
      refine ch_iload_n (i := 1) d_x_childOf_103 rfl rfl ?_
      have b15 := h.1
      replace h := h.2
      refine ch_iald (n := 5) d_x_childOf_104 (by decide) rfl b15 ?_
      exact ch_iret (ty := .int) d_x_childOf_105 rfl rfl (Nat.le_of_ble_eq_true rfl) h
    replace h := h.2
    by_cases e6 : p2 = 6
    · replace h := h.1 e6
      refine ch_tswIn (tgt := 106) (off := 100) d_x_childOf_6 (by rw [e6]; decide) (by rw [e6]; decide) (by rw [e6]; rfl) (by decide) ?_
      refine ch_aload_n (i := 0) d_x_childOf_106 rfl rfl ?_
      refine ch_get (v := .inr (1, 0, 0)) d_x_childOf_107 fl_x_10 rfl ?_
      refine ch_get (v := .inr (1, 0, 7)) d_x_childOf_110 fl_x_128 rfl ?_
      refine ch_iload_n (i := 1) d_x_childOf_113 rfl rfl ?_
      have b16 := h.1
      replace h := h.2
      refine ch_iald (n := 5) d_x_childOf_114 (by decide) rfl b16 ?_
      exact ch_iret (ty := .int) d_x_childOf_115 rfl rfl (Nat.le_of_ble_eq_true rfl) h
    replace h := h.2
    have hx : (Int32.toInt p2 < 0 ∨ 6 < Int32.toInt p2) := by
      have f0 : Int32.toInt p2 ≠ 0 := fun q => e0 (Int32.toInt_inj.mp (q.trans (by decide)))
      have f1 : Int32.toInt p2 ≠ 1 := fun q => e1 (Int32.toInt_inj.mp (q.trans (by decide)))
      have f2 : Int32.toInt p2 ≠ 2 := fun q => e2 (Int32.toInt_inj.mp (q.trans (by decide)))
      have f3 : Int32.toInt p2 ≠ 3 := fun q => e3 (Int32.toInt_inj.mp (q.trans (by decide)))
      have f4 : Int32.toInt p2 ≠ 4 := fun q => e4 (Int32.toInt_inj.mp (q.trans (by decide)))
      have f5 : Int32.toInt p2 ≠ 5 := fun q => e5 (Int32.toInt_inj.mp (q.trans (by decide)))
      have f6 : Int32.toInt p2 ≠ 6 := fun q => e6 (Int32.toInt_inj.mp (q.trans (by decide)))
      omega
    replace h := h hx
    refine ch_tswOut (tgt := 116) d_x_childOf_6 hx (by decide) ?_
    exact ch_throw d_x_childOf_116 d_x_childOf_119 d_x_childOf_120 d_x_childOf_123 tw_x_131 (by decide) rfl (Nat.le_of_ble_eq_true rfl) (Nat.le_of_ble_eq_true rfl) (Nat.le_of_ble_eq_true rfl) h
  · obtain ⟨c_, rfl, rfl⟩ := q3
    replace h := h.2 c_
    exact ch_xout rfl (Nat.le_of_ble_eq_true rfl) h
theorem e_x_append (g : ch_G) (Q : ch_O → ch_M → Prop) (p1 : Int32) (m : ch_M) (h : ch_J g m_x_append (ch_rm m_x_append) (ch_E g m_x_append Q) 0 [some (.inr (0, 0, 0)), some (.inl (.int p1))] [] m 0) : ch_C g m_x_append [.inr (0, 0, 0), .inl (.int p1)] m Q :=
  ch_enter mf_x_append (by intro v hv; simp only [List.mem_cons, List.not_mem_nil, or_false] at hv; rcases hv with rfl | rfl <;> rfl) (Nat.le_of_ble_eq_true rfl) h
set_option maxHeartbeats 1600000 in
theorem g_x_append_0 (g : ch_G) (Q : ch_O → ch_M → Prop) (p1 : Int32) (m : ch_M) (h : (((m (6, 0, 0) 1) < 60 → (vp_in (m (6, 0, 0) 1) 61) ∧ ((∀ m2 : ch_M, m2 = ch_os m 6 0 (t_putB (ch_ob m 6 0) p1) → Q (.inl (some (.inl (.int (m2 (6, 0, 0) 1))))) m2))) ∧ (¬ (m (6, 0, 0) 1) < 60 → Q (.inr 4) m))) : ch_J g m_x_append (ch_rm m_x_append) (ch_E g m_x_append Q) 0 [some (.inr (0, 0, 0)), some (.inl (.int p1))] [] m 0 := by
  refine ch_aload_n (i := 0) d_x_append_0 rfl rfl ?_
  refine ch_get (v := .inr (6, 0, 0)) d_x_append_1 fl_x_49 rfl ?_
  refine ch_get (v := .inl (.int (m (6, 0, 0) 1))) d_x_append_4 fl_x_203 rfl ?_
  refine ch_bipush (v := 60) d_x_append_7 (by decide) ?_
  refine ch_icmp_lt (tgt := 20) d_x_append_9 (by decide) (fun c => ?_) (fun c => ?_)
  · replace h := h.1 c
    refine ch_aload_n (i := 0) d_x_append_20 rfl rfl ?_
    refine ch_get (v := .inr (6, 0, 0)) d_x_append_21 fl_x_49 rfl ?_
    refine ch_iload_n (i := 1) d_x_append_24 rfl rfl ?_
    have b4 := h.1
    replace h := h.2
    refine ch_callV (as := [.inl (.int p1)]) d_x_append_25 lk_x_209 mi_t_put me_t_put rfl rfl rfl ⟨Nat.le_of_ble_eq_true rfl, Nat.le_of_ble_eq_true rfl⟩ (Nat.le_of_ble_eq_true rfl) ⟨Nat.le_of_ble_eq_true rfl, Nat.le_of_ble_eq_true rfl⟩ (ch_mono (ch_Kv (fun m2 q3 => ?_)) (s_t_put g (fun (m_ : ch_M) => (m_ = ch_os m 6 0 (t_putB (ch_ob m 6 0) p1))) (0) (p1) m ⟨b4, rfl⟩))
    have hm_ := q3
    replace h := h m2 hm_
    refine ch_aload_n (i := 0) d_x_append_28 rfl rfl ?_
    refine ch_get (v := .inr (6, 0, 0)) d_x_append_29 fl_x_49 rfl ?_
    refine ch_get (v := .inl (.int (m2 (6, 0, 0) 1))) d_x_append_32 fl_x_203 rfl ?_
    exact ch_iret (ty := .int) d_x_append_35 rfl rfl (Nat.le_of_ble_eq_true rfl) h
  · replace h := h.2 c
    exact ch_throw d_x_append_12 d_x_append_15 d_x_append_16 d_x_append_19 tw_x_206 (by decide) rfl (Nat.le_of_ble_eq_true rfl) (Nat.le_of_ble_eq_true rfl) (Nat.le_of_ble_eq_true rfl) h
theorem e_x_faultPosition (g : ch_G) (Q : ch_O → ch_M → Prop)  (m : ch_M) (h : ch_J g m_x_faultPosition (ch_rm m_x_faultPosition) (ch_E g m_x_faultPosition Q) 0 [some (.inr (0, 0, 0))] [] m 0) : ch_C g m_x_faultPosition [.inr (0, 0, 0)] m Q :=
  ch_enter mf_x_faultPosition (by intro v hv; simp only [List.mem_cons, List.not_mem_nil, or_false] at hv; rcases hv with rfl <;> rfl) (Nat.le_of_ble_eq_true rfl) h
set_option maxHeartbeats 1600000 in
theorem g_x_faultPosition_0 (g : ch_G) (Q : ch_O → ch_M → Prop)  (m : ch_M) (h : Q (.inl (some (.inl (.int (m (0, 0, 0) 13))))) m) : ch_J g m_x_faultPosition (ch_rm m_x_faultPosition) (ch_E g m_x_faultPosition Q) 0 [some (.inr (0, 0, 0))] [] m 0 := by
  refine ch_aload_n (i := 0) d_x_faultPosition_0 rfl rfl ?_
  refine ch_get (v := .inl (.int (m (0, 0, 0) 13))) d_x_faultPosition_1 fl_x_77 rfl ?_
  exact ch_iret (ty := .int) d_x_faultPosition_4 rfl rfl (Nat.le_of_ble_eq_true rfl) h
theorem e_x_reason (g : ch_G) (Q : ch_O → ch_M → Prop) (p1 : Int32) (m : ch_M) (h : ch_J g m_x_reason (ch_rm m_x_reason) (ch_E g m_x_reason Q) 0 [some (.inr (0, 0, 0)), some (.inl (.int p1))] [] m 0) : ch_C g m_x_reason [.inr (0, 0, 0), .inl (.int p1)] m Q :=
  ch_enter mf_x_reason (by intro v hv; simp only [List.mem_cons, List.not_mem_nil, or_false] at hv; rcases hv with rfl | rfl <;> rfl) (Nat.le_of_ble_eq_true rfl) h
set_option maxHeartbeats 1600000 in
theorem g_x_reason_0 (g : ch_G) (Q : ch_O → ch_M → Prop) (p1 : Int32) (m : ch_M) (h : ((p1 < 0 → Q (.inr 2) m) ∧ (¬ p1 < 0 → ((p1 ≤ 2 → ((¬ (m (3, 0, 0) 0) = 0 → ((¬ p1 = 0 → ((¬ p1 = 1 → Q (.inl (some (.inl (.int (m (3, 0, 0) 2))))) m) ∧ (p1 = 1 → Q (.inl (some (.inl (.int (m (3, 0, 0) 1))))) m))) ∧ (p1 = 0 → Q (.inl (some (.inl (.int (m (3, 0, 0) 0))))) m))) ∧ ((m (3, 0, 0) 0) = 0 → Q (.inr 3) m))) ∧ (¬ p1 ≤ 2 → Q (.inr 2) m))))) : ch_J g m_x_reason (ch_rm m_x_reason) (ch_E g m_x_reason Q) 0 [some (.inr (0, 0, 0)), some (.inl (.int p1))] [] m 0 := by
  refine ch_iload_n (i := 1) d_x_reason_0 rfl rfl ?_
  refine ch_if_lt (tgt := 9) d_x_reason_1 (by decide) (fun c => ?_) (fun c => ?_)
  · replace h := h.1 c
    exact ch_throw d_x_reason_9 d_x_reason_12 d_x_reason_13 d_x_reason_16 tw_x_131 (by decide) rfl (Nat.le_of_ble_eq_true rfl) (Nat.le_of_ble_eq_true rfl) (Nat.le_of_ble_eq_true rfl) h
  · replace h := h.2 c
    refine ch_iload_n (i := 1) d_x_reason_4 rfl rfl ?_
    refine ch_iconst (v := 2) d_x_reason_5 (by decide) ?_
    refine ch_icmp_le (tgt := 17) d_x_reason_6 (by decide) (fun c => ?_) (fun c => ?_)
    · replace h := h.1 c
      refine ch_aload_n (i := 0) d_x_reason_17 rfl rfl ?_
      refine ch_get (v := .inr (3, 0, 0)) d_x_reason_18 fl_x_35 rfl ?_
      refine ch_get (v := .inl (.int (m (3, 0, 0) 0))) d_x_reason_21 fl_x_226 rfl ?_
      refine ch_if_ne (tgt := 35) d_x_reason_24 (by decide) (fun c => ?_) (fun c => ?_)
      · replace h := h.1 c
        refine ch_iload_n (i := 1) d_x_reason_35 rfl rfl ?_
        refine ch_if_ne (tgt := 47) d_x_reason_36 (by decide) (fun c => ?_) (fun c => ?_)
        · replace h := h.1 c
          refine ch_iload_n (i := 1) d_x_reason_47 rfl rfl ?_
          refine ch_iconst (v := 1) d_x_reason_48 (by decide) ?_
          refine ch_icmp_ne (tgt := 62) d_x_reason_49 (by decide) (fun c => ?_) (fun c => ?_)
          · replace h := h.1 c
            refine ch_aload_n (i := 0) d_x_reason_62 rfl rfl ?_
            refine ch_get (v := .inr (3, 0, 0)) d_x_reason_63 fl_x_35 rfl ?_
            refine ch_get (v := .inl (.int (m (3, 0, 0) 2))) d_x_reason_66 fl_x_232 rfl ?_
            exact ch_iret (ty := .int) d_x_reason_69 rfl rfl (Nat.le_of_ble_eq_true rfl) h
          · replace h := h.2 c
            refine ch_aload_n (i := 0) d_x_reason_52 rfl rfl ?_
            refine ch_get (v := .inr (3, 0, 0)) d_x_reason_53 fl_x_35 rfl ?_
            refine ch_get (v := .inl (.int (m (3, 0, 0) 1))) d_x_reason_56 fl_x_229 rfl ?_
            refine ch_goto (tgt := 69) d_x_reason_59 (by decide) ?_
            exact ch_iret (ty := .int) d_x_reason_69 rfl rfl (Nat.le_of_ble_eq_true rfl) h
        · replace h := h.2 c
          refine ch_aload_n (i := 0) d_x_reason_39 rfl rfl ?_
          refine ch_get (v := .inr (3, 0, 0)) d_x_reason_40 fl_x_35 rfl ?_
          refine ch_get (v := .inl (.int (m (3, 0, 0) 0))) d_x_reason_43 fl_x_226 rfl ?_
          exact ch_iret (ty := .int) d_x_reason_46 rfl rfl (Nat.le_of_ble_eq_true rfl) h
      · replace h := h.2 c
        exact ch_throw d_x_reason_27 d_x_reason_30 d_x_reason_31 d_x_reason_34 tw_x_141 (by decide) rfl (Nat.le_of_ble_eq_true rfl) (Nat.le_of_ble_eq_true rfl) (Nat.le_of_ble_eq_true rfl) h
    · replace h := h.2 c
      exact ch_throw d_x_reason_9 d_x_reason_12 d_x_reason_13 d_x_reason_16 tw_x_131 (by decide) rfl (Nat.le_of_ble_eq_true rfl) (Nat.le_of_ble_eq_true rfl) (Nat.le_of_ble_eq_true rfl) h
theorem e_x_undo (g : ch_G) (Q : ch_O → ch_M → Prop)  (m : ch_M) (h : ch_J g m_x_undo (ch_rm m_x_undo) (ch_E g m_x_undo Q) 0 [some (.inr (0, 0, 0))] [] m 0) : ch_C g m_x_undo [.inr (0, 0, 0)] m Q :=
  ch_enter mf_x_undo (by intro v hv; simp only [List.mem_cons, List.not_mem_nil, or_false] at hv; rcases hv with rfl <;> rfl) (Nat.le_of_ble_eq_true rfl) h
set_option maxHeartbeats 1600000 in
theorem g_x_undo_0 (g : ch_G) (Q : ch_O → ch_M → Prop)  (m : ch_M) (h : ((¬ (m (2, 0, 0) 2) = 0 → (vp_in (m (2, 0, 0) 1) 8) ∧ ((∀ m2 : ch_M, m2 = ch_os (ch_os m 1 0 (y_cp (ch_ob m 1 (4 + Int32.toNatClampNeg (m (2, 0, 0) 1))) (ch_ob m 1 0))) 2 0 (p_gB (ch_ob m 2 0)) → Q (.inl (some (.inl (.int (m2 (2, 0, 0) 2))))) m2))) ∧ ((m (2, 0, 0) 2) = 0 → Q (.inr 4) m))) : ch_J g m_x_undo (ch_rm m_x_undo) (ch_E g m_x_undo Q) 0 [some (.inr (0, 0, 0))] [] m 0 := by
  refine ch_aload_n (i := 0) d_x_undo_0 rfl rfl ?_
  refine ch_get (v := .inr (2, 0, 0)) d_x_undo_1 fl_x_28 rfl ?_
  refine ch_get (v := .inl (.int (m (2, 0, 0) 2))) d_x_undo_4 fl_x_265 rfl ?_
  refine ch_if_ne (tgt := 18) d_x_undo_7 (by decide) (fun c => ?_) (fun c => ?_)
  · replace h := h.1 c
    refine ch_aload_n (i := 0) d_x_undo_18 rfl rfl ?_
    refine ch_get (v := .inr (2, 0, 0)) d_x_undo_19 fl_x_28 rfl ?_
    refine ch_aload_n (i := 0) d_x_undo_22 rfl rfl ?_
    refine ch_get (v := .inr (1, 0, 0)) d_x_undo_23 fl_x_10 rfl ?_
    have b4 := h.1
    replace h := h.2
    refine ch_callV (as := [.inr (1, 0, 0)]) d_x_undo_26 lk_x_266 mi_p_giveBack me_p_giveBack rfl rfl rfl ⟨Nat.le_of_ble_eq_true rfl, Nat.le_of_ble_eq_true rfl⟩ (Nat.le_of_ble_eq_true rfl) ⟨Nat.le_of_ble_eq_true rfl, Nat.le_of_ble_eq_true rfl⟩ (ch_mono (ch_Kv (fun m2 q3 => ?_)) (s_p_giveBack g (fun (m_ : ch_M) => (m_ = ch_os (ch_os m 1 0 (y_cp (ch_ob m 1 (4 + Int32.toNatClampNeg (m (2, 0, 0) 1))) (ch_ob m 1 0))) 2 0 (p_gB (ch_ob m 2 0)))) (0) m ⟨b4, rfl⟩))
    have hm_ := q3
    replace h := h m2 hm_
    refine ch_aload_n (i := 0) d_x_undo_29 rfl rfl ?_
    refine ch_get (v := .inr (2, 0, 0)) d_x_undo_30 fl_x_28 rfl ?_
    refine ch_get (v := .inl (.int (m2 (2, 0, 0) 2))) d_x_undo_33 fl_x_265 rfl ?_
    exact ch_iret (ty := .int) d_x_undo_36 rfl rfl (Nat.le_of_ble_eq_true rfl) h
  · replace h := h.2 c
    exact ch_throw d_x_undo_10 d_x_undo_13 d_x_undo_14 d_x_undo_17 tw_x_206 (by decide) rfl (Nat.le_of_ble_eq_true rfl) (Nat.le_of_ble_eq_true rfl) (Nat.le_of_ble_eq_true rfl) h
theorem e_x_save (g : ch_G) (Q : ch_O → ch_M → Prop)  (m : ch_M) (h : ch_J g m_x_save (ch_rm m_x_save) (ch_E g m_x_save Q) 0 [some (.inr (0, 0, 0))] [] m 0) : ch_C g m_x_save [.inr (0, 0, 0)] m Q :=
  ch_enter mf_x_save (by intro v hv; simp only [List.mem_cons, List.not_mem_nil, or_false] at hv; rcases hv with rfl <;> rfl) (Nat.le_of_ble_eq_true rfl) h
set_option maxHeartbeats 1600000 in
theorem g_x_save_0 (g : ch_G) (Q : ch_O → ch_M → Prop)  (m : ch_M) (h : ((∀ m2 : ch_M, m2 = ch_os m 1 3 (y_cp (ch_ob m 1 0) (ch_ob m 1 3)) → (∀ m4 : ch_M, m4 = ch_wr m2 (0, 0, 0) 12 1 → Q (.inl (some (.inl (.int (m4 (1, 0, 0) 8))))) m4)))) : ch_J g m_x_save (ch_rm m_x_save) (ch_E g m_x_save Q) 0 [some (.inr (0, 0, 0))] [] m 0 := by
  refine ch_aload_n (i := 0) d_x_save_0 rfl rfl ?_
  refine ch_get (v := .inr (1, 3, 0)) d_x_save_1 fl_x_22 rfl ?_
  refine ch_aload_n (i := 0) d_x_save_4 rfl rfl ?_
  refine ch_get (v := .inr (1, 0, 0)) d_x_save_5 fl_x_10 rfl ?_
  refine ch_callV (as := [.inr (1, 0, 0)]) d_x_save_8 lk_x_174 mi_y_copyFrom me_y_copyFrom rfl rfl rfl ⟨Nat.le_of_ble_eq_true rfl, Nat.le_of_ble_eq_true rfl⟩ (Nat.le_of_ble_eq_true rfl) ⟨Nat.le_of_ble_eq_true rfl, Nat.le_of_ble_eq_true rfl⟩ (ch_mono (ch_Kv (fun m2 q3 => ?_)) (s_y_copyFrom g (fun (m_ : ch_M) => (m_ = ch_os m 1 3 (y_cp (ch_ob m 1 0) (ch_ob m 1 3)))) (3) (0) m rfl))
  have hm_ := q3
  replace h := h m2 hm_
  refine ch_aload_n (i := 0) d_x_save_11 rfl rfl ?_
  refine ch_iconst (v := 1) d_x_save_12 (by decide) ?_
  refine ch_put d_x_save_13 fp_x_269 rfl rfl rfl ?_
  generalize hmm4 : ch_wr m2 (0, 0, 0) 12 1 = m4
  replace h := h m4 hmm4.symm
  refine ch_aload_n (i := 0) d_x_save_16 rfl rfl ?_
  refine ch_get (v := .inr (1, 0, 0)) d_x_save_17 fl_x_10 rfl ?_
  refine ch_get (v := .inl (.int (m4 (1, 0, 0) 8))) d_x_save_20 fl_x_184 rfl ?_
  exact ch_iret (ty := .int) d_x_save_23 rfl rfl (Nat.le_of_ble_eq_true rfl) h
theorem e_x_restore (g : ch_G) (Q : ch_O → ch_M → Prop)  (m : ch_M) (h : ch_J g m_x_restore (ch_rm m_x_restore) (ch_E g m_x_restore Q) 0 [some (.inr (0, 0, 0))] [] m 0) : ch_C g m_x_restore [.inr (0, 0, 0)] m Q :=
  ch_enter mf_x_restore (by intro v hv; simp only [List.mem_cons, List.not_mem_nil, or_false] at hv; rcases hv with rfl <;> rfl) (Nat.le_of_ble_eq_true rfl) h
set_option maxHeartbeats 1600000 in
theorem g_x_restore_0 (g : ch_G) (Q : ch_O → ch_M → Prop)  (m : ch_M) (h : ((¬ (m (0, 0, 0) 12) = 0 → ((∀ m2 : ch_M, m2 = ch_os m 1 0 (y_cp (ch_ob m 1 3) (ch_ob m 1 0)) → (∀ m4 : ch_M, m4 = ch_wr m2 (2, 0, 0) 2 0 → Q (.inl (some (.inl (.int (m4 (1, 0, 0) 8))))) m4)))) ∧ ((m (0, 0, 0) 12) = 0 → Q (.inr 4) m))) : ch_J g m_x_restore (ch_rm m_x_restore) (ch_E g m_x_restore Q) 0 [some (.inr (0, 0, 0))] [] m 0 := by
  refine ch_aload_n (i := 0) d_x_restore_0 rfl rfl ?_
  refine ch_get (v := .inl (.int (m (0, 0, 0) 12))) d_x_restore_1 fl_x_269 rfl ?_
  refine ch_if_ne (tgt := 15) d_x_restore_4 (by decide) (fun c => ?_) (fun c => ?_)
  · replace h := h.1 c
    refine ch_aload_n (i := 0) d_x_restore_15 rfl rfl ?_
    refine ch_get (v := .inr (1, 0, 0)) d_x_restore_16 fl_x_10 rfl ?_
    refine ch_aload_n (i := 0) d_x_restore_19 rfl rfl ?_
    refine ch_get (v := .inr (1, 3, 0)) d_x_restore_20 fl_x_22 rfl ?_
    refine ch_callV (as := [.inr (1, 3, 0)]) d_x_restore_23 lk_x_174 mi_y_copyFrom me_y_copyFrom rfl rfl rfl ⟨Nat.le_of_ble_eq_true rfl, Nat.le_of_ble_eq_true rfl⟩ (Nat.le_of_ble_eq_true rfl) ⟨Nat.le_of_ble_eq_true rfl, Nat.le_of_ble_eq_true rfl⟩ (ch_mono (ch_Kv (fun m2 q3 => ?_)) (s_y_copyFrom g (fun (m_ : ch_M) => (m_ = ch_os m 1 0 (y_cp (ch_ob m 1 3) (ch_ob m 1 0)))) (0) (3) m rfl))
    have hm_ := q3
    replace h := h m2 hm_
    refine ch_aload_n (i := 0) d_x_restore_26 rfl rfl ?_
    refine ch_get (v := .inr (2, 0, 0)) d_x_restore_27 fl_x_28 rfl ?_
    refine ch_iconst (v := 0) d_x_restore_30 (by decide) ?_
    refine ch_put d_x_restore_31 fp_x_265 rfl rfl rfl ?_
    generalize hmm4 : ch_wr m2 (2, 0, 0) 2 0 = m4
    replace h := h m4 hmm4.symm
    refine ch_aload_n (i := 0) d_x_restore_34 rfl rfl ?_
    refine ch_get (v := .inr (1, 0, 0)) d_x_restore_35 fl_x_10 rfl ?_
    refine ch_get (v := .inl (.int (m4 (1, 0, 0) 8))) d_x_restore_38 fl_x_184 rfl ?_
    exact ch_iret (ty := .int) d_x_restore_41 rfl rfl (Nat.le_of_ble_eq_true rfl) h
  · replace h := h.2 c
    exact ch_throw d_x_restore_7 d_x_restore_10 d_x_restore_11 d_x_restore_14 tw_x_206 (by decide) rfl (Nat.le_of_ble_eq_true rfl) (Nat.le_of_ble_eq_true rfl) (Nat.le_of_ble_eq_true rfl) h
theorem e_x_account (g : ch_G) (Q : ch_O → ch_M → Prop) (p1 : Int32) (m : ch_M) (h : ch_J g m_x_account (ch_rm m_x_account) (ch_E g m_x_account Q) 0 [some (.inr (0, 0, 0)), some (.inl (.int p1))] [] m 0) : ch_C g m_x_account [.inr (0, 0, 0), .inl (.int p1)] m Q :=
  ch_enter mf_x_account (by intro v hv; simp only [List.mem_cons, List.not_mem_nil, or_false] at hv; rcases hv with rfl | rfl <;> rfl) (Nat.le_of_ble_eq_true rfl) h
set_option maxHeartbeats 1600000 in
theorem g_x_account_0 (g : ch_G) (Q : ch_O → ch_M → Prop) (p1 : Int32) (m : ch_M) (h : ((p1 = 0 → Q (.inl (some (.inl (.int (m (1, 0, 0) 8))))) m) ∧ (p1 = 1 → (vp_in (m (1, 0, 0) 8) 6) ∧ (Q (.inl (some (.inl (.int (y_sum (m (1, 0, 3)) (Int32.toNatClampNeg (m (1, 0, 0) 8))))))) m)) ∧ (p1 = 2 → Q (.inl (some (.inl (.int (m (1, 0, 0) 10))))) m) ∧ (p1 = 3 → (Q (.inl (some (.inl (.int (12 - (ch_cnO (m (1, 0, 1)) (-1) 12)))))) m)) ∧ (p1 = 4 → Q (.inl (some (.inl (.int (m (1, 0, 0) 9))))) m) ∧ (p1 = 5 → Q (.inl (some (.inl (.int (m (1, 0, 0) 12))))) m) ∧ (p1 = 6 → Q (.inl (some (.inl (.int (m (1, 0, 0) 13))))) m) ∧ (p1 = 7 → Q (.inl (some (.inl (.int (m (1, 0, 0) 14))))) m) ∧ (p1 = 8 → Q (.inl (some (.inl (.int (m (1, 0, 0) 15))))) m) ∧ (p1 = 9 → Q (.inl (some (.inl (.int (m (1, 0, 0) 16))))) m) ∧ (p1 = 10 → Q (.inl (some (.inl (.int (m (2, 0, 0) 2))))) m) ∧ (p1 = 11 → Q (.inl (some (.inl (.int (m (6, 0, 0) 1))))) m) ∧ ((Int32.toInt p1 < 0 ∨ 11 < Int32.toInt p1) → Q (.inr 2) m))) : ch_J g m_x_account (ch_rm m_x_account) (ch_E g m_x_account Q) 0 [some (.inr (0, 0, 0)), some (.inl (.int p1))] [] m 0 := by
  refine ch_iload_n (i := 1) d_x_account_0 rfl rfl ?_
  by_cases e0 : p1 = 0
  · replace h := h.1 e0
    refine ch_tswIn (tgt := 64) (off := 63) d_x_account_1 (by rw [e0]; decide) (by rw [e0]; decide) (by rw [e0]; rfl) (by decide) ?_
    refine ch_aload_n (i := 0) d_x_account_64 rfl rfl ?_
    refine ch_get (v := .inr (1, 0, 0)) d_x_account_65 fl_x_10 rfl ?_
    refine ch_get (v := .inl (.int (m (1, 0, 0) 8))) d_x_account_68 fl_x_184 rfl ?_
    exact ch_iret (ty := .int) d_x_account_71 rfl rfl (Nat.le_of_ble_eq_true rfl) h
  replace h := h.2
  by_cases e1 : p1 = 1
  · replace h := h.1 e1
    refine ch_tswIn (tgt := 72) (off := 71) d_x_account_1 (by rw [e1]; decide) (by rw [e1]; decide) (by rw [e1]; rfl) (by decide) ?_
    refine ch_aload_n (i := 0) d_x_account_72 rfl rfl ?_
    refine ch_get (v := .inr (1, 0, 0)) d_x_account_73 fl_x_10 rfl ?_
    have b4 := h.1
    replace h := h.2
    refine ch_callV (as := []) d_x_account_76 lk_x_193 mi_y_sumPebbles me_y_sumPebbles rfl rfl rfl ⟨Nat.le_of_ble_eq_true rfl, Nat.le_of_ble_eq_true rfl⟩ (Nat.le_of_ble_eq_true rfl) ⟨Nat.le_of_ble_eq_true rfl, Nat.le_of_ble_eq_true rfl⟩ (ch_mono (ch_Ki (fun r1 m2 q3 => ?_)) (s_y_sumPebbles g (fun (r_ : Int32) (m_ : ch_M) => ((y_sum (m (1, 0, 3)) (Int32.toNatClampNeg (m (1, 0, 0) 8))) = r_ ∧ m = m_)) (0) m ⟨b4, ⟨rfl, rfl⟩⟩))
    obtain ⟨rfl, rfl⟩ := q3
    replace h := h
    exact ch_iret (ty := .int) d_x_account_79 rfl rfl (Nat.le_of_ble_eq_true rfl) h
  replace h := h.2
  by_cases e2 : p1 = 2
  · replace h := h.1 e2
    refine ch_tswIn (tgt := 80) (off := 79) d_x_account_1 (by rw [e2]; decide) (by rw [e2]; decide) (by rw [e2]; rfl) (by decide) ?_
    refine ch_aload_n (i := 0) d_x_account_80 rfl rfl ?_
    refine ch_get (v := .inr (1, 0, 0)) d_x_account_81 fl_x_10 rfl ?_
    refine ch_get (v := .inl (.int (m (1, 0, 0) 10))) d_x_account_84 fl_x_196 rfl ?_
    exact ch_iret (ty := .int) d_x_account_87 rfl rfl (Nat.le_of_ble_eq_true rfl) h
  replace h := h.2
  by_cases e3 : p1 = 3
  · replace h := h.1 e3
    refine ch_tswIn (tgt := 88) (off := 87) d_x_account_1 (by rw [e3]; decide) (by rw [e3]; decide) (by rw [e3]; rfl) (by decide) ?_
    refine ch_bipush (v := 12) d_x_account_88 (by decide) ?_
    refine ch_aload_n (i := 0) d_x_account_90 rfl rfl ?_
    refine ch_get (v := .inr (1, 0, 0)) d_x_account_91 fl_x_10 rfl ?_
    refine ch_iconst (v := (-1)) d_x_account_94 (by decide) ?_
    refine ch_callV (as := [.inl (.int (-1))]) d_x_account_95 lk_x_118 mi_y_countOwned me_y_countOwned rfl rfl rfl ⟨Nat.le_of_ble_eq_true rfl, Nat.le_of_ble_eq_true rfl⟩ (Nat.le_of_ble_eq_true rfl) ⟨Nat.le_of_ble_eq_true rfl, Nat.le_of_ble_eq_true rfl⟩ (ch_mono (ch_Ki (fun r5 m6 q7 => ?_)) (s_y_countOwned g (fun (r_ : Int32) (m_ : ch_M) => ((ch_cnO (m (1, 0, 1)) (-1) 12) = r_ ∧ m = m_)) (0) ((-1)) m ⟨rfl, rfl⟩))
    obtain ⟨rfl, rfl⟩ := q7
    replace h := h
    refine ch_isub d_x_account_98 ?_
    exact ch_iret (ty := .int) d_x_account_99 rfl rfl (Nat.le_of_ble_eq_true rfl) h
  replace h := h.2
  by_cases e4 : p1 = 4
  · replace h := h.1 e4
    refine ch_tswIn (tgt := 100) (off := 99) d_x_account_1 (by rw [e4]; decide) (by rw [e4]; decide) (by rw [e4]; rfl) (by decide) ?_
    refine ch_aload_n (i := 0) d_x_account_100 rfl rfl ?_
    refine ch_get (v := .inr (1, 0, 0)) d_x_account_101 fl_x_10 rfl ?_
    refine ch_get (v := .inl (.int (m (1, 0, 0) 9))) d_x_account_104 fl_x_138 rfl ?_
    exact ch_iret (ty := .int) d_x_account_107 rfl rfl (Nat.le_of_ble_eq_true rfl) h
  replace h := h.2
  by_cases e5 : p1 = 5
  · replace h := h.1 e5
    refine ch_tswIn (tgt := 108) (off := 107) d_x_account_1 (by rw [e5]; decide) (by rw [e5]; decide) (by rw [e5]; rfl) (by decide) ?_
    refine ch_aload_n (i := 0) d_x_account_108 rfl rfl ?_
    refine ch_get (v := .inr (1, 0, 0)) d_x_account_109 fl_x_10 rfl ?_
    refine ch_get (v := .inl (.int (m (1, 0, 0) 12))) d_x_account_112 fl_x_251 rfl ?_
    exact ch_iret (ty := .int) d_x_account_115 rfl rfl (Nat.le_of_ble_eq_true rfl) h
  replace h := h.2
  by_cases e6 : p1 = 6
  · replace h := h.1 e6
    refine ch_tswIn (tgt := 116) (off := 115) d_x_account_1 (by rw [e6]; decide) (by rw [e6]; decide) (by rw [e6]; rfl) (by decide) ?_
    refine ch_aload_n (i := 0) d_x_account_116 rfl rfl ?_
    refine ch_get (v := .inr (1, 0, 0)) d_x_account_117 fl_x_10 rfl ?_
    refine ch_get (v := .inl (.int (m (1, 0, 0) 13))) d_x_account_120 fl_x_254 rfl ?_
    exact ch_iret (ty := .int) d_x_account_123 rfl rfl (Nat.le_of_ble_eq_true rfl) h
  replace h := h.2
  by_cases e7 : p1 = 7
  · replace h := h.1 e7
    refine ch_tswIn (tgt := 124) (off := 123) d_x_account_1 (by rw [e7]; decide) (by rw [e7]; decide) (by rw [e7]; rfl) (by decide) ?_
    refine ch_aload_n (i := 0) d_x_account_124 rfl rfl ?_
    refine ch_get (v := .inr (1, 0, 0)) d_x_account_125 fl_x_10 rfl ?_
    refine ch_get (v := .inl (.int (m (1, 0, 0) 14))) d_x_account_128 fl_x_256 rfl ?_
    exact ch_iret (ty := .int) d_x_account_131 rfl rfl (Nat.le_of_ble_eq_true rfl) h
  replace h := h.2
  by_cases e8 : p1 = 8
  · replace h := h.1 e8
    refine ch_tswIn (tgt := 132) (off := 131) d_x_account_1 (by rw [e8]; decide) (by rw [e8]; decide) (by rw [e8]; rfl) (by decide) ?_
    refine ch_aload_n (i := 0) d_x_account_132 rfl rfl ?_
    refine ch_get (v := .inr (1, 0, 0)) d_x_account_133 fl_x_10 rfl ?_
    refine ch_get (v := .inl (.int (m (1, 0, 0) 15))) d_x_account_136 fl_x_259 rfl ?_
    exact ch_iret (ty := .int) d_x_account_139 rfl rfl (Nat.le_of_ble_eq_true rfl) h
  replace h := h.2
  by_cases e9 : p1 = 9
  · replace h := h.1 e9
    refine ch_tswIn (tgt := 140) (off := 139) d_x_account_1 (by rw [e9]; decide) (by rw [e9]; decide) (by rw [e9]; rfl) (by decide) ?_
    refine ch_aload_n (i := 0) d_x_account_140 rfl rfl ?_
    refine ch_get (v := .inr (1, 0, 0)) d_x_account_141 fl_x_10 rfl ?_
    refine ch_get (v := .inl (.int (m (1, 0, 0) 16))) d_x_account_144 fl_x_262 rfl ?_
    exact ch_iret (ty := .int) d_x_account_147 rfl rfl (Nat.le_of_ble_eq_true rfl) h
  replace h := h.2
  by_cases e10 : p1 = 10
  · replace h := h.1 e10
    refine ch_tswIn (tgt := 148) (off := 147) d_x_account_1 (by rw [e10]; decide) (by rw [e10]; decide) (by rw [e10]; rfl) (by decide) ?_
    refine ch_aload_n (i := 0) d_x_account_148 rfl rfl ?_
    refine ch_get (v := .inr (2, 0, 0)) d_x_account_149 fl_x_28 rfl ?_
    refine ch_get (v := .inl (.int (m (2, 0, 0) 2))) d_x_account_152 fl_x_265 rfl ?_
    exact ch_iret (ty := .int) d_x_account_155 rfl rfl (Nat.le_of_ble_eq_true rfl) h
  replace h := h.2
  by_cases e11 : p1 = 11
  · replace h := h.1 e11
    refine ch_tswIn (tgt := 156) (off := 155) d_x_account_1 (by rw [e11]; decide) (by rw [e11]; decide) (by rw [e11]; rfl) (by decide) ?_
    refine ch_aload_n (i := 0) d_x_account_156 rfl rfl ?_
    refine ch_get (v := .inr (6, 0, 0)) d_x_account_157 fl_x_49 rfl ?_
    refine ch_get (v := .inl (.int (m (6, 0, 0) 1))) d_x_account_160 fl_x_203 rfl ?_
    exact ch_iret (ty := .int) d_x_account_163 rfl rfl (Nat.le_of_ble_eq_true rfl) h
  replace h := h.2
  have hx : (Int32.toInt p1 < 0 ∨ 11 < Int32.toInt p1) := by
    have f0 : Int32.toInt p1 ≠ 0 := fun q => e0 (Int32.toInt_inj.mp (q.trans (by decide)))
    have f1 : Int32.toInt p1 ≠ 1 := fun q => e1 (Int32.toInt_inj.mp (q.trans (by decide)))
    have f2 : Int32.toInt p1 ≠ 2 := fun q => e2 (Int32.toInt_inj.mp (q.trans (by decide)))
    have f3 : Int32.toInt p1 ≠ 3 := fun q => e3 (Int32.toInt_inj.mp (q.trans (by decide)))
    have f4 : Int32.toInt p1 ≠ 4 := fun q => e4 (Int32.toInt_inj.mp (q.trans (by decide)))
    have f5 : Int32.toInt p1 ≠ 5 := fun q => e5 (Int32.toInt_inj.mp (q.trans (by decide)))
    have f6 : Int32.toInt p1 ≠ 6 := fun q => e6 (Int32.toInt_inj.mp (q.trans (by decide)))
    have f7 : Int32.toInt p1 ≠ 7 := fun q => e7 (Int32.toInt_inj.mp (q.trans (by decide)))
    have f8 : Int32.toInt p1 ≠ 8 := fun q => e8 (Int32.toInt_inj.mp (q.trans (by decide)))
    have f9 : Int32.toInt p1 ≠ 9 := fun q => e9 (Int32.toInt_inj.mp (q.trans (by decide)))
    have f10 : Int32.toInt p1 ≠ 10 := fun q => e10 (Int32.toInt_inj.mp (q.trans (by decide)))
    have f11 : Int32.toInt p1 ≠ 11 := fun q => e11 (Int32.toInt_inj.mp (q.trans (by decide)))
    omega
  replace h := h hx
  refine ch_tswOut (tgt := 164) d_x_account_1 hx (by decide) ?_
  exact ch_throw d_x_account_164 d_x_account_167 d_x_account_168 d_x_account_171 tw_x_131 (by decide) rfl (Nat.le_of_ble_eq_true rfl) (Nat.le_of_ble_eq_true rfl) (Nat.le_of_ble_eq_true rfl) h
