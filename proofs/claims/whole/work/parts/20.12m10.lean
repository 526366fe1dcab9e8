theorem e_m_meanChalk (g : ch_G) (Q : ch_O → ch_M → Prop)  (m : ch_M) (h : ch_J g m_m_meanChalk (ch_rm m_m_meanChalk) (ch_E g m_m_meanChalk Q) 0 [some (.inr (9, 0, 0)), none, none] [] m 0) : ch_C g m_m_meanChalk [.inr (9, 0, 0)] m Q :=
  ch_enter mf_m_meanChalk (by intro v hv; simp only [List.mem_cons, List.not_mem_nil, or_false] at hv; rcases hv with rfl <;> rfl) (Nat.le_of_ble_eq_true rfl) h
set_option maxHeartbeats 1600000 in
theorem g_m_meanChalk_0 (g : ch_G) (Q : ch_O → ch_M → Prop)  (m : ch_M) (h : (∀ m1 : ch_M, m1 = ch_wr m (9, 0, 0) 19 0 → ch_J g m_m_meanChalk (ch_rm m_m_meanChalk) (ch_E g m_m_meanChalk Q) 9 [some (.inr (9, 0, 0)), some (.inl (.int 0)), some (.inl (.int 0))] [] m1 0)) : ch_J g m_m_meanChalk (ch_rm m_m_meanChalk) (ch_E g m_m_meanChalk Q) 0 [some (.inr (9, 0, 0)), none, none] [] m 0 := by
  refine ch_aload_n (i := 0) d_m_meanChalk_0 rfl rfl ?_
  refine ch_iconst (v := 0) d_m_meanChalk_1 (by decide) ?_
  refine ch_put d_m_meanChalk_2 fp_m_48 rfl rfl rfl ?_
  generalize hmm1 : ch_wr m (9, 0, 0) 19 0 = m1
  replace h := h m1 hmm1.symm
  refine ch_iconst (v := 0) d_m_meanChalk_5 (by decide) ?_
  refine ch_istore_n (i := 1) d_m_meanChalk_6 rfl (Nat.le_of_ble_eq_true rfl) (ls' := [some (.inr (9, 0, 0)), some (.inl (.int 0)), none]) rfl ?_
  refine ch_iconst (v := 0) d_m_meanChalk_7 (by decide) ?_
  refine ch_istore_n (i := 2) d_m_meanChalk_8 rfl (Nat.le_of_ble_eq_true rfl) (ls' := [some (.inr (9, 0, 0)), some (.inl (.int 0)), some (.inl (.int 0))]) rfl ?_
  exact h
set_option maxHeartbeats 1600000 in
theorem g_m_meanChalk_9 (g : ch_G) (Q : ch_O → ch_M → Prop) (x1 : Int32) (x2 : Int32) (m : ch_M) (h : ((12 ≤ x2 → (ch_C g m_m_owned [.inr (9, 0, 0)] m (ch_oi (fun (r1 : Int32) (m2 : ch_M) => ((¬ r1 = 0 → (ch_C g m_m_owned [.inr (9, 0, 0)] m2 (ch_oi (fun (r3 : Int32) (m4 : ch_M) => (vf_n64 (FP.ddiv (FP.i2d x1) (FP.i2d r3))) ∧ Q (.inl (some (.inl (.double (FP.ddiv (FP.i2d x1) (FP.i2d r3)))))) m4)))) ∧ (r1 = 0 → (ch_C g m_m_raises [.inr (9, 0, 0), .inl (.int 1)] m2 (ch_oi (fun (r5 : Int32) (m6 : ch_M) => Q (.inl (some (.inl (.double (FP.i2d r5))))) m6))))))))) ∧ (¬ 12 ≤ x2 → (ch_C g m_m_chalkOf [.inr (9, 0, 0), .inl (.int x2)] m (ch_oi (fun (r7 : Int32) (m8 : ch_M) => ch_J g m_m_meanChalk (ch_rm m_m_meanChalk) (ch_E g m_m_meanChalk Q) 9 [some (.inr (9, 0, 0)), some (.inl (.int (x1 + r7))), some (.inl (.int (x2 + 1)))] [] m8 0)))))) : ch_J g m_m_meanChalk (ch_rm m_m_meanChalk) (ch_E g m_m_meanChalk Q) 9 [some (.inr (9, 0, 0)), some (.inl (.int x1)), some (.inl (.int x2))] [] m 0 := by
  refine ch_iload_n (i := 2) d_m_meanChalk_9 rfl rfl ?_
  refine ch_bipush (v := 12) d_m_meanChalk_10 (by decide) ?_
  refine ch_icmp_ge (tgt := 29) d_m_meanChalk_12 (by decide) (fun c => ?_) (fun c => ?_)
  · replace h := h.1 c
    refine ch_aload_n (i := 0) d_m_meanChalk_29 rfl rfl ?_
    refine ch_callV (as := []) d_m_meanChalk_30 lk_m_162 mi_m_owned me_m_owned rfl rfl rfl ⟨Nat.le_of_ble_eq_true rfl, Nat.le_of_ble_eq_true rfl⟩ (Nat.le_of_ble_eq_true rfl) ⟨Nat.le_of_ble_eq_true rfl, Nat.le_of_ble_eq_true rfl⟩ (ch_mono (ch_Ki (fun r1 m2 h => ?_)) h)
    refine ch_if_ne (tgt := 45) d_m_meanChalk_33 (by decide) (fun c => ?_) (fun c => ?_)
    · replace h := h.1 c
      refine ch_iload_n (i := 1) d_m_meanChalk_45 rfl rfl ?_
      refine ch_i2d d_m_meanChalk_46 ?_
      refine ch_aload_n (i := 0) d_m_meanChalk_47 rfl rfl ?_
      refine ch_callV (as := []) d_m_meanChalk_48 lk_m_162 mi_m_owned me_m_owned rfl rfl rfl ⟨Nat.le_of_ble_eq_true rfl, Nat.le_of_ble_eq_true rfl⟩ (Nat.le_of_ble_eq_true rfl) ⟨Nat.le_of_ble_eq_true rfl, Nat.le_of_ble_eq_true rfl⟩ (ch_mono (ch_Ki (fun r3 m4 h => ?_)) h)
      refine ch_i2d d_m_meanChalk_51 ?_
      refine ch_ddiv d_m_meanChalk_52 h.1 ?_
      replace h := h.2
      exact ch_dret d_m_meanChalk_53 rfl (Nat.le_of_ble_eq_true rfl) h
    · replace h := h.2 c
      refine ch_aload_n (i := 0) d_m_meanChalk_36 rfl rfl ?_
      refine ch_iconst (v := 1) d_m_meanChalk_37 (by decide) ?_
      refine ch_callV (as := [.inl (.int 1)]) d_m_meanChalk_38 lk_m_70 mi_m_raises me_m_raises rfl rfl rfl ⟨Nat.le_of_ble_eq_true rfl, Nat.le_of_ble_eq_true rfl⟩ (Nat.le_of_ble_eq_true rfl) ⟨Nat.le_of_ble_eq_true rfl, Nat.le_of_ble_eq_true rfl⟩ (ch_mono (ch_Ki (fun r5 m6 h => ?_)) h)
      refine ch_i2d d_m_meanChalk_41 ?_
      refine ch_goto (tgt := 53) d_m_meanChalk_42 (by decide) ?_
      exact ch_dret d_m_meanChalk_53 rfl (Nat.le_of_ble_eq_true rfl) h
  · replace h := h.2 c
    refine ch_iload_n (i := 1) d_m_meanChalk_15 rfl rfl ?_
    refine ch_aload_n (i := 0) d_m_meanChalk_16 rfl rfl ?_
    refine ch_iload_n (i := 2) d_m_meanChalk_17 rfl rfl ?_
    refine ch_callV (as := [.inl (.int x2)]) d_m_meanChalk_18 lk_m_112 mi_m_chalkOf me_m_chalkOf rfl rfl rfl ⟨Nat.le_of_ble_eq_true rfl, Nat.le_of_ble_eq_true rfl⟩ (Nat.le_of_ble_eq_true rfl) ⟨Nat.le_of_ble_eq_true rfl, Nat.le_of_ble_eq_true rfl⟩ (ch_mono (ch_Ki (fun r7 m8 h => ?_)) h)
    refine ch_iadd d_m_meanChalk_21 ?_
    refine ch_istore_n (i := 1) d_m_meanChalk_22 rfl (Nat.le_of_ble_eq_true rfl) (ls' := [some (.inr (9, 0, 0)), some (.inl (.int (x1 + r7))), some (.inl (.int x2))]) rfl ?_
    refine ch_iinc (i := 2) (v := (x2 + 1)) d_m_meanChalk_23 rfl rfl (Nat.le_of_ble_eq_true rfl) (ls' := [some (.inr (9, 0, 0)), some (.inl (.int (x1 + r7))), some (.inl (.int (x2 + 1)))]) rfl ?_
    refine ch_goto (tgt := 9) d_m_meanChalk_26 (by decide) ?_
    exact h
theorem e_m_ownedShare (g : ch_G) (Q : ch_O → ch_M → Prop)  (m : ch_M) (h : ch_J g m_m_ownedShare (ch_rm m_m_ownedShare) (ch_E g m_m_ownedShare Q) 0 [some (.inr (9, 0, 0))] [] m 0) : ch_C g m_m_ownedShare [.inr (9, 0, 0)] m Q :=
  ch_enter mf_m_ownedShare (by intro v hv; simp only [List.mem_cons, List.not_mem_nil, or_false] at hv; rcases hv with rfl <;> rfl) (Nat.le_of_ble_eq_true rfl) h
set_option maxHeartbeats 1600000 in
theorem g_m_ownedShare_0 (g : ch_G) (Q : ch_O → ch_M → Prop)  (m : ch_M) (h : (∀ m1 : ch_M, m1 = ch_wr m (9, 0, 0) 19 0 → (ch_C g m_m_owned [.inr (9, 0, 0)] m1 (ch_oi (fun (r2 : Int32) (m3 : ch_M) => (vf_n32 (FP.fdiv (FP.i2f r2) 1094713344)) ∧ Q (.inl (some (.inl (.float (FP.fdiv (FP.i2f r2) 1094713344))))) m3))))) : ch_J g m_m_ownedShare (ch_rm m_m_ownedShare) (ch_E g m_m_ownedShare Q) 0 [some (.inr (9, 0, 0))] [] m 0 := by
  refine ch_aload_n (i := 0) d_m_ownedShare_0 rfl rfl ?_
  refine ch_iconst (v := 0) d_m_ownedShare_1 (by decide) ?_
  refine ch_put d_m_ownedShare_2 fp_m_48 rfl rfl rfl ?_
  generalize hmm1 : ch_wr m (9, 0, 0) 19 0 = m1
  replace h := h m1 hmm1.symm
  refine ch_aload_n (i := 0) d_m_ownedShare_5 rfl rfl ?_
  refine ch_callV (as := []) d_m_ownedShare_6 lk_m_162 mi_m_owned me_m_owned rfl rfl rfl ⟨Nat.le_of_ble_eq_true rfl, Nat.le_of_ble_eq_true rfl⟩ (Nat.le_of_ble_eq_true rfl) ⟨Nat.le_of_ble_eq_true rfl, Nat.le_of_ble_eq_true rfl⟩ (ch_mono (ch_Ki (fun r2 m3 h => ?_)) h)
  refine ch_i2f d_m_ownedShare_9 ?_
  refine ch_ldcf d_m_ownedShare_10 lc_m_250 ?_
  refine ch_fdiv d_m_ownedShare_12 h.1 ?_
  replace h := h.2
  exact ch_fret d_m_ownedShare_13 rfl (Nat.le_of_ble_eq_true rfl) h
theorem e_m_account (g : ch_G) (Q : ch_O → ch_M → Prop) (p1 : Int32) (m : ch_M) (h : ch_J g m_m_account (ch_rm m_m_account) (ch_E g m_m_account Q) 0 [some (.inr (9, 0, 0)), some (.inl (.int p1)), none, none] [] m 0) : ch_C g m_m_account [.inr (9, 0, 0), .inl (.int p1)] m Q :=
  ch_enter mf_m_account (by intro v hv; simp only [List.mem_cons, List.not_mem_nil, or_false] at hv; rcases hv with rfl | rfl <;> rfl) (Nat.le_of_ble_eq_true rfl) h
set_option maxHeartbeats 1600000 in
theorem g_m_account_0 (g : ch_G) (Q : ch_O → ch_M → Prop) (p1 : Int32) (m : ch_M) (h : (∀ m1 : ch_M, m1 = ch_wr m (9, 0, 0) 19 0 → ((p1 = 0 → Q (.inl (some (.inl (.int (m1 (9, 0, 1) (0)))))) m1) ∧ (p1 = 1 → ch_J g m_m_account (ch_rm m_m_account) (ch_E g m_m_account Q) 81 [some (.inr (9, 0, 0)), some (.inl (.int p1)), some (.inl (.int 0)), some (.inl (.int 0))] [] m1 0) ∧ (p1 = 2 → Q (.inl (some (.inl (.int (m1 (9, 0, 1) (1)))))) m1) ∧ (p1 = 3 → (ch_C g m_m_owned [.inr (9, 0, 0)] m1 (ch_oi (fun (r2 : Int32) (m3 : ch_M) => Q (.inl (some (.inl (.int r2)))) m3)))) ∧ (p1 = 4 → Q (.inl (some (.inl (.int (m1 (9, 0, 1) (8)))))) m1) ∧ (p1 = 5 → Q (.inl (some (.inl (.int (m1 (9, 0, 1) (3)))))) m1) ∧ (p1 = 6 → Q (.inl (some (.inl (.int (m1 (9, 0, 1) (4)))))) m1) ∧ (p1 = 7 → Q (.inl (some (.inl (.int (m1 (9, 0, 1) (5)))))) m1) ∧ (p1 = 8 → Q (.inl (some (.inl (.int (m1 (9, 0, 1) (6)))))) m1) ∧ (p1 = 9 → Q (.inl (some (.inl (.int (m1 (9, 0, 1) (7)))))) m1) ∧ (p1 = 10 → Q (.inl (some (.inl (.int (m1 (9, 0, 0) 4))))) m1) ∧ (p1 = 11 → Q (.inl (some (.inl (.int (m1 (9, 0, 0) 10))))) m1) ∧ ((Int32.toInt p1 < 0 ∨ 11 < Int32.toInt p1) → (ch_C g m_m_raises [.inr (9, 0, 0), .inl (.int 1)] m1 (ch_oi (fun (r4 : Int32) (m5 : ch_M) => Q (.inl (some (.inl (.int r4)))) m5))))))) : ch_J g m_m_account (ch_rm m_m_account) (ch_E g m_m_account Q) 0 [some (.inr (9, 0, 0)), some (.inl (.int p1)), none, none] [] m 0 := by
  refine ch_aload_n (i := 0) d_m_account_0 rfl rfl ?_
  refine ch_iconst (v := 0) d_m_account_1 (by decide) ?_
  refine ch_put d_m_account_2 fp_m_48 rfl rfl rfl ?_
  generalize hmm1 : ch_wr m (9, 0, 0) 19 0 = m1
  replace h := h m1 hmm1.symm
  refine ch_iconst (v := 0) d_m_account_5 (by decide) ?_
  refine ch_istore_n (i := 2) d_m_account_6 rfl (Nat.le_of_ble_eq_true rfl) (ls' := [some (.inr (9, 0, 0)), some (.inl (.int p1)), some (.inl (.int 0)), none]) rfl ?_
  refine ch_iload_n (i := 1) d_m_account_7 rfl rfl ?_
  by_cases e0 : p1 = 0
  · replace h := h.1 e0
    refine ch_tswIn (tgt := 72) (off := 64) d_m_account_8 (by rw [e0]; decide) (by rw [e0]; decide) (by rw [e0]; rfl) (by decide) ?_
    refine ch_aload_n (i := 0) d_m_account_72 rfl rfl ?_
    refine ch_get (v := .inr (9, 0, 1)) d_m_account_73 fl_m_9 rfl ?_
    refine ch_iconst (v := 0) d_m_account_76 (by decide) ?_
    refine ch_iald (n := 63) d_m_account_77 (by decide) rfl (vp_in_nI (n := 0) (by decide) (by decide)) ?_
    exact ch_iret (ty := .int) d_m_account_78 rfl rfl (Nat.le_of_ble_eq_true rfl) h
  replace h := h.2
  by_cases e1 : p1 = 1
  · replace h := h.1 e1
    refine ch_tswIn (tgt := 79) (off := 71) d_m_account_8 (by rw [e1]; decide) (by rw [e1]; decide) (by rw [e1]; rfl) (by decide) ?_
    refine ch_iconst (v := 0) d_m_account_79 (by decide) ?_
    refine ch_istore_n (i := 3) d_m_account_80 rfl (Nat.le_of_ble_eq_true rfl) (ls' := [some (.inr (9, 0, 0)), some (.inl (.int p1)), some (.inl (.int 0)), some (.inl (.int 0))]) rfl ?_
    exact h
  replace h := h.2
  by_cases e2 : p1 = 2
  · replace h := h.1 e2
    refine ch_tswIn (tgt := 108) (off := 100) d_m_account_8 (by rw [e2]; decide) (by rw [e2]; decide) (by rw [e2]; rfl) (by decide) ?_
    refine ch_aload_n (i := 0) d_m_account_108 rfl rfl ?_
    refine ch_get (v := .inr (9, 0, 1)) d_m_account_109 fl_m_9 rfl ?_
    refine ch_iconst (v := 1) d_m_account_112 (by decide) ?_
    refine ch_iald (n := 63) d_m_account_113 (by decide) rfl (vp_in_nI (n := 1) (by decide) (by decide)) ?_
    exact ch_iret (ty := .int) d_m_account_114 rfl rfl (Nat.le_of_ble_eq_true rfl) h
  replace h := h.2
  by_cases e3 : p1 = 3
  · replace h := h.1 e3
    refine ch_tswIn (tgt := 115) (off := 107) d_m_account_8 (by rw [e3]; decide) (by rw [e3]; decide) (by rw [e3]; rfl) (by decide) ?_
    refine ch_aload_n (i := 0) d_m_account_115 rfl rfl ?_
    refine ch_callV (as := []) d_m_account_116 lk_m_162 mi_m_owned me_m_owned rfl rfl rfl ⟨Nat.le_of_ble_eq_true rfl, Nat.le_of_ble_eq_true rfl⟩ (Nat.le_of_ble_eq_true rfl) ⟨Nat.le_of_ble_eq_true rfl, Nat.le_of_ble_eq_true rfl⟩ (ch_mono (ch_Ki (fun r2 m3 h => ?_)) h)
    exact ch_iret (ty := .int) d_m_account_119 rfl rfl (Nat.le_of_ble_eq_true rfl) h
  replace h := h.2
  by_cases e4 : p1 = 4
  · replace h := h.1 e4
    refine ch_tswIn (tgt := 120) (off := 112) d_m_account_8 (by rw [e4]; decide) (by rw [e4]; decide) (by rw [e4]; rfl) (by decide) ?_
    refine ch_aload_n (i := 0) d_m_account_120 rfl rfl ?_
    refine ch_get (v := .inr (9, 0, 1)) d_m_account_121 fl_m_9 rfl ?_
    refine ch_bipush (v := 8) d_m_account_124 (by decide) ?_
    refine ch_iald (n := 63) d_m_account_126 (by decide) rfl (vp_in_nI (n := 8) (by decide) (by decide)) ?_
    exact ch_iret (ty := .int) d_m_account_127 rfl rfl (Nat.le_of_ble_eq_true rfl) h
  replace h := h.2
  by_cases e5 : p1 = 5
  · replace h := h.1 e5
    refine ch_tswIn (tgt := 128) (off := 120) d_m_account_8 (by rw [e5]; decide) (by rw [e5]; decide) (by rw [e5]; rfl) (by decide) ?_
    refine ch_aload_n (i := 0) d_m_account_128 rfl rfl ?_
    refine ch_get (v := .inr (9, 0, 1)) d_m_account_129 fl_m_9 rfl ?_
    refine ch_iconst (v := 3) d_m_account_132 (by decide) ?_
    refine ch_iald (n := 63) d_m_account_133 (by decide) rfl (vp_in_nI (n := 3) (by decide) (by decide)) ?_
    exact ch_iret (ty := .int) d_m_account_134 rfl rfl (Nat.le_of_ble_eq_true rfl) h
  replace h := h.2
  by_cases e6 : p1 = 6
  · replace h := h.1 e6
    refine ch_tswIn (tgt := 135) (off := 127) d_m_account_8 (by rw [e6]; decide) (by rw [e6]; decide) (by rw [e6]; rfl) (by decide) ?_
    refine ch_aload_n (i := 0) d_m_account_135 rfl rfl ?_
    refine ch_get (v := .inr (9, 0, 1)) d_m_account_136 fl_m_9 rfl ?_
    refine ch_iconst (v := 4) d_m_account_139 (by decide) ?_
    refine ch_iald (n := 63) d_m_account_140 (by decide) rfl (vp_in_nI (n := 4) (by decide) (by decide)) ?_
    exact ch_iret (ty := .int) d_m_account_141 rfl rfl (Nat.le_of_ble_eq_true rfl) h
  replace h := h.2
  by_cases e7 : p1 = 7
  · replace h := h.1 e7
    refine ch_tswIn (tgt := 142) (off := 134) d_m_account_8 (by rw [e7]; decide) (by rw [e7]; decide) (by rw [e7]; rfl) (by decide) ?_
    refine ch_aload_n (i := 0) d_m_account_142 rfl rfl ?_
    refine ch_get (v := .inr (9, 0, 1)) d_m_account_143 fl_m_9 rfl ?_
    refine ch_iconst (v := 5) d_m_account_146 (by decide) ?_
    refine ch_iald (n := 63) d_m_account_147 (by decide) rfl (vp_in_nI (n := 5) (by decide) (by decide)) ?_
    exact ch_iret (ty := .int) d_m_account_148 rfl rfl (Nat.le_of_ble_eq_true rfl) h
  replace h := h.2
  by_cases e8 : p1 = 8
  · replace h := h.1 e8
    refine ch_tswIn (tgt := 149) (off := 141) d_m_account_8 (by rw [e8]; decide) (by rw [e8]; decide) (by rw [e8]; rfl) (by decide) ?_
    refine ch_aload_n (i := 0) d_m_account_149 rfl rfl ?_
    refine ch_get (v := .inr (9, 0, 1)) d_m_account_150 fl_m_9 rfl ?_
    refine ch_bipush (v := 6) d_m_account_153 (by decide) ?_
    refine ch_iald (n := 63) d_m_account_155 (by decide) rfl (vp_in_nI (n := 6) (by decide) (by decide)) ?_
    exact ch_iret (ty := .int) d_m_account_156 rfl rfl (Nat.le_of_ble_eq_true rfl) h
  replace h := h.2
  by_cases e9 : p1 = 9
  · replace h := h.1 e9
    refine ch_tswIn (tgt := 157) (off := 149) d_m_account_8 (by rw [e9]; decide) (by rw [e9]; decide) (by rw [e9]; rfl) (by decide) ?_
    refine ch_aload_n (i := 0) d_m_account_157 rfl rfl ?_
    refine ch_get (v := .inr (9, 0, 1)) d_m_account_158 fl_m_9 rfl ?_
    refine ch_bipush (v := 7) d_m_account_161 (by decide) ?_
    refine ch_iald (n := 63) d_m_account_163 (by decide) rfl (vp_in_nI (n := 7) (by decide) (by decide)) ?_
    exact ch_iret (ty := .int) d_m_account_164 rfl rfl (Nat.le_of_ble_eq_true rfl) h
  replace h := h.2
  by_cases e10 : p1 = 10
  · replace h := h.1 e10
    refine ch_tswIn (tgt := 165) (off := 157) d_m_account_8 (by rw [e10]; decide) (by rw [e10]; decide) (by rw [e10]; rfl) (by decide) ?_
    refine ch_aload_n (i := 0) d_m_account_165 rfl rfl ?_
    refine ch_get (v := .inl (.int (m1 (9, 0, 0) 4))) d_m_account_166 fl_m_51 rfl ?_
    exact ch_iret (ty := .int) d_m_account_169 rfl rfl (Nat.le_of_ble_eq_true rfl) h
  replace h := h.2
  by_cases e11 : p1 = 11
  · replace h := h.1 e11
    refine ch_tswIn (tgt := 170) (off := 162) d_m_account_8 (by rw [e11]; decide) (by rw [e11]; decide) (by rw [e11]; rfl) (by decide) ?_
    refine ch_aload_n (i := 0) d_m_account_170 rfl rfl ?_
    refine ch_get (v := .inl (.int (m1 (9, 0, 0) 10))) d_m_account_171 fl_m_206 rfl ?_
    exact ch_iret (ty := .int) d_m_account_174 rfl rfl (Nat.le_of_ble_eq_true rfl) h
  replace h := h.2
  have hx : (Int32.toInt p1 < 0 ∨ 11 < Int32.toInt p1) := by
    have f0 : Int32.toInt p1 ≠ 0 := fun q => e0 (Int32.toInt_inj.mp (q.trans (by decide)))
    have f1 : Int32.toInt p1 ≠ 1 := fun q => e1 (Int32.toInt_inj.mp (q.trans (by decide)))
    have f2 : Int32.toInt p1 ≠ 2 := fun q => e2 (Int32.toInt_inj.mp (q.trans (by decide)))
    have f3 : Int32.toInt p1 ≠ 3 := fun q => e3 (Int32.toInt_inj.mp (q.trans (by decide)))
    have f4 : Int32.toInt p1 ≠ 4 := fun q => e4 (Int32.toInt_inj.mp (q.trans (by decide)))
    have f5 : Int32.toInt p1 ≠ 5 := fun q => e5 (Int32.toInt_inj.mp (q.trans (by decide)))
    have f6 : Int32.toInt p1 ≠ 6 := fun q => e6 (Int32.toInt_inj.mp (q.trans (by decide)))
    have f7 : Int32.toInt p1 ≠ 7 := fun q => e7 (Int32.toInt_inj.mp (q.trans (by decide)))
    have f8 : Int32.toInt p1 ≠ 8 := fun q => e8 (Int32.toInt_inj.mp (q.trans (by decide)))
    have f9 : Int32.toInt p1 ≠ 9 := fun q => e9 (Int32.toInt_inj.mp (q.trans (by decide)))
    have f10 : Int32.toInt p1 ≠ 10 := fun q => e10 (Int32.toInt_inj.mp (q.trans (by decide)))
    have f11 : Int32.toInt p1 ≠ 11 := fun q => e11 (Int32.toInt_inj.mp (q.trans (by decide)))
    omega
  replace h := h hx
  refine ch_tswOut (tgt := 175) d_m_account_8 hx (by decide) ?_
  refine ch_aload_n (i := 0) d_m_account_175 rfl rfl ?_
  refine ch_iconst (v := 1) d_m_account_176 (by decide) ?_
  refine ch_callV (as := [.inl (.int 1)]) d_m_account_177 lk_m_70 mi_m_raises me_m_raises rfl rfl rfl ⟨Nat.le_of_ble_eq_true rfl, Nat.le_of_ble_eq_true rfl⟩ (Nat.le_of_ble_eq_true rfl) ⟨Nat.le_of_ble_eq_true rfl, Nat.le_of_ble_eq_true rfl⟩ (ch_mono (ch_Ki (fun r4 m5 h => ?_)) h)
  exact ch_iret (ty := .int) d_m_account_180 rfl rfl (Nat.le_of_ble_eq_true rfl) h
set_option maxHeartbeats 1600000 in
theorem g_m_account_81 (g : ch_G) (Q : ch_O → ch_M → Prop) (x1 : Int32) (x2 : Int32) (x3 : Int32) (m : ch_M) (h : (((m (9, 0, 1) (0)) ≤ x3 → Q (.inl (some (.inl (.int x2)))) m) ∧ (¬ (m (9, 0, 1) (0)) ≤ x3 → (ch_C g m_m_of [.inr (9, 0, 0), .inl (.int x3), .inl (.int 0)] m (ch_oi (fun (r1 : Int32) (m2 : ch_M) => ch_J g m_m_account (ch_rm m_m_account) (ch_E g m_m_account Q) 81 [some (.inr (9, 0, 0)), some (.inl (.int x1)), some (.inl (.int (x2 + r1))), some (.inl (.int (x3 + 1)))] [] m2 0)))))) : ch_J g m_m_account (ch_rm m_m_account) (ch_E g m_m_account Q) 81 [some (.inr (9, 0, 0)), some (.inl (.int x1)), some (.inl (.int x2)), some (.inl (.int x3))] [] m 0 := by
  refine ch_iload_n (i := 3) d_m_account_81 rfl rfl ?_
  refine ch_aload_n (i := 0) d_m_account_82 rfl rfl ?_
  refine ch_get (v := .inr (9, 0, 1)) d_m_account_83 fl_m_9 rfl ?_
  refine ch_iconst (v := 0) d_m_account_86 (by decide) ?_
  refine ch_iald (n := 63) d_m_account_87 (by decide) rfl (vp_in_nI (n := 0) (by decide) (by decide)) ?_
  refine ch_icmp_ge (tgt := 106) d_m_account_88 (by decide) (fun c => ?_) (fun c => ?_)
  · replace h := h.1 c
    refine ch_iload_n (i := 2) d_m_account_106 rfl rfl ?_
    exact ch_iret (ty := .int) d_m_account_107 rfl rfl (Nat.le_of_ble_eq_true rfl) h
  · replace h := h.2 c
    refine ch_iload_n (i := 2) d_m_account_91 rfl rfl ?_
    refine ch_aload_n (i := 0) d_m_account_92 rfl rfl ?_
    refine ch_iload_n (i := 3) d_m_account_93 rfl rfl ?_
    refine ch_iconst (v := 0) d_m_account_94 (by decide) ?_
    refine ch_callV (as := [.inl (.int x3), .inl (.int 0)]) d_m_account_95 lk_m_85 mi_m_of me_m_of rfl rfl rfl ⟨Nat.le_of_ble_eq_true rfl, Nat.le_of_ble_eq_true rfl⟩ (Nat.le_of_ble_eq_true rfl) ⟨Nat.le_of_ble_eq_true rfl, Nat.le_of_ble_eq_true rfl⟩ (ch_mono (ch_Ki (fun r1 m2 h => ?_)) h)
    refine ch_iadd d_m_account_98 ?_
    refine ch_istore_n (i := 2) d_m_account_99 rfl (Nat.le_of_ble_eq_true rfl) (ls' := [some (.inr (9, 0, 0)), some (.inl (.int x1)), some (.inl (.int (x2 + r1))), some (.inl (.int x3))]) rfl ?_
    refine ch_iinc (i := 3) (v := (x3 + 1)) d_m_account_100 rfl rfl (Nat.le_of_ble_eq_true rfl) (ls' := [some (.inr (9, 0, 0)), some (.inl (.int x1)), some (.inl (.int (x2 + r1))), some (.inl (.int (x3 + 1)))]) rfl ?_
    refine ch_goto (tgt := 81) d_m_account_103 (by decide) ?_
    exact h
theorem e_m_undo (g : ch_G) (Q : ch_O → ch_M → Prop)  (m : ch_M) (h : ch_J g m_m_undo (ch_rm m_m_undo) (ch_E g m_m_undo Q) 0 [some (.inr (9, 0, 0)), none] [] m 0) : ch_C g m_m_undo [.inr (9, 0, 0)] m Q :=
  ch_enter mf_m_undo (by intro v hv; simp only [List.mem_cons, List.not_mem_nil, or_false] at hv; rcases hv with rfl <;> rfl) (Nat.le_of_ble_eq_true rfl) h
set_option maxHeartbeats 1600000 in
theorem g_m_undo_0 (g : ch_G) (Q : ch_O → ch_M → Prop)  (m : ch_M) (h : (∀ m1 : ch_M, m1 = ch_wr m (9, 0, 0) 19 0 → ((¬ (m1 (9, 0, 0) 4) = 0 → (∀ m2 : ch_M, m2 = ch_wr m1 (9, 0, 0) 4 ((m1 (9, 0, 0) 4) - 1) → ch_J g m_m_undo (ch_rm m_m_undo) (ch_E g m_m_undo Q) 30 [some (.inr (9, 0, 0)), some (.inl (.int 0))] [] m2 0)) ∧ ((m1 (9, 0, 0) 4) = 0 → (ch_C g m_m_raises [.inr (9, 0, 0), .inl (.int 1)] m1 (ch_oi (fun (r3 : Int32) (m4 : ch_M) => Q (.inl (some (.inl (.int r3)))) m4))))))) : ch_J g m_m_undo (ch_rm m_m_undo) (ch_E g m_m_undo Q) 0 [some (.inr (9, 0, 0)), none] [] m 0 := by
  refine ch_aload_n (i := 0) d_m_undo_0 rfl rfl ?_
  refine ch_iconst (v := 0) d_m_undo_1 (by decide) ?_
  refine ch_put d_m_undo_2 fp_m_48 rfl rfl rfl ?_
  generalize hmm1 : ch_wr m (9, 0, 0) 19 0 = m1
  replace h := h m1 hmm1.symm
  refine ch_aload_n (i := 0) d_m_undo_5 rfl rfl ?_
  refine ch_get (v := .inl (.int (m1 (9, 0, 0) 4))) d_m_undo_6 fl_m_51 rfl ?_
  refine ch_if_ne (tgt := 18) d_m_undo_9 (by decide) (fun c => ?_) (fun c => ?_)
  · replace h := h.1 c
    refine ch_aload_n (i := 0) d_m_undo_18 rfl rfl ?_
    refine ch_dup d_m_undo_19 rfl ?_
    refine ch_get (v := .inl (.int (m1 (9, 0, 0) 4))) d_m_undo_20 fl_m_51 rfl ?_
    refine ch_iconst (v := 1) d_m_undo_23 (by decide) ?_
    refine ch_isub d_m_undo_24 ?_
    refine ch_put d_m_undo_25 fp_m_51 rfl rfl rfl ?_
    generalize hmm2 : ch_wr m1 (9, 0, 0) 4 ((m1 (9, 0, 0) 4) - 1) = m2
    replace h := h m2 hmm2.symm
    refine ch_iconst (v := 0) d_m_undo_28 (by decide) ?_
    refine ch_istore_n (i := 1) d_m_undo_29 rfl (Nat.le_of_ble_eq_true rfl) (ls' := [some (.inr (9, 0, 0)), some (.inl (.int 0))]) rfl ?_
    exact h
  · replace h := h.2 c
    refine ch_aload_n (i := 0) d_m_undo_12 rfl rfl ?_
    refine ch_iconst (v := 1) d_m_undo_13 (by decide) ?_
    refine ch_callV (as := [.inl (.int 1)]) d_m_undo_14 lk_m_70 mi_m_raises me_m_raises rfl rfl rfl ⟨Nat.le_of_ble_eq_true rfl, Nat.le_of_ble_eq_true rfl⟩ (Nat.le_of_ble_eq_true rfl) ⟨Nat.le_of_ble_eq_true rfl, Nat.le_of_ble_eq_true rfl⟩ (ch_mono (ch_Ki (fun r3 m4 h => ?_)) h)
    exact ch_iret (ty := .int) d_m_undo_17 rfl rfl (Nat.le_of_ble_eq_true rfl) h
set_option maxHeartbeats 1600000 in
theorem g_m_undo_30 (g : ch_G) (Q : ch_O → ch_M → Prop) (x1 : Int32) (m : ch_M) (h : ((63 ≤ x1 → Q (.inl (some (.inl (.int (m (9, 0, 0) 4))))) m) ∧ (¬ 63 ≤ x1 → (vp_in ((63 * (m (9, 0, 0) 4)) + x1) 504) ∧ (vp_in x1 63) ∧ (∀ m3 : ch_M, m3 = ch_wr m (9, 0, 1) (Int32.toNatClampNeg x1) (m (9, 0, 4) (Int32.toNatClampNeg ((63 * (m (9, 0, 0) 4)) + x1))) → ch_J g m_m_undo (ch_rm m_m_undo) (ch_E g m_m_undo Q) 30 [some (.inr (9, 0, 0)), some (.inl (.int (x1 + 1)))] [] m3 0)))) : ch_J g m_m_undo (ch_rm m_m_undo) (ch_E g m_m_undo Q) 30 [some (.inr (9, 0, 0)), some (.inl (.int x1))] [] m 0 := by
  refine ch_iload_n (i := 1) d_m_undo_30 rfl rfl ?_
  refine ch_bipush (v := 63) d_m_undo_31 (by decide) ?_
  refine ch_icmp_ge (tgt := 62) d_m_undo_33 (by decide) (fun c => ?_) (fun c => ?_)
  · replace h := h.1 c
    refine ch_aload_n (i := 0) d_m_undo_62 rfl rfl ?_
    refine ch_get (v := .inl (.int (m (9, 0, 0) 4))) d_m_undo_63 fl_m_51 rfl ?_
    exact ch_iret (ty := .int) d_m_undo_66 rfl rfl (Nat.le_of_ble_eq_true rfl) h
  · replace h := h.2 c
    refine ch_aload_n (i := 0) d_m_undo_36 rfl rfl ?_
    refine ch_get (v := .inr (9, 0, 1)) d_m_undo_37 fl_m_9 rfl ?_
    refine ch_iload_n (i := 1) d_m_undo_40 rfl rfl ?_
    refine ch_aload_n (i := 0) d_m_undo_41 rfl rfl ?_
    refine ch_get (v := .inr (9, 0, 4)) d_m_undo_42 fl_m_19 rfl ?_
    refine ch_bipush (v := 63) d_m_undo_45 (by decide) ?_
    refine ch_aload_n (i := 0) d_m_undo_47 rfl rfl ?_
    refine ch_get (v := .inl (.int (m (9, 0, 0) 4))) d_m_undo_48 fl_m_51 rfl ?_
    refine ch_imul d_m_undo_51 ?_
    refine ch_iload_n (i := 1) d_m_undo_52 rfl rfl ?_
    refine ch_iadd d_m_undo_53 ?_
    have b1 := h.1
    replace h := h.2
    refine ch_iald (n := 504) d_m_undo_54 (by decide) rfl b1 ?_
    have b2 := h.1
    replace h := h.2
    refine ch_iast (n := 63) d_m_undo_55 (by decide) rfl b2 ?_
    show ch_J g _ _ _ _ _ _ (ch_wr m (9, 0, 1) (Int32.toNatClampNeg x1) (m (9, 0, 4) (Int32.toNatClampNeg ((63 * (m (9, 0, 0) 4)) + x1)))) _
    generalize hmm3 : ch_wr m (9, 0, 1) (Int32.toNatClampNeg x1) (m (9, 0, 4) (Int32.toNatClampNeg ((63 * (m (9, 0, 0) 4)) + x1))) = m3
    replace h := h m3 hmm3.symm
    refine ch_iinc (i := 1) (v := (x1 + 1)) d_m_undo_56 rfl rfl (Nat.le_of_ble_eq_true rfl) (ls' := [some (.inr (9, 0, 0)), some (.inl (.int (x1 + 1)))]) rfl ?_
    refine ch_goto (tgt := 30) d_m_undo_59 (by decide) ?_
    exact h
theorem e_m_save (g : ch_G) (Q : ch_O → ch_M → Prop)  (m : ch_M) (h : ch_J g m_m_save (ch_rm m_m_save) (ch_E g m_m_save Q) 0 [some (.inr (9, 0, 0)), none] [] m 0) : ch_C g m_m_save [.inr (9, 0, 0)] m Q :=
  ch_enter mf_m_save (by intro v hv; simp only [List.mem_cons, List.not_mem_nil, or_false] at hv; rcases hv with rfl <;> rfl) (Nat.le_of_ble_eq_true rfl) h
set_option maxHeartbeats 1600000 in
theorem g_m_save_0 (g : ch_G) (Q : ch_O → ch_M → Prop)  (m : ch_M) (h : (∀ m1 : ch_M, m1 = ch_wr m (9, 0, 0) 19 0 → (∀ m2 : ch_M, m2 = ch_wr m1 (9, 0, 0) 6 1 → ch_J g m_m_save (ch_rm m_m_save) (ch_E g m_m_save Q) 12 [some (.inr (9, 0, 0)), some (.inl (.int 0))] [] m2 0))) : ch_J g m_m_save (ch_rm m_m_save) (ch_E g m_m_save Q) 0 [some (.inr (9, 0, 0)), none] [] m 0 := by
  refine ch_aload_n (i := 0) d_m_save_0 rfl rfl ?_
  refine ch_iconst (v := 0) d_m_save_1 (by decide) ?_
  refine ch_put d_m_save_2 fp_m_48 rfl rfl rfl ?_
  generalize hmm1 : ch_wr m (9, 0, 0) 19 0 = m1
  replace h := h m1 hmm1.symm
  refine ch_aload_n (i := 0) d_m_save_5 rfl rfl ?_
  refine ch_iconst (v := 1) d_m_save_6 (by decide) ?_
  refine ch_put d_m_save_7 fp_m_251 rfl rfl rfl ?_
  generalize hmm2 : ch_wr m1 (9, 0, 0) 6 1 = m2
  replace h := h m2 hmm2.symm
  refine ch_iconst (v := 0) d_m_save_10 (by decide) ?_
  refine ch_istore_n (i := 1) d_m_save_11 rfl (Nat.le_of_ble_eq_true rfl) (ls' := [some (.inr (9, 0, 0)), some (.inl (.int 0))]) rfl ?_
  exact h
set_option maxHeartbeats 1600000 in
theorem g_m_save_12 (g : ch_G) (Q : ch_O → ch_M → Prop) (x1 : Int32) (m : ch_M) (h : ((63 ≤ x1 → Q (.inl (some (.inl (.int (m (9, 0, 1) (0)))))) m) ∧ (¬ 63 ≤ x1 → (vp_in x1 63) ∧ (∀ m2 : ch_M, m2 = ch_wr m (9, 0, 5) (Int32.toNatClampNeg x1) (m (9, 0, 1) (Int32.toNatClampNeg x1)) → ch_J g m_m_save (ch_rm m_m_save) (ch_E g m_m_save Q) 12 [some (.inr (9, 0, 0)), some (.inl (.int (x1 + 1)))] [] m2 0)))) : ch_J g m_m_save (ch_rm m_m_save) (ch_E g m_m_save Q) 12 [some (.inr (9, 0, 0)), some (.inl (.int x1))] [] m 0 := by
  refine ch_iload_n (i := 1) d_m_save_12 rfl rfl ?_
  refine ch_bipush (v := 63) d_m_save_13 (by decide) ?_
  refine ch_icmp_ge (tgt := 36) d_m_save_15 (by decide) (fun c => ?_) (fun c => ?_)
  · replace h := h.1 c
    refine ch_aload_n (i := 0) d_m_save_36 rfl rfl ?_
    refine ch_get (v := .inr (9, 0, 1)) d_m_save_37 fl_m_9 rfl ?_
    refine ch_iconst (v := 0) d_m_save_40 (by decide) ?_
    refine ch_iald (n := 63) d_m_save_41 (by decide) rfl (vp_in_nI (n := 0) (by decide) (by decide)) ?_
    exact ch_iret (ty := .int) d_m_save_42 rfl rfl (Nat.le_of_ble_eq_true rfl) h
  · replace h := h.2 c
    refine ch_aload_n (i := 0) d_m_save_18 rfl rfl ?_
    refine ch_get (v := .inr (9, 0, 5)) d_m_save_19 fl_m_22 rfl ?_
    refine ch_iload_n (i := 1) d_m_save_22 rfl rfl ?_
    refine ch_aload_n (i := 0) d_m_save_23 rfl rfl ?_
    refine ch_get (v := .inr (9, 0, 1)) d_m_save_24 fl_m_9 rfl ?_
    refine ch_iload_n (i := 1) d_m_save_27 rfl rfl ?_
    have b1 := h.1
    replace h := h.2
    refine ch_iald (n := 63) d_m_save_28 (by decide) rfl b1 ?_
    refine ch_iast (n := 63) d_m_save_29 (by decide) rfl b1 ?_
    show ch_J g _ _ _ _ _ _ (ch_wr m (9, 0, 5) (Int32.toNatClampNeg x1) (m (9, 0, 1) (Int32.toNatClampNeg x1))) _
    generalize hmm2 : ch_wr m (9, 0, 5) (Int32.toNatClampNeg x1) (m (9, 0, 1) (Int32.toNatClampNeg x1)) = m2
    replace h := h m2 hmm2.symm
    refine ch_iinc (i := 1) (v := (x1 + 1)) d_m_save_30 rfl rfl (Nat.le_of_ble_eq_true rfl) (ls' := [some (.inr (9, 0, 0)), some (.inl (.int (x1 + 1)))]) rfl ?_
    refine ch_goto (tgt := 12) d_m_save_33 (by decide) ?_
    exact h
theorem e_m_restore (g : ch_G) (Q : ch_O → ch_M → Prop)  (m : ch_M) (h : ch_J g m_m_restore (ch_rm m_m_restore) (ch_E g m_m_restore Q) 0 [some (.inr (9, 0, 0)), none] [] m 0) : ch_C g m_m_restore [.inr (9, 0, 0)] m Q :=
  ch_enter mf_m_restore (by intro v hv; simp only [List.mem_cons, List.not_mem_nil, or_false] at hv; rcases hv with rfl <;> rfl) (Nat.le_of_ble_eq_true rfl) h
set_option maxHeartbeats 1600000 in
theorem g_m_restore_0 (g : ch_G) (Q : ch_O → ch_M → Prop)  (m : ch_M) (h : (∀ m1 : ch_M, m1 = ch_wr m (9, 0, 0) 19 0 → ((¬ (m1 (9, 0, 0) 6) = 0 → ch_J g m_m_restore (ch_rm m_m_restore) (ch_E g m_m_restore Q) 20 [some (.inr (9, 0, 0)), some (.inl (.int 0))] [] m1 0) ∧ ((m1 (9, 0, 0) 6) = 0 → (ch_C g m_m_raises [.inr (9, 0, 0), .inl (.int 1)] m1 (ch_oi (fun (r2 : Int32) (m3 : ch_M) => Q (.inl (some (.inl (.int r2)))) m3))))))) : ch_J g m_m_restore (ch_rm m_m_restore) (ch_E g m_m_restore Q) 0 [some (.inr (9, 0, 0)), none] [] m 0 := by
  refine ch_aload_n (i := 0) d_m_restore_0 rfl rfl ?_
  refine ch_iconst (v := 0) d_m_restore_1 (by decide) ?_
  refine ch_put d_m_restore_2 fp_m_48 rfl rfl rfl ?_
  generalize hmm1 : ch_wr m (9, 0, 0) 19 0 = m1
  replace h := h m1 hmm1.symm
  refine ch_aload_n (i := 0) d_m_restore_5 rfl rfl ?_
  refine ch_get (v := .inl (.int (m1 (9, 0, 0) 6))) d_m_restore_6 fl_m_251 rfl ?_
  refine ch_if_ne (tgt := 18) d_m_restore_9 (by decide) (fun c => ?_) (fun c => ?_)
  · replace h := h.1 c
    refine ch_iconst (v := 0) d_m_restore_18 (by decide) ?_
    refine ch_istore_n (i := 1) d_m_restore_19 rfl (Nat.le_of_ble_eq_true rfl) (ls' := [some (.inr (9, 0, 0)), some (.inl (.int 0))]) rfl ?_
    exact h
  · replace h := h.2 c
    refine ch_aload_n (i := 0) d_m_restore_12 rfl rfl ?_
    refine ch_iconst (v := 1) d_m_restore_13 (by decide) ?_
    refine ch_callV (as := [.inl (.int 1)]) d_m_restore_14 lk_m_70 mi_m_raises me_m_raises rfl rfl rfl ⟨Nat.le_of_ble_eq_true rfl, Nat.le_of_ble_eq_true rfl⟩ (Nat.le_of_ble_eq_true rfl) ⟨Nat.le_of_ble_eq_true rfl, Nat.le_of_ble_eq_true rfl⟩ (ch_mono (ch_Ki (fun r2 m3 h => ?_)) h)
    exact ch_iret (ty := .int) d_m_restore_17 rfl rfl (Nat.le_of_ble_eq_true rfl) h
set_option maxHeartbeats 1600000 in
theorem g_m_restore_20 (g : ch_G) (Q : ch_O → ch_M → Prop) (x1 : Int32) (m : ch_M) (h : ((63 ≤ x1 → (∀ m1 : ch_M, m1 = ch_wr m (9, 0, 0) 4 0 → Q (.inl (some (.inl (.int (m1 (9, 0, 1) (0)))))) m1)) ∧ (¬ 63 ≤ x1 → (vp_in x1 63) ∧ (∀ m3 : ch_M, m3 = ch_wr m (9, 0, 1) (Int32.toNatClampNeg x1) (m (9, 0, 5) (Int32.toNatClampNeg x1)) → ch_J g m_m_restore (ch_rm m_m_restore) (ch_E g m_m_restore Q) 20 [some (.inr (9, 0, 0)), some (.inl (.int (x1 + 1)))] [] m3 0)))) : ch_J g m_m_restore (ch_rm m_m_restore) (ch_E g m_m_restore Q) 20 [some (.inr (9, 0, 0)), some (.inl (.int x1))] [] m 0 := by
  refine ch_iload_n (i := 1) d_m_restore_20 rfl rfl ?_
  refine ch_bipush (v := 63) d_m_restore_21 (by decide) ?_
  refine ch_icmp_ge (tgt := 44) d_m_restore_23 (by decide) (fun c => ?_) (fun c => ?_)
  · replace h := h.1 c
    refine ch_aload_n (i := 0) d_m_restore_44 rfl rfl ?_
    refine ch_iconst (v := 0) d_m_restore_45 (by decide) ?_
    refine ch_put d_m_restore_46 fp_m_51 rfl rfl rfl ?_
    generalize hmm1 : ch_wr m (9, 0, 0) 4 0 = m1
    replace h := h m1 hmm1.symm
    refine ch_aload_n (i := 0) d_m_restore_49 rfl rfl ?_
    refine ch_get (v := .inr (9, 0, 1)) d_m_restore_50 fl_m_9 rfl ?_
    refine ch_iconst (v := 0) d_m_restore_53 (by decide) ?_
    refine ch_iald (n := 63) d_m_restore_54 (by decide) rfl (vp_in_nI (n := 0) (by decide) (by decide)) ?_
    exact ch_iret (ty := .int) d_m_restore_55 rfl rfl (Nat.le_of_ble_eq_true rfl) h
  · replace h := h.2 c
    refine ch_aload_n (i := 0) d_m_restore_26 rfl rfl ?_
    refine ch_get (v := .inr (9, 0, 1)) d_m_restore_27 fl_m_9 rfl ?_
    refine ch_iload_n (i := 1) d_m_restore_30 rfl rfl ?_
    refine ch_aload_n (i := 0) d_m_restore_31 rfl rfl ?_
    refine ch_get (v := .inr (9, 0, 5)) d_m_restore_32 fl_m_22 rfl ?_
    refine ch_iload_n (i := 1) d_m_restore_35 rfl rfl ?_
    have b2 := h.1
    replace h := h.2
    refine ch_iald (n := 63) d_m_restore_36 (by decide) rfl b2 ?_
    refine ch_iast (n := 63) d_m_restore_37 (by decide) rfl b2 ?_
    show ch_J g _ _ _ _ _ _ (ch_wr m (9, 0, 1) (Int32.toNatClampNeg x1) (m (9, 0, 5) (Int32.toNatClampNeg x1))) _
    generalize hmm3 : ch_wr m (9, 0, 1) (Int32.toNatClampNeg x1) (m (9, 0, 5) (Int32.toNatClampNeg x1)) = m3
    replace h := h m3 hmm3.symm
    refine ch_iinc (i := 1) (v := (x1 + 1)) d_m_restore_38 rfl rfl (Nat.le_of_ble_eq_true rfl) (ls' := [some (.inr (9, 0, 0)), some (.inl (.int (x1 + 1)))]) rfl ?_
    refine ch_goto (tgt := 20) d_m_restore_41 (by decide) ?_
    exact h
