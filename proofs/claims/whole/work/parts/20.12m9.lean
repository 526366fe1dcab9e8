theorem e_m_commands (g : ch_G) (Q : ch_O → ch_M → Prop)  (m : ch_M) (h : ch_J g m_m_commands (ch_rm m_m_commands) (ch_E g m_m_commands Q) 0 [some (.inr (9, 0, 0)), none, none, none, none, none] [] m 0) : ch_C g m_m_commands [.inr (9, 0, 0)] m Q :=
  ch_enter mf_m_commands (by intro v hv; simp only [List.mem_cons, List.not_mem_nil, or_false] at hv; rcases hv with rfl <;> rfl) (Nat.le_of_ble_eq_true rfl) h
set_option maxHeartbeats 1600000 in
theorem g_m_commands_0 (g : ch_G) (Q : ch_O → ch_M → Prop)  (m : ch_M) (h : (ch_C g m_m_tries [.inr (9, 0, 0)] m (ch_ov (fun (m2 : ch_M) => (∀ m3 : ch_M, m3 = ch_wr m2 (9, 0, 0) 11 0 → (∀ m4 : ch_M, m4 = ch_wr m3 (9, 0, 0) 14 (-1) → (ch_C g m_m_isCommand [.inr (9, 0, 0)] m4 (ch_oi (fun (r5 : Int32) (m6 : ch_M) => ch_J g m_m_commands (ch_rm m_m_commands) (ch_E g m_m_commands Q) 19 [some (.inr (9, 0, 0)), some (.inl (.int r5)), none, none, none, none] [] m6 0))))))))) : ch_J g m_m_commands (ch_rm m_m_commands) (ch_E g m_m_commands Q) 0 [some (.inr (9, 0, 0)), none, none, none, none, none] [] m 0 := by
  refine ch_aload_n (i := 0) d_m_commands_0 rfl rfl ?_
  refine ch_callV (as := []) d_m_commands_1 lk_m_96 mi_m_tries me_m_tries rfl rfl rfl ⟨Nat.le_of_ble_eq_true rfl, Nat.le_of_ble_eq_true rfl⟩ (Nat.le_of_ble_eq_true rfl) ⟨Nat.le_of_ble_eq_true rfl, Nat.le_of_ble_eq_true rfl⟩ (ch_mono (ch_Kv (fun m2 h => ?_)) h)
  refine ch_aload_n (i := 0) d_m_commands_4 rfl rfl ?_
  refine ch_iconst (v := 0) d_m_commands_5 (by decide) ?_
  refine ch_put d_m_commands_6 fp_m_209 rfl rfl rfl ?_
  generalize hmm3 : ch_wr m2 (9, 0, 0) 11 0 = m3
  replace h := h m3 hmm3.symm
  refine ch_aload_n (i := 0) d_m_commands_9 rfl rfl ?_
  refine ch_iconst (v := (-1)) d_m_commands_10 (by decide) ?_
  refine ch_put d_m_commands_11 fp_m_35 rfl rfl rfl ?_
  generalize hmm4 : ch_wr m3 (9, 0, 0) 14 (-1) = m4
  replace h := h m4 hmm4.symm
  refine ch_aload_n (i := 0) d_m_commands_14 rfl rfl ?_
  refine ch_callV (as := []) d_m_commands_15 lk_m_233 mi_m_isCommand me_m_isCommand rfl rfl rfl ⟨Nat.le_of_ble_eq_true rfl, Nat.le_of_ble_eq_true rfl⟩ (Nat.le_of_ble_eq_true rfl) ⟨Nat.le_of_ble_eq_true rfl, Nat.le_of_ble_eq_true rfl⟩ (ch_mono (ch_Ki (fun r5 m6 h => ?_)) h)
  refine ch_istore_n (i := 1) d_m_commands_18 rfl (Nat.le_of_ble_eq_true rfl) (ls' := [some (.inr (9, 0, 0)), some (.inl (.int r5)), none, none, none, none]) rfl ?_
  exact h
set_option maxHeartbeats 1600000 in
theorem g_m_commands_19 (g : ch_G) (Q : ch_O → ch_M → Prop) (x1 : Int32) (o2 : Option ch_V) (o3 : Option ch_V) (o4 : Option ch_V) (o5 : Option ch_V) (m : ch_M) (h : ((x1 = 0 → ((¬ x1 = 0 → (∀ m1 : ch_M, m1 = ch_wr m (9, 0, 0) 11 0 → ch_J g m_m_commands (ch_rm m_m_commands) (ch_E g m_m_commands Q) 94 [some (.inr (9, 0, 0)), some (.inl (.int x1)), some (.inl (.int 0)), some (.inl (.int 1)), some (.inl (.int 1)), o5] [] m1 0)) ∧ (x1 = 0 → (∀ m2 : ch_M, m2 = ch_wr m (9, 0, 0) 14 (m (9, 0, 0) 11) → (∀ m3 : ch_M, m3 = ch_wr m2 (9, 0, 0) 10 0 → (ch_C g m_m_raises [.inr (9, 0, 0), .inl (.int 1)] m3 (ch_oi (fun (r4 : Int32) (m5 : ch_M) => Q (.inl (some (.inl (.int r4)))) m5)))))))) ∧ (¬ x1 = 0 → (((m (9, 0, 0) 10) ≤ (m (9, 0, 0) 11) → ((¬ x1 = 0 → (∀ m6 : ch_M, m6 = ch_wr m (9, 0, 0) 11 0 → ch_J g m_m_commands (ch_rm m_m_commands) (ch_E g m_m_commands Q) 94 [some (.inr (9, 0, 0)), some (.inl (.int x1)), some (.inl (.int 0)), some (.inl (.int 1)), some (.inl (.int 1)), o5] [] m6 0)) ∧ (x1 = 0 → (∀ m7 : ch_M, m7 = ch_wr m (9, 0, 0) 14 (m (9, 0, 0) 11) → (∀ m8 : ch_M, m8 = ch_wr m7 (9, 0, 0) 10 0 → (ch_C g m_m_raises [.inr (9, 0, 0), .inl (.int 1)] m8 (ch_oi (fun (r9 : Int32) (m10 : ch_M) => Q (.inl (some (.inl (.int r9)))) m10)))))))) ∧ (¬ (m (9, 0, 0) 10) ≤ (m (9, 0, 0) 11) → (ch_C g m_m_takes [.inr (9, 0, 0), .inl (.int 59)] m (ch_oi (fun (r11 : Int32) (m12 : ch_M) => ((r11 = 0 → ch_J g m_m_commands (ch_rm m_m_commands) (ch_E g m_m_commands Q) 19 [some (.inr (9, 0, 0)), some (.inl (.int 0)), o2, o3, o4, o5] [] m12 0) ∧ (¬ r11 = 0 → (ch_C g m_m_isCommand [.inr (9, 0, 0)] m12 (ch_oi (fun (r13 : Int32) (m14 : ch_M) => ((r13 = 0 → ch_J g m_m_commands (ch_rm m_m_commands) (ch_E g m_m_commands Q) 19 [some (.inr (9, 0, 0)), some (.inl (.int 0)), o2, o3, o4, o5] [] m14 0) ∧ (¬ r13 = 0 → ch_J g m_m_commands (ch_rm m_m_commands) (ch_E g m_m_commands Q) 19 [some (.inr (9, 0, 0)), some (.inl (.int 1)), o2, o3, o4, o5] [] m14 0))))))))))))))) : ch_J g m_m_commands (ch_rm m_m_commands) (ch_E g m_m_commands Q) 19 [some (.inr (9, 0, 0)), some (.inl (.int x1)), o2, o3, o4, o5] [] m 0 := by
  refine ch_iload_n (i := 1) d_m_commands_19 rfl rfl ?_
  refine ch_if_eq (tgt := 59) d_m_commands_20 (by decide) (fun c => ?_) (fun c => ?_)
  · replace h := h.1 c
    refine ch_iload_n (i := 1) d_m_commands_59 rfl rfl ?_
    refine ch_if_ne (tgt := 82) d_m_commands_60 (by decide) (fun c => ?_) (fun c => ?_)
    · replace h := h.1 c
      refine ch_aload_n (i := 0) d_m_commands_82 rfl rfl ?_
      refine ch_iconst (v := 0) d_m_commands_83 (by decide) ?_
      refine ch_put d_m_commands_84 fp_m_209 rfl rfl rfl ?_
      generalize hmm1 : ch_wr m (9, 0, 0) 11 0 = m1
      replace h := h m1 hmm1.symm
      refine ch_iconst (v := 0) d_m_commands_87 (by decide) ?_
      refine ch_istore_n (i := 2) d_m_commands_88 rfl (Nat.le_of_ble_eq_true rfl) (ls' := [some (.inr (9, 0, 0)), some (.inl (.int x1)), some (.inl (.int 0)), o3, o4, o5]) rfl ?_
      refine ch_iconst (v := 1) d_m_commands_89 (by decide) ?_
      refine ch_istore_n (i := 3) d_m_commands_90 rfl (Nat.le_of_ble_eq_true rfl) (ls' := [some (.inr (9, 0, 0)), some (.inl (.int x1)), some (.inl (.int 0)), some (.inl (.int 1)), o4, o5]) rfl ?_
      refine ch_iconst (v := 1) d_m_commands_91 (by decide) ?_
      refine ch_istore (i := 4) d_m_commands_92 (Nat.le_of_ble_eq_true rfl) (ls' := [some (.inr (9, 0, 0)), some (.inl (.int x1)), some (.inl (.int 0)), some (.inl (.int 1)), some (.inl (.int 1)), o5]) rfl ?_
      exact h
    · replace h := h.2 c
      refine ch_aload_n (i := 0) d_m_commands_63 rfl rfl ?_
      refine ch_aload_n (i := 0) d_m_commands_64 rfl rfl ?_
      refine ch_get (v := .inl (.int (m (9, 0, 0) 11))) d_m_commands_65 fl_m_209 rfl ?_
      refine ch_put d_m_commands_68 fp_m_35 rfl rfl rfl ?_
      generalize hmm2 : ch_wr m (9, 0, 0) 14 (m (9, 0, 0) 11) = m2
      replace h := h m2 hmm2.symm
      refine ch_aload_n (i := 0) d_m_commands_71 rfl rfl ?_
      refine ch_iconst (v := 0) d_m_commands_72 (by decide) ?_
      refine ch_put d_m_commands_73 fp_m_206 rfl rfl rfl ?_
      generalize hmm3 : ch_wr m2 (9, 0, 0) 10 0 = m3
      replace h := h m3 hmm3.symm
      refine ch_aload_n (i := 0) d_m_commands_76 rfl rfl ?_
      refine ch_iconst (v := 1) d_m_commands_77 (by decide) ?_
      refine ch_callV (as := [.inl (.int 1)]) d_m_commands_78 lk_m_70 mi_m_raises me_m_raises rfl rfl rfl ⟨Nat.le_of_ble_eq_true rfl, Nat.le_of_ble_eq_true rfl⟩ (Nat.le_of_ble_eq_true rfl) ⟨Nat.le_of_ble_eq_true rfl, Nat.le_of_ble_eq_true rfl⟩ (ch_mono (ch_Ki (fun r4 m5 h => ?_)) h)
      exact ch_iret (ty := .int) d_m_commands_81 rfl rfl (Nat.le_of_ble_eq_true rfl) h
  · replace h := h.2 c
    refine ch_aload_n (i := 0) d_m_commands_23 rfl rfl ?_
    refine ch_get (v := .inl (.int (m (9, 0, 0) 11))) d_m_commands_24 fl_m_209 rfl ?_
    refine ch_aload_n (i := 0) d_m_commands_27 rfl rfl ?_
    refine ch_get (v := .inl (.int (m (9, 0, 0) 10))) d_m_commands_28 fl_m_206 rfl ?_
    refine ch_icmp_ge (tgt := 59) d_m_commands_31 (by decide) (fun c => ?_) (fun c => ?_)
    · replace h := h.1 c
      refine ch_iload_n (i := 1) d_m_commands_59 rfl rfl ?_
      refine ch_if_ne (tgt := 82) d_m_commands_60 (by decide) (fun c => ?_) (fun c => ?_)
      · replace h := h.1 c
        refine ch_aload_n (i := 0) d_m_commands_82 rfl rfl ?_
        refine ch_iconst (v := 0) d_m_commands_83 (by decide) ?_
        refine ch_put d_m_commands_84 fp_m_209 rfl rfl rfl ?_
        generalize hmm6 : ch_wr m (9, 0, 0) 11 0 = m6
        replace h := h m6 hmm6.symm
        refine ch_iconst (v := 0) d_m_commands_87 (by decide) ?_
        refine ch_istore_n (i := 2) d_m_commands_88 rfl (Nat.le_of_ble_eq_true rfl) (ls' := [some (.inr (9, 0, 0)), some (.inl (.int x1)), some (.inl (.int 0)), o3, o4, o5]) rfl ?_
        refine ch_iconst (v := 1) d_m_commands_89 (by decide) ?_
        refine ch_istore_n (i := 3) d_m_commands_90 rfl (Nat.le_of_ble_eq_true rfl) (ls' := [some (.inr (9, 0, 0)), some (.inl (.int x1)), some (.inl (.int 0)), some (.inl (.int 1)), o4, o5]) rfl ?_
        refine ch_iconst (v := 1) d_m_commands_91 (by decide) ?_
        refine ch_istore (i := 4) d_m_commands_92 (Nat.le_of_ble_eq_true rfl) (ls' := [some (.inr (9, 0, 0)), some (.inl (.int x1)), some (.inl (.int 0)), some (.inl (.int 1)), some (.inl (.int 1)), o5]) rfl ?_
        exact h
      · replace h := h.2 c
        refine ch_aload_n (i := 0) d_m_commands_63 rfl rfl ?_
        refine ch_aload_n (i := 0) d_m_commands_64 rfl rfl ?_
        refine ch_get (v := .inl (.int (m (9, 0, 0) 11))) d_m_commands_65 fl_m_209 rfl ?_
        refine ch_put d_m_commands_68 fp_m_35 rfl rfl rfl ?_
        generalize hmm7 : ch_wr m (9, 0, 0) 14 (m (9, 0, 0) 11) = m7
        replace h := h m7 hmm7.symm
        refine ch_aload_n (i := 0) d_m_commands_71 rfl rfl ?_
        refine ch_iconst (v := 0) d_m_commands_72 (by decide) ?_
        refine ch_put d_m_commands_73 fp_m_206 rfl rfl rfl ?_
        generalize hmm8 : ch_wr m7 (9, 0, 0) 10 0 = m8
        replace h := h m8 hmm8.symm
        refine ch_aload_n (i := 0) d_m_commands_76 rfl rfl ?_
        refine ch_iconst (v := 1) d_m_commands_77 (by decide) ?_
        refine ch_callV (as := [.inl (.int 1)]) d_m_commands_78 lk_m_70 mi_m_raises me_m_raises rfl rfl rfl ⟨Nat.le_of_ble_eq_true rfl, Nat.le_of_ble_eq_true rfl⟩ (Nat.le_of_ble_eq_true rfl) ⟨Nat.le_of_ble_eq_true rfl, Nat.le_of_ble_eq_true rfl⟩ (ch_mono (ch_Ki (fun r9 m10 h => ?_)) h)
        exact ch_iret (ty := .int) d_m_commands_81 rfl rfl (Nat.le_of_ble_eq_true rfl) h
    · replace h := h.2 c
      refine ch_aload_n (i := 0) d_m_commands_34 rfl rfl ?_
      refine ch_bipush (v := 59) d_m_commands_35 (by decide) ?_
      refine ch_callV (as := [.inl (.int 59)]) d_m_commands_37 lk_m_226 mi_m_takes me_m_takes rfl rfl rfl ⟨Nat.le_of_ble_eq_true rfl, Nat.le_of_ble_eq_true rfl⟩ (Nat.le_of_ble_eq_true rfl) ⟨Nat.le_of_ble_eq_true rfl, Nat.le_of_ble_eq_true rfl⟩ (ch_mono (ch_Ki (fun r11 m12 h => ?_)) h)
      refine ch_if_eq (tgt := 54) d_m_commands_40 (by decide) (fun c => ?_) (fun c => ?_)
      · replace h := h.1 c
        refine ch_iconst (v := 0) d_m_commands_54 (by decide) ?_
        refine ch_istore_n (i := 1) d_m_commands_55 rfl (Nat.le_of_ble_eq_true rfl) (ls' := [some (.inr (9, 0, 0)), some (.inl (.int 0)), o2, o3, o4, o5]) rfl ?_
        refine ch_goto (tgt := 19) d_m_commands_56 (by decide) ?_
        exact h
      · replace h := h.2 c
        refine ch_aload_n (i := 0) d_m_commands_43 rfl rfl ?_
        refine ch_callV (as := []) d_m_commands_44 lk_m_233 mi_m_isCommand me_m_isCommand rfl rfl rfl ⟨Nat.le_of_ble_eq_true rfl, Nat.le_of_ble_eq_true rfl⟩ (Nat.le_of_ble_eq_true rfl) ⟨Nat.le_of_ble_eq_true rfl, Nat.le_of_ble_eq_true rfl⟩ (ch_mono (ch_Ki (fun r13 m14 h => ?_)) h)
        refine ch_if_eq (tgt := 54) d_m_commands_47 (by decide) (fun c => ?_) (fun c => ?_)
        · replace h := h.1 c
          refine ch_iconst (v := 0) d_m_commands_54 (by decide) ?_
          refine ch_istore_n (i := 1) d_m_commands_55 rfl (Nat.le_of_ble_eq_true rfl) (ls' := [some (.inr (9, 0, 0)), some (.inl (.int 0)), o2, o3, o4, o5]) rfl ?_
          refine ch_goto (tgt := 19) d_m_commands_56 (by decide) ?_
          exact h
        · replace h := h.2 c
          refine ch_iconst (v := 1) d_m_commands_50 (by decide) ?_
          refine ch_goto (tgt := 55) d_m_commands_51 (by decide) ?_
          refine ch_istore_n (i := 1) d_m_commands_55 rfl (Nat.le_of_ble_eq_true rfl) (ls' := [some (.inr (9, 0, 0)), some (.inl (.int 1)), o2, o3, o4, o5]) rfl ?_
          refine ch_goto (tgt := 19) d_m_commands_56 (by decide) ?_
          exact h
set_option maxHeartbeats 1600000 in
theorem g_m_commands_94 (g : ch_G) (Q : ch_O → ch_M → Prop) (x1 : Int32) (x2 : Int32) (x3 : Int32) (x4 : Int32) (o5 : Option ch_V) (m : ch_M) (h : ((x4 = 0 → (∀ m1 : ch_M, m1 = ch_wr m (9, 0, 0) 10 0 → ((x3 = 0 → (∀ m2 : ch_M, m2 = ch_wr m1 (9, 0, 0) 17 x2 → ch_J g m_m_commands (ch_rm m_m_commands) (ch_E g m_m_commands Q) 162 [some (.inr (9, 0, 0)), some (.inl (.int x1)), some (.inl (.int x2)), some (.inl (.int x3)), some (.inl (.int x4)), some (.inl (.int 0))] [] m2 0)) ∧ (¬ x3 = 0 → (ch_C g m_m_keeps [.inr (9, 0, 0), .inl (.int x2)] m1 (ch_oi (fun (r3 : Int32) (m4 : ch_M) => Q (.inl (some (.inl (.int r3)))) m4))))))) ∧ (¬ x4 = 0 → (ch_C g m_m_isCommand [.inr (9, 0, 0)] m (ch_oi (fun (r5 : Int32) (m6 : ch_M) => (ch_C g m_m_carries [.inr (9, 0, 0)] m6 (ch_oi (fun (r7 : Int32) (m8 : ch_M) => ((r7 = 0 → ((r7 = 0 → ch_J g m_m_commands (ch_rm m_m_commands) (ch_E g m_m_commands Q) 94 [some (.inr (9, 0, 0)), some (.inl (.int r5)), some (.inl (.int x2)), some (.inl (.int r7)), some (.inl (.int 0)), o5] [] m8 0) ∧ (¬ r7 = 0 → (ch_C g m_m_takes [.inr (9, 0, 0), .inl (.int 59)] m8 (ch_oi (fun (r9 : Int32) (m10 : ch_M) => ((r9 = 0 → ch_J g m_m_commands (ch_rm m_m_commands) (ch_E g m_m_commands Q) 94 [some (.inr (9, 0, 0)), some (.inl (.int r5)), some (.inl (.int x2)), some (.inl (.int r7)), some (.inl (.int 0)), o5] [] m10 0) ∧ (¬ r9 = 0 → ch_J g m_m_commands (ch_rm m_m_commands) (ch_E g m_m_commands Q) 94 [some (.inr (9, 0, 0)), some (.inl (.int r5)), some (.inl (.int x2)), some (.inl (.int r7)), some (.inl (.int 1)), o5] [] m10 0)))))))) ∧ (¬ r7 = 0 → ((r7 = 0 → ch_J g m_m_commands (ch_rm m_m_commands) (ch_E g m_m_commands Q) 94 [some (.inr (9, 0, 0)), some (.inl (.int r5)), some (.inl (.int (x2 + 1))), some (.inl (.int r7)), some (.inl (.int 0)), o5] [] m8 0) ∧ (¬ r7 = 0 → (ch_C g m_m_takes [.inr (9, 0, 0), .inl (.int 59)] m8 (ch_oi (fun (r11 : Int32) (m12 : ch_M) => ((r11 = 0 → ch_J g m_m_commands (ch_rm m_m_commands) (ch_E g m_m_commands Q) 94 [some (.inr (9, 0, 0)), some (.inl (.int r5)), some (.inl (.int (x2 + 1))), some (.inl (.int r7)), some (.inl (.int 0)), o5] [] m12 0) ∧ (¬ r11 = 0 → ch_J g m_m_commands (ch_rm m_m_commands) (ch_E g m_m_commands Q) 94 [some (.inr (9, 0, 0)), some (.inl (.int r5)), some (.inl (.int (x2 + 1))), some (.inl (.int r7)), some (.inl (.int 1)), o5] [] m12 0)))))))))))))))))) : ch_J g m_m_commands (ch_rm m_m_commands) (ch_E g m_m_commands Q) 94 [some (.inr (9, 0, 0)), some (.inl (.int x1)), some (.inl (.int x2)), some (.inl (.int x3)), some (.inl (.int x4)), o5] [] m 0 := by
  refine ch_iload d_m_commands_94 rfl ?_
  refine ch_if_eq (tgt := 139) d_m_commands_96 (by decide) (fun c => ?_) (fun c => ?_)
  · replace h := h.1 c
    refine ch_aload_n (i := 0) d_m_commands_139 rfl rfl ?_
    refine ch_iconst (v := 0) d_m_commands_140 (by decide) ?_
    refine ch_put d_m_commands_141 fp_m_206 rfl rfl rfl ?_
    generalize hmm1 : ch_wr m (9, 0, 0) 10 0 = m1
    replace h := h m1 hmm1.symm
    refine ch_iload_n (i := 3) d_m_commands_144 rfl rfl ?_
    refine ch_if_eq (tgt := 154) d_m_commands_145 (by decide) (fun c => ?_) (fun c => ?_)
    · replace h := h.1 c
      refine ch_aload_n (i := 0) d_m_commands_154 rfl rfl ?_
      refine ch_iload_n (i := 2) d_m_commands_155 rfl rfl ?_
      refine ch_put d_m_commands_156 fp_m_63 rfl rfl rfl ?_
      generalize hmm2 : ch_wr m1 (9, 0, 0) 17 x2 = m2
      replace h := h m2 hmm2.symm
      refine ch_iconst (v := 0) d_m_commands_159 (by decide) ?_
      refine ch_istore (i := 5) d_m_commands_160 (Nat.le_of_ble_eq_true rfl) (ls' := [some (.inr (9, 0, 0)), some (.inl (.int x1)), some (.inl (.int x2)), some (.inl (.int x3)), some (.inl (.int x4)), some (.inl (.int 0))]) rfl ?_
      exact h
    · replace h := h.2 c
      refine ch_aload_n (i := 0) d_m_commands_148 rfl rfl ?_
      refine ch_iload_n (i := 2) d_m_commands_149 rfl rfl ?_
      refine ch_callV (as := [.inl (.int x2)]) d_m_commands_150 lk_m_66 mi_m_keeps me_m_keeps rfl rfl rfl ⟨Nat.le_of_ble_eq_true rfl, Nat.le_of_ble_eq_true rfl⟩ (Nat.le_of_ble_eq_true rfl) ⟨Nat.le_of_ble_eq_true rfl, Nat.le_of_ble_eq_true rfl⟩ (ch_mono (ch_Ki (fun r3 m4 h => ?_)) h)
      exact ch_iret (ty := .int) d_m_commands_153 rfl rfl (Nat.le_of_ble_eq_true rfl) h
  · replace h := h.2 c
    refine ch_aload_n (i := 0) d_m_commands_99 rfl rfl ?_
    refine ch_callV (as := []) d_m_commands_100 lk_m_233 mi_m_isCommand me_m_isCommand rfl rfl rfl ⟨Nat.le_of_ble_eq_true rfl, Nat.le_of_ble_eq_true rfl⟩ (Nat.le_of_ble_eq_true rfl) ⟨Nat.le_of_ble_eq_true rfl, Nat.le_of_ble_eq_true rfl⟩ (ch_mono (ch_Ki (fun r5 m6 h => ?_)) h)
    refine ch_istore_n (i := 1) d_m_commands_103 rfl (Nat.le_of_ble_eq_true rfl) (ls' := [some (.inr (9, 0, 0)), some (.inl (.int r5)), some (.inl (.int x2)), some (.inl (.int x3)), some (.inl (.int x4)), o5]) rfl ?_
    refine ch_aload_n (i := 0) d_m_commands_104 rfl rfl ?_
    refine ch_callV (as := []) d_m_commands_105 lk_m_236 mi_m_carries me_m_carries rfl rfl rfl ⟨Nat.le_of_ble_eq_true rfl, Nat.le_of_ble_eq_true rfl⟩ (Nat.le_of_ble_eq_true rfl) ⟨Nat.le_of_ble_eq_true rfl, Nat.le_of_ble_eq_true rfl⟩ (ch_mono (ch_Ki (fun r7 m8 h => ?_)) h)
    refine ch_istore_n (i := 3) d_m_commands_108 rfl (Nat.le_of_ble_eq_true rfl) (ls' := [some (.inr (9, 0, 0)), some (.inl (.int r5)), some (.inl (.int x2)), some (.inl (.int r7)), some (.inl (.int x4)), o5]) rfl ?_
    refine ch_iload_n (i := 3) d_m_commands_109 rfl rfl ?_
    refine ch_if_eq (tgt := 116) d_m_commands_110 (by decide) (fun c => ?_) (fun c => ?_)
    · replace h := h.1 c
      refine ch_iload_n (i := 3) d_m_commands_116 rfl rfl ?_
      refine ch_if_eq (tgt := 133) d_m_commands_117 (by decide) (fun c => ?_) (fun c => ?_)
      · replace h := h.1 c
        refine ch_iconst (v := 0) d_m_commands_133 (by decide) ?_
        refine ch_istore (i := 4) d_m_commands_134 (Nat.le_of_ble_eq_true rfl) (ls' := [some (.inr (9, 0, 0)), some (.inl (.int r5)), some (.inl (.int x2)), some (.inl (.int r7)), some (.inl (.int 0)), o5]) rfl ?_
        refine ch_goto (tgt := 94) d_m_commands_136 (by decide) ?_
        exact h
      · replace h := h.2 c
        refine ch_aload_n (i := 0) d_m_commands_120 rfl rfl ?_
        refine ch_bipush (v := 59) d_m_commands_121 (by decide) ?_
        refine ch_callV (as := [.inl (.int 59)]) d_m_commands_123 lk_m_226 mi_m_takes me_m_takes rfl rfl rfl ⟨Nat.le_of_ble_eq_true rfl, Nat.le_of_ble_eq_true rfl⟩ (Nat.le_of_ble_eq_true rfl) ⟨Nat.le_of_ble_eq_true rfl, Nat.le_of_ble_eq_true rfl⟩ (ch_mono (ch_Ki (fun r9 m10 h => ?_)) h)
        refine ch_if_eq (tgt := 133) d_m_commands_126 (by decide) (fun c => ?_) (fun c => ?_)
        · replace h := h.1 c
          refine ch_iconst (v := 0) d_m_commands_133 (by decide) ?_
          refine ch_istore (i := 4) d_m_commands_134 (Nat.le_of_ble_eq_true rfl) (ls' := [some (.inr (9, 0, 0)), some (.inl (.int r5)), some (.inl (.int x2)), some (.inl (.int r7)), some (.inl (.int 0)), o5]) rfl ?_
          refine ch_goto (tgt := 94) d_m_commands_136 (by decide) ?_
          exact h
        · replace h := h.2 c
          refine ch_iconst (v := 1) d_m_commands_129 (by decide) ?_
          refine ch_goto (tgt := 134) d_m_commands_130 (by decide) ?_
          refine ch_istore (i := 4) d_m_commands_134 (Nat.le_of_ble_eq_true rfl) (ls' := [some (.inr (9, 0, 0)), some (.inl (.int r5)), some (.inl (.int x2)), some (.inl (.int r7)), some (.inl (.int 1)), o5]) rfl ?_
          refine ch_goto (tgt := 94) d_m_commands_136 (by decide) ?_
          exact h
    · replace h := h.2 c
      refine ch_iinc (i := 2) (v := (x2 + 1)) d_m_commands_113 rfl rfl (Nat.le_of_ble_eq_true rfl) (ls' := [some (.inr (9, 0, 0)), some (.inl (.int r5)), some (.inl (.int (x2 + 1))), some (.inl (.int r7)), some (.inl (.int x4)), o5]) rfl ?_
      refine ch_iload_n (i := 3) d_m_commands_116 rfl rfl ?_
      refine ch_if_eq (tgt := 133) d_m_commands_117 (by decide) (fun c => ?_) (fun c => ?_)
      · replace h := h.1 c
        refine ch_iconst (v := 0) d_m_commands_133 (by decide) ?_
        refine ch_istore (i := 4) d_m_commands_134 (Nat.le_of_ble_eq_true rfl) (ls' := [some (.inr (9, 0, 0)), some (.inl (.int r5)), some (.inl (.int (x2 + 1))), some (.inl (.int r7)), some (.inl (.int 0)), o5]) rfl ?_
        refine ch_goto (tgt := 94) d_m_commands_136 (by decide) ?_
        exact h
      · replace h := h.2 c
        refine ch_aload_n (i := 0) d_m_commands_120 rfl rfl ?_
        refine ch_bipush (v := 59) d_m_commands_121 (by decide) ?_
        refine ch_callV (as := [.inl (.int 59)]) d_m_commands_123 lk_m_226 mi_m_takes me_m_takes rfl rfl rfl ⟨Nat.le_of_ble_eq_true rfl, Nat.le_of_ble_eq_true rfl⟩ (Nat.le_of_ble_eq_true rfl) ⟨Nat.le_of_ble_eq_true rfl, Nat.le_of_ble_eq_true rfl⟩ (ch_mono (ch_Ki (fun r11 m12 h => ?_)) h)
        refine ch_if_eq (tgt := 133) d_m_commands_126 (by decide) (fun c => ?_) (fun c => ?_)
        · replace h := h.1 c
          refine ch_iconst (v := 0) d_m_commands_133 (by decide) ?_
          refine ch_istore (i := 4) d_m_commands_134 (Nat.le_of_ble_eq_true rfl) (ls' := [some (.inr (9, 0, 0)), some (.inl (.int r5)), some (.inl (.int (x2 + 1))), some (.inl (.int r7)), some (.inl (.int 0)), o5]) rfl ?_
          refine ch_goto (tgt := 94) d_m_commands_136 (by decide) ?_
          exact h
        · replace h := h.2 c
          refine ch_iconst (v := 1) d_m_commands_129 (by decide) ?_
          refine ch_goto (tgt := 134) d_m_commands_130 (by decide) ?_
          refine ch_istore (i := 4) d_m_commands_134 (Nat.le_of_ble_eq_true rfl) (ls' := [some (.inr (9, 0, 0)), some (.inl (.int r5)), some (.inl (.int (x2 + 1))), some (.inl (.int r7)), some (.inl (.int 1)), o5]) rfl ?_
          refine ch_goto (tgt := 94) d_m_commands_136 (by decide) ?_
          exact h
set_option maxHeartbeats 1600000 in
theorem g_m_commands_162 (g : ch_G) (Q : ch_O → ch_M → Prop) (x1 : Int32) (x2 : Int32) (x3 : Int32) (x4 : Int32) (x5 : Int32) (m : ch_M) (h : ((63 ≤ x5 → (ch_C g m_m_raises [.inr (9, 0, 0), .inl (.int 2)] m (ch_oi (fun (r1 : Int32) (m2 : ch_M) => Q (.inl (some (.inl (.int r1)))) m2)))) ∧ (¬ 63 ≤ x5 → (vp_in x5 63) ∧ (∀ m4 : ch_M, m4 = ch_wr m (9, 0, 1) (Int32.toNatClampNeg x5) (m (9, 0, 2) (Int32.toNatClampNeg x5)) → ch_J g m_m_commands (ch_rm m_m_commands) (ch_E g m_m_commands Q) 162 [some (.inr (9, 0, 0)), some (.inl (.int x1)), some (.inl (.int x2)), some (.inl (.int x3)), some (.inl (.int x4)), some (.inl (.int (x5 + 1)))] [] m4 0)))) : ch_J g m_m_commands (ch_rm m_m_commands) (ch_E g m_m_commands Q) 162 [some (.inr (9, 0, 0)), some (.inl (.int x1)), some (.inl (.int x2)), some (.inl (.int x3)), some (.inl (.int x4)), some (.inl (.int x5))] [] m 0 := by
  refine ch_iload d_m_commands_162 rfl ?_
  refine ch_bipush (v := 63) d_m_commands_164 (by decide) ?_
  refine ch_icmp_ge (tgt := 189) d_m_commands_166 (by decide) (fun c => ?_) (fun c => ?_)
  · replace h := h.1 c
    refine ch_aload_n (i := 0) d_m_commands_189 rfl rfl ?_
    refine ch_iconst (v := 2) d_m_commands_190 (by decide) ?_
    refine ch_callV (as := [.inl (.int 2)]) d_m_commands_191 lk_m_70 mi_m_raises me_m_raises rfl rfl rfl ⟨Nat.le_of_ble_eq_true rfl, Nat.le_of_ble_eq_true rfl⟩ (Nat.le_of_ble_eq_true rfl) ⟨Nat.le_of_ble_eq_true rfl, Nat.le_of_ble_eq_true rfl⟩ (ch_mono (ch_Ki (fun r1 m2 h => ?_)) h)
    exact ch_iret (ty := .int) d_m_commands_194 rfl rfl (Nat.le_of_ble_eq_true rfl) h
  · replace h := h.2 c
    refine ch_aload_n (i := 0) d_m_commands_169 rfl rfl ?_
    refine ch_get (v := .inr (9, 0, 1)) d_m_commands_170 fl_m_9 rfl ?_
    refine ch_iload d_m_commands_173 rfl ?_
    refine ch_aload_n (i := 0) d_m_commands_175 rfl rfl ?_
    refine ch_get (v := .inr (9, 0, 2)) d_m_commands_176 fl_m_13 rfl ?_
    refine ch_iload d_m_commands_179 rfl ?_
    have b3 := h.1
    replace h := h.2
    refine ch_iald (n := 63) d_m_commands_181 (by decide) rfl b3 ?_
    refine ch_iast (n := 63) d_m_commands_182 (by decide) rfl b3 ?_
    show ch_J g _ _ _ _ _ _ (ch_wr m (9, 0, 1) (Int32.toNatClampNeg x5) (m (9, 0, 2) (Int32.toNatClampNeg x5))) _
    generalize hmm4 : ch_wr m (9, 0, 1) (Int32.toNatClampNeg x5) (m (9, 0, 2) (Int32.toNatClampNeg x5)) = m4
    replace h := h m4 hmm4.symm
    refine ch_iinc (i := 5) (v := (x5 + 1)) d_m_commands_183 rfl rfl (Nat.le_of_ble_eq_true rfl) (ls' := [some (.inr (9, 0, 0)), some (.inl (.int x1)), some (.inl (.int x2)), some (.inl (.int x3)), some (.inl (.int x4)), some (.inl (.int (x5 + 1)))]) rfl ?_
    refine ch_goto (tgt := 162) d_m_commands_186 (by decide) ?_
    exact h
theorem e_m_faultPosition (g : ch_G) (Q : ch_O → ch_M → Prop)  (m : ch_M) (h : ch_J g m_m_faultPosition (ch_rm m_m_faultPosition) (ch_E g m_m_faultPosition Q) 0 [some (.inr (9, 0, 0))] [] m 0) : ch_C g m_m_faultPosition [.inr (9, 0, 0)] m Q :=
  ch_enter mf_m_faultPosition (by intro v hv; simp only [List.mem_cons, List.not_mem_nil, or_false] at hv; rcases hv with rfl <;> rfl) (Nat.le_of_ble_eq_true rfl) h
set_option maxHeartbeats 1600000 in
theorem g_m_faultPosition_0 (g : ch_G) (Q : ch_O → ch_M → Prop)  (m : ch_M) (h : (∀ m1 : ch_M, m1 = ch_wr m (9, 0, 0) 19 0 → Q (.inl (some (.inl (.int (m1 (9, 0, 0) 14))))) m1)) : ch_J g m_m_faultPosition (ch_rm m_m_faultPosition) (ch_E g m_m_faultPosition Q) 0 [some (.inr (9, 0, 0))] [] m 0 := by
  refine ch_aload_n (i := 0) d_m_faultPosition_0 rfl rfl ?_
  refine ch_iconst (v := 0) d_m_faultPosition_1 (by decide) ?_
  refine ch_put d_m_faultPosition_2 fp_m_48 rfl rfl rfl ?_
  generalize hmm1 : ch_wr m (9, 0, 0) 19 0 = m1
  replace h := h m1 hmm1.symm
  refine ch_aload_n (i := 0) d_m_faultPosition_5 rfl rfl ?_
  refine ch_get (v := .inl (.int (m1 (9, 0, 0) 14))) d_m_faultPosition_6 fl_m_35 rfl ?_
  exact ch_iret (ty := .int) d_m_faultPosition_9 rfl rfl (Nat.le_of_ble_eq_true rfl) h
theorem e_m_reason (g : ch_G) (Q : ch_O → ch_M → Prop) (p1 : Int32) (m : ch_M) (h : ch_J g m_m_reason (ch_rm m_m_reason) (ch_E g m_m_reason Q) 0 [some (.inr (9, 0, 0)), some (.inl (.int p1))] [] m 0) : ch_C g m_m_reason [.inr (9, 0, 0), .inl (.int p1)] m Q :=
  ch_enter mf_m_reason (by intro v hv; simp only [List.mem_cons, List.not_mem_nil, or_false] at hv; rcases hv with rfl | rfl <;> rfl) (Nat.le_of_ble_eq_true rfl) h
set_option maxHeartbeats 1600000 in
theorem g_m_reason_0 (g : ch_G) (Q : ch_O → ch_M → Prop) (p1 : Int32) (m : ch_M) (h : (∀ m1 : ch_M, m1 = ch_wr m (9, 0, 0) 19 0 → (ch_C g m_m_in [.inl (.int p1), .inl (.int 0), .inl (.int 2)] m1 (ch_oi (fun (r2 : Int32) (m3 : ch_M) => ((¬ r2 = 0 → ((¬ (m3 (9, 0, 0) 15) = 0 → ((¬ p1 = 0 → ((¬ p1 = 1 → Q (.inl (some (.inl (.int (m3 (9, 0, 0) 17))))) m3) ∧ (p1 = 1 → Q (.inl (some (.inl (.int (m3 (9, 0, 0) 16))))) m3))) ∧ (p1 = 0 → Q (.inl (some (.inl (.int (m3 (9, 0, 0) 15))))) m3))) ∧ ((m3 (9, 0, 0) 15) = 0 → (ch_C g m_m_raises [.inr (9, 0, 0), .inl (.int 2)] m3 (ch_oi (fun (r4 : Int32) (m5 : ch_M) => Q (.inl (some (.inl (.int r4)))) m5)))))) ∧ (r2 = 0 → (ch_C g m_m_raises [.inr (9, 0, 0), .inl (.int 1)] m3 (ch_oi (fun (r6 : Int32) (m7 : ch_M) => Q (.inl (some (.inl (.int r6)))) m7)))))))))) : ch_J g m_m_reason (ch_rm m_m_reason) (ch_E g m_m_reason Q) 0 [some (.inr (9, 0, 0)), some (.inl (.int p1))] [] m 0 := by
  refine ch_aload_n (i := 0) d_m_reason_0 rfl rfl ?_
  refine ch_iconst (v := 0) d_m_reason_1 (by decide) ?_
  refine ch_put d_m_reason_2 fp_m_48 rfl rfl rfl ?_
  generalize hmm1 : ch_wr m (9, 0, 0) 19 0 = m1
  replace h := h m1 hmm1.symm
  refine ch_iload_n (i := 1) d_m_reason_5 rfl rfl ?_
  refine ch_iconst (v := 0) d_m_reason_6 (by decide) ?_
  refine ch_iconst (v := 2) d_m_reason_7 (by decide) ?_
  refine ch_callS (as := [.inl (.int p1), .inl (.int 0), .inl (.int 2)]) d_m_reason_8 lk_m_73 ms_m_in rfl rfl ⟨Nat.le_of_ble_eq_true rfl, Nat.le_of_ble_eq_true rfl⟩ (Nat.le_of_ble_eq_true rfl) ⟨Nat.le_of_ble_eq_true rfl, Nat.le_of_ble_eq_true rfl⟩ (ch_mono (ch_Ki (fun r2 m3 h => ?_)) h)
  refine ch_if_ne (tgt := 20) d_m_reason_11 (by decide) (fun c => ?_) (fun c => ?_)
  · replace h := h.1 c
    refine ch_aload_n (i := 0) d_m_reason_20 rfl rfl ?_
    refine ch_get (v := .inl (.int (m3 (9, 0, 0) 15))) d_m_reason_21 fl_m_57 rfl ?_
    refine ch_if_ne (tgt := 33) d_m_reason_24 (by decide) (fun c => ?_) (fun c => ?_)
    · replace h := h.1 c
      refine ch_iload_n (i := 1) d_m_reason_33 rfl rfl ?_
      refine ch_if_ne (tgt := 44) d_m_reason_34 (by decide) (fun c => ?_) (fun c => ?_)
      · replace h := h.1 c
        refine ch_iload_n (i := 1) d_m_reason_44 rfl rfl ?_
        refine ch_iconst (v := 1) d_m_reason_45 (by decide) ?_
        refine ch_icmp_ne (tgt := 56) d_m_reason_46 (by decide) (fun c => ?_) (fun c => ?_)
        · replace h := h.1 c
          refine ch_aload_n (i := 0) d_m_reason_56 rfl rfl ?_
          refine ch_get (v := .inl (.int (m3 (9, 0, 0) 17))) d_m_reason_57 fl_m_63 rfl ?_
          exact ch_iret (ty := .int) d_m_reason_60 rfl rfl (Nat.le_of_ble_eq_true rfl) h
        · replace h := h.2 c
          refine ch_aload_n (i := 0) d_m_reason_49 rfl rfl ?_
          refine ch_get (v := .inl (.int (m3 (9, 0, 0) 16))) d_m_reason_50 fl_m_60 rfl ?_
          refine ch_goto (tgt := 60) d_m_reason_53 (by decide) ?_
          exact ch_iret (ty := .int) d_m_reason_60 rfl rfl (Nat.le_of_ble_eq_true rfl) h
      · replace h := h.2 c
        refine ch_aload_n (i := 0) d_m_reason_37 rfl rfl ?_
        refine ch_get (v := .inl (.int (m3 (9, 0, 0) 15))) d_m_reason_38 fl_m_57 rfl ?_
        refine ch_goto (tgt := 60) d_m_reason_41 (by decide) ?_
        exact ch_iret (ty := .int) d_m_reason_60 rfl rfl (Nat.le_of_ble_eq_true rfl) h
    · replace h := h.2 c
      refine ch_aload_n (i := 0) d_m_reason_27 rfl rfl ?_
      refine ch_iconst (v := 2) d_m_reason_28 (by decide) ?_
      refine ch_callV (as := [.inl (.int 2)]) d_m_reason_29 lk_m_70 mi_m_raises me_m_raises rfl rfl rfl ⟨Nat.le_of_ble_eq_true rfl, Nat.le_of_ble_eq_true rfl⟩ (Nat.le_of_ble_eq_true rfl) ⟨Nat.le_of_ble_eq_true rfl, Nat.le_of_ble_eq_true rfl⟩ (ch_mono (ch_Ki (fun r4 m5 h => ?_)) h)
      exact ch_iret (ty := .int) d_m_reason_32 rfl rfl (Nat.le_of_ble_eq_true rfl) h
  · replace h := h.2 c
    refine ch_aload_n (i := 0) d_m_reason_14 rfl rfl ?_
    refine ch_iconst (v := 1) d_m_reason_15 (by decide) ?_
    refine ch_callV (as := [.inl (.int 1)]) d_m_reason_16 lk_m_70 mi_m_raises me_m_raises rfl rfl rfl ⟨Nat.le_of_ble_eq_true rfl, Nat.le_of_ble_eq_true rfl⟩ (Nat.le_of_ble_eq_true rfl) ⟨Nat.le_of_ble_eq_true rfl, Nat.le_of_ble_eq_true rfl⟩ (ch_mono (ch_Ki (fun r6 m7 h => ?_)) h)
    exact ch_iret (ty := .int) d_m_reason_19 rfl rfl (Nat.le_of_ble_eq_true rfl) h
theorem e_m_signs (g : ch_G) (Q : ch_O → ch_M → Prop) (p1 : Int32) (m : ch_M) (h : ch_J g m_m_signs (ch_rm m_m_signs) (ch_E g m_m_signs Q) 0 [some (.inr (9, 0, 0)), some (.inl (.int p1))] [] m 0) : ch_C g m_m_signs [.inr (9, 0, 0), .inl (.int p1)] m Q :=
  ch_enter mf_m_signs (by intro v hv; simp only [List.mem_cons, List.not_mem_nil, or_false] at hv; rcases hv with rfl | rfl <;> rfl) (Nat.le_of_ble_eq_true rfl) h
set_option maxHeartbeats 1600000 in
theorem g_m_signs_0 (g : ch_G) (Q : ch_O → ch_M → Prop) (p1 : Int32) (m : ch_M) (h : (∀ m1 : ch_M, m1 = ch_wr m (9, 0, 0) 8 ((m (9, 0, 0) 8) + 1) → (vp_in (m (9, 0, 0) 8) 80) ∧ (∀ m3 : ch_M, m3 = ch_wr m1 (9, 0, 6) (Int32.toNatClampNeg (m (9, 0, 0) 8)) (vp_nar .char p1) → Q (.inl none) m3))) : ch_J g m_m_signs (ch_rm m_m_signs) (ch_E g m_m_signs Q) 0 [some (.inr (9, 0, 0)), some (.inl (.int p1))] [] m 0 := by
  refine ch_aload_n (i := 0) d_m_signs_0 rfl rfl ?_
  refine ch_get (v := .inr (9, 0, 6)) d_m_signs_1 fl_m_25 rfl ?_
  refine ch_aload_n (i := 0) d_m_signs_4 rfl rfl ?_
  refine ch_dup d_m_signs_5 rfl ?_
  refine ch_get (v := .inl (.int (m (9, 0, 0) 8))) d_m_signs_6 fl_m_239 rfl ?_
  refine ch_dup_x1 d_m_signs_9 rfl rfl ?_
  refine ch_iconst (v := 1) d_m_signs_10 (by decide) ?_
  refine ch_iadd d_m_signs_11 ?_
  refine ch_put d_m_signs_12 fp_m_239 rfl rfl rfl ?_
  generalize hmm1 : ch_wr m (9, 0, 0) 8 ((m (9, 0, 0) 8) + 1) = m1
  replace h := h m1 hmm1.symm
  refine ch_iload_n (i := 1) d_m_signs_15 rfl rfl ?_
  have b2 := h.1
  replace h := h.2
  refine ch_cast (n := 80) d_m_signs_16 (by decide) rfl b2 ?_
  show ch_J g _ _ _ _ _ _ (ch_wr m1 (9, 0, 6) (Int32.toNatClampNeg (m (9, 0, 0) 8)) (vp_nar .char p1)) _
  generalize hmm3 : ch_wr m1 (9, 0, 6) (Int32.toNatClampNeg (m (9, 0, 0) 8)) (vp_nar .char p1) = m3
  replace h := h m3 hmm3.symm
  exact ch_vret d_m_signs_17 rfl (Nat.le_of_ble_eq_true rfl) h
theorem e_m_pairs (g : ch_G) (Q : ch_O → ch_M → Prop) (p1 : Int32) (p2 : Int32) (p3 : Int32) (m : ch_M) (h : ch_J g m_m_pairs (ch_rm m_m_pairs) (ch_E g m_m_pairs Q) 0 [some (.inr (9, 0, 0)), some (.inl (.int p1)), some (.inl (.int p2)), some (.inl (.int p3))] [] m 0) : ch_C g m_m_pairs [.inr (9, 0, 0), .inl (.int p1), .inl (.int p2), .inl (.int p3)] m Q :=
  ch_enter mf_m_pairs (by intro v hv; simp only [List.mem_cons, List.not_mem_nil, or_false] at hv; rcases hv with rfl | rfl | rfl | rfl <;> rfl) (Nat.le_of_ble_eq_true rfl) h
set_option maxHeartbeats 1600000 in
theorem g_m_pairs_0 (g : ch_G) (Q : ch_O → ch_M → Prop) (p1 : Int32) (p2 : Int32) (p3 : Int32) (m : ch_M) (h : (ch_C g m_m_signs [.inr (9, 0, 0), .inl (.int ((Int32.toUInt32 (48 + p1) % 65536).toInt32))] m (ch_ov (fun (m2 : ch_M) => (ch_C g m_m_signs [.inr (9, 0, 0), .inl (.int p2)] m2 (ch_ov (fun (m4 : ch_M) => (ch_C g m_m_signs [.inr (9, 0, 0), .inl (.int ((Int32.toUInt32 (48 + p3) % 65536).toInt32))] m4 (ch_ov (fun (m6 : ch_M) => Q (.inl none) m6)))))))))) : ch_J g m_m_pairs (ch_rm m_m_pairs) (ch_E g m_m_pairs Q) 0 [some (.inr (9, 0, 0)), some (.inl (.int p1)), some (.inl (.int p2)), some (.inl (.int p3))] [] m 0 := by
  refine ch_aload_n (i := 0) d_m_pairs_0 rfl rfl ?_
  refine ch_bipush (v := 48) d_m_pairs_1 (by decide) ?_
  refine ch_iload_n (i := 1) d_m_pairs_3 rfl rfl ?_
  refine ch_iadd d_m_pairs_4 ?_
  refine ch_i2c d_m_pairs_5 ?_
  refine ch_callV (as := [.inl (.int ((Int32.toUInt32 (48 + p1) % 65536).toInt32))]) d_m_pairs_6 lk_m_242 mi_m_signs me_m_signs rfl rfl rfl ⟨Nat.le_of_ble_eq_true rfl, Nat.le_of_ble_eq_true rfl⟩ (Nat.le_of_ble_eq_true rfl) ⟨Nat.le_of_ble_eq_true rfl, Nat.le_of_ble_eq_true rfl⟩ (ch_mono (ch_Kv (fun m2 h => ?_)) h)
  refine ch_aload_n (i := 0) d_m_pairs_9 rfl rfl ?_
  refine ch_iload_n (i := 2) d_m_pairs_10 rfl rfl ?_
  refine ch_callV (as := [.inl (.int p2)]) d_m_pairs_11 lk_m_242 mi_m_signs me_m_signs rfl rfl rfl ⟨Nat.le_of_ble_eq_true rfl, Nat.le_of_ble_eq_true rfl⟩ (Nat.le_of_ble_eq_true rfl) ⟨Nat.le_of_ble_eq_true rfl, Nat.le_of_ble_eq_true rfl⟩ (ch_mono (ch_Kv (fun m4 h => ?_)) h)
  refine ch_aload_n (i := 0) d_m_pairs_14 rfl rfl ?_
  refine ch_bipush (v := 48) d_m_pairs_15 (by decide) ?_
  refine ch_iload_n (i := 3) d_m_pairs_17 rfl rfl ?_
  refine ch_iadd d_m_pairs_18 ?_
  refine ch_i2c d_m_pairs_19 ?_
  refine ch_callV (as := [.inl (.int ((Int32.toUInt32 (48 + p3) % 65536).toInt32))]) d_m_pairs_20 lk_m_242 mi_m_signs me_m_signs rfl rfl rfl ⟨Nat.le_of_ble_eq_true rfl, Nat.le_of_ble_eq_true rfl⟩ (Nat.le_of_ble_eq_true rfl) ⟨Nat.le_of_ble_eq_true rfl, Nat.le_of_ble_eq_true rfl⟩ (ch_mono (ch_Kv (fun m6 h => ?_)) h)
  exact ch_vret d_m_pairs_23 rfl (Nat.le_of_ble_eq_true rfl) h
theorem e_m_line (g : ch_G) (Q : ch_O → ch_M → Prop)  (m : ch_M) (h : ch_J g m_m_line (ch_rm m_m_line) (ch_E g m_m_line Q) 0 [some (.inr (9, 0, 0)), none] [] m 0) : ch_C g m_m_line [.inr (9, 0, 0)] m Q :=
  ch_enter mf_m_line (by intro v hv; simp only [List.mem_cons, List.not_mem_nil, or_false] at hv; rcases hv with rfl <;> rfl) (Nat.le_of_ble_eq_true rfl) h
set_option maxHeartbeats 1600000 in
theorem g_m_line_0 (g : ch_G) (Q : ch_O → ch_M → Prop)  (m : ch_M) (h : (∀ m1 : ch_M, m1 = ch_wr m (9, 0, 0) 19 0 → (∀ m2 : ch_M, m2 = ch_wr m1 (9, 0, 0) 8 0 → ch_J g m_m_line (ch_rm m_m_line) (ch_E g m_m_line Q) 12 [some (.inr (9, 0, 0)), some (.inl (.int 0))] [] m2 0))) : ch_J g m_m_line (ch_rm m_m_line) (ch_E g m_m_line Q) 0 [some (.inr (9, 0, 0)), none] [] m 0 := by
  refine ch_aload_n (i := 0) d_m_line_0 rfl rfl ?_
  refine ch_iconst (v := 0) d_m_line_1 (by decide) ?_
  refine ch_put d_m_line_2 fp_m_48 rfl rfl rfl ?_
  generalize hmm1 : ch_wr m (9, 0, 0) 19 0 = m1
  replace h := h m1 hmm1.symm
  refine ch_aload_n (i := 0) d_m_line_5 rfl rfl ?_
  refine ch_iconst (v := 0) d_m_line_6 (by decide) ?_
  refine ch_put d_m_line_7 fp_m_239 rfl rfl rfl ?_
  generalize hmm2 : ch_wr m1 (9, 0, 0) 8 0 = m2
  replace h := h m2 hmm2.symm
  refine ch_iconst (v := 0) d_m_line_10 (by decide) ?_
  refine ch_istore_n (i := 1) d_m_line_11 rfl (Nat.le_of_ble_eq_true rfl) (ls' := [some (.inr (9, 0, 0)), some (.inl (.int 0))]) rfl ?_
  exact h
set_option maxHeartbeats 1600000 in
theorem g_m_line_12 (g : ch_G) (Q : ch_O → ch_M → Prop) (x1 : Int32) (m : ch_M) (h : ((12 ≤ x1 → Q (.inl (some (.inl (.int (m (9, 0, 0) 8))))) m) ∧ (¬ 12 ≤ x1 → ((x1 ≤ 0 → (ch_C g m_m_owner [.inr (9, 0, 0), .inl (.int x1)] m (ch_oi (fun (r1 : Int32) (m2 : ch_M) => ((0 ≤ r1 → (ch_C g m_m_owner [.inr (9, 0, 0), .inl (.int x1)] m2 (ch_oi (fun (r3 : Int32) (m4 : ch_M) => (ch_C g m_m_chalkOf [.inr (9, 0, 0), .inl (.int x1)] m4 (ch_oi (fun (r5 : Int32) (m6 : ch_M) => (ch_C g m_m_pairs [.inr (9, 0, 0), .inl (.int r3), .inl (.int 47), .inl (.int r5)] m6 (ch_ov (fun (m8 : ch_M) => ch_J g m_m_line (ch_rm m_m_line) (ch_E g m_m_line Q) 12 [some (.inr (9, 0, 0)), some (.inl (.int (x1 + 1)))] [] m8 0)))))))))) ∧ (¬ 0 ≤ r1 → (ch_C g m_m_signs [.inr (9, 0, 0), .inl (.int 46)] m2 (ch_ov (fun (m10 : ch_M) => ch_J g m_m_line (ch_rm m_m_line) (ch_E g m_m_line Q) 12 [some (.inr (9, 0, 0)), some (.inl (.int (x1 + 1)))] [] m10 0))))))))) ∧ (¬ x1 ≤ 0 → (ch_C g m_m_signs [.inr (9, 0, 0), .inl (.int 32)] m (ch_ov (fun (m12 : ch_M) => (ch_C g m_m_owner [.inr (9, 0, 0), .inl (.int x1)] m12 (ch_oi (fun (r13 : Int32) (m14 : ch_M) => ((0 ≤ r13 → (ch_C g m_m_owner [.inr (9, 0, 0), .inl (.int x1)] m14 (ch_oi (fun (r15 : Int32) (m16 : ch_M) => (ch_C g m_m_chalkOf [.inr (9, 0, 0), .inl (.int x1)] m16 (ch_oi (fun (r17 : Int32) (m18 : ch_M) => (ch_C g m_m_pairs [.inr (9, 0, 0), .inl (.int r15), .inl (.int 47), .inl (.int r17)] m18 (ch_ov (fun (m20 : ch_M) => ch_J g m_m_line (ch_rm m_m_line) (ch_E g m_m_line Q) 12 [some (.inr (9, 0, 0)), some (.inl (.int (x1 + 1)))] [] m20 0)))))))))) ∧ (¬ 0 ≤ r13 → (ch_C g m_m_signs [.inr (9, 0, 0), .inl (.int 46)] m14 (ch_ov (fun (m22 : ch_M) => ch_J g m_m_line (ch_rm m_m_line) (ch_E g m_m_line Q) 12 [some (.inr (9, 0, 0)), some (.inl (.int (x1 + 1)))] [] m22 0)))))))))))))))) : ch_J g m_m_line (ch_rm m_m_line) (ch_E g m_m_line Q) 12 [some (.inr (9, 0, 0)), some (.inl (.int x1))] [] m 0 := by
  refine ch_iload_n (i := 1) d_m_line_12 rfl rfl ?_
  refine ch_bipush (v := 12) d_m_line_13 (by decide) ?_
  refine ch_icmp_ge (tgt := 67) d_m_line_15 (by decide) (fun c => ?_) (fun c => ?_)
  · replace h := h.1 c
    refine ch_aload_n (i := 0) d_m_line_67 rfl rfl ?_
    refine ch_get (v := .inl (.int (m (9, 0, 0) 8))) d_m_line_68 fl_m_239 rfl ?_
    exact ch_iret (ty := .int) d_m_line_71 rfl rfl (Nat.le_of_ble_eq_true rfl) h
  · replace h := h.2 c
    refine ch_iload_n (i := 1) d_m_line_18 rfl rfl ?_
    refine ch_if_le (tgt := 28) d_m_line_19 (by decide) (fun c => ?_) (fun c => ?_)
    · replace h := h.1 c
      refine ch_aload_n (i := 0) d_m_line_28 rfl rfl ?_
      refine ch_iload_n (i := 1) d_m_line_29 rfl rfl ?_
      refine ch_callV (as := [.inl (.int x1)]) d_m_line_30 lk_m_109 mi_m_owner me_m_owner rfl rfl rfl ⟨Nat.le_of_ble_eq_true rfl, Nat.le_of_ble_eq_true rfl⟩ (Nat.le_of_ble_eq_true rfl) ⟨Nat.le_of_ble_eq_true rfl, Nat.le_of_ble_eq_true rfl⟩ (ch_mono (ch_Ki (fun r1 m2 h => ?_)) h)
      refine ch_if_ge (tgt := 45) d_m_line_33 (by decide) (fun c => ?_) (fun c => ?_)
      · replace h := h.1 c
        refine ch_aload_n (i := 0) d_m_line_45 rfl rfl ?_
        refine ch_aload_n (i := 0) d_m_line_46 rfl rfl ?_
        refine ch_iload_n (i := 1) d_m_line_47 rfl rfl ?_
        refine ch_callV (as := [.inl (.int x1)]) d_m_line_48 lk_m_109 mi_m_owner me_m_owner rfl rfl rfl ⟨Nat.le_of_ble_eq_true rfl, Nat.le_of_ble_eq_true rfl⟩ (Nat.le_of_ble_eq_true rfl) ⟨Nat.le_of_ble_eq_true rfl, Nat.le_of_ble_eq_true rfl⟩ (ch_mono (ch_Ki (fun r3 m4 h => ?_)) h)
        refine ch_bipush (v := 47) d_m_line_51 (by decide) ?_
        refine ch_aload_n (i := 0) d_m_line_53 rfl rfl ?_
        refine ch_iload_n (i := 1) d_m_line_54 rfl rfl ?_
        refine ch_callV (as := [.inl (.int x1)]) d_m_line_55 lk_m_112 mi_m_chalkOf me_m_chalkOf rfl rfl rfl ⟨Nat.le_of_ble_eq_true rfl, Nat.le_of_ble_eq_true rfl⟩ (Nat.le_of_ble_eq_true rfl) ⟨Nat.le_of_ble_eq_true rfl, Nat.le_of_ble_eq_true rfl⟩ (ch_mono (ch_Ki (fun r5 m6 h => ?_)) h)
        refine ch_callV (as := [.inl (.int r3), .inl (.int 47), .inl (.int r5)]) d_m_line_58 lk_m_246 mi_m_pairs me_m_pairs rfl rfl rfl ⟨Nat.le_of_ble_eq_true rfl, Nat.le_of_ble_eq_true rfl⟩ (Nat.le_of_ble_eq_true rfl) ⟨Nat.le_of_ble_eq_true rfl, Nat.le_of_ble_eq_true rfl⟩ (ch_mono (ch_Kv (fun m8 h => ?_)) h)
        refine ch_iinc (i := 1) (v := (x1 + 1)) d_m_line_61 rfl rfl (Nat.le_of_ble_eq_true rfl) (ls' := [some (.inr (9, 0, 0)), some (.inl (.int (x1 + 1)))]) rfl ?_
        refine ch_goto (tgt := 12) d_m_line_64 (by decide) ?_
        exact h
      · replace h := h.2 c
        refine ch_aload_n (i := 0) d_m_line_36 rfl rfl ?_
        refine ch_bipush (v := 46) d_m_line_37 (by decide) ?_
        refine ch_callV (as := [.inl (.int 46)]) d_m_line_39 lk_m_242 mi_m_signs me_m_signs rfl rfl rfl ⟨Nat.le_of_ble_eq_true rfl, Nat.le_of_ble_eq_true rfl⟩ (Nat.le_of_ble_eq_true rfl) ⟨Nat.le_of_ble_eq_true rfl, Nat.le_of_ble_eq_true rfl⟩ (ch_mono (ch_Kv (fun m10 h => ?_)) h)
        refine ch_goto (tgt := 61) d_m_line_42 (by decide) ?_
        refine ch_iinc (i := 1) (v := (x1 + 1)) d_m_line_61 rfl rfl (Nat.le_of_ble_eq_true rfl) (ls' := [some (.inr (9, 0, 0)), some (.inl (.int (x1 + 1)))]) rfl ?_
        refine ch_goto (tgt := 12) d_m_line_64 (by decide) ?_
        exact h
    · replace h := h.2 c
      refine ch_aload_n (i := 0) d_m_line_22 rfl rfl ?_
      refine ch_bipush (v := 32) d_m_line_23 (by decide) ?_
      refine ch_callV (as := [.inl (.int 32)]) d_m_line_25 lk_m_242 mi_m_signs me_m_signs rfl rfl rfl ⟨Nat.le_of_ble_eq_true rfl, Nat.le_of_ble_eq_true rfl⟩ (Nat.le_of_ble_eq_true rfl) ⟨Nat.le_of_ble_eq_true rfl, Nat.le_of_ble_eq_true rfl⟩ (ch_mono (ch_Kv (fun m12 h => ?_)) h)
      refine ch_aload_n (i := 0) d_m_line_28 rfl rfl ?_
      refine ch_iload_n (i := 1) d_m_line_29 rfl rfl ?_
      refine ch_callV (as := [.inl (.int x1)]) d_m_line_30 lk_m_109 mi_m_owner me_m_owner rfl rfl rfl ⟨Nat.le_of_ble_eq_true rfl, Nat.le_of_ble_eq_true rfl⟩ (Nat.le_of_ble_eq_true rfl) ⟨Nat.le_of_ble_eq_true rfl, Nat.le_of_ble_eq_true rfl⟩ (ch_mono (ch_Ki (fun r13 m14 h => ?_)) h)
      refine ch_if_ge (tgt := 45) d_m_line_33 (by decide) (fun c => ?_) (fun c => ?_)
      · replace h := h.1 c
        refine ch_aload_n (i := 0) d_m_line_45 rfl rfl ?_
        refine ch_aload_n (i := 0) d_m_line_46 rfl rfl ?_
        refine ch_iload_n (i := 1) d_m_line_47 rfl rfl ?_
        refine ch_callV (as := [.inl (.int x1)]) d_m_line_48 lk_m_109 mi_m_owner me_m_owner rfl rfl rfl ⟨Nat.le_of_ble_eq_true rfl, Nat.le_of_ble_eq_true rfl⟩ (Nat.le_of_ble_eq_true rfl) ⟨Nat.le_of_ble_eq_true rfl, Nat.le_of_ble_eq_true rfl⟩ (ch_mono (ch_Ki (fun r15 m16 h => ?_)) h)
        refine ch_bipush (v := 47) d_m_line_51 (by decide) ?_
        refine ch_aload_n (i := 0) d_m_line_53 rfl rfl ?_
        refine ch_iload_n (i := 1) d_m_line_54 rfl rfl ?_
        refine ch_callV (as := [.inl (.int x1)]) d_m_line_55 lk_m_112 mi_m_chalkOf me_m_chalkOf rfl rfl rfl ⟨Nat.le_of_ble_eq_true rfl, Nat.le_of_ble_eq_true rfl⟩ (Nat.le_of_ble_eq_true rfl) ⟨Nat.le_of_ble_eq_true rfl, Nat.le_of_ble_eq_true rfl⟩ (ch_mono (ch_Ki (fun r17 m18 h => ?_)) h)
        refine ch_callV (as := [.inl (.int r15), .inl (.int 47), .inl (.int r17)]) d_m_line_58 lk_m_246 mi_m_pairs me_m_pairs rfl rfl rfl ⟨Nat.le_of_ble_eq_true rfl, Nat.le_of_ble_eq_true rfl⟩ (Nat.le_of_ble_eq_true rfl) ⟨Nat.le_of_ble_eq_true rfl, Nat.le_of_ble_eq_true rfl⟩ (ch_mono (ch_Kv (fun m20 h => ?_)) h)
        refine ch_iinc (i := 1) (v := (x1 + 1)) d_m_line_61 rfl rfl (Nat.le_of_ble_eq_true rfl) (ls' := [some (.inr (9, 0, 0)), some (.inl (.int (x1 + 1)))]) rfl ?_
        refine ch_goto (tgt := 12) d_m_line_64 (by decide) ?_
        exact h
      · replace h := h.2 c
        refine ch_aload_n (i := 0) d_m_line_36 rfl rfl ?_
        refine ch_bipush (v := 46) d_m_line_37 (by decide) ?_
        refine ch_callV (as := [.inl (.int 46)]) d_m_line_39 lk_m_242 mi_m_signs me_m_signs rfl rfl rfl ⟨Nat.le_of_ble_eq_true rfl, Nat.le_of_ble_eq_true rfl⟩ (Nat.le_of_ble_eq_true rfl) ⟨Nat.le_of_ble_eq_true rfl, Nat.le_of_ble_eq_true rfl⟩ (ch_mono (ch_Kv (fun m22 h => ?_)) h)
        refine ch_goto (tgt := 61) d_m_line_42 (by decide) ?_
        refine ch_iinc (i := 1) (v := (x1 + 1)) d_m_line_61 rfl rfl (Nat.le_of_ble_eq_true rfl) (ls' := [some (.inr (9, 0, 0)), some (.inl (.int (x1 + 1)))]) rfl ?_
        refine ch_goto (tgt := 12) d_m_line_64 (by decide) ?_
        exact h
theorem e_m_warrants (g : ch_G) (Q : ch_O → ch_M → Prop)  (m : ch_M) (h : ch_J g m_m_warrants (ch_rm m_m_warrants) (ch_E g m_m_warrants Q) 0 [some (.inr (9, 0, 0)), none] [] m 0) : ch_C g m_m_warrants [.inr (9, 0, 0)] m Q :=
  ch_enter mf_m_warrants (by intro v hv; simp only [List.mem_cons, List.not_mem_nil, or_false] at hv; rcases hv with rfl <;> rfl) (Nat.le_of_ble_eq_true rfl) h
set_option maxHeartbeats 1600000 in
theorem g_m_warrants_0 (g : ch_G) (Q : ch_O → ch_M → Prop)  (m : ch_M) (h : (∀ m1 : ch_M, m1 = ch_wr m (9, 0, 0) 19 0 → (∀ m2 : ch_M, m2 = ch_wr m1 (9, 0, 0) 8 0 → ch_J g m_m_warrants (ch_rm m_m_warrants) (ch_E g m_m_warrants Q) 12 [some (.inr (9, 0, 0)), some (.inl (.int 0))] [] m2 0))) : ch_J g m_m_warrants (ch_rm m_m_warrants) (ch_E g m_m_warrants Q) 0 [some (.inr (9, 0, 0)), none] [] m 0 := by
  refine ch_aload_n (i := 0) d_m_warrants_0 rfl rfl ?_
  refine ch_iconst (v := 0) d_m_warrants_1 (by decide) ?_
  refine ch_put d_m_warrants_2 fp_m_48 rfl rfl rfl ?_
  generalize hmm1 : ch_wr m (9, 0, 0) 19 0 = m1
  replace h := h m1 hmm1.symm
  refine ch_aload_n (i := 0) d_m_warrants_5 rfl rfl ?_
  refine ch_iconst (v := 0) d_m_warrants_6 (by decide) ?_
  refine ch_put d_m_warrants_7 fp_m_239 rfl rfl rfl ?_
  generalize hmm2 : ch_wr m1 (9, 0, 0) 8 0 = m2
  replace h := h m2 hmm2.symm
  refine ch_iconst (v := 0) d_m_warrants_10 (by decide) ?_
  refine ch_istore_n (i := 1) d_m_warrants_11 rfl (Nat.le_of_ble_eq_true rfl) (ls' := [some (.inr (9, 0, 0)), some (.inl (.int 0))]) rfl ?_
  exact h
set_option maxHeartbeats 1600000 in
theorem g_m_warrants_12 (g : ch_G) (Q : ch_O → ch_M → Prop) (x1 : Int32) (m : ch_M) (h : (((m (9, 0, 1) (8)) ≤ x1 → Q (.inl (some (.inl (.int (m (9, 0, 0) 8))))) m) ∧ (¬ (m (9, 0, 1) (8)) ≤ x1 → ((x1 ≤ 0 → (vp_in (9 + x1) 63) ∧ (ch_C g m_m_of [.inr (9, 0, 0), .inl (.int (m (9, 0, 1) (Int32.toNatClampNeg (9 + x1)))), .inl (.int 2)] m (ch_oi (fun (r2 : Int32) (m3 : ch_M) => (ch_C g m_m_pairs [.inr (9, 0, 0), .inl (.int (m (9, 0, 1) (Int32.toNatClampNeg (9 + x1)))), .inl (.int 33), .inl (.int r2)] m3 (ch_ov (fun (m5 : ch_M) => ch_J g m_m_warrants (ch_rm m_m_warrants) (ch_E g m_m_warrants Q) 12 [some (.inr (9, 0, 0)), some (.inl (.int (x1 + 1)))] [] m5 0))))))) ∧ (¬ x1 ≤ 0 → (ch_C g m_m_signs [.inr (9, 0, 0), .inl (.int 32)] m (ch_ov (fun (m7 : ch_M) => (vp_in (9 + x1) 63) ∧ (ch_C g m_m_of [.inr (9, 0, 0), .inl (.int (m7 (9, 0, 1) (Int32.toNatClampNeg (9 + x1)))), .inl (.int 2)] m7 (ch_oi (fun (r9 : Int32) (m10 : ch_M) => (ch_C g m_m_pairs [.inr (9, 0, 0), .inl (.int (m7 (9, 0, 1) (Int32.toNatClampNeg (9 + x1)))), .inl (.int 33), .inl (.int r9)] m10 (ch_ov (fun (m12 : ch_M) => ch_J g m_m_warrants (ch_rm m_m_warrants) (ch_E g m_m_warrants Q) 12 [some (.inr (9, 0, 0)), some (.inl (.int (x1 + 1)))] [] m12 0)))))))))))))) : ch_J g m_m_warrants (ch_rm m_m_warrants) (ch_E g m_m_warrants Q) 12 [some (.inr (9, 0, 0)), some (.inl (.int x1))] [] m 0 := by
  refine ch_iload_n (i := 1) d_m_warrants_12 rfl rfl ?_
  refine ch_aload_n (i := 0) d_m_warrants_13 rfl rfl ?_
  refine ch_get (v := .inr (9, 0, 1)) d_m_warrants_14 fl_m_9 rfl ?_
  refine ch_bipush (v := 8) d_m_warrants_17 (by decide) ?_
  refine ch_iald (n := 63) d_m_warrants_19 (by decide) rfl (vp_in_nI (n := 8) (by decide) (by decide)) ?_
  refine ch_icmp_ge (tgt := 68) d_m_warrants_20 (by decide) (fun c => ?_) (fun c => ?_)
  · replace h := h.1 c
    refine ch_aload_n (i := 0) d_m_warrants_68 rfl rfl ?_
    refine ch_get (v := .inl (.int (m (9, 0, 0) 8))) d_m_warrants_69 fl_m_239 rfl ?_
    exact ch_iret (ty := .int) d_m_warrants_72 rfl rfl (Nat.le_of_ble_eq_true rfl) h
  · replace h := h.2 c
    refine ch_iload_n (i := 1) d_m_warrants_23 rfl rfl ?_
    refine ch_if_le (tgt := 33) d_m_warrants_24 (by decide) (fun c => ?_) (fun c => ?_)
    · replace h := h.1 c
      refine ch_aload_n (i := 0) d_m_warrants_33 rfl rfl ?_
      refine ch_aload_n (i := 0) d_m_warrants_34 rfl rfl ?_
      refine ch_get (v := .inr (9, 0, 1)) d_m_warrants_35 fl_m_9 rfl ?_
      refine ch_bipush (v := 9) d_m_warrants_38 (by decide) ?_
      refine ch_iload_n (i := 1) d_m_warrants_40 rfl rfl ?_
      refine ch_iadd d_m_warrants_41 ?_
      have b1 := h.1
      replace h := h.2
      refine ch_iald (n := 63) d_m_warrants_42 (by decide) rfl b1 ?_
      refine ch_bipush (v := 33) d_m_warrants_43 (by decide) ?_
      refine ch_aload_n (i := 0) d_m_warrants_45 rfl rfl ?_
      refine ch_aload_n (i := 0) d_m_warrants_46 rfl rfl ?_
      refine ch_get (v := .inr (9, 0, 1)) d_m_warrants_47 fl_m_9 rfl ?_
      refine ch_bipush (v := 9) d_m_warrants_50 (by decide) ?_
      refine ch_iload_n (i := 1) d_m_warrants_52 rfl rfl ?_
      refine ch_iadd d_m_warrants_53 ?_
      refine ch_iald (n := 63) d_m_warrants_54 (by decide) rfl b1 ?_
      refine ch_iconst (v := 2) d_m_warrants_55 (by decide) ?_
      refine ch_callV (as := [.inl (.int (m (9, 0, 1) (Int32.toNatClampNeg (9 + x1)))), .inl (.int 2)]) d_m_warrants_56 lk_m_85 mi_m_of me_m_of rfl rfl rfl ⟨Nat.le_of_ble_eq_true rfl, Nat.le_of_ble_eq_true rfl⟩ (Nat.le_of_ble_eq_true rfl) ⟨Nat.le_of_ble_eq_true rfl, Nat.le_of_ble_eq_true rfl⟩ (ch_mono (ch_Ki (fun r2 m3 h => ?_)) h)
      refine ch_callV (as := [.inl (.int (m (9, 0, 1) (Int32.toNatClampNeg (9 + x1)))), .inl (.int 33), .inl (.int r2)]) d_m_warrants_59 lk_m_246 mi_m_pairs me_m_pairs rfl rfl rfl ⟨Nat.le_of_ble_eq_true rfl, Nat.le_of_ble_eq_true rfl⟩ (Nat.le_of_ble_eq_true rfl) ⟨Nat.le_of_ble_eq_true rfl, Nat.le_of_ble_eq_true rfl⟩ (ch_mono (ch_Kv (fun m5 h => ?_)) h)
      refine ch_iinc (i := 1) (v := (x1 + 1)) d_m_warrants_62 rfl rfl (Nat.le_of_ble_eq_true rfl) (ls' := [some (.inr (9, 0, 0)), some (.inl (.int (x1 + 1)))]) rfl ?_
      refine ch_goto (tgt := 12) d_m_warrants_65 (by decide) ?_
      exact h
    · replace h := h.2 c
      refine ch_aload_n (i := 0) d_m_warrants_27 rfl rfl ?_
      refine ch_bipush (v := 32) d_m_warrants_28 (by decide) ?_
      refine ch_callV (as := [.inl (.int 32)]) d_m_warrants_30 lk_m_242 mi_m_signs me_m_signs rfl rfl rfl ⟨Nat.le_of_ble_eq_true rfl, Nat.le_of_ble_eq_true rfl⟩ (Nat.le_of_ble_eq_true rfl) ⟨Nat.le_of_ble_eq_true rfl, Nat.le_of_ble_eq_true rfl⟩ (ch_mono (ch_Kv (fun m7 h => ?_)) h)
      refine ch_aload_n (i := 0) d_m_warrants_33 rfl rfl ?_
      refine ch_aload_n (i := 0) d_m_warrants_34 rfl rfl ?_
      refine ch_get (v := .inr (9, 0, 1)) d_m_warrants_35 fl_m_9 rfl ?_
      refine ch_bipush (v := 9) d_m_warrants_38 (by decide) ?_
      refine ch_iload_n (i := 1) d_m_warrants_40 rfl rfl ?_
      refine ch_iadd d_m_warrants_41 ?_
      have b8 := h.1
      replace h := h.2
      refine ch_iald (n := 63) d_m_warrants_42 (by decide) rfl b8 ?_
      refine ch_bipush (v := 33) d_m_warrants_43 (by decide) ?_
      refine ch_aload_n (i := 0) d_m_warrants_45 rfl rfl ?_
      refine ch_aload_n (i := 0) d_m_warrants_46 rfl rfl ?_
      refine ch_get (v := .inr (9, 0, 1)) d_m_warrants_47 fl_m_9 rfl ?_
      refine ch_bipush (v := 9) d_m_warrants_50 (by decide) ?_
      refine ch_iload_n (i := 1) d_m_warrants_52 rfl rfl ?_
      refine ch_iadd d_m_warrants_53 ?_
      refine ch_iald (n := 63) d_m_warrants_54 (by decide) rfl b8 ?_
      refine ch_iconst (v := 2) d_m_warrants_55 (by decide) ?_
      refine ch_callV (as := [.inl (.int (m7 (9, 0, 1) (Int32.toNatClampNeg (9 + x1)))), .inl (.int 2)]) d_m_warrants_56 lk_m_85 mi_m_of me_m_of rfl rfl rfl ⟨Nat.le_of_ble_eq_true rfl, Nat.le_of_ble_eq_true rfl⟩ (Nat.le_of_ble_eq_true rfl) ⟨Nat.le_of_ble_eq_true rfl, Nat.le_of_ble_eq_true rfl⟩ (ch_mono (ch_Ki (fun r9 m10 h => ?_)) h)
      refine ch_callV (as := [.inl (.int (m7 (9, 0, 1) (Int32.toNatClampNeg (9 + x1)))), .inl (.int 33), .inl (.int r9)]) d_m_warrants_59 lk_m_246 mi_m_pairs me_m_pairs rfl rfl rfl ⟨Nat.le_of_ble_eq_true rfl, Nat.le_of_ble_eq_true rfl⟩ (Nat.le_of_ble_eq_true rfl) ⟨Nat.le_of_ble_eq_true rfl, Nat.le_of_ble_eq_true rfl⟩ (ch_mono (ch_Kv (fun m12 h => ?_)) h)
      refine ch_iinc (i := 1) (v := (x1 + 1)) d_m_warrants_62 rfl rfl (Nat.le_of_ble_eq_true rfl) (ls' := [some (.inr (9, 0, 0)), some (.inl (.int (x1 + 1)))]) rfl ?_
      refine ch_goto (tgt := 12) d_m_warrants_65 (by decide) ?_
      exact h
theorem e_m_character (g : ch_G) (Q : ch_O → ch_M → Prop) (p1 : Int32) (m : ch_M) (h : ch_J g m_m_character (ch_rm m_m_character) (ch_E g m_m_character Q) 0 [some (.inr (9, 0, 0)), some (.inl (.int p1))] [] m 0) : ch_C g m_m_character [.inr (9, 0, 0), .inl (.int p1)] m Q :=
  ch_enter mf_m_character (by intro v hv; simp only [List.mem_cons, List.not_mem_nil, or_false] at hv; rcases hv with rfl | rfl <;> rfl) (Nat.le_of_ble_eq_true rfl) h
set_option maxHeartbeats 1600000 in
theorem g_m_character_0 (g : ch_G) (Q : ch_O → ch_M → Prop) (p1 : Int32) (m : ch_M) (h : (ch_C g m_m_in [.inl (.int p1), .inl (.int 0), .inl (.int ((m (9, 0, 0) 8) - 1))] m (ch_oi (fun (r1 : Int32) (m2 : ch_M) => ((r1 = 0 → (∀ m3 : ch_M, m3 = ch_wr m2 (9, 0, 0) 19 1 → ((¬ (m3 (9, 0, 0) 19) = 0 → Q (.inl (some (.inl (.int 97)))) m3) ∧ ((m3 (9, 0, 0) 19) = 0 → (vp_in p1 80) ∧ (narrow .char (.int (m3 (9, 0, 6) (Int32.toNatClampNeg p1))) = .int (m3 (9, 0, 6) (Int32.toNatClampNeg p1))) ∧ Q (.inl (some (.inl (.int (m3 (9, 0, 6) (Int32.toNatClampNeg p1)))))) m3)))) ∧ (¬ r1 = 0 → (∀ m5 : ch_M, m5 = ch_wr m2 (9, 0, 0) 19 0 → ((¬ (m5 (9, 0, 0) 19) = 0 → Q (.inl (some (.inl (.int 97)))) m5) ∧ ((m5 (9, 0, 0) 19) = 0 → (vp_in p1 80) ∧ (narrow .char (.int (m5 (9, 0, 6) (Int32.toNatClampNeg p1))) = .int (m5 (9, 0, 6) (Int32.toNatClampNeg p1))) ∧ Q (.inl (some (.inl (.int (m5 (9, 0, 6) (Int32.toNatClampNeg p1)))))) m5))))))))) : ch_J g m_m_character (ch_rm m_m_character) (ch_E g m_m_character Q) 0 [some (.inr (9, 0, 0)), some (.inl (.int p1))] [] m 0 := by
  refine ch_aload_n (i := 0) d_m_character_0 rfl rfl ?_
  refine ch_iload_n (i := 1) d_m_character_1 rfl rfl ?_
  refine ch_iconst (v := 0) d_m_character_2 (by decide) ?_
  refine ch_aload_n (i := 0) d_m_character_3 rfl rfl ?_
  refine ch_get (v := .inl (.int (m (9, 0, 0) 8))) d_m_character_4 fl_m_239 rfl ?_
  refine ch_iconst (v := 1) d_m_character_7 (by decide) ?_
  refine ch_isub d_m_character_8 ?_
  refine ch_callS (as := [.inl (.int p1), .inl (.int 0), .inl (.int ((m (9, 0, 0) 8) - 1))]) d_m_character_9 lk_m_73 ms_m_in rfl rfl ⟨Nat.le_of_ble_eq_true rfl, Nat.le_of_ble_eq_true rfl⟩ (Nat.le_of_ble_eq_true rfl) ⟨Nat.le_of_ble_eq_true rfl, Nat.le_of_ble_eq_true rfl⟩ (ch_mono (ch_Ki (fun r1 m2 h => ?_)) h)
  refine ch_if_eq (tgt := 19) d_m_character_12 (by decide) (fun c => ?_) (fun c => ?_)
  · replace h := h.1 c
    refine ch_iconst (v := 1) d_m_character_19 (by decide) ?_
    refine ch_put d_m_character_20 fp_m_48 rfl rfl rfl ?_
    generalize hmm3 : ch_wr m2 (9, 0, 0) 19 1 = m3
    replace h := h m3 hmm3.symm
    refine ch_aload_n (i := 0) d_m_character_23 rfl rfl ?_
    refine ch_get (v := .inl (.int (m3 (9, 0, 0) 19))) d_m_character_24 fl_m_48 rfl ?_
    refine ch_if_ne (tgt := 39) d_m_character_27 (by decide) (fun c => ?_) (fun c => ?_)
    · replace h := h.1 c
      refine ch_bipush (v := 97) d_m_character_39 (by decide) ?_
      exact ch_iret (ty := .char) d_m_character_41 rfl rfl (Nat.le_of_ble_eq_true rfl) h
    · replace h := h.2 c
      refine ch_aload_n (i := 0) d_m_character_30 rfl rfl ?_
      refine ch_get (v := .inr (9, 0, 6)) d_m_character_31 fl_m_25 rfl ?_
      refine ch_iload_n (i := 1) d_m_character_34 rfl rfl ?_
      have b4 := h.1
      replace h := h.2
      refine ch_cald (n := 80) d_m_character_35 (by decide) rfl b4 ?_
      refine ch_goto (tgt := 41) d_m_character_36 (by decide) ?_
      exact ch_iret (ty := .char) d_m_character_41 rfl h.1 (Nat.le_of_ble_eq_true rfl) h.2
  · replace h := h.2 c
    refine ch_iconst (v := 0) d_m_character_15 (by decide) ?_
    refine ch_goto (tgt := 20) d_m_character_16 (by decide) ?_
    refine ch_put d_m_character_20 fp_m_48 rfl rfl rfl ?_
    generalize hmm5 : ch_wr m2 (9, 0, 0) 19 0 = m5
    replace h := h m5 hmm5.symm
    refine ch_aload_n (i := 0) d_m_character_23 rfl rfl ?_
    refine ch_get (v := .inl (.int (m5 (9, 0, 0) 19))) d_m_character_24 fl_m_48 rfl ?_
    refine ch_if_ne (tgt := 39) d_m_character_27 (by decide) (fun c => ?_) (fun c => ?_)
    · replace h := h.1 c
      refine ch_bipush (v := 97) d_m_character_39 (by decide) ?_
      exact ch_iret (ty := .char) d_m_character_41 rfl rfl (Nat.le_of_ble_eq_true rfl) h
    · replace h := h.2 c
      refine ch_aload_n (i := 0) d_m_character_30 rfl rfl ?_
      refine ch_get (v := .inr (9, 0, 6)) d_m_character_31 fl_m_25 rfl ?_
      refine ch_iload_n (i := 1) d_m_character_34 rfl rfl ?_
      have b6 := h.1
      replace h := h.2
      refine ch_cald (n := 80) d_m_character_35 (by decide) rfl b6 ?_
      refine ch_goto (tgt := 41) d_m_character_36 (by decide) ?_
      exact ch_iret (ty := .char) d_m_character_41 rfl h.1 (Nat.le_of_ble_eq_true rfl) h.2
