theorem e_m_commands (g : ch_G) (Q : ch_O → ch_M → Prop)  (m : ch_M) (h : ch_J g m_m_commands (ch_rm m_m_commands) (ch_E g m_m_commands Q) 0 [some (.inr (9, 0, 0)), none, none, none, none, none] [] m 0) : ch_C g m_m_commands [.inr (9, 0, 0)] m Q :=
  ch_enter mf_m_commands (by intro v hv; simp only [List.mem_cons, List.not_mem_nil, or_false] at hv; rcases hv with rfl <;> rfl) (Nat.le_of_ble_eq_true rfl) h
set_option maxHeartbeats 1600000 in
theorem g_m_commands_0 (g : ch_G) (Q : ch_O → ch_M → Prop)  (m : ch_M) (h : ((∀ m2 : ch_M, m2 = ch_os m 9 0 (m_trB (ch_ob m 9 0)) → (∀ m4 : ch_M, m4 = ch_wr m2 (9, 0, 0) 11 0 → (∀ m5 : ch_M, m5 = ch_wr m4 (9, 0, 0) 14 (-1) → (∃ M_6 : ch_M, (∃ p_7 : Nat, (m_tx (ch_ob M_6 6 0) (ch_ob m5 9 0) p_7) ∧ (M_6 (7, 0, 0) 0 = nI p_7) ∧ ((((d_tc M_6 0).1 = true) → (∀ (B8 : ch_B), (m_par M_6 p_7 (ch_ob m5 9 0) B8) → (∀ m11 : ch_M, m11 = ch_os m5 9 0 B8 → ch_J g m_m_commands (ch_rm m_m_commands) (ch_E g m_m_commands Q) 19 [some (.inr (9, 0, 0)), some (.inl (.int 1)), none, none, none, none] [] m11 0))) ∧ ((¬ (d_tc M_6 0).1 = true) → (∀ (B9 : ch_B), (m_par M_6 p_7 (ch_ob m5 9 0) B9) → (∀ m11 : ch_M, m11 = ch_os m5 9 0 B9 → ch_J g m_m_commands (ch_rm m_m_commands) (ch_E g m_m_commands Q) 19 [some (.inr (9, 0, 0)), some (.inl (.int 0)), none, none, none, none] [] m11 0))))))))))) : ch_J g m_m_commands (ch_rm m_m_commands) (ch_E g m_m_commands Q) 0 [some (.inr (9, 0, 0)), none, none, none, none, none] [] m 0 := by
  refine ch_aload_n (i := 0) d_m_commands_0 rfl rfl ?_
  refine ch_callV (as := []) d_m_commands_1 lk_m_96 mi_m_tries me_m_tries rfl rfl rfl ⟨Nat.le_of_ble_eq_true rfl, Nat.le_of_ble_eq_true rfl⟩ (Nat.le_of_ble_eq_true rfl) ⟨Nat.le_of_ble_eq_true rfl, Nat.le_of_ble_eq_true rfl⟩ (ch_mono (ch_Kv (fun m2 q3 => ?_)) (s_m_tries g (fun (m_ : ch_M) => (m_ = ch_os m 9 0 (m_trB (ch_ob m 9 0))))  m rfl))
  have hm_ := q3
  replace h := h m2 hm_
  refine ch_aload_n (i := 0) d_m_commands_4 rfl rfl ?_
  refine ch_iconst (v := 0) d_m_commands_5 (by decide) ?_
  refine ch_put d_m_commands_6 fp_m_209 rfl rfl rfl ?_
  generalize hmm4 : ch_wr m2 (9, 0, 0) 11 0 = m4
  replace h := h m4 hmm4.symm
  refine ch_aload_n (i := 0) d_m_commands_9 rfl rfl ?_
  refine ch_iconst (v := (-1)) d_m_commands_10 (by decide) ?_
  refine ch_put d_m_commands_11 fp_m_35 rfl rfl rfl ?_
  generalize hmm5 : ch_wr m4 (9, 0, 0) 14 (-1) = m5
  replace h := h m5 hmm5.symm
  refine ch_aload_n (i := 0) d_m_commands_14 rfl rfl ?_
  obtain ⟨M_6, h⟩ := h
  obtain ⟨p_7, h⟩ := h
  have b13 := h.1
  replace h := h.2
  have b14 := h.1
  replace h := h.2
  refine ch_callV (as := []) d_m_commands_15 lk_m_233 mi_m_isCommand me_m_isCommand rfl rfl rfl ⟨Nat.le_of_ble_eq_true rfl, Nat.le_of_ble_eq_true rfl⟩ (Nat.le_of_ble_eq_true rfl) ⟨Nat.le_of_ble_eq_true rfl, Nat.le_of_ble_eq_true rfl⟩ (ch_mono (ch_Ki (fun r10 m11 q12 => ?_)) (s_m_isCommand g (fun (r_ : Int32) (m_ : ch_M) => (∃ (B8 : ch_B), ((d_tc M_6 0).1 = true) ∧ 1 = r_ ∧ (m_par M_6 p_7 (ch_ob m5 9 0) B8) ∧ m_ = ch_os m5 9 0 B8) ∨ (∃ (B9 : ch_B), (¬ (d_tc M_6 0).1 = true) ∧ 0 = r_ ∧ (m_par M_6 p_7 (ch_ob m5 9 0) B9) ∧ m_ = ch_os m5 9 0 B9)) (M_6) (p_7) m5 ⟨b13, b14, (fun c_ B8 f0_ => (Or.inl ⟨B8, c_, rfl, f0_, rfl⟩)), (fun c_ B9 f0_ => (Or.inr ⟨B9, c_, rfl, f0_, rfl⟩))⟩))
  rcases q12 with ⟨B8, c_, rfl, f0_, hm_⟩ | ⟨B9, c_, rfl, f0_, hm_⟩
  · replace h := h.1 c_ B8 f0_ m11 hm_
    refine ch_istore_n (i := 1) d_m_commands_18 rfl (Nat.le_of_ble_eq_true rfl) (ls' := [some (.inr (9, 0, 0)), some (.inl (.int 1)), none, none, none, none]) rfl ?_
    exact h
  · replace h := h.2 c_ B9 f0_ m11 hm_
    refine ch_istore_n (i := 1) d_m_commands_18 rfl (Nat.le_of_ble_eq_true rfl) (ls' := [some (.inr (9, 0, 0)), some (.inl (.int 0)), none, none, none, none]) rfl ?_
    exact h
set_option maxHeartbeats 1600000 in
theorem g_m_commands_19 (g : ch_G) (Q : ch_O → ch_M → Prop) (x1 : Int32) (o2 : Option ch_V) (o3 : Option ch_V) (o4 : Option ch_V) (o5 : Option ch_V) (m : ch_M) (h : ((x1 = 0 → ((¬ x1 = 0 → (∀ m1 : ch_M, m1 = ch_wr m (9, 0, 0) 11 0 → ch_J g m_m_commands (ch_rm m_m_commands) (ch_E g m_m_commands Q) 94 [some (.inr (9, 0, 0)), some (.inl (.int x1)), some (.inl (.int 0)), some (.inl (.int 1)), some (.inl (.int 1)), o5] [] m1 0)) ∧ (x1 = 0 → (∀ m2 : ch_M, m2 = ch_wr m (9, 0, 0) 14 (m (9, 0, 0) 11) → (∀ m3 : ch_M, m3 = ch_wr m2 (9, 0, 0) 10 0 → ((∀ m5 : ch_M, m5 = ch_wr m3 (9, 0, 0) 19 1 → Q (.inl (some (.inl (.int 0)))) m5))))))) ∧ (¬ x1 = 0 → (((m (9, 0, 0) 10) ≤ (m (9, 0, 0) 11) → ((¬ x1 = 0 → (∀ m7 : ch_M, m7 = ch_wr m (9, 0, 0) 11 0 → ch_J g m_m_commands (ch_rm m_m_commands) (ch_E g m_m_commands Q) 94 [some (.inr (9, 0, 0)), some (.inl (.int x1)), some (.inl (.int 0)), some (.inl (.int 1)), some (.inl (.int 1)), o5] [] m7 0)) ∧ (x1 = 0 → (∀ m8 : ch_M, m8 = ch_wr m (9, 0, 0) 14 (m (9, 0, 0) 11) → (∀ m9 : ch_M, m9 = ch_wr m8 (9, 0, 0) 10 0 → ((∀ m11 : ch_M, m11 = ch_wr m9 (9, 0, 0) 19 1 → Q (.inl (some (.inl (.int 0)))) m11))))))) ∧ (¬ (m (9, 0, 0) 10) ≤ (m (9, 0, 0) 11) → (∃ T_13 : ch_B, (∃ p_14 : Nat, (m_tx T_13 (ch_ob m 9 0) p_14) ∧ (¬ (59 : Int32) = -1) ∧ (((d_sg T_13 (nI p_14) = 59) → (∀ m16 : ch_M, m16 = ch_wr m (9, 0, 0) 11 (nI (p_14 + 1)) → (∃ M_20 : ch_M, (∃ p_21 : Nat, (m_tx (ch_ob M_20 6 0) (ch_ob m16 9 0) p_21) ∧ (M_20 (7, 0, 0) 0 = nI p_21) ∧ ((((d_tc M_20 0).1 = true) → (∀ (B22 : ch_B), (m_par M_20 p_21 (ch_ob m16 9 0) B22) → (∀ m25 : ch_M, m25 = ch_os m16 9 0 B22 → ch_J g m_m_commands (ch_rm m_m_commands) (ch_E g m_m_commands Q) 19 [some (.inr (9, 0, 0)), some (.inl (.int 1)), o2, o3, o4, o5] [] m25 0))) ∧ ((¬ (d_tc M_20 0).1 = true) → (∀ (B23 : ch_B), (m_par M_20 p_21 (ch_ob m16 9 0) B23) → (∀ m25 : ch_M, m25 = ch_os m16 9 0 B23 → ch_J g m_m_commands (ch_rm m_m_commands) (ch_E g m_m_commands Q) 19 [some (.inr (9, 0, 0)), some (.inl (.int 0)), o2, o3, o4, o5] [] m25 0)))))))) ∧ ((¬ d_sg T_13 (nI p_14) = 59) → ch_J g m_m_commands (ch_rm m_m_commands) (ch_E g m_m_commands Q) 19 [some (.inr (9, 0, 0)), some (.inl (.int 0)), o2, o3, o4, o5] [] m 0))))))))) : ch_J g m_m_commands (ch_rm m_m_commands) (ch_E g m_m_commands Q) 19 [some (.inr (9, 0, 0)), some (.inl (.int x1)), o2, o3, o4, o5] [] m 0 := by
  refine ch_iload_n (i := 1) d_m_commands_19 rfl rfl ?_
  refine ch_if_eq (tgt := 59) d_m_commands_20 (by decide) (fun c => ?_) (fun c => ?_)
  · replace h := h.1 c
    refine ch_iload_n (i := 1) d_m_commands_59 rfl rfl ?_
    refine ch_if_ne (tgt := 82) d_m_commands_60 (by decide) (fun c => ?_) (fun c => ?_)
    · replace h := h.1 c
      refine ch_aload_n (i := 0) d_m_commands_82 rfl rfl ?_
      refine ch_iconst (v := 0) d_m_commands_83 (by decide) ?_
      refine ch_put d_m_commands_84 fp_m_209 rfl rfl rfl ?_
      generalize hmm1 : ch_wr m (9, 0, 0) 11 0 = m1
      replace h := h m1 hmm1.symm
      refine ch_iconst (v := 0) d_m_commands_87 (by decide) ?_
      refine ch_istore_n (i := 2) d_m_commands_88 rfl (Nat.le_of_ble_eq_true rfl) (ls' := [some (.inr (9, 0, 0)), some (.inl (.int x1)), some (.inl (.int 0)), o3, o4, o5]) rfl ?_
      refine ch_iconst (v := 1) d_m_commands_89 (by decide) ?_
      refine ch_istore_n (i := 3) d_m_commands_90 rfl (Nat.le_of_ble_eq_true rfl) (ls' := [some (.inr (9, 0, 0)), some (.inl (.int x1)), some (.inl (.int 0)), some (.inl (.int 1)), o4, o5]) rfl ?_
      refine ch_iconst (v := 1) d_m_commands_91 (by decide) ?_
      refine ch_istore (i := 4) d_m_commands_92 (Nat.le_of_ble_eq_true rfl) (ls' := [some (.inr (9, 0, 0)), some (.inl (.int x1)), some (.inl (.int 0)), some (.inl (.int 1)), some (.inl (.int 1)), o5]) rfl ?_
      exact h
    · replace h := h.2 c
      refine ch_aload_n (i := 0) d_m_commands_63 rfl rfl ?_
      refine ch_aload_n (i := 0) d_m_commands_64 rfl rfl ?_
      refine ch_get (v := .inl (.int (m (9, 0, 0) 11))) d_m_commands_65 fl_m_209 rfl ?_
      refine ch_put d_m_commands_68 fp_m_35 rfl rfl rfl ?_
      generalize hmm2 : ch_wr m (9, 0, 0) 14 (m (9, 0, 0) 11) = m2
      replace h := h m2 hmm2.symm
      refine ch_aload_n (i := 0) d_m_commands_71 rfl rfl ?_
      refine ch_iconst (v := 0) d_m_commands_72 (by decide) ?_
      refine ch_put d_m_commands_73 fp_m_206 rfl rfl rfl ?_
      generalize hmm3 : ch_wr m2 (9, 0, 0) 10 0 = m3
      replace h := h m3 hmm3.symm
      refine ch_aload_n (i := 0) d_m_commands_76 rfl rfl ?_
      refine ch_iconst (v := 1) d_m_commands_77 (by decide) ?_
      refine ch_callV (as := [.inl (.int 1)]) d_m_commands_78 lk_m_70 mi_m_raises me_m_raises rfl rfl rfl ⟨Nat.le_of_ble_eq_true rfl, Nat.le_of_ble_eq_true rfl⟩ (Nat.le_of_ble_eq_true rfl) ⟨Nat.le_of_ble_eq_true rfl, Nat.le_of_ble_eq_true rfl⟩ (ch_mono (ch_Ki (fun r4 m5 q6 => ?_)) (s_m_raises g (fun (r_ : Int32) (m_ : ch_M) => (0 = r_ ∧ m_ = ch_wr m3 (9, 0, 0) 19 1)) (1) m3 ⟨rfl, rfl⟩))
      obtain ⟨rfl, hm_⟩ := q6
      replace h := h m5 hm_
      exact ch_iret (ty := .int) d_m_commands_81 rfl rfl (Nat.le_of_ble_eq_true rfl) h
  · replace h := h.2 c
    refine ch_aload_n (i := 0) d_m_commands_23 rfl rfl ?_
    refine ch_get (v := .inl (.int (m (9, 0, 0) 11))) d_m_commands_24 fl_m_209 rfl ?_
    refine ch_aload_n (i := 0) d_m_commands_27 rfl rfl ?_
    refine ch_get (v := .inl (.int (m (9, 0, 0) 10))) d_m_commands_28 fl_m_206 rfl ?_
    refine ch_icmp_ge (tgt := 59) d_m_commands_31 (by decide) (fun c => ?_) (fun c => ?_)
    · replace h := h.1 c
      refine ch_iload_n (i := 1) d_m_commands_59 rfl rfl ?_
      refine ch_if_ne (tgt := 82) d_m_commands_60 (by decide) (fun c => ?_) (fun c => ?_)
      · replace h := h.1 c
        refine ch_aload_n (i := 0) d_m_commands_82 rfl rfl ?_
        refine ch_iconst (v := 0) d_m_commands_83 (by decide) ?_
        refine ch_put d_m_commands_84 fp_m_209 rfl rfl rfl ?_
        generalize hmm7 : ch_wr m (9, 0, 0) 11 0 = m7
        replace h := h m7 hmm7.symm
        refine ch_iconst (v := 0) d_m_commands_87 (by decide) ?_
        refine ch_istore_n (i := 2) d_m_commands_88 rfl (Nat.le_of_ble_eq_true rfl) (ls' := [some (.inr (9, 0, 0)), some (.inl (.int x1)), some (.inl (.int 0)), o3, o4, o5]) rfl ?_
        refine ch_iconst (v := 1) d_m_commands_89 (by decide) ?_
        refine ch_istore_n (i := 3) d_m_commands_90 rfl (Nat.le_of_ble_eq_true rfl) (ls' := [some (.inr (9, 0, 0)), some (.inl (.int x1)), some (.inl (.int 0)), some (.inl (.int 1)), o4, o5]) rfl ?_
        refine ch_iconst (v := 1) d_m_commands_91 (by decide) ?_
        refine ch_istore (i := 4) d_m_commands_92 (Nat.le_of_ble_eq_true rfl) (ls' := [some (.inr (9, 0, 0)), some (.inl (.int x1)), some (.inl (.int 0)), some (.inl (.int 1)), some (.inl (.int 1)), o5]) rfl ?_
        exact h
      · replace h := h.2 c
        refine ch_aload_n (i := 0) d_m_commands_63 rfl rfl ?_
        refine ch_aload_n (i := 0) d_m_commands_64 rfl rfl ?_
        refine ch_get (v := .inl (.int (m (9, 0, 0) 11))) d_m_commands_65 fl_m_209 rfl ?_
        refine ch_put d_m_commands_68 fp_m_35 rfl rfl rfl ?_
        generalize hmm8 : ch_wr m (9, 0, 0) 14 (m (9, 0, 0) 11) = m8
        replace h := h m8 hmm8.symm
        refine ch_aload_n (i := 0) d_m_commands_71 rfl rfl ?_
        refine ch_iconst (v := 0) d_m_commands_72 (by decide) ?_
        refine ch_put d_m_commands_73 fp_m_206 rfl rfl rfl ?_
        generalize hmm9 : ch_wr m8 (9, 0, 0) 10 0 = m9
        replace h := h m9 hmm9.symm
        refine ch_aload_n (i := 0) d_m_commands_76 rfl rfl ?_
        refine ch_iconst (v := 1) d_m_commands_77 (by decide) ?_
        refine ch_callV (as := [.inl (.int 1)]) d_m_commands_78 lk_m_70 mi_m_raises me_m_raises rfl rfl rfl ⟨Nat.le_of_ble_eq_true rfl, Nat.le_of_ble_eq_true rfl⟩ (Nat.le_of_ble_eq_true rfl) ⟨Nat.le_of_ble_eq_true rfl, Nat.le_of_ble_eq_true rfl⟩ (ch_mono (ch_Ki (fun r10 m11 q12 => ?_)) (s_m_raises g (fun (r_ : Int32) (m_ : ch_M) => (0 = r_ ∧ m_ = ch_wr m9 (9, 0, 0) 19 1)) (1) m9 ⟨rfl, rfl⟩))
        obtain ⟨rfl, hm_⟩ := q12
        replace h := h m11 hm_
        exact ch_iret (ty := .int) d_m_commands_81 rfl rfl (Nat.le_of_ble_eq_true rfl) h
    · replace h := h.2 c
      refine ch_aload_n (i := 0) d_m_commands_34 rfl rfl ?_
      refine ch_bipush (v := 59) d_m_commands_35 (by decide) ?_
      obtain ⟨T_13, h⟩ := h
      obtain ⟨p_14, h⟩ := h
      have b18 := h.1
      replace h := h.2
      have b19 := h.1
      replace h := h.2
      refine ch_callV (as := [.inl (.int 59)]) d_m_commands_37 lk_m_226 mi_m_takes me_m_takes rfl rfl rfl ⟨Nat.le_of_ble_eq_true rfl, Nat.le_of_ble_eq_true rfl⟩ (Nat.le_of_ble_eq_true rfl) ⟨Nat.le_of_ble_eq_true rfl, Nat.le_of_ble_eq_true rfl⟩ (ch_mono (ch_Ki (fun r15 m16 q17 => ?_)) (s_m_takes g (fun (r_ : Int32) (m_ : ch_M) => ((d_sg T_13 (nI p_14) = 59) ∧ 1 = r_ ∧ m_ = ch_wr m (9, 0, 0) 11 (nI (p_14 + 1))) ∨ ((¬ d_sg T_13 (nI p_14) = 59) ∧ 0 = r_ ∧ m = m_)) (T_13) (p_14) (59) m ⟨b18, b19, (fun c_ => (Or.inl ⟨c_, rfl, rfl⟩)), (fun c_ => (Or.inr ⟨c_, rfl, rfl⟩))⟩))
      rcases q17 with ⟨c_, rfl, hm_⟩ | ⟨c_, rfl, rfl⟩
      · replace h := h.1 c_ m16 hm_
        refine ch_if_eq (tgt := 54) d_m_commands_40 (by decide) (fun c => absurd c (by decide)) (fun _ => ?_)
        refine ch_aload_n (i := 0) d_m_commands_43 rfl rfl ?_
        obtain ⟨M_20, h⟩ := h
        obtain ⟨p_21, h⟩ := h
        have b27 := h.1
        replace h := h.2
        have b28 := h.1
        replace h := h.2
        refine ch_callV (as := []) d_m_commands_44 lk_m_233 mi_m_isCommand me_m_isCommand rfl rfl rfl ⟨Nat.le_of_ble_eq_true rfl, Nat.le_of_ble_eq_true rfl⟩ (Nat.le_of_ble_eq_true rfl) ⟨Nat.le_of_ble_eq_true rfl, Nat.le_of_ble_eq_true rfl⟩ (ch_mono (ch_Ki (fun r24 m25 q26 => ?_)) (s_m_isCommand g (fun (r_ : Int32) (m_ : ch_M) => (∃ (B22 : ch_B), ((d_tc M_20 0).1 = true) ∧ 1 = r_ ∧ (m_par M_20 p_21 (ch_ob m16 9 0) B22) ∧ m_ = ch_os m16 9 0 B22) ∨ (∃ (B23 : ch_B), (¬ (d_tc M_20 0).1 = true) ∧ 0 = r_ ∧ (m_par M_20 p_21 (ch_ob m16 9 0) B23) ∧ m_ = ch_os m16 9 0 B23)) (M_20) (p_21) m16 ⟨b27, b28, (fun c_ B22 f0_ => (Or.inl ⟨B22, c_, rfl, f0_, rfl⟩)), (fun c_ B23 f0_ => (Or.inr ⟨B23, c_, rfl, f0_, rfl⟩))⟩))
        rcases q26 with ⟨B22, c_, rfl, f0_, hm_⟩ | ⟨B23, c_, rfl, f0_, hm_⟩
        · replace h := h.1 c_ B22 f0_ m25 hm_
          refine ch_if_eq (tgt := 54) d_m_commands_47 (by decide) (fun c => absurd c (by decide)) (fun _ => ?_)
          refine ch_iconst (v := 1) d_m_commands_50 (by decide) ?_
          refine ch_goto (tgt := 55) d_m_commands_51 (by decide) ?_
          refine ch_istore_n (i := 1) d_m_commands_55 rfl (Nat.le_of_ble_eq_true rfl) (ls' := [some (.inr (9, 0, 0)), some (.inl (.int 1)), o2, o3, o4, o5]) rfl ?_
          refine ch_goto (tgt := 19) d_m_commands_56 (by decide) ?_
          exact h
        · replace h := h.2 c_ B23 f0_ m25 hm_
          refine ch_if_eq (tgt := 54) d_m_commands_47 (by decide) (fun _ => ?_) (fun c => absurd c (by decide))
          refine ch_iconst (v := 0) d_m_commands_54 (by decide) ?_
          refine ch_istore_n (i := 1) d_m_commands_55 rfl (Nat.le_of_ble_eq_true rfl) (ls' := [some (.inr (9, 0, 0)), some (.inl (.int 0)), o2, o3, o4, o5]) rfl ?_
          refine ch_goto (tgt := 19) d_m_commands_56 (by decide) ?_
          exact h
      · replace h := h.2 c_
        refine ch_if_eq (tgt := 54) d_m_commands_40 (by decide) (fun _ => ?_) (fun c => absurd c (by decide))
        refine ch_iconst (v := 0) d_m_commands_54 (by decide) ?_
        refine ch_istore_n (i := 1) d_m_commands_55 rfl (Nat.le_of_ble_eq_true rfl) (ls' := [some (.inr (9, 0, 0)), some (.inl (.int 0)), o2, o3, o4, o5]) rfl ?_
        refine ch_goto (tgt := 19) d_m_commands_56 (by decide) ?_
        exact h
set_option maxHeartbeats 1600000 in
theorem g_m_commands_94 (g : ch_G) (Q : ch_O → ch_M → Prop) (x1 : Int32) (x2 : Int32) (x3 : Int32) (x4 : Int32) (o5 : Option ch_V) (m : ch_M) (h : ((x4 = 0 → (∀ m1 : ch_M, m1 = ch_wr m (9, 0, 0) 10 0 → ((x3 = 0 → (∀ m2 : ch_M, m2 = ch_wr m1 (9, 0, 0) 17 x2 → ch_J g m_m_commands (ch_rm m_m_commands) (ch_E g m_m_commands Q) 162 [some (.inr (9, 0, 0)), some (.inl (.int x1)), some (.inl (.int x2)), some (.inl (.int x3)), some (.inl (.int x4)), some (.inl (.int 0))] [] m2 0)) ∧ (¬ x3 = 0 → (vp_in (m1 (9, 0, 0) 4) 9) ∧ ((∀ m4 : ch_M, m4 = ch_os m1 9 0 (m_kB (ch_ob m1 9 0)) → Q (.inl (some (.inl (.int x2)))) m4)))))) ∧ (¬ x4 = 0 → (∃ M_7 : ch_M, (∃ p_8 : Nat, (m_tx (ch_ob M_7 6 0) (ch_ob m 9 0) p_8) ∧ (M_7 (7, 0, 0) 0 = nI p_8) ∧ ((((d_tc M_7 0).1 = true) → (∀ (B9 : ch_B), (m_par M_7 p_8 (ch_ob m 9 0) B9) → (∀ m12 : ch_M, m12 = ch_os m 9 0 B9 → (∃ T_16 : Nat, (∃ Y_17 : ch_B, (∃ K_18 : ch_B, (∃ S_19 : ch_B, (m_rel Y_17 (m12 (9, 0, 1))) ∧ (y_inv T_16 Y_17) ∧ (m_cmK K_18 S_19 (ch_ob m12 9 0)) ∧ ((((r_w Y_17 K_18 (S_19 1) (S_19 0 1)).1 = 0) → (∀ (B20 : ch_B), (m_rel (y_car Y_17 K_18 (S_19 1) (Int32.toNatClampNeg (S_19 0 1))).2 (B20 1)) → (∀ a_ i_, a_ ≠ 1 → ¬ (a_ = 0 ∧ i_ = 18) → B20 a_ i_ = ch_ob m12 9 0 a_ i_) → (∀ m22 : ch_M, m22 = ch_os m12 9 0 B20 → (∃ T_27 : ch_B, (∃ p_28 : Nat, (m_tx T_27 (ch_ob m22 9 0) p_28) ∧ (¬ (59 : Int32) = -1) ∧ (((d_sg T_27 (nI p_28) = 59) → (∀ m30 : ch_M, m30 = ch_wr m22 (9, 0, 0) 11 (nI (p_28 + 1)) → ch_J g m_m_commands (ch_rm m_m_commands) (ch_E g m_m_commands Q) 94 [some (.inr (9, 0, 0)), some (.inl (.int 1)), some (.inl (.int (x2 + 1))), some (.inl (.int 1)), some (.inl (.int 1)), o5] [] m30 0)) ∧ ((¬ d_sg T_27 (nI p_28) = 59) → ch_J g m_m_commands (ch_rm m_m_commands) (ch_E g m_m_commands Q) 94 [some (.inr (9, 0, 0)), some (.inl (.int 1)), some (.inl (.int (x2 + 1))), some (.inl (.int 1)), some (.inl (.int 0)), o5] [] m22 0))))))) ∧ ((¬ (r_w Y_17 K_18 (S_19 1) (S_19 0 1)).1 = 0) → (∀ m22 : ch_M, m22 = ch_os m12 9 0 (m_refB (ch_ob m12 9 0) (r_w Y_17 K_18 (S_19 1) (S_19 0 1)).1 (r_w Y_17 K_18 (S_19 1) (S_19 0 1)).2) → ch_J g m_m_commands (ch_rm m_m_commands) (ch_E g m_m_commands Q) 94 [some (.inr (9, 0, 0)), some (.inl (.int 1)), some (.inl (.int x2)), some (.inl (.int 0)), some (.inl (.int 0)), o5] [] m22 0)))))))))) ∧ ((¬ (d_tc M_7 0).1 = true) → (∀ (B10 : ch_B), (m_par M_7 p_8 (ch_ob m 9 0) B10) → (∀ m12 : ch_M, m12 = ch_os m 9 0 B10 → (∃ T_34 : Nat, (∃ Y_35 : ch_B, (∃ K_36 : ch_B, (∃ S_37 : ch_B, (m_rel Y_35 (m12 (9, 0, 1))) ∧ (y_inv T_34 Y_35) ∧ (m_cmK K_36 S_37 (ch_ob m12 9 0)) ∧ ((((r_w Y_35 K_36 (S_37 1) (S_37 0 1)).1 = 0) → (∀ (B38 : ch_B), (m_rel (y_car Y_35 K_36 (S_37 1) (Int32.toNatClampNeg (S_37 0 1))).2 (B38 1)) → (∀ a_ i_, a_ ≠ 1 → ¬ (a_ = 0 ∧ i_ = 18) → B38 a_ i_ = ch_ob m12 9 0 a_ i_) → (∀ m40 : ch_M, m40 = ch_os m12 9 0 B38 → (∃ T_45 : ch_B, (∃ p_46 : Nat, (m_tx T_45 (ch_ob m40 9 0) p_46) ∧ (¬ (59 : Int32) = -1) ∧ (((d_sg T_45 (nI p_46) = 59) → (∀ m48 : ch_M, m48 = ch_wr m40 (9, 0, 0) 11 (nI (p_46 + 1)) → ch_J g m_m_commands (ch_rm m_m_commands) (ch_E g m_m_commands Q) 94 [some (.inr (9, 0, 0)), some (.inl (.int 0)), some (.inl (.int (x2 + 1))), some (.inl (.int 1)), some (.inl (.int 1)), o5] [] m48 0)) ∧ ((¬ d_sg T_45 (nI p_46) = 59) → ch_J g m_m_commands (ch_rm m_m_commands) (ch_E g m_m_commands Q) 94 [some (.inr (9, 0, 0)), some (.inl (.int 0)), some (.inl (.int (x2 + 1))), some (.inl (.int 1)), some (.inl (.int 0)), o5] [] m40 0))))))) ∧ ((¬ (r_w Y_35 K_36 (S_37 1) (S_37 0 1)).1 = 0) → (∀ m40 : ch_M, m40 = ch_os m12 9 0 (m_refB (ch_ob m12 9 0) (r_w Y_35 K_36 (S_37 1) (S_37 0 1)).1 (r_w Y_35 K_36 (S_37 1) (S_37 0 1)).2) → ch_J g m_m_commands (ch_rm m_m_commands) (ch_E g m_m_commands Q) 94 [some (.inr (9, 0, 0)), some (.inl (.int 0)), some (.inl (.int x2)), some (.inl (.int 0)), some (.inl (.int 0)), o5] [] m40 0)))))))))))))))) : ch_J g m_m_commands (ch_rm m_m_commands) (ch_E g m_m_commands Q) 94 [some (.inr (9, 0, 0)), some (.inl (.int x1)), some (.inl (.int x2)), some (.inl (.int x3)), some (.inl (.int x4)), o5] [] m 0 := by
  refine ch_iload d_m_commands_94 rfl ?_
  refine ch_if_eq (tgt := 139) d_m_commands_96 (by decide) (fun c => ?_) (fun c => ?_)
  · replace h := h.1 c
    refine ch_aload_n (i := 0) d_m_commands_139 rfl rfl ?_
    refine ch_iconst (v := 0) d_m_commands_140 (by decide) ?_
    refine ch_put d_m_commands_141 fp_m_206 rfl rfl rfl ?_
    generalize hmm1 : ch_wr m (9, 0, 0) 10 0 = m1
    replace h := h m1 hmm1.symm
    refine ch_iload_n (i := 3) d_m_commands_144 rfl rfl ?_
    refine ch_if_eq (tgt := 154) d_m_commands_145 (by decide) (fun c => ?_) (fun c => ?_)
    · replace h := h.1 c
      refine ch_aload_n (i := 0) d_m_commands_154 rfl rfl ?_
      refine ch_iload_n (i := 2) d_m_commands_155 rfl rfl ?_
      refine ch_put d_m_commands_156 fp_m_63 rfl rfl rfl ?_
      generalize hmm2 : ch_wr m1 (9, 0, 0) 17 x2 = m2
      replace h := h m2 hmm2.symm
      refine ch_iconst (v := 0) d_m_commands_159 (by decide) ?_
      refine ch_istore (i := 5) d_m_commands_160 (Nat.le_of_ble_eq_true rfl) (ls' := [some (.inr (9, 0, 0)), some (.inl (.int x1)), some (.inl (.int x2)), some (.inl (.int x3)), some (.inl (.int x4)), some (.inl (.int 0))]) rfl ?_
      exact h
    · replace h := h.2 c
      refine ch_aload_n (i := 0) d_m_commands_148 rfl rfl ?_
      refine ch_iload_n (i := 2) d_m_commands_149 rfl rfl ?_
      have b6 := h.1
      replace h := h.2
      refine ch_callV (as := [.inl (.int x2)]) d_m_commands_150 lk_m_66 mi_m_keeps me_m_keeps rfl rfl rfl ⟨Nat.le_of_ble_eq_true rfl, Nat.le_of_ble_eq_true rfl⟩ (Nat.le_of_ble_eq_true rfl) ⟨Nat.le_of_ble_eq_true rfl, Nat.le_of_ble_eq_true rfl⟩ (ch_mono (ch_Ki (fun r3 m4 q5 => ?_)) (s_m_keeps g (fun (r_ : Int32) (m_ : ch_M) => (x2 = r_ ∧ m_ = ch_os m1 9 0 (m_kB (ch_ob m1 9 0)))) (x2) m1 ⟨b6, ⟨rfl, rfl⟩⟩))
      obtain ⟨rfl, hm_⟩ := q5
      replace h := h m4 hm_
      exact ch_iret (ty := .int) d_m_commands_153 rfl rfl (Nat.le_of_ble_eq_true rfl) h
  · replace h := h.2 c
    refine ch_aload_n (i := 0) d_m_commands_99 rfl rfl ?_
    obtain ⟨M_7, h⟩ := h
    obtain ⟨p_8, h⟩ := h
    have b14 := h.1
    replace h := h.2
    have b15 := h.1
    replace h := h.2
    refine ch_callV (as := []) d_m_commands_100 lk_m_233 mi_m_isCommand me_m_isCommand rfl rfl rfl ⟨Nat.le_of_ble_eq_true rfl, Nat.le_of_ble_eq_true rfl⟩ (Nat.le_of_ble_eq_true rfl) ⟨Nat.le_of_ble_eq_true rfl, Nat.le_of_ble_eq_true rfl⟩ (ch_mono (ch_Ki (fun r11 m12 q13 => ?_)) (s_m_isCommand g (fun (r_ : Int32) (m_ : ch_M) => (∃ (B9 : ch_B), ((d_tc M_7 0).1 = true) ∧ 1 = r_ ∧ (m_par M_7 p_8 (ch_ob m 9 0) B9) ∧ m_ = ch_os m 9 0 B9) ∨ (∃ (B10 : ch_B), (¬ (d_tc M_7 0).1 = true) ∧ 0 = r_ ∧ (m_par M_7 p_8 (ch_ob m 9 0) B10) ∧ m_ = ch_os m 9 0 B10)) (M_7) (p_8) m ⟨b14, b15, (fun c_ B9 f0_ => (Or.inl ⟨B9, c_, rfl, f0_, rfl⟩)), (fun c_ B10 f0_ => (Or.inr ⟨B10, c_, rfl, f0_, rfl⟩))⟩))
    rcases q13 with ⟨B9, c_, rfl, f0_, hm_⟩ | ⟨B10, c_, rfl, f0_, hm_⟩
    · replace h := h.1 c_ B9 f0_ m12 hm_
      refine ch_istore_n (i := 1) d_m_commands_103 rfl (Nat.le_of_ble_eq_true rfl) (ls' := [some (.inr (9, 0, 0)), some (.inl (.int 1)), some (.inl (.int x2)), some (.inl (.int x3)), some (.inl (.int x4)), o5]) rfl ?_
      refine ch_aload_n (i := 0) d_m_commands_104 rfl rfl ?_
      obtain ⟨T_16, h⟩ := h
      obtain ⟨Y_17, h⟩ := h
      obtain ⟨K_18, h⟩ := h
      obtain ⟨S_19, h⟩ := h
      have b24 := h.1
      replace h := h.2
      have b25 := h.1
      replace h := h.2
      have b26 := h.1
      replace h := h.2
      refine ch_callV (as := []) d_m_commands_105 lk_m_236 mi_m_carries me_m_carries rfl rfl rfl ⟨Nat.le_of_ble_eq_true rfl, Nat.le_of_ble_eq_true rfl⟩ (Nat.le_of_ble_eq_true rfl) ⟨Nat.le_of_ble_eq_true rfl, Nat.le_of_ble_eq_true rfl⟩ (ch_mono (ch_Ki (fun r21 m22 q23 => ?_)) (s_m_carries g (fun (r_ : Int32) (m_ : ch_M) => (∃ (B20 : ch_B), ((r_w Y_17 K_18 (S_19 1) (S_19 0 1)).1 = 0) ∧ 1 = r_ ∧ (m_rel (y_car Y_17 K_18 (S_19 1) (Int32.toNatClampNeg (S_19 0 1))).2 (B20 1)) ∧ (∀ a_ i_, a_ ≠ 1 → ¬ (a_ = 0 ∧ i_ = 18) → B20 a_ i_ = ch_ob m12 9 0 a_ i_) ∧ m_ = ch_os m12 9 0 B20) ∨ ((¬ (r_w Y_17 K_18 (S_19 1) (S_19 0 1)).1 = 0) ∧ 0 = r_ ∧ m_ = ch_os m12 9 0 (m_refB (ch_ob m12 9 0) (r_w Y_17 K_18 (S_19 1) (S_19 0 1)).1 (r_w Y_17 K_18 (S_19 1) (S_19 0 1)).2))) (T_16) (Y_17) (K_18) (S_19) m12 ⟨b24, b25, b26, (fun c_ B20 f0_ f1_ => (Or.inl ⟨B20, c_, rfl, f0_, f1_, rfl⟩)), (fun c_ => (Or.inr ⟨c_, rfl, rfl⟩))⟩))
      rcases q23 with ⟨B20, c_, rfl, f0_, f1_, hm_⟩ | ⟨c_, rfl, hm_⟩
      · replace h := h.1 c_ B20 f0_ f1_ m22 hm_
        refine ch_istore_n (i := 3) d_m_commands_108 rfl (Nat.le_of_ble_eq_true rfl) (ls' := [some (.inr (9, 0, 0)), some (.inl (.int 1)), some (.inl (.int x2)), some (.inl (.int 1)), some (.inl (.int x4)), o5]) rfl ?_
        refine ch_iload_n (i := 3) d_m_commands_109 rfl rfl ?_
        refine ch_if_eq (tgt := 116) d_m_commands_110 (by decide) (fun c => absurd c (by decide)) (fun _ => ?_)
        refine ch_iinc (i := 2) (v := (x2 + 1)) d_m_commands_113 rfl rfl (Nat.le_of_ble_eq_true rfl) (ls' := [some (.inr (9, 0, 0)), some (.inl (.int 1)), some (.inl (.int (x2 + 1))), some (.inl (.int 1)), some (.inl (.int x4)), o5]) rfl ?_
        refine ch_iload_n (i := 3) d_m_commands_116 rfl rfl ?_
        refine ch_if_eq (tgt := 133) d_m_commands_117 (by decide) (fun c => absurd c (by decide)) (fun _ => ?_)
        refine ch_aload_n (i := 0) d_m_commands_120 rfl rfl ?_
        refine ch_bipush (v := 59) d_m_commands_121 (by decide) ?_
        obtain ⟨T_27, h⟩ := h
        obtain ⟨p_28, h⟩ := h
        have b32 := h.1
        replace h := h.2
        have b33 := h.1
        replace h := h.2
        refine ch_callV (as := [.inl (.int 59)]) d_m_commands_123 lk_m_226 mi_m_takes me_m_takes rfl rfl rfl ⟨Nat.le_of_ble_eq_true rfl, Nat.le_of_ble_eq_true rfl⟩ (Nat.le_of_ble_eq_true rfl) ⟨Nat.le_of_ble_eq_true rfl, Nat.le_of_ble_eq_true rfl⟩ (ch_mono (ch_Ki (fun r29 m30 q31 => ?_)) (s_m_takes g (fun (r_ : Int32) (m_ : ch_M) => ((d_sg T_27 (nI p_28) = 59) ∧ 1 = r_ ∧ m_ = ch_wr m22 (9, 0, 0) 11 (nI (p_28 + 1))) ∨ ((¬ d_sg T_27 (nI p_28) = 59) ∧ 0 = r_ ∧ m22 = m_)) (T_27) (p_28) (59) m22 ⟨b32, b33, (fun c_ => (Or.inl ⟨c_, rfl, rfl⟩)), (fun c_ => (Or.inr ⟨c_, rfl, rfl⟩))⟩))
        rcases q31 with ⟨c_, rfl, hm_⟩ | ⟨c_, rfl, rfl⟩
        · replace h := h.1 c_ m30 hm_
          refine ch_if_eq (tgt := 133) d_m_commands_126 (by decide) (fun c => absurd c (by decide)) (fun _ => ?_)
          refine ch_iconst (v := 1) d_m_commands_129 (by decide) ?_
          refine ch_goto (tgt := 134) d_m_commands_130 (by decide) ?_
          refine ch_istore (i := 4) d_m_commands_134 (Nat.le_of_ble_eq_true rfl) (ls' := [some (.inr (9, 0, 0)), some (.inl (.int 1)), some (.inl (.int (x2 + 1))), some (.inl (.int 1)), some (.inl (.int 1)), o5]) rfl ?_
          refine ch_goto (tgt := 94) d_m_commands_136 (by decide) ?_
          exact h
        · replace h := h.2 c_
          refine ch_if_eq (tgt := 133) d_m_commands_126 (by decide) (fun _ => ?_) (fun c => absurd c (by decide))
          refine ch_iconst (v := 0) d_m_commands_133 (by decide) ?_
          refine ch_istore (i := 4) d_m_commands_134 (Nat.le_of_ble_eq_true rfl) (ls' := [some (.inr (9, 0, 0)), some (.inl (.int 1)), some (.inl (.int (x2 + 1))), some (.inl (.int 1)), some (.inl (.int 0)), o5]) rfl ?_
          refine ch_goto (tgt := 94) d_m_commands_136 (by decide) ?_
          exact h
      · replace h := h.2 c_ m22 hm_
        refine ch_istore_n (i := 3) d_m_commands_108 rfl (Nat.le_of_ble_eq_true rfl) (ls' := [some (.inr (9, 0, 0)), some (.inl (.int 1)), some (.inl (.int x2)), some (.inl (.int 0)), some (.inl (.int x4)), o5]) rfl ?_
        refine ch_iload_n (i := 3) d_m_commands_109 rfl rfl ?_
        refine ch_if_eq (tgt := 116) d_m_commands_110 (by decide) (fun _ => ?_) (fun c => absurd c (by decide))
        refine ch_iload_n (i := 3) d_m_commands_116 rfl rfl ?_
        refine ch_if_eq (tgt := 133) d_m_commands_117 (by decide) (fun _ => ?_) (fun c => absurd c (by decide))
        refine ch_iconst (v := 0) d_m_commands_133 (by decide) ?_
        refine ch_istore (i := 4) d_m_commands_134 (Nat.le_of_ble_eq_true rfl) (ls' := [some (.inr (9, 0, 0)), some (.inl (.int 1)), some (.inl (.int x2)), some (.inl (.int 0)), some (.inl (.int 0)), o5]) rfl ?_
        refine ch_goto (tgt := 94) d_m_commands_136 (by decide) ?_
        exact h
    · replace h := h.2 c_ B10 f0_ m12 hm_
      refine ch_istore_n (i := 1) d_m_commands_103 rfl (Nat.le_of_ble_eq_true rfl) (ls' := [some (.inr (9, 0, 0)), some (.inl (.int 0)), some (.inl (.int x2)), some (.inl (.int x3)), some (.inl (.int x4)), o5]) rfl ?_
      refine ch_aload_n (i := 0) d_m_commands_104 rfl rfl ?_
      obtain ⟨T_34, h⟩ := h
      obtain ⟨Y_35, h⟩ := h
      obtain ⟨K_36, h⟩ := h
      obtain ⟨S_37, h⟩ := h
      have b42 := h.1
      replace h := h.2
      have b43 := h.1
      replace h := h.2
      have b44 := h.1
      replace h := h.2
      refine ch_callV (as := []) d_m_commands_105 lk_m_236 mi_m_carries me_m_carries rfl rfl rfl ⟨Nat.le_of_ble_eq_true rfl, Nat.le_of_ble_eq_true rfl⟩ (Nat.le_of_ble_eq_true rfl) ⟨Nat.le_of_ble_eq_true rfl, Nat.le_of_ble_eq_true rfl⟩ (ch_mono (ch_Ki (fun r39 m40 q41 => ?_)) (s_m_carries g (fun (r_ : Int32) (m_ : ch_M) => (∃ (B38 : ch_B), ((r_w Y_35 K_36 (S_37 1) (S_37 0 1)).1 = 0) ∧ 1 = r_ ∧ (m_rel (y_car Y_35 K_36 (S_37 1) (Int32.toNatClampNeg (S_37 0 1))).2 (B38 1)) ∧ (∀ a_ i_, a_ ≠ 1 → ¬ (a_ = 0 ∧ i_ = 18) → B38 a_ i_ = ch_ob m12 9 0 a_ i_) ∧ m_ = ch_os m12 9 0 B38) ∨ ((¬ (r_w Y_35 K_36 (S_37 1) (S_37 0 1)).1 = 0) ∧ 0 = r_ ∧ m_ = ch_os m12 9 0 (m_refB (ch_ob m12 9 0) (r_w Y_35 K_36 (S_37 1) (S_37 0 1)).1 (r_w Y_35 K_36 (S_37 1) (S_37 0 1)).2))) (T_34) (Y_35) (K_36) (S_37) m12 ⟨b42, b43, b44, (fun c_ B38 f0_ f1_ => (Or.inl ⟨B38, c_, rfl, f0_, f1_, rfl⟩)), (fun c_ => (Or.inr ⟨c_, rfl, rfl⟩))⟩))
      rcases q41 with ⟨B38, c_, rfl, f0_, f1_, hm_⟩ | ⟨c_, rfl, hm_⟩
      · replace h := h.1 c_ B38 f0_ f1_ m40 hm_
        refine ch_istore_n (i := 3) d_m_commands_108 rfl (Nat.le_of_ble_eq_true rfl) (ls' := [some (.inr (9, 0, 0)), some (.inl (.int 0)), some (.inl (.int x2)), some (.inl (.int 1)), some (.inl (.int x4)), o5]) rfl ?_
        refine ch_iload_n (i := 3) d_m_commands_109 rfl rfl ?_
        refine ch_if_eq (tgt := 116) d_m_commands_110 (by decide) (fun c => absurd c (by decide)) (fun _ => ?_)
        refine ch_iinc (i := 2) (v := (x2 + 1)) d_m_commands_113 rfl rfl (Nat.le_of_ble_eq_true rfl) (ls' := [some (.inr (9, 0, 0)), some (.inl (.int 0)), some (.inl (.int (x2 + 1))), some (.inl (.int 1)), some (.inl (.int x4)), o5]) rfl ?_
        refine ch_iload_n (i := 3) d_m_commands_116 rfl rfl ?_
        refine ch_if_eq (tgt := 133) d_m_commands_117 (by decide) (fun c => absurd c (by decide)) (fun _ => ?_)
        refine ch_aload_n (i := 0) d_m_commands_120 rfl rfl ?_
        refine ch_bipush (v := 59) d_m_commands_121 (by decide) ?_
        obtain ⟨T_45, h⟩ := h
        obtain ⟨p_46, h⟩ := h
        have b50 := h.1
        replace h := h.2
        have b51 := h.1
        replace h := h.2
        refine ch_callV (as := [.inl (.int 59)]) d_m_commands_123 lk_m_226 mi_m_takes me_m_takes rfl rfl rfl ⟨Nat.le_of_ble_eq_true rfl, Nat.le_of_ble_eq_true rfl⟩ (Nat.le_of_ble_eq_true rfl) ⟨Nat.le_of_ble_eq_true rfl, Nat.le_of_ble_eq_true rfl⟩ (ch_mono (ch_Ki (fun r47 m48 q49 => ?_)) (s_m_takes g (fun (r_ : Int32) (m_ : ch_M) => ((d_sg T_45 (nI p_46) = 59) ∧ 1 = r_ ∧ m_ = ch_wr m40 (9, 0, 0) 11 (nI (p_46 + 1))) ∨ ((¬ d_sg T_45 (nI p_46) = 59) ∧ 0 = r_ ∧ m40 = m_)) (T_45) (p_46) (59) m40 ⟨b50, b51, (fun c_ => (Or.inl ⟨c_, rfl, rfl⟩)), (fun c_ => (Or.inr ⟨c_, rfl, rfl⟩))⟩))
        rcases q49 with ⟨c_, rfl, hm_⟩ | ⟨c_, rfl, rfl⟩
        · replace h := h.1 c_ m48 hm_
          refine ch_if_eq (tgt := 133) d_m_commands_126 (by decide) (fun c => absurd c (by decide)) (fun _ => ?_)
          refine ch_iconst (v := 1) d_m_commands_129 (by decide) ?_
          refine ch_goto (tgt := 134) d_m_commands_130 (by decide) ?_
          refine ch_istore (i := 4) d_m_commands_134 (Nat.le_of_ble_eq_true rfl) (ls' := [some (.inr (9, 0, 0)), some (.inl (.int 0)), some (.inl (.int (x2 + 1))), some (.inl (.int 1)), some (.inl (.int 1)), o5]) rfl ?_
          refine ch_goto (tgt := 94) d_m_commands_136 (by decide) ?_
          exact h
        · replace h := h.2 c_
          refine ch_if_eq (tgt := 133) d_m_commands_126 (by decide) (fun _ => ?_) (fun c => absurd c (by decide))
          refine ch_iconst (v := 0) d_m_commands_133 (by decide) ?_
          refine ch_istore (i := 4) d_m_commands_134 (Nat.le_of_ble_eq_true rfl) (ls' := [some (.inr (9, 0, 0)), some (.inl (.int 0)), some (.inl (.int (x2 + 1))), some (.inl (.int 1)), some (.inl (.int 0)), o5]) rfl ?_
          refine ch_goto (tgt := 94) d_m_commands_136 (by decide) ?_
          exact h
      · replace h := h.2 c_ m40 hm_
        refine ch_istore_n (i := 3) d_m_commands_108 rfl (Nat.le_of_ble_eq_true rfl) (ls' := [some (.inr (9, 0, 0)), some (.inl (.int 0)), some (.inl (.int x2)), some (.inl (.int 0)), some (.inl (.int x4)), o5]) rfl ?_
        refine ch_iload_n (i := 3) d_m_commands_109 rfl rfl ?_
        refine ch_if_eq (tgt := 116) d_m_commands_110 (by decide) (fun _ => ?_) (fun c => absurd c (by decide))
        refine ch_iload_n (i := 3) d_m_commands_116 rfl rfl ?_
        refine ch_if_eq (tgt := 133) d_m_commands_117 (by decide) (fun _ => ?_) (fun c => absurd c (by decide))
        refine ch_iconst (v := 0) d_m_commands_133 (by decide) ?_
        refine ch_istore (i := 4) d_m_commands_134 (Nat.le_of_ble_eq_true rfl) (ls' := [some (.inr (9, 0, 0)), some (.inl (.int 0)), some (.inl (.int x2)), some (.inl (.int 0)), some (.inl (.int 0)), o5]) rfl ?_
        refine ch_goto (tgt := 94) d_m_commands_136 (by decide) ?_
        exact h
set_option maxHeartbeats 1600000 in
theorem g_m_commands_162 (g : ch_G) (Q : ch_O → ch_M → Prop) (x1 : Int32) (x2 : Int32) (x3 : Int32) (x4 : Int32) (x5 : Int32) (m : ch_M) (h : ((63 ≤ x5 → ((∀ m2 : ch_M, m2 = ch_wr m (9, 0, 0) 19 2 → Q (.inl (some (.inl (.int 0)))) m2))) ∧ (¬ 63 ≤ x5 → (vp_in x5 63) ∧ (∀ m5 : ch_M, m5 = ch_wr m (9, 0, 1) (Int32.toNatClampNeg x5) (m (9, 0, 2) (Int32.toNatClampNeg x5)) → ch_J g m_m_commands (ch_rm m_m_commands) (ch_E g m_m_commands Q) 162 [some (.inr (9, 0, 0)), some (.inl (.int x1)), some (.inl (.int x2)), some (.inl (.int x3)), some (.inl (.int x4)), some (.inl (.int (x5 + 1)))] [] m5 0)))) : ch_J g m_m_commands (ch_rm m_m_commands) (ch_E g m_m_commands Q) 162 [some (.inr (9, 0, 0)), some (.inl (.int x1)), some (.inl (.int x2)), some (.inl (.int x3)), some (.inl (.int x4)), some (.inl (.int x5))] [] m 0 := by
  refine ch_iload d_m_commands_162 rfl ?_
  refine ch_bipush (v := 63) d_m_commands_164 (by decide) ?_
  refine ch_icmp_ge (tgt := 189) d_m_commands_166 (by decide) (fun c => ?_) (fun c => ?_)
  · replace h := h.1 c
    refine ch_aload_n (i := 0) d_m_commands_189 rfl rfl ?_
    refine ch_iconst (v := 2) d_m_commands_190 (by decide) ?_
    refine ch_callV (as := [.inl (.int 2)]) d_m_commands_191 lk_m_70 mi_m_raises me_m_raises rfl rfl rfl ⟨Nat.le_of_ble_eq_true rfl, Nat.le_of_ble_eq_true rfl⟩ (Nat.le_of_ble_eq_true rfl) ⟨Nat.le_of_ble_eq_true rfl, Nat.le_of_ble_eq_true rfl⟩ (ch_mono (ch_Ki (fun r1 m2 q3 => ?_)) (s_m_raises g (fun (r_ : Int32) (m_ : ch_M) => (0 = r_ ∧ m_ = ch_wr m (9, 0, 0) 19 2)) (2) m ⟨rfl, rfl⟩))
    obtain ⟨rfl, hm_⟩ := q3
    replace h := h m2 hm_
    exact ch_iret (ty := .int) d_m_commands_194 rfl rfl (Nat.le_of_ble_eq_true rfl) h
  · replace h := h.2 c
    refine ch_aload_n (i := 0) d_m_commands_169 rfl rfl ?_
    refine ch_get (v := .inr (9, 0, 1)) d_m_commands_170 fl_m_9 rfl ?_
    refine ch_iload d_m_commands_173 rfl ?_
    refine ch_aload_n (i := 0) d_m_commands_175 rfl rfl ?_
    refine ch_get (v := .inr (9, 0, 2)) d_m_commands_176 fl_m_13 rfl ?_
    refine ch_iload d_m_commands_179 rfl ?_
    have b4 := h.1
    replace h := h.2
    refine ch_iald (n := 63) d_m_commands_181 (by decide) rfl b4 ?_
    refine ch_iast (n := 63) d_m_commands_182 (by decide) rfl b4 ?_
    show ch_J g _ _ _ _ _ _ (ch_wr m (9, 0, 1) (Int32.toNatClampNeg x5) (m (9, 0, 2) (Int32.toNatClampNeg x5))) _
    generalize hmm5 : ch_wr m (9, 0, 1) (Int32.toNatClampNeg x5) (m (9, 0, 2) (Int32.toNatClampNeg x5)) = m5
    replace h := h m5 hmm5.symm
    refine ch_iinc (i := 5) (v := (x5 + 1)) d_m_commands_183 rfl rfl (Nat.le_of_ble_eq_true rfl) (ls' := [some (.inr (9, 0, 0)), some (.inl (.int x1)), some (.inl (.int x2)), some (.inl (.int x3)), some (.inl (.int x4)), some (.inl (.int (x5 + 1)))]) rfl ?_
    refine ch_goto (tgt := 162) d_m_commands_186 (by decide) ?_
    exact h
