theorem e_m_isCommand (g : ch_G) (Q : ch_O → ch_M → Prop)  (m : ch_M) (h : ch_J g m_m_isCommand (ch_rm m_m_isCommand) (ch_E g m_m_isCommand Q) 0 [some (.inr (9, 0, 0))] [] m 0) : ch_C g m_m_isCommand [.inr (9, 0, 0)] m Q :=
  ch_enter mf_m_isCommand (by intro v hv; simp only [List.mem_cons, List.not_mem_nil, or_false] at hv; rcases hv with rfl <;> rfl) (Nat.le_of_ble_eq_true rfl) h
set_option maxHeartbeats 1600000 in
theorem g_m_isCommand_0 (g : ch_G) (Q : ch_O → ch_M → Prop)  (m : ch_M) (h : (((m (9, 0, 0) 11) = (m (9, 0, 0) 10) → Q (.inl (some (.inl (.int 0)))) m) ∧ (¬ (m (9, 0, 0) 11) = (m (9, 0, 0) 10) → (vp_in (m (9, 0, 0) 11) 60) ∧ (((d_kd (m (9, 0, 7) (Int32.toNatClampNeg (m (9, 0, 0) 11)))) → (∀ (r12 : Int32), (0 ≤ r12) → ((0 ≤ r12 → (∀ m6 : ch_M, m6 = ch_wr m (9, 0, 0) 11 ((m (9, 0, 0) 11) + 1) → (narrow .char (.int (m6 (9, 0, 7) (Int32.toNatClampNeg (m (9, 0, 0) 11)))) = .int (m6 (9, 0, 7) (Int32.toNatClampNeg (m (9, 0, 0) 11)))) ∧ (∀ m7 : ch_M, m7 = ch_wr m6 (9, 0, 0) 12 (m6 (9, 0, 7) (Int32.toNatClampNeg (m (9, 0, 0) 11))) → (((m7 (9, 0, 0) 12) = 99 → (∃ T_8 : ch_B, (∃ p_9 : Nat, (m_tx T_8 (ch_ob m7 9 0) p_9) ∧ (((¬ 0 ≤ d_dg T_8 (nI p_9)) → (∀ m11 : ch_M, m11 = ch_os m7 9 0 (ch_bw (ch_ob m7 9 0) 8 0 0) → Q (.inl (some (.inl (.int 0)))) m11)) ∧ ((0 ≤ d_dg T_8 (nI p_9)) → (∀ m11 : ch_M, m11 = ch_os m7 9 0 (ch_bw (ch_bw (ch_ob m7 9 0) 0 11 (nI (p_9 + 1))) 8 0 (d_dg T_8 (nI p_9))) → (∃ T_14 : ch_B, (∃ p_15 : Nat, (m_tx T_14 (ch_ob m11 9 0) p_15) ∧ (¬ (64 : Int32) = -1) ∧ (((d_sg T_14 (nI p_15) = 64) → (∀ m17 : ch_M, m17 = ch_wr m11 (9, 0, 0) 11 (nI (p_15 + 1)) → (∃ T_21 : ch_B, (∃ p_22 : Nat, (m_tx T_21 (ch_ob m17 9 0) p_22) ∧ (((¬ 0 ≤ d_dg T_21 (nI p_22)) → (∀ m24 : ch_M, m24 = ch_os m17 9 0 (ch_bw (ch_ob m17 9 0) 8 1 0) → Q (.inl (some (.inl (.int 0)))) m24)) ∧ ((0 ≤ d_dg T_21 (nI p_22)) → (∀ m24 : ch_M, m24 = ch_os m17 9 0 (ch_bw (ch_bw (ch_ob m17 9 0) 0 11 (nI (d_e2 T_21 p_22))) 8 1 (d_n2 T_21 p_22)) → Q (.inl (some (.inl (.int 1)))) m24))))))) ∧ ((¬ d_sg T_14 (nI p_15) = 64) → Q (.inl (some (.inl (.int 0)))) m11)))))))))) ∧ ((m7 (9, 0, 0) 12) = 103 → (∃ T_27 : ch_B, (∃ p_28 : Nat, (m_tx T_27 (ch_ob m7 9 0) p_28) ∧ (((¬ 0 ≤ d_dg T_27 (nI p_28)) → (∀ m30 : ch_M, m30 = ch_os m7 9 0 (ch_bw (ch_ob m7 9 0) 8 0 0) → Q (.inl (some (.inl (.int 0)))) m30)) ∧ ((0 ≤ d_dg T_27 (nI p_28)) → (∀ m30 : ch_M, m30 = ch_os m7 9 0 (ch_bw (ch_bw (ch_ob m7 9 0) 0 11 (nI (p_28 + 1))) 8 0 (d_dg T_27 (nI p_28))) → (∃ T_33 : ch_B, (∃ p_34 : Nat, (m_tx T_33 (ch_ob m30 9 0) p_34) ∧ (¬ (62 : Int32) = -1) ∧ (((d_sg T_33 (nI p_34) = 62) → (∀ m36 : ch_M, m36 = ch_wr m30 (9, 0, 0) 11 (nI (p_34 + 1)) → (∃ T_40 : ch_B, (∃ p_41 : Nat, (m_tx T_40 (ch_ob m36 9 0) p_41) ∧ (((¬ 0 ≤ d_dg T_40 (nI p_41)) → (∀ m43 : ch_M, m43 = ch_os m36 9 0 (ch_bw (ch_ob m36 9 0) 8 1 0) → Q (.inl (some (.inl (.int 0)))) m43)) ∧ ((0 ≤ d_dg T_40 (nI p_41)) → (∀ m43 : ch_M, m43 = ch_os m36 9 0 (ch_bw (ch_bw (ch_ob m36 9 0) 0 11 (nI (p_41 + 1))) 8 1 (d_dg T_40 (nI p_41))) → (∃ T_46 : ch_B, (∃ p_47 : Nat, (m_tx T_46 (ch_ob m43 9 0) p_47) ∧ (¬ (42 : Int32) = -1) ∧ (((d_sg T_46 (nI p_47) = 42) → (∀ m49 : ch_M, m49 = ch_wr m43 (9, 0, 0) 11 (nI (p_47 + 1)) → (∃ T_53 : ch_B, (∃ p_54 : Nat, (m_tx T_53 (ch_ob m49 9 0) p_54) ∧ (((¬ 0 ≤ d_dg T_53 (nI p_54)) → (∀ m56 : ch_M, m56 = ch_os m49 9 0 (ch_bw (ch_ob m49 9 0) 8 2 0) → Q (.inl (some (.inl (.int 0)))) m56)) ∧ ((0 ≤ d_dg T_53 (nI p_54)) → (∀ m56 : ch_M, m56 = ch_os m49 9 0 (ch_bw (ch_bw (ch_ob m49 9 0) 0 11 (nI (d_e2 T_53 p_54))) 8 2 (d_n2 T_53 p_54)) → Q (.inl (some (.inl (.int 1)))) m56))))))) ∧ ((¬ d_sg T_46 (nI p_47) = 42) → Q (.inl (some (.inl (.int 0)))) m43))))))))))) ∧ ((¬ d_sg T_33 (nI p_34) = 62) → Q (.inl (some (.inl (.int 0)))) m30)))))))))) ∧ ((m7 (9, 0, 0) 12) = 104 → (∃ T_59 : ch_B, (∃ p_60 : Nat, (m_tx T_59 (ch_ob m7 9 0) p_60) ∧ (((¬ 0 ≤ d_dg T_59 (nI p_60)) → (∀ m62 : ch_M, m62 = ch_os m7 9 0 (ch_bw (ch_ob m7 9 0) 8 0 0) → Q (.inl (some (.inl (.int 0)))) m62)) ∧ ((0 ≤ d_dg T_59 (nI p_60)) → (∀ m62 : ch_M, m62 = ch_os m7 9 0 (ch_bw (ch_bw (ch_ob m7 9 0) 0 11 (nI (p_60 + 1))) 8 0 (d_dg T_59 (nI p_60))) → (∃ T_65 : ch_B, (∃ p_66 : Nat, (m_tx T_65 (ch_ob m62 9 0) p_66) ∧ (¬ (58 : Int32) = -1) ∧ (((d_sg T_65 (nI p_66) = 58) → (∀ m68 : ch_M, m68 = ch_wr m62 (9, 0, 0) 11 (nI (p_66 + 1)) → (∃ T_72 : ch_B, (∃ p_73 : Nat, (m_tx T_72 (ch_ob m68 9 0) p_73) ∧ (((¬ d_ns T_72 p_73 12 = 0) → (∀ (B74 : ch_B), (∀ a_ i_, a_ ≠ 9 → ¬ (a_ = 0 ∧ (i_ = 11 ∨ i_ = 21)) → B74 a_ i_ = ch_ob m68 9 0 a_ i_) → (B74 0 11 = nI (p_73 + d_ns T_72 p_73 12)) → (B74 0 21 = nI (d_ns T_72 p_73 12)) → (∀ k_, k_ < d_ns T_72 p_73 12 → B74 9 k_ = d_dg T_72 (nI (p_73 + k_))) → (∀ m77 : ch_M, m77 = ch_os m68 9 0 B74 → Q (.inl (some (.inl (.int 1)))) m77))) ∧ ((d_ns T_72 p_73 12 = 0) → (∀ (B75 : ch_B), (∀ a_ i_, a_ ≠ 9 → ¬ (a_ = 0 ∧ (i_ = 11 ∨ i_ = 21)) → B75 a_ i_ = ch_ob m68 9 0 a_ i_) → (B75 0 11 = nI p_73) → (∀ m77 : ch_M, m77 = ch_os m68 9 0 B75 → Q (.inl (some (.inl (.int 0)))) m77)))))))) ∧ ((¬ d_sg T_65 (nI p_66) = 58) → Q (.inl (some (.inl (.int 0)))) m62)))))))))) ∧ ((m7 (9, 0, 0) 12) = 110 → (∃ T_80 : ch_B, (∃ p_81 : Nat, (m_tx T_80 (ch_ob m7 9 0) p_81) ∧ (((¬ 0 ≤ d_dg T_80 (nI p_81)) → (∀ m83 : ch_M, m83 = ch_os m7 9 0 (ch_bw (ch_ob m7 9 0) 8 0 0) → Q (.inl (some (.inl (.int 0)))) m83)) ∧ ((0 ≤ d_dg T_80 (nI p_81)) → (∀ m83 : ch_M, m83 = ch_os m7 9 0 (ch_bw (ch_bw (ch_ob m7 9 0) 0 11 (nI (d_e2 T_80 p_81))) 8 0 (d_n2 T_80 p_81)) → Q (.inl (some (.inl (.int 1)))) m83)))))) ∧ ((m7 (9, 0, 0) 12) = 116 → Q (.inl (some (.inl (.int 1)))) m7) ∧ ((¬ (m7 (9, 0, 0) 12) = 99 ∧ ¬ (m7 (9, 0, 0) 12) = 103 ∧ ¬ (m7 (9, 0, 0) 12) = 104 ∧ ¬ (m7 (9, 0, 0) 12) = 110 ∧ ¬ (m7 (9, 0, 0) 12) = 116) → (∃ T_86 : ch_B, (∃ p_87 : Nat, (m_tx T_86 (ch_ob m7 9 0) p_87) ∧ (((¬ 0 ≤ d_dg T_86 (nI p_87)) → (∀ m89 : ch_M, m89 = ch_os m7 9 0 (ch_bw (ch_ob m7 9 0) 8 0 0) → Q (.inl (some (.inl (.int 0)))) m89)) ∧ ((0 ≤ d_dg T_86 (nI p_87)) → (∀ m89 : ch_M, m89 = ch_os m7 9 0 (ch_bw (ch_bw (ch_ob m7 9 0) 0 11 (nI (p_87 + 1))) 8 0 (d_dg T_86 (nI p_87))) → Q (.inl (some (.inl (.int 1)))) m89)))))))))) ∧ (¬ 0 ≤ r12 → Q (.inl (some (.inl (.int 0)))) m)))) ∧ ((¬ d_kd (m (9, 0, 7) (Int32.toNatClampNeg (m (9, 0, 0) 11)))) → Q (.inl (some (.inl (.int 0)))) m))))) : ch_J g m_m_isCommand (ch_rm m_m_isCommand) (ch_E g m_m_isCommand Q) 0 [some (.inr (9, 0, 0))] [] m 0 := by
  refine ch_aload_n (i := 0) d_m_isCommand_0 rfl rfl ?_
  refine ch_get (v := .inl (.int (m (9, 0, 0) 11))) d_m_isCommand_1 fl_m_209 rfl ?_
  refine ch_aload_n (i := 0) d_m_isCommand_4 rfl rfl ?_
  refine ch_get (v := .inl (.int (m (9, 0, 0) 10))) d_m_isCommand_5 fl_m_206 rfl ?_
  refine ch_icmp_eq (tgt := 28) d_m_isCommand_8 (by decide) (fun c => ?_) (fun c => ?_)
  · replace h := h.1 c
    refine ch_iconst (v := 0) d_m_isCommand_28 (by decide) ?_
    exact ch_iret (ty := .boolean) d_m_isCommand_29 rfl rfl (Nat.le_of_ble_eq_true rfl) h
  · replace h := h.2 c
    refine ch_ldcS d_m_isCommand_11 rfl ?_
    refine ch_aload_n (i := 0) d_m_isCommand_13 rfl rfl ?_
    refine ch_get (v := .inr (9, 0, 7)) d_m_isCommand_14 fl_m_29 rfl ?_
    refine ch_aload_n (i := 0) d_m_isCommand_17 rfl rfl ?_
    refine ch_get (v := .inl (.int (m (9, 0, 0) 11))) d_m_isCommand_18 fl_m_209 rfl ?_
    have b1 := h.1
    replace h := h.2
    refine ch_cald (n := 60) d_m_isCommand_21 (by decide) rfl b1 ?_
    refine ch_callT (as := [.inl (.int (m (9, 0, 7) (Int32.toNatClampNeg (m (9, 0, 0) 11))))]) d_m_isCommand_22 lk_m_214 mi_q_indexOf me_q_indexOf rfl rfl rfl ⟨Nat.le_of_ble_eq_true rfl, Nat.le_of_ble_eq_true rfl⟩ (Nat.le_of_ble_eq_true rfl) ⟨Nat.le_of_ble_eq_true rfl, Nat.le_of_ble_eq_true rfl⟩ (ch_mono (ch_Ki (fun r3 m4 q5 => ?_)) (s_q_indexOf g (fun (r_ : Int32) (m_ : ch_M) => (∃ (r12 : Int32), (d_kd (m (9, 0, 7) (Int32.toNatClampNeg (m (9, 0, 0) 11)))) ∧ r12 = r_ ∧ (0 ≤ r12) ∧ m = m_) ∨ ((¬ d_kd (m (9, 0, 7) (Int32.toNatClampNeg (m (9, 0, 0) 11)))) ∧ (-1) = r_ ∧ m = m_)) ((m (9, 0, 7) (Int32.toNatClampNeg (m (9, 0, 0) 11)))) m ⟨(fun c_ r12 f0_ => (Or.inl ⟨r12, c_, rfl, f0_, rfl⟩)), (fun c_ => (Or.inr ⟨c_, rfl, rfl⟩))⟩))
    rcases q5 with ⟨r12, c_, rfl, f0_, rfl⟩ | ⟨c_, rfl, rfl⟩
    · replace h := h.1 c_ r12 f0_
      refine ch_if_ge (tgt := 30) d_m_isCommand_25 (by decide) (fun c => ?_) (fun c => ?_)
      · replace h := h.1 c
        refine ch_aload_n (i := 0) d_m_isCommand_30 rfl rfl ?_
        refine ch_aload_n (i := 0) d_m_isCommand_31 rfl rfl ?_
        refine ch_get (v := .inr (9, 0, 7)) d_m_isCommand_32 fl_m_29 rfl ?_
        refine ch_aload_n (i := 0) d_m_isCommand_35 rfl rfl ?_
        refine ch_dup d_m_isCommand_36 rfl ?_
        refine ch_get (v := .inl (.int (m (9, 0, 0) 11))) d_m_isCommand_37 fl_m_209 rfl ?_
        refine ch_dup_x1 d_m_isCommand_40 rfl rfl ?_
        refine ch_iconst (v := 1) d_m_isCommand_41 (by decide) ?_
        refine ch_iadd d_m_isCommand_42 ?_
        refine ch_put d_m_isCommand_43 fp_m_209 rfl rfl rfl ?_
        generalize hmm6 : ch_wr m (9, 0, 0) 11 ((m (9, 0, 0) 11) + 1) = m6
        replace h := h m6 hmm6.symm
        refine ch_cald (n := 60) d_m_isCommand_46 (by decide) rfl b1 ?_
        have hn := h.1
        replace h := h.2
        refine ch_put d_m_isCommand_47 fp_m_219 rfl hn (Eq.subst (motive := fun v => fits .char v = true) hn (fits_narrow_char _)) ?_
        generalize hmm7 : ch_wr m6 (9, 0, 0) 12 (m6 (9, 0, 7) (Int32.toNatClampNeg (m (9, 0, 0) 11))) = m7
        replace h := h m7 hmm7.symm
        refine ch_aload_n (i := 0) d_m_isCommand_50 rfl rfl ?_
        refine ch_get (v := .inl (.int (m7 (9, 0, 0) 12))) d_m_isCommand_51 fl_m_219 rfl ?_
        by_cases e99 : (m7 (9, 0, 0) 12) = 99
        · replace h := h.1 e99
          refine ch_lsw (tgt := 111) (off := 57) d_m_isCommand_54 (by decide) (by rw [e99]; rfl) (by decide) ?_
          refine ch_aload_n (i := 0) d_m_isCommand_111 rfl rfl ?_
          refine ch_iconst (v := 0) d_m_isCommand_112 (by decide) ?_
          refine ch_iconst (v := 1) d_m_isCommand_113 (by decide) ?_
          obtain ⟨T_8, h⟩ := h
          obtain ⟨p_9, h⟩ := h
          have b13 := h.1
          replace h := h.2
          refine ch_callV (as := [.inl (.int 0), .inl (.int 1)]) d_m_isCommand_114 lk_m_223 mi_m_digits me_m_digits rfl rfl rfl ⟨Nat.le_of_ble_eq_true rfl, Nat.le_of_ble_eq_true rfl⟩ (Nat.le_of_ble_eq_true rfl) ⟨Nat.le_of_ble_eq_true rfl, Nat.le_of_ble_eq_true rfl⟩ (ch_mono (ch_Ki (fun r10 m11 q12 => ?_)) (c_m_digits1 0 g (fun (r_ : Int32) (m_ : ch_M) => ((¬ 0 ≤ d_dg T_8 (nI p_9)) ∧ 0 = r_ ∧ m_ = ch_os m7 9 0 (ch_bw (ch_ob m7 9 0) 8 0 0)) ∨ ((0 ≤ d_dg T_8 (nI p_9)) ∧ 1 = r_ ∧ m_ = ch_os m7 9 0 (ch_bw (ch_bw (ch_ob m7 9 0) 0 11 (nI (p_9 + 1))) 8 0 (d_dg T_8 (nI p_9))))) (T_8) (p_9) m7 ⟨b13, (vp_in_nI (n := 0) (by decide) (by decide)), (fun c_ => (Or.inl ⟨c_, rfl, rfl⟩)), (fun c_ => (Or.inr ⟨c_, rfl, rfl⟩))⟩))
          rcases q12 with ⟨c_, rfl, hm_⟩ | ⟨c_, rfl, hm_⟩
          · replace h := h.1 c_ m11 hm_
            refine ch_if_eq (tgt := 142) d_m_isCommand_117 (by decide) (fun _ => ?_) (fun c => absurd c (by decide))
            refine ch_iconst (v := 0) d_m_isCommand_142 (by decide) ?_
            exact ch_iret (ty := .boolean) d_m_isCommand_143 rfl rfl (Nat.le_of_ble_eq_true rfl) h
          · replace h := h.2 c_ m11 hm_
            refine ch_if_eq (tgt := 142) d_m_isCommand_117 (by decide) (fun c => absurd c (by decide)) (fun _ => ?_)
            refine ch_aload_n (i := 0) d_m_isCommand_120 rfl rfl ?_
            refine ch_bipush (v := 64) d_m_isCommand_121 (by decide) ?_
            obtain ⟨T_14, h⟩ := h
            obtain ⟨p_15, h⟩ := h
            have b19 := h.1
            replace h := h.2
            have b20 := h.1
            replace h := h.2
            refine ch_callV (as := [.inl (.int 64)]) d_m_isCommand_123 lk_m_226 mi_m_takes me_m_takes rfl rfl rfl ⟨Nat.le_of_ble_eq_true rfl, Nat.le_of_ble_eq_true rfl⟩ (Nat.le_of_ble_eq_true rfl) ⟨Nat.le_of_ble_eq_true rfl, Nat.le_of_ble_eq_true rfl⟩ (ch_mono (ch_Ki (fun r16 m17 q18 => ?_)) (s_m_takes g (fun (r_ : Int32) (m_ : ch_M) => ((d_sg T_14 (nI p_15) = 64) ∧ 1 = r_ ∧ m_ = ch_wr m11 (9, 0, 0) 11 (nI (p_15 + 1))) ∨ ((¬ d_sg T_14 (nI p_15) = 64) ∧ 0 = r_ ∧ m11 = m_)) (T_14) (p_15) (64) m11 ⟨b19, b20, (fun c_ => (Or.inl ⟨c_, rfl, rfl⟩)), (fun c_ => (Or.inr ⟨c_, rfl, rfl⟩))⟩))
            rcases q18 with ⟨c_, rfl, hm_⟩ | ⟨c_, rfl, rfl⟩
            · replace h := h.1 c_ m17 hm_
              refine ch_if_eq (tgt := 142) d_m_isCommand_126 (by decide) (fun c => absurd c (by decide)) (fun _ => ?_)
              refine ch_aload_n (i := 0) d_m_isCommand_129 rfl rfl ?_
              refine ch_iconst (v := 1) d_m_isCommand_130 (by decide) ?_
              refine ch_iconst (v := 2) d_m_isCommand_131 (by decide) ?_
              obtain ⟨T_21, h⟩ := h
              obtain ⟨p_22, h⟩ := h
              have b26 := h.1
              replace h := h.2
              refine ch_callV (as := [.inl (.int 1), .inl (.int 2)]) d_m_isCommand_132 lk_m_223 mi_m_digits me_m_digits rfl rfl rfl ⟨Nat.le_of_ble_eq_true rfl, Nat.le_of_ble_eq_true rfl⟩ (Nat.le_of_ble_eq_true rfl) ⟨Nat.le_of_ble_eq_true rfl, Nat.le_of_ble_eq_true rfl⟩ (ch_mono (ch_Ki (fun r23 m24 q25 => ?_)) (c_m_digits2 1 g (fun (r_ : Int32) (m_ : ch_M) => ((¬ 0 ≤ d_dg T_21 (nI p_22)) ∧ 0 = r_ ∧ m_ = ch_os m17 9 0 (ch_bw (ch_ob m17 9 0) 8 1 0)) ∨ ((0 ≤ d_dg T_21 (nI p_22)) ∧ 1 = r_ ∧ m_ = ch_os m17 9 0 (ch_bw (ch_bw (ch_ob m17 9 0) 0 11 (nI (d_e2 T_21 p_22))) 8 1 (d_n2 T_21 p_22)))) (T_21) (p_22) m17 ⟨b26, (vp_in_nI (n := 1) (by decide) (by decide)), (fun c_ => (Or.inl ⟨c_, rfl, rfl⟩)), (fun c_ => (Or.inr ⟨c_, rfl, rfl⟩))⟩))
              rcases q25 with ⟨c_, rfl, hm_⟩ | ⟨c_, rfl, hm_⟩
              · replace h := h.1 c_ m24 hm_
                refine ch_if_eq (tgt := 142) d_m_isCommand_135 (by decide) (fun _ => ?_) (fun c => absurd c (by decide))
                refine ch_iconst (v := 0) d_m_isCommand_142 (by decide) ?_
                exact ch_iret (ty := .boolean) d_m_isCommand_143 rfl rfl (Nat.le_of_ble_eq_true rfl) h
              · replace h := h.2 c_ m24 hm_
                refine ch_if_eq (tgt := 142) d_m_isCommand_135 (by decide) (fun c => absurd c (by decide)) (fun _ => ?_)
                refine ch_iconst (v := 1) d_m_isCommand_138 (by decide) ?_
                refine ch_goto (tgt := 143) d_m_isCommand_139 (by decide) ?_
                exact ch_iret (ty := .boolean) d_m_isCommand_143 rfl rfl (Nat.le_of_ble_eq_true rfl) h
            · replace h := h.2 c_
              refine ch_if_eq (tgt := 142) d_m_isCommand_126 (by decide) (fun _ => ?_) (fun c => absurd c (by decide))
              refine ch_iconst (v := 0) d_m_isCommand_142 (by decide) ?_
              exact ch_iret (ty := .boolean) d_m_isCommand_143 rfl rfl (Nat.le_of_ble_eq_true rfl) h
        replace h := h.2
        by_cases e103 : (m7 (9, 0, 0) 12) = 103
        · replace h := h.1 e103
          refine ch_lsw (tgt := 177) (off := 123) d_m_isCommand_54 (by decide) (by rw [e103]; rfl) (by decide) ?_
          refine ch_aload_n (i := 0) d_m_isCommand_177 rfl rfl ?_
          refine ch_iconst (v := 0) d_m_isCommand_178 (by decide) ?_
          refine ch_iconst (v := 1) d_m_isCommand_179 (by decide) ?_
          obtain ⟨T_27, h⟩ := h
          obtain ⟨p_28, h⟩ := h
          have b32 := h.1
          replace h := h.2
          refine ch_callV (as := [.inl (.int 0), .inl (.int 1)]) d_m_isCommand_180 lk_m_223 mi_m_digits me_m_digits rfl rfl rfl ⟨Nat.le_of_ble_eq_true rfl, Nat.le_of_ble_eq_true rfl⟩ (Nat.le_of_ble_eq_true rfl) ⟨Nat.le_of_ble_eq_true rfl, Nat.le_of_ble_eq_true rfl⟩ (ch_mono (ch_Ki (fun r29 m30 q31 => ?_)) (c_m_digits1 0 g (fun (r_ : Int32) (m_ : ch_M) => ((¬ 0 ≤ d_dg T_27 (nI p_28)) ∧ 0 = r_ ∧ m_ = ch_os m7 9 0 (ch_bw (ch_ob m7 9 0) 8 0 0)) ∨ ((0 ≤ d_dg T_27 (nI p_28)) ∧ 1 = r_ ∧ m_ = ch_os m7 9 0 (ch_bw (ch_bw (ch_ob m7 9 0) 0 11 (nI (p_28 + 1))) 8 0 (d_dg T_27 (nI p_28))))) (T_27) (p_28) m7 ⟨b32, (vp_in_nI (n := 0) (by decide) (by decide)), (fun c_ => (Or.inl ⟨c_, rfl, rfl⟩)), (fun c_ => (Or.inr ⟨c_, rfl, rfl⟩))⟩))
          rcases q31 with ⟨c_, rfl, hm_⟩ | ⟨c_, rfl, hm_⟩
          · replace h := h.1 c_ m30 hm_
            refine ch_if_eq (tgt := 226) d_m_isCommand_183 (by decide) (fun _ => ?_) (fun c => absurd c (by decide))
            refine ch_iconst (v := 0) d_m_isCommand_226 (by decide) ?_
            exact ch_iret (ty := .boolean) d_m_isCommand_227 rfl rfl (Nat.le_of_ble_eq_true rfl) h
          · replace h := h.2 c_ m30 hm_
            refine ch_if_eq (tgt := 226) d_m_isCommand_183 (by decide) (fun c => absurd c (by decide)) (fun _ => ?_)
            refine ch_aload_n (i := 0) d_m_isCommand_186 rfl rfl ?_
            refine ch_bipush (v := 62) d_m_isCommand_187 (by decide) ?_
            obtain ⟨T_33, h⟩ := h
            obtain ⟨p_34, h⟩ := h
            have b38 := h.1
            replace h := h.2
            have b39 := h.1
            replace h := h.2
            refine ch_callV (as := [.inl (.int 62)]) d_m_isCommand_189 lk_m_226 mi_m_takes me_m_takes rfl rfl rfl ⟨Nat.le_of_ble_eq_true rfl, Nat.le_of_ble_eq_true rfl⟩ (Nat.le_of_ble_eq_true rfl) ⟨Nat.le_of_ble_eq_true rfl, Nat.le_of_ble_eq_true rfl⟩ (ch_mono (ch_Ki (fun r35 m36 q37 => ?_)) (s_m_takes g (fun (r_ : Int32) (m_ : ch_M) => ((d_sg T_33 (nI p_34) = 62) ∧ 1 = r_ ∧ m_ = ch_wr m30 (9, 0, 0) 11 (nI (p_34 + 1))) ∨ ((¬ d_sg T_33 (nI p_34) = 62) ∧ 0 = r_ ∧ m30 = m_)) (T_33) (p_34) (62) m30 ⟨b38, b39, (fun c_ => (Or.inl ⟨c_, rfl, rfl⟩)), (fun c_ => (Or.inr ⟨c_, rfl, rfl⟩))⟩))
            rcases q37 with ⟨c_, rfl, hm_⟩ | ⟨c_, rfl, rfl⟩
            · replace h := h.1 c_ m36 hm_
              refine ch_if_eq (tgt := 226) d_m_isCommand_192 (by decide) (fun c => absurd c (by decide)) (fun _ => ?_)
              refine ch_aload_n (i := 0) d_m_isCommand_195 rfl rfl ?_
              refine ch_iconst (v := 1) d_m_isCommand_196 (by decide) ?_
              refine ch_iconst (v := 1) d_m_isCommand_197 (by decide) ?_
              obtain ⟨T_40, h⟩ := h
              obtain ⟨p_41, h⟩ := h
              have b45 := h.1
              replace h := h.2
              refine ch_callV (as := [.inl (.int 1), .inl (.int 1)]) d_m_isCommand_198 lk_m_223 mi_m_digits me_m_digits rfl rfl rfl ⟨Nat.le_of_ble_eq_true rfl, Nat.le_of_ble_eq_true rfl⟩ (Nat.le_of_ble_eq_true rfl) ⟨Nat.le_of_ble_eq_true rfl, Nat.le_of_ble_eq_true rfl⟩ (ch_mono (ch_Ki (fun r42 m43 q44 => ?_)) (c_m_digits1 1 g (fun (r_ : Int32) (m_ : ch_M) => ((¬ 0 ≤ d_dg T_40 (nI p_41)) ∧ 0 = r_ ∧ m_ = ch_os m36 9 0 (ch_bw (ch_ob m36 9 0) 8 1 0)) ∨ ((0 ≤ d_dg T_40 (nI p_41)) ∧ 1 = r_ ∧ m_ = ch_os m36 9 0 (ch_bw (ch_bw (ch_ob m36 9 0) 0 11 (nI (p_41 + 1))) 8 1 (d_dg T_40 (nI p_41))))) (T_40) (p_41) m36 ⟨b45, (vp_in_nI (n := 1) (by decide) (by decide)), (fun c_ => (Or.inl ⟨c_, rfl, rfl⟩)), (fun c_ => (Or.inr ⟨c_, rfl, rfl⟩))⟩))
              rcases q44 with ⟨c_, rfl, hm_⟩ | ⟨c_, rfl, hm_⟩
              · replace h := h.1 c_ m43 hm_
                refine ch_if_eq (tgt := 226) d_m_isCommand_201 (by decide) (fun _ => ?_) (fun c => absurd c (by decide))
                refine ch_iconst (v := 0) d_m_isCommand_226 (by decide) ?_
                exact ch_iret (ty := .boolean) d_m_isCommand_227 rfl rfl (Nat.le_of_ble_eq_true rfl) h
              · replace h := h.2 c_ m43 hm_
                refine ch_if_eq (tgt := 226) d_m_isCommand_201 (by decide) (fun c => absurd c (by decide)) (fun _ => ?_)
                refine ch_aload_n (i := 0) d_m_isCommand_204 rfl rfl ?_
                refine ch_bipush (v := 42) d_m_isCommand_205 (by decide) ?_
                obtain ⟨T_46, h⟩ := h
                obtain ⟨p_47, h⟩ := h
                have b51 := h.1
                replace h := h.2
                have b52 := h.1
                replace h := h.2
                refine ch_callV (as := [.inl (.int 42)]) d_m_isCommand_207 lk_m_226 mi_m_takes me_m_takes rfl rfl rfl ⟨Nat.le_of_ble_eq_true rfl, Nat.le_of_ble_eq_true rfl⟩ (Nat.le_of_ble_eq_true rfl) ⟨Nat.le_of_ble_eq_true rfl, Nat.le_of_ble_eq_true rfl⟩ (ch_mono (ch_Ki (fun r48 m49 q50 => ?_)) (s_m_takes g (fun (r_ : Int32) (m_ : ch_M) => ((d_sg T_46 (nI p_47) = 42) ∧ 1 = r_ ∧ m_ = ch_wr m43 (9, 0, 0) 11 (nI (p_47 + 1))) ∨ ((¬ d_sg T_46 (nI p_47) = 42) ∧ 0 = r_ ∧ m43 = m_)) (T_46) (p_47) (42) m43 ⟨b51, b52, (fun c_ => (Or.inl ⟨c_, rfl, rfl⟩)), (fun c_ => (Or.inr ⟨c_, rfl, rfl⟩))⟩))
                rcases q50 with ⟨c_, rfl, hm_⟩ | ⟨c_, rfl, rfl⟩
                · replace h := h.1 c_ m49 hm_
                  refine ch_if_eq (tgt := 226) d_m_isCommand_210 (by decide) (fun c => absurd c (by decide)) (fun _ => ?_)
                  refine ch_aload_n (i := 0) d_m_isCommand_213 rfl rfl ?_
                  refine ch_iconst (v := 2) d_m_isCommand_214 (by decide) ?_
                  refine ch_iconst (v := 2) d_m_isCommand_215 (by decide) ?_
                  obtain ⟨T_53, h⟩ := h
                  obtain ⟨p_54, h⟩ := h
                  have b58 := h.1
                  replace h := h.2
                  refine ch_callV (as := [.inl (.int 2), .inl (.int 2)]) d_m_isCommand_216 lk_m_223 mi_m_digits me_m_digits rfl rfl rfl ⟨Nat.le_of_ble_eq_true rfl, Nat.le_of_ble_eq_true rfl⟩ (Nat.le_of_ble_eq_true rfl) ⟨Nat.le_of_ble_eq_true rfl, Nat.le_of_ble_eq_true rfl⟩ (ch_mono (ch_Ki (fun r55 m56 q57 => ?_)) (c_m_digits2 2 g (fun (r_ : Int32) (m_ : ch_M) => ((¬ 0 ≤ d_dg T_53 (nI p_54)) ∧ 0 = r_ ∧ m_ = ch_os m49 9 0 (ch_bw (ch_ob m49 9 0) 8 2 0)) ∨ ((0 ≤ d_dg T_53 (nI p_54)) ∧ 1 = r_ ∧ m_ = ch_os m49 9 0 (ch_bw (ch_bw (ch_ob m49 9 0) 0 11 (nI (d_e2 T_53 p_54))) 8 2 (d_n2 T_53 p_54)))) (T_53) (p_54) m49 ⟨b58, (vp_in_nI (n := 2) (by decide) (by decide)), (fun c_ => (Or.inl ⟨c_, rfl, rfl⟩)), (fun c_ => (Or.inr ⟨c_, rfl, rfl⟩))⟩))
                  rcases q57 with ⟨c_, rfl, hm_⟩ | ⟨c_, rfl, hm_⟩
                  · replace h := h.1 c_ m56 hm_
                    refine ch_if_eq (tgt := 226) d_m_isCommand_219 (by decide) (fun _ => ?_) (fun c => absurd c (by decide))
                    refine ch_iconst (v := 0) d_m_isCommand_226 (by decide) ?_
                    exact ch_iret (ty := .boolean) d_m_isCommand_227 rfl rfl (Nat.le_of_ble_eq_true rfl) h
                  · replace h := h.2 c_ m56 hm_
                    refine ch_if_eq (tgt := 226) d_m_isCommand_219 (by decide) (fun c => absurd c (by decide)) (fun _ => ?_)
                    refine ch_iconst (v := 1) d_m_isCommand_222 (by decide) ?_
                    refine ch_goto (tgt := 227) d_m_isCommand_223 (by decide) ?_
                    exact ch_iret (ty := .boolean) d_m_isCommand_227 rfl rfl (Nat.le_of_ble_eq_true rfl) h
                · replace h := h.2 c_
                  refine ch_if_eq (tgt := 226) d_m_isCommand_210 (by decide) (fun _ => ?_) (fun c => absurd c (by decide))
                  refine ch_iconst (v := 0) d_m_isCommand_226 (by decide) ?_
                  exact ch_iret (ty := .boolean) d_m_isCommand_227 rfl rfl (Nat.le_of_ble_eq_true rfl) h
            · replace h := h.2 c_
              refine ch_if_eq (tgt := 226) d_m_isCommand_192 (by decide) (fun _ => ?_) (fun c => absurd c (by decide))
              refine ch_iconst (v := 0) d_m_isCommand_226 (by decide) ?_
              exact ch_iret (ty := .boolean) d_m_isCommand_227 rfl rfl (Nat.le_of_ble_eq_true rfl) h
        replace h := h.2
        by_cases e104 : (m7 (9, 0, 0) 12) = 104
        · replace h := h.1 e104
          refine ch_lsw (tgt := 144) (off := 90) d_m_isCommand_54 (by decide) (by rw [e104]; rfl) (by decide) ?_
          refine ch_aload_n (i := 0) d_m_isCommand_144 rfl rfl ?_
          refine ch_iconst (v := 0) d_m_isCommand_145 (by decide) ?_
          refine ch_iconst (v := 1) d_m_isCommand_146 (by decide) ?_
          obtain ⟨T_59, h⟩ := h
          obtain ⟨p_60, h⟩ := h
          have b64 := h.1
          replace h := h.2
          refine ch_callV (as := [.inl (.int 0), .inl (.int 1)]) d_m_isCommand_147 lk_m_223 mi_m_digits me_m_digits rfl rfl rfl ⟨Nat.le_of_ble_eq_true rfl, Nat.le_of_ble_eq_true rfl⟩ (Nat.le_of_ble_eq_true rfl) ⟨Nat.le_of_ble_eq_true rfl, Nat.le_of_ble_eq_true rfl⟩ (ch_mono (ch_Ki (fun r61 m62 q63 => ?_)) (c_m_digits1 0 g (fun (r_ : Int32) (m_ : ch_M) => ((¬ 0 ≤ d_dg T_59 (nI p_60)) ∧ 0 = r_ ∧ m_ = ch_os m7 9 0 (ch_bw (ch_ob m7 9 0) 8 0 0)) ∨ ((0 ≤ d_dg T_59 (nI p_60)) ∧ 1 = r_ ∧ m_ = ch_os m7 9 0 (ch_bw (ch_bw (ch_ob m7 9 0) 0 11 (nI (p_60 + 1))) 8 0 (d_dg T_59 (nI p_60))))) (T_59) (p_60) m7 ⟨b64, (vp_in_nI (n := 0) (by decide) (by decide)), (fun c_ => (Or.inl ⟨c_, rfl, rfl⟩)), (fun c_ => (Or.inr ⟨c_, rfl, rfl⟩))⟩))
          rcases q63 with ⟨c_, rfl, hm_⟩ | ⟨c_, rfl, hm_⟩
          · replace h := h.1 c_ m62 hm_
            refine ch_if_eq (tgt := 173) d_m_isCommand_150 (by decide) (fun _ => ?_) (fun c => absurd c (by decide))
            refine ch_iconst (v := 0) d_m_isCommand_173 (by decide) ?_
            exact ch_iret (ty := .boolean) d_m_isCommand_174 rfl rfl (Nat.le_of_ble_eq_true rfl) h
          · replace h := h.2 c_ m62 hm_
            refine ch_if_eq (tgt := 173) d_m_isCommand_150 (by decide) (fun c => absurd c (by decide)) (fun _ => ?_)
            refine ch_aload_n (i := 0) d_m_isCommand_153 rfl rfl ?_
            refine ch_bipush (v := 58) d_m_isCommand_154 (by decide) ?_
            obtain ⟨T_65, h⟩ := h
            obtain ⟨p_66, h⟩ := h
            have b70 := h.1
            replace h := h.2
            have b71 := h.1
            replace h := h.2
            refine ch_callV (as := [.inl (.int 58)]) d_m_isCommand_156 lk_m_226 mi_m_takes me_m_takes rfl rfl rfl ⟨Nat.le_of_ble_eq_true rfl, Nat.le_of_ble_eq_true rfl⟩ (Nat.le_of_ble_eq_true rfl) ⟨Nat.le_of_ble_eq_true rfl, Nat.le_of_ble_eq_true rfl⟩ (ch_mono (ch_Ki (fun r67 m68 q69 => ?_)) (s_m_takes g (fun (r_ : Int32) (m_ : ch_M) => ((d_sg T_65 (nI p_66) = 58) ∧ 1 = r_ ∧ m_ = ch_wr m62 (9, 0, 0) 11 (nI (p_66 + 1))) ∨ ((¬ d_sg T_65 (nI p_66) = 58) ∧ 0 = r_ ∧ m62 = m_)) (T_65) (p_66) (58) m62 ⟨b70, b71, (fun c_ => (Or.inl ⟨c_, rfl, rfl⟩)), (fun c_ => (Or.inr ⟨c_, rfl, rfl⟩))⟩))
            rcases q69 with ⟨c_, rfl, hm_⟩ | ⟨c_, rfl, rfl⟩
            · replace h := h.1 c_ m68 hm_
              refine ch_if_eq (tgt := 173) d_m_isCommand_159 (by decide) (fun c => absurd c (by decide)) (fun _ => ?_)
              refine ch_aload_n (i := 0) d_m_isCommand_162 rfl rfl ?_
              obtain ⟨T_72, h⟩ := h
              obtain ⟨p_73, h⟩ := h
              have b79 := h.1
              replace h := h.2
              refine ch_callV (as := []) d_m_isCommand_163 lk_m_230 mi_m_hasSteps me_m_hasSteps rfl rfl rfl ⟨Nat.le_of_ble_eq_true rfl, Nat.le_of_ble_eq_true rfl⟩ (Nat.le_of_ble_eq_true rfl) ⟨Nat.le_of_ble_eq_true rfl, Nat.le_of_ble_eq_true rfl⟩ (ch_mono (ch_Ki (fun r76 m77 q78 => ?_)) (s_m_hasSteps g (fun (r_ : Int32) (m_ : ch_M) => (∃ (B74 : ch_B), (¬ d_ns T_72 p_73 12 = 0) ∧ 1 = r_ ∧ (∀ a_ i_, a_ ≠ 9 → ¬ (a_ = 0 ∧ (i_ = 11 ∨ i_ = 21)) → B74 a_ i_ = ch_ob m68 9 0 a_ i_) ∧ (B74 0 11 = nI (p_73 + d_ns T_72 p_73 12)) ∧ (B74 0 21 = nI (d_ns T_72 p_73 12)) ∧ (∀ k_, k_ < d_ns T_72 p_73 12 → B74 9 k_ = d_dg T_72 (nI (p_73 + k_))) ∧ m_ = ch_os m68 9 0 B74) ∨ (∃ (B75 : ch_B), (d_ns T_72 p_73 12 = 0) ∧ 0 = r_ ∧ (∀ a_ i_, a_ ≠ 9 → ¬ (a_ = 0 ∧ (i_ = 11 ∨ i_ = 21)) → B75 a_ i_ = ch_ob m68 9 0 a_ i_) ∧ (B75 0 11 = nI p_73) ∧ m_ = ch_os m68 9 0 B75)) (T_72) (p_73) m68 ⟨b79, (fun c_ B74 f0_ f1_ f2_ f3_ => (Or.inl ⟨B74, c_, rfl, f0_, f1_, f2_, f3_, rfl⟩)), (fun c_ B75 f0_ f1_ => (Or.inr ⟨B75, c_, rfl, f0_, f1_, rfl⟩))⟩))
              rcases q78 with ⟨B74, c_, rfl, f0_, f1_, f2_, f3_, hm_⟩ | ⟨B75, c_, rfl, f0_, f1_, hm_⟩
              · replace h := h.1 c_ B74 f0_ f1_ f2_ f3_ m77 hm_
                refine ch_if_eq (tgt := 173) d_m_isCommand_166 (by decide) (fun c => absurd c (by decide)) (fun _ => ?_)
                refine ch_iconst (v := 1) d_m_isCommand_169 (by decide) ?_
                refine ch_goto (tgt := 174) d_m_isCommand_170 (by decide) ?_
                exact ch_iret (ty := .boolean) d_m_isCommand_174 rfl rfl (Nat.le_of_ble_eq_true rfl) h
              · replace h := h.2 c_ B75 f0_ f1_ m77 hm_
                refine ch_if_eq (tgt := 173) d_m_isCommand_166 (by decide) (fun _ => ?_) (fun c => absurd c (by decide))
                refine ch_iconst (v := 0) d_m_isCommand_173 (by decide) ?_
                exact ch_iret (ty := .boolean) d_m_isCommand_174 rfl rfl (Nat.le_of_ble_eq_true rfl) h
            · replace h := h.2 c_
              refine ch_if_eq (tgt := 173) d_m_isCommand_159 (by decide) (fun _ => ?_) (fun c => absurd c (by decide))
              refine ch_iconst (v := 0) d_m_isCommand_173 (by decide) ?_
              exact ch_iret (ty := .boolean) d_m_isCommand_174 rfl rfl (Nat.le_of_ble_eq_true rfl) h
        replace h := h.2
        by_cases e110 : (m7 (9, 0, 0) 12) = 110
        · replace h := h.1 e110
          refine ch_lsw (tgt := 104) (off := 50) d_m_isCommand_54 (by decide) (by rw [e110]; rfl) (by decide) ?_
          refine ch_aload_n (i := 0) d_m_isCommand_104 rfl rfl ?_
          refine ch_iconst (v := 0) d_m_isCommand_105 (by decide) ?_
          refine ch_iconst (v := 2) d_m_isCommand_106 (by decide) ?_
          obtain ⟨T_80, h⟩ := h
          obtain ⟨p_81, h⟩ := h
          have b85 := h.1
          replace h := h.2
          refine ch_callV (as := [.inl (.int 0), .inl (.int 2)]) d_m_isCommand_107 lk_m_223 mi_m_digits me_m_digits rfl rfl rfl ⟨Nat.le_of_ble_eq_true rfl, Nat.le_of_ble_eq_true rfl⟩ (Nat.le_of_ble_eq_true rfl) ⟨Nat.le_of_ble_eq_true rfl, Nat.le_of_ble_eq_true rfl⟩ (ch_mono (ch_Ki (fun r82 m83 q84 => ?_)) (c_m_digits2 0 g (fun (r_ : Int32) (m_ : ch_M) => ((¬ 0 ≤ d_dg T_80 (nI p_81)) ∧ 0 = r_ ∧ m_ = ch_os m7 9 0 (ch_bw (ch_ob m7 9 0) 8 0 0)) ∨ ((0 ≤ d_dg T_80 (nI p_81)) ∧ 1 = r_ ∧ m_ = ch_os m7 9 0 (ch_bw (ch_bw (ch_ob m7 9 0) 0 11 (nI (d_e2 T_80 p_81))) 8 0 (d_n2 T_80 p_81)))) (T_80) (p_81) m7 ⟨b85, (vp_in_nI (n := 0) (by decide) (by decide)), (fun c_ => (Or.inl ⟨c_, rfl, rfl⟩)), (fun c_ => (Or.inr ⟨c_, rfl, rfl⟩))⟩))
          rcases q84 with ⟨c_, rfl, hm_⟩ | ⟨c_, rfl, hm_⟩
          · replace h := h.1 c_ m83 hm_
            exact ch_iret (ty := .boolean) d_m_isCommand_110 rfl rfl (Nat.le_of_ble_eq_true rfl) h
          · replace h := h.2 c_ m83 hm_
            exact ch_iret (ty := .boolean) d_m_isCommand_110 rfl rfl (Nat.le_of_ble_eq_true rfl) h
        replace h := h.2
        by_cases e116 : (m7 (9, 0, 0) 12) = 116
        · replace h := h.1 e116
          refine ch_lsw (tgt := 175) (off := 121) d_m_isCommand_54 (by decide) (by rw [e116]; rfl) (by decide) ?_
          refine ch_iconst (v := 1) d_m_isCommand_175 (by decide) ?_
          exact ch_iret (ty := .boolean) d_m_isCommand_176 rfl rfl (Nat.le_of_ble_eq_true rfl) h
        replace h := h.2
        replace h := h ⟨e99, e103, e104, e110, e116⟩
        refine ch_lsw (tgt := 228) (off := 174) d_m_isCommand_54 (by decide) ?_ (by decide) ?_
        · exact ch_lswD (fun q hq => by
            simp only [List.mem_cons, List.not_mem_nil, or_false] at hq
            rcases hq with rfl | rfl | rfl | rfl | rfl
            · exact fun z => e99 (Int32.toInt_inj.mp (z.trans (by decide)))
            · exact fun z => e103 (Int32.toInt_inj.mp (z.trans (by decide)))
            · exact fun z => e104 (Int32.toInt_inj.mp (z.trans (by decide)))
            · exact fun z => e110 (Int32.toInt_inj.mp (z.trans (by decide)))
            · exact fun z => e116 (Int32.toInt_inj.mp (z.trans (by decide))))
        refine ch_aload_n (i := 0) d_m_isCommand_228 rfl rfl ?_
        refine ch_iconst (v := 0) d_m_isCommand_229 (by decide) ?_
        refine ch_iconst (v := 1) d_m_isCommand_230 (by decide) ?_
        obtain ⟨T_86, h⟩ := h
        obtain ⟨p_87, h⟩ := h
        have b91 := h.1
        replace h := h.2
        refine ch_callV (as := [.inl (.int 0), .inl (.int 1)]) d_m_isCommand_231 lk_m_223 mi_m_digits me_m_digits rfl rfl rfl ⟨Nat.le_of_ble_eq_true rfl, Nat.le_of_ble_eq_true rfl⟩ (Nat.le_of_ble_eq_true rfl) ⟨Nat.le_of_ble_eq_true rfl, Nat.le_of_ble_eq_true rfl⟩ (ch_mono (ch_Ki (fun r88 m89 q90 => ?_)) (c_m_digits1 0 g (fun (r_ : Int32) (m_ : ch_M) => ((¬ 0 ≤ d_dg T_86 (nI p_87)) ∧ 0 = r_ ∧ m_ = ch_os m7 9 0 (ch_bw (ch_ob m7 9 0) 8 0 0)) ∨ ((0 ≤ d_dg T_86 (nI p_87)) ∧ 1 = r_ ∧ m_ = ch_os m7 9 0 (ch_bw (ch_bw (ch_ob m7 9 0) 0 11 (nI (p_87 + 1))) 8 0 (d_dg T_86 (nI p_87))))) (T_86) (p_87) m7 ⟨b91, (vp_in_nI (n := 0) (by decide) (by decide)), (fun c_ => (Or.inl ⟨c_, rfl, rfl⟩)), (fun c_ => (Or.inr ⟨c_, rfl, rfl⟩))⟩))
        rcases q90 with ⟨c_, rfl, hm_⟩ | ⟨c_, rfl, hm_⟩
        · replace h := h.1 c_ m89 hm_
          exact ch_iret (ty := .boolean) d_m_isCommand_234 rfl rfl (Nat.le_of_ble_eq_true rfl) h
        · replace h := h.2 c_ m89 hm_
          exact ch_iret (ty := .boolean) d_m_isCommand_234 rfl rfl (Nat.le_of_ble_eq_true rfl) h
      · replace h := h.2 c
        refine ch_iconst (v := 0) d_m_isCommand_28 (by decide) ?_
        exact ch_iret (ty := .boolean) d_m_isCommand_29 rfl rfl (Nat.le_of_ble_eq_true rfl) h
    · replace h := h.2 c_
      refine ch_if_ge (tgt := 30) d_m_isCommand_25 (by decide) (fun c => absurd c (by decide)) (fun _ => ?_)
      refine ch_iconst (v := 0) d_m_isCommand_28 (by decide) ?_
      exact ch_iret (ty := .boolean) d_m_isCommand_29 rfl rfl (Nat.le_of_ble_eq_true rfl) h
