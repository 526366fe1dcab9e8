theorem e_d_takeCommand (g : ch_G) (Q : ch_O → ch_M → Prop) (j1 : Nat) (m : ch_M) (h : ch_J g m_d_takeCommand (ch_rm m_d_takeCommand) (ch_E g m_d_takeCommand Q) 0 [some (.inr (7, 0, 0)), some (.inr (6, j1, 0)), some (.inr (4, 0, 0)), none] [] m 0) : ch_C g m_d_takeCommand [.inr (7, 0, 0), .inr (6, j1, 0), .inr (4, 0, 0)] m Q :=
  ch_enter mf_d_takeCommand (by intro v hv; simp only [List.mem_cons, List.not_mem_nil, or_false] at hv; rcases hv with rfl | rfl | rfl <;> rfl) (Nat.le_of_ble_eq_true rfl) h
set_option maxHeartbeats 1600000 in
theorem g_d_takeCommand_0 (g : ch_G) (Q : ch_O → ch_M → Prop) (j1 : Nat) (m : ch_M) (h : ((((d_kd (d_sg (ch_ob m 6 j1) (m (7, 0, 0) 0))) → (∀ m7 : ch_M, m7 = ch_wr m (7, 0, 0) 0 ((m (7, 0, 0) 0) + 1) → ((∀ m9 : ch_M, m9 = ch_os m7 4 0 (c_setB (ch_ob m7 4 0) (d_sg (ch_ob m 6 j1) (m (7, 0, 0) 0)) 0 0 0) → (((d_sg (ch_ob m 6 j1) (m (7, 0, 0) 0)) = 99 → ((((d_tk 2 m9 j1).1 = true) → (∀ m12 : ch_M, m12 = ((d_tk 2 m9 j1).2) → ((((d_ts m12 j1 64).1 = true) → (∀ m15 : ch_M, m15 = ((d_ts m12 j1 64).2) → ((((d_tn m15 j1).1 = true) → (∀ m18 : ch_M, m18 = ((d_tn m15 j1).2) → Q (.inl (some (.inl (.int 1)))) m18)) ∧ ((¬ (d_tn m15 j1).1 = true) → (∀ m18 : ch_M, m18 = ((d_tn m15 j1).2) → Q (.inl (some (.inl (.int 0)))) m18))))) ∧ ((¬ (d_ts m12 j1 64).1 = true) → (∀ m15 : ch_M, m15 = ((d_ts m12 j1 64).2) → Q (.inl (some (.inl (.int 0)))) m15))))) ∧ ((¬ (d_tk 2 m9 j1).1 = true) → (∀ m12 : ch_M, m12 = ((d_tk 2 m9 j1).2) → Q (.inl (some (.inl (.int 0)))) m12)))) ∧ ((d_sg (ch_ob m 6 j1) (m (7, 0, 0) 0)) = 100 → ((((d_tk 2 m9 j1).1 = true) → (∀ m21 : ch_M, m21 = ((d_tk 2 m9 j1).2) → Q (.inl (some (.inl (.int 1)))) m21)) ∧ ((¬ (d_tk 2 m9 j1).1 = true) → (∀ m21 : ch_M, m21 = ((d_tk 2 m9 j1).2) → Q (.inl (some (.inl (.int 0)))) m21)))) ∧ ((d_sg (ch_ob m 6 j1) (m (7, 0, 0) 0)) = 101 → ((((d_tk 2 m9 j1).1 = true) → (∀ m24 : ch_M, m24 = ((d_tk 2 m9 j1).2) → Q (.inl (some (.inl (.int 1)))) m24)) ∧ ((¬ (d_tk 2 m9 j1).1 = true) → (∀ m24 : ch_M, m24 = ((d_tk 2 m9 j1).2) → Q (.inl (some (.inl (.int 0)))) m24)))) ∧ ((d_sg (ch_ob m 6 j1) (m (7, 0, 0) 0)) = 102 → ((((d_tk 2 m9 j1).1 = true) → (∀ m27 : ch_M, m27 = ((d_tk 2 m9 j1).2) → Q (.inl (some (.inl (.int 1)))) m27)) ∧ ((¬ (d_tk 2 m9 j1).1 = true) → (∀ m27 : ch_M, m27 = ((d_tk 2 m9 j1).2) → Q (.inl (some (.inl (.int 0)))) m27)))) ∧ ((d_sg (ch_ob m 6 j1) (m (7, 0, 0) 0)) = 103 → ((((d_tk 2 m9 j1).1 = true) → (∀ m30 : ch_M, m30 = ((d_tk 2 m9 j1).2) → ((((d_ts m30 j1 62).1 = true) → (∀ m33 : ch_M, m33 = ((d_ts m30 j1 62).2) → ((((d_tk 3 m33 j1).1 = true) → (∀ m36 : ch_M, m36 = ((d_tk 3 m33 j1).2) → ((((d_ts m36 j1 42).1 = true) → (∀ m39 : ch_M, m39 = ((d_ts m36 j1 42).2) → ((((d_tn m39 j1).1 = true) → (∀ m42 : ch_M, m42 = ((d_tn m39 j1).2) → Q (.inl (some (.inl (.int 1)))) m42)) ∧ ((¬ (d_tn m39 j1).1 = true) → (∀ m42 : ch_M, m42 = ((d_tn m39 j1).2) → Q (.inl (some (.inl (.int 0)))) m42))))) ∧ ((¬ (d_ts m36 j1 42).1 = true) → (∀ m39 : ch_M, m39 = ((d_ts m36 j1 42).2) → Q (.inl (some (.inl (.int 0)))) m39))))) ∧ ((¬ (d_tk 3 m33 j1).1 = true) → (∀ m36 : ch_M, m36 = ((d_tk 3 m33 j1).2) → Q (.inl (some (.inl (.int 0)))) m36))))) ∧ ((¬ (d_ts m30 j1 62).1 = true) → (∀ m33 : ch_M, m33 = ((d_ts m30 j1 62).2) → Q (.inl (some (.inl (.int 0)))) m33))))) ∧ ((¬ (d_tk 2 m9 j1).1 = true) → (∀ m30 : ch_M, m30 = ((d_tk 2 m9 j1).2) → Q (.inl (some (.inl (.int 0)))) m30)))) ∧ ((d_sg (ch_ob m 6 j1) (m (7, 0, 0) 0)) = 104 → ((((d_tk 2 m9 j1).1 = true) → (∀ m45 : ch_M, m45 = ((d_tk 2 m9 j1).2) → ((((d_ts m45 j1 58).1 = true) → (∀ m48 : ch_M, m48 = ((d_ts m45 j1 58).2) → ((((d_st m48 j1 0).1 = true) → (∀ m51 : ch_M, m51 = ((d_st m48 j1 0).2) → Q (.inl (some (.inl (.int 1)))) m51)) ∧ ((¬ (d_st m48 j1 0).1 = true) → (∀ m51 : ch_M, m51 = ((d_st m48 j1 0).2) → Q (.inl (some (.inl (.int 0)))) m51))))) ∧ ((¬ (d_ts m45 j1 58).1 = true) → (∀ m48 : ch_M, m48 = ((d_ts m45 j1 58).2) → Q (.inl (some (.inl (.int 0)))) m48))))) ∧ ((¬ (d_tk 2 m9 j1).1 = true) → (∀ m45 : ch_M, m45 = ((d_tk 2 m9 j1).2) → Q (.inl (some (.inl (.int 0)))) m45)))) ∧ ((d_sg (ch_ob m 6 j1) (m (7, 0, 0) 0)) = 105 → ((((d_tk 2 m9 j1).1 = true) → (∀ m54 : ch_M, m54 = ((d_tk 2 m9 j1).2) → Q (.inl (some (.inl (.int 1)))) m54)) ∧ ((¬ (d_tk 2 m9 j1).1 = true) → (∀ m54 : ch_M, m54 = ((d_tk 2 m9 j1).2) → Q (.inl (some (.inl (.int 0)))) m54)))) ∧ ((d_sg (ch_ob m 6 j1) (m (7, 0, 0) 0)) = 106 → ((((d_tk 2 m9 j1).1 = true) → (∀ m57 : ch_M, m57 = ((d_tk 2 m9 j1).2) → Q (.inl (some (.inl (.int 1)))) m57)) ∧ ((¬ (d_tk 2 m9 j1).1 = true) → (∀ m57 : ch_M, m57 = ((d_tk 2 m9 j1).2) → Q (.inl (some (.inl (.int 0)))) m57)))) ∧ ((d_sg (ch_ob m 6 j1) (m (7, 0, 0) 0)) = 107 → ((((d_tk 2 m9 j1).1 = true) → (∀ m60 : ch_M, m60 = ((d_tk 2 m9 j1).2) → Q (.inl (some (.inl (.int 1)))) m60)) ∧ ((¬ (d_tk 2 m9 j1).1 = true) → (∀ m60 : ch_M, m60 = ((d_tk 2 m9 j1).2) → Q (.inl (some (.inl (.int 0)))) m60)))) ∧ ((d_sg (ch_ob m 6 j1) (m (7, 0, 0) 0)) = 108 → ((((d_tk 2 m9 j1).1 = true) → (∀ m63 : ch_M, m63 = ((d_tk 2 m9 j1).2) → Q (.inl (some (.inl (.int 1)))) m63)) ∧ ((¬ (d_tk 2 m9 j1).1 = true) → (∀ m63 : ch_M, m63 = ((d_tk 2 m9 j1).2) → Q (.inl (some (.inl (.int 0)))) m63)))) ∧ ((d_sg (ch_ob m 6 j1) (m (7, 0, 0) 0)) = 109 → ((((d_tk 2 m9 j1).1 = true) → (∀ m66 : ch_M, m66 = ((d_tk 2 m9 j1).2) → Q (.inl (some (.inl (.int 1)))) m66)) ∧ ((¬ (d_tk 2 m9 j1).1 = true) → (∀ m66 : ch_M, m66 = ((d_tk 2 m9 j1).2) → Q (.inl (some (.inl (.int 0)))) m66)))) ∧ ((d_sg (ch_ob m 6 j1) (m (7, 0, 0) 0)) = 110 → ((((d_tn m9 j1).1 = true) → (∀ m69 : ch_M, m69 = ((d_tn m9 j1).2) → Q (.inl (some (.inl (.int 1)))) m69)) ∧ ((¬ (d_tn m9 j1).1 = true) → (∀ m69 : ch_M, m69 = ((d_tn m9 j1).2) → Q (.inl (some (.inl (.int 0)))) m69)))) ∧ ((d_sg (ch_ob m 6 j1) (m (7, 0, 0) 0)) = 111 → ((((d_tk 2 m9 j1).1 = true) → (∀ m72 : ch_M, m72 = ((d_tk 2 m9 j1).2) → Q (.inl (some (.inl (.int 1)))) m72)) ∧ ((¬ (d_tk 2 m9 j1).1 = true) → (∀ m72 : ch_M, m72 = ((d_tk 2 m9 j1).2) → Q (.inl (some (.inl (.int 0)))) m72)))) ∧ ((d_sg (ch_ob m 6 j1) (m (7, 0, 0) 0)) = 112 → ((((d_tk 2 m9 j1).1 = true) → (∀ m75 : ch_M, m75 = ((d_tk 2 m9 j1).2) → Q (.inl (some (.inl (.int 1)))) m75)) ∧ ((¬ (d_tk 2 m9 j1).1 = true) → (∀ m75 : ch_M, m75 = ((d_tk 2 m9 j1).2) → Q (.inl (some (.inl (.int 0)))) m75)))) ∧ ((d_sg (ch_ob m 6 j1) (m (7, 0, 0) 0)) = 113 → ((((d_tk 2 m9 j1).1 = true) → (∀ m78 : ch_M, m78 = ((d_tk 2 m9 j1).2) → Q (.inl (some (.inl (.int 1)))) m78)) ∧ ((¬ (d_tk 2 m9 j1).1 = true) → (∀ m78 : ch_M, m78 = ((d_tk 2 m9 j1).2) → Q (.inl (some (.inl (.int 0)))) m78)))) ∧ ((d_sg (ch_ob m 6 j1) (m (7, 0, 0) 0)) = 114 → ((((d_tk 4 m9 j1).1 = true) → (∀ m81 : ch_M, m81 = ((d_tk 4 m9 j1).2) → Q (.inl (some (.inl (.int 1)))) m81)) ∧ ((¬ (d_tk 4 m9 j1).1 = true) → (∀ m81 : ch_M, m81 = ((d_tk 4 m9 j1).2) → Q (.inl (some (.inl (.int 0)))) m81)))) ∧ ((d_sg (ch_ob m 6 j1) (m (7, 0, 0) 0)) = 115 → ((((d_tk 2 m9 j1).1 = true) → (∀ m84 : ch_M, m84 = ((d_tk 2 m9 j1).2) → Q (.inl (some (.inl (.int 1)))) m84)) ∧ ((¬ (d_tk 2 m9 j1).1 = true) → (∀ m84 : ch_M, m84 = ((d_tk 2 m9 j1).2) → Q (.inl (some (.inl (.int 0)))) m84)))) ∧ ((d_sg (ch_ob m 6 j1) (m (7, 0, 0) 0)) = 116 → Q (.inl (some (.inl (.int 1)))) m9) ∧ ((Int32.toInt (d_sg (ch_ob m 6 j1) (m (7, 0, 0) 0)) < 99 ∨ 116 < Int32.toInt (d_sg (ch_ob m 6 j1) (m (7, 0, 0) 0))) → ((((d_tk 2 m9 j1).1 = true) → (∀ m87 : ch_M, m87 = ((d_tk 2 m9 j1).2) → Q (.inl (some (.inl (.int 1)))) m87)) ∧ ((¬ (d_tk 2 m9 j1).1 = true) → (∀ m87 : ch_M, m87 = ((d_tk 2 m9 j1).2) → Q (.inl (some (.inl (.int 0)))) m87))))))))) ∧ ((¬ d_kd (d_sg (ch_ob m 6 j1) (m (7, 0, 0) 0))) → Q (.inl (some (.inl (.int 0)))) m)))) : ch_J g m_d_takeCommand (ch_rm m_d_takeCommand) (ch_E g m_d_takeCommand Q) 0 [some (.inr (7, 0, 0)), some (.inr (6, j1, 0)), some (.inr (4, 0, 0)), none] [] m 0 := by
  refine ch_aload_n (i := 0) d_d_takeCommand_0 rfl rfl ?_
  refine ch_aload_n (i := 1) d_d_takeCommand_1 rfl rfl ?_
  refine ch_callV (as := [.inr (6, j1, 0)]) d_d_takeCommand_2 lk_d_28 mi_d_signAt me_d_signAt rfl rfl rfl ⟨Nat.le_of_ble_eq_true rfl, Nat.le_of_ble_eq_true rfl⟩ (Nat.le_of_ble_eq_true rfl) ⟨Nat.le_of_ble_eq_true rfl, Nat.le_of_ble_eq_true rfl⟩ (ch_mono (ch_Ki (fun r1 m2 q3 => ?_)) (s_d_signAt g (fun (r_ : Int32) (m_ : ch_M) => ((d_sg (ch_ob m 6 j1) (m (7, 0, 0) 0)) = r_ ∧ m = m_)) (j1) m ⟨rfl, rfl⟩))
  obtain ⟨rfl, rfl⟩ := q3
  replace h := h
  refine ch_istore_n (i := 3) d_d_takeCommand_5 rfl (Nat.le_of_ble_eq_true rfl) (ls' := [some (.inr (7, 0, 0)), some (.inr (6, j1, 0)), some (.inr (4, 0, 0)), some (.inl (.int (d_sg (ch_ob m 6 j1) (m (7, 0, 0) 0))))]) rfl ?_
  refine ch_aload_n (i := 0) d_d_takeCommand_6 rfl rfl ?_
  refine ch_iload_n (i := 3) d_d_takeCommand_7 rfl rfl ?_
  refine ch_callV (as := [.inl (.int (d_sg (ch_ob m 6 j1) (m (7, 0, 0) 0)))]) d_d_takeCommand_8 lk_d_32 mi_d_isKind me_d_isKind rfl rfl rfl ⟨Nat.le_of_ble_eq_true rfl, Nat.le_of_ble_eq_true rfl⟩ (Nat.le_of_ble_eq_true rfl) ⟨Nat.le_of_ble_eq_true rfl, Nat.le_of_ble_eq_true rfl⟩ (ch_mono (ch_Ki (fun r4 m5 q6 => ?_)) (s_d_isKind g (fun (r_ : Int32) (m_ : ch_M) => ((d_kd (d_sg (ch_ob m 6 j1) (m (7, 0, 0) 0))) ∧ 1 = r_ ∧ m = m_) ∨ ((¬ d_kd (d_sg (ch_ob m 6 j1) (m (7, 0, 0) 0))) ∧ 0 = r_ ∧ m = m_)) ((d_sg (ch_ob m 6 j1) (m (7, 0, 0) 0))) m ⟨(fun c_ => (Or.inl ⟨c_, rfl, rfl⟩)), (fun c_ => (Or.inr ⟨c_, rfl, rfl⟩))⟩))
  rcases q6 with ⟨c_, rfl, rfl⟩ | ⟨c_, rfl, rfl⟩
  · replace h := h.1 c_
    refine ch_if_ne (tgt := 16) d_d_takeCommand_11 (by decide) (fun _ => ?_) (fun c => absurd c (by decide))
    refine ch_aload_n (i := 0) d_d_takeCommand_16 rfl rfl ?_
    refine ch_dup d_d_takeCommand_17 rfl ?_
    refine ch_get (v := .inl (.int (m (7, 0, 0) 0))) d_d_takeCommand_18 fl_d_9 rfl ?_
    refine ch_iconst (v := 1) d_d_takeCommand_21 (by decide) ?_
    refine ch_iadd d_d_takeCommand_22 ?_
    refine ch_put d_d_takeCommand_23 fp_d_9 rfl rfl rfl ?_
    generalize hmm7 : ch_wr m (7, 0, 0) 0 ((m (7, 0, 0) 0) + 1) = m7
    replace h := h m7 hmm7.symm
    refine ch_aload_n (i := 2) d_d_takeCommand_26 rfl rfl ?_
    refine ch_iload_n (i := 3) d_d_takeCommand_27 rfl rfl ?_
    refine ch_iconst (v := 0) d_d_takeCommand_28 (by decide) ?_
    refine ch_iconst (v := 0) d_d_takeCommand_29 (by decide) ?_
    refine ch_iconst (v := 0) d_d_takeCommand_30 (by decide) ?_
    refine ch_callV (as := [.inl (.int (d_sg (ch_ob m 6 j1) (m (7, 0, 0) 0))), .inl (.int 0), .inl (.int 0), .inl (.int 0)]) d_d_takeCommand_31 lk_d_36 mi_c_set me_c_set rfl rfl rfl ⟨Nat.le_of_ble_eq_true rfl, Nat.le_of_ble_eq_true rfl⟩ (Nat.le_of_ble_eq_true rfl) ⟨Nat.le_of_ble_eq_true rfl, Nat.le_of_ble_eq_true rfl⟩ (ch_mono (ch_Kv (fun m9 q10 => ?_)) (s_c_set g (fun (m_ : ch_M) => (m_ = ch_os m7 4 0 (c_setB (ch_ob m7 4 0) (d_sg (ch_ob m 6 j1) (m (7, 0, 0) 0)) 0 0 0))) ((d_sg (ch_ob m 6 j1) (m (7, 0, 0) 0))) (0) (0) (0) m7 rfl))
    have hm_ := q10
    replace h := h m9 hm_
    refine ch_iload_n (i := 3) d_d_takeCommand_34 rfl rfl ?_
    by_cases e99 : (d_sg (ch_ob m 6 j1) (m (7, 0, 0) 0)) = 99
    · replace h := h.1 e99
      refine ch_tswIn (tgt := 127) (off := 92) d_d_takeCommand_35 (by rw [e99]; decide) (by rw [e99]; decide) (by rw [e99]; rfl) (by decide) ?_
      refine ch_aload_n (i := 0) d_d_takeCommand_127 rfl rfl ?_
      refine ch_aload_n (i := 1) d_d_takeCommand_128 rfl rfl ?_
      refine ch_aload_n (i := 2) d_d_takeCommand_129 rfl rfl ?_
      refine ch_callV (as := [.inr (6, j1, 0), .inr (4, 0, 0)]) d_d_takeCommand_130 lk_d_45 mi_d_takeChild me_d_takeChild rfl rfl rfl ⟨Nat.le_of_ble_eq_true rfl, Nat.le_of_ble_eq_true rfl⟩ (Nat.le_of_ble_eq_true rfl) ⟨Nat.le_of_ble_eq_true rfl, Nat.le_of_ble_eq_true rfl⟩ (ch_mono (ch_Ki (fun r11 m12 q13 => ?_)) (s_d_takeChild g (fun (r_ : Int32) (m_ : ch_M) => (((d_tk 2 m9 j1).1 = true) ∧ 1 = r_ ∧ m_ = ((d_tk 2 m9 j1).2)) ∨ ((¬ (d_tk 2 m9 j1).1 = true) ∧ 0 = r_ ∧ m_ = ((d_tk 2 m9 j1).2))) (j1) m9 ⟨(fun c_ => (Or.inl ⟨c_, rfl, rfl⟩)), (fun c_ => (Or.inr ⟨c_, rfl, rfl⟩))⟩))
      rcases q13 with ⟨c_, rfl, hm_⟩ | ⟨c_, rfl, hm_⟩
      · replace h := h.1 c_ m12 hm_
        refine ch_if_eq (tgt := 159) d_d_takeCommand_133 (by decide) (fun c => absurd c (by decide)) (fun _ => ?_)
        refine ch_aload_n (i := 0) d_d_takeCommand_136 rfl rfl ?_
        refine ch_aload_n (i := 1) d_d_takeCommand_137 rfl rfl ?_
        refine ch_bipush (v := 64) d_d_takeCommand_138 (by decide) ?_
        refine ch_callV (as := [.inr (6, j1, 0), .inl (.int 64)]) d_d_takeCommand_140 lk_d_24 mi_d_takeSign me_d_takeSign rfl rfl rfl ⟨Nat.le_of_ble_eq_true rfl, Nat.le_of_ble_eq_true rfl⟩ (Nat.le_of_ble_eq_true rfl) ⟨Nat.le_of_ble_eq_true rfl, Nat.le_of_ble_eq_true rfl⟩ (ch_mono (ch_Ki (fun r14 m15 q16 => ?_)) (s_d_takeSign g (fun (r_ : Int32) (m_ : ch_M) => (((d_ts m12 j1 64).1 = true) ∧ 1 = r_ ∧ m_ = ((d_ts m12 j1 64).2)) ∨ ((¬ (d_ts m12 j1 64).1 = true) ∧ 0 = r_ ∧ m_ = ((d_ts m12 j1 64).2))) (j1) (64) m12 ⟨(fun c_ => (Or.inl ⟨c_, rfl, rfl⟩)), (fun c_ => (Or.inr ⟨c_, rfl, rfl⟩))⟩))
        rcases q16 with ⟨c_, rfl, hm_⟩ | ⟨c_, rfl, hm_⟩
        · replace h := h.1 c_ m15 hm_
          refine ch_if_eq (tgt := 159) d_d_takeCommand_143 (by decide) (fun c => absurd c (by decide)) (fun _ => ?_)
          refine ch_aload_n (i := 0) d_d_takeCommand_146 rfl rfl ?_
          refine ch_aload_n (i := 1) d_d_takeCommand_147 rfl rfl ?_
          refine ch_aload_n (i := 2) d_d_takeCommand_148 rfl rfl ?_
          refine ch_callV (as := [.inr (6, j1, 0), .inr (4, 0, 0)]) d_d_takeCommand_149 lk_d_42 mi_d_takeNumber me_d_takeNumber rfl rfl rfl ⟨Nat.le_of_ble_eq_true rfl, Nat.le_of_ble_eq_true rfl⟩ (Nat.le_of_ble_eq_true rfl) ⟨Nat.le_of_ble_eq_true rfl, Nat.le_of_ble_eq_true rfl⟩ (ch_mono (ch_Ki (fun r17 m18 q19 => ?_)) (s_d_takeNumber g (fun (r_ : Int32) (m_ : ch_M) => (((d_tn m15 j1).1 = true) ∧ 1 = r_ ∧ m_ = ((d_tn m15 j1).2)) ∨ ((¬ (d_tn m15 j1).1 = true) ∧ 0 = r_ ∧ m_ = ((d_tn m15 j1).2))) (j1) m15 ⟨(fun c_ => (Or.inl ⟨c_, rfl, rfl⟩)), (fun c_ => (Or.inr ⟨c_, rfl, rfl⟩))⟩))
          rcases q19 with ⟨c_, rfl, hm_⟩ | ⟨c_, rfl, hm_⟩
          · replace h := h.1 c_ m18 hm_
            refine ch_if_eq (tgt := 159) d_d_takeCommand_152 (by decide) (fun c => absurd c (by decide)) (fun _ => ?_)
            refine ch_iconst (v := 1) d_d_takeCommand_155 (by decide) ?_
            refine ch_goto (tgt := 160) d_d_takeCommand_156 (by decide) ?_
            exact ch_iret (ty := .boolean) d_d_takeCommand_160 rfl rfl (Nat.le_of_ble_eq_true rfl) h
          · replace h := h.2 c_ m18 hm_
            refine ch_if_eq (tgt := 159) d_d_takeCommand_152 (by decide) (fun _ => ?_) (fun c => absurd c (by decide))
            refine ch_iconst (v := 0) d_d_takeCommand_159 (by decide) ?_
            exact ch_iret (ty := .boolean) d_d_takeCommand_160 rfl rfl (Nat.le_of_ble_eq_true rfl) h
        · replace h := h.2 c_ m15 hm_
          refine ch_if_eq (tgt := 159) d_d_takeCommand_143 (by decide) (fun _ => ?_) (fun c => absurd c (by decide))
          refine ch_iconst (v := 0) d_d_takeCommand_159 (by decide) ?_
          exact ch_iret (ty := .boolean) d_d_takeCommand_160 rfl rfl (Nat.le_of_ble_eq_true rfl) h
      · replace h := h.2 c_ m12 hm_
        refine ch_if_eq (tgt := 159) d_d_takeCommand_133 (by decide) (fun _ => ?_) (fun c => absurd c (by decide))
        refine ch_iconst (v := 0) d_d_takeCommand_159 (by decide) ?_
        exact ch_iret (ty := .boolean) d_d_takeCommand_160 rfl rfl (Nat.le_of_ble_eq_true rfl) h
    replace h := h.2
    by_cases e100 : (d_sg (ch_ob m 6 j1) (m (7, 0, 0) 0)) = 100
    · replace h := h.1 e100
      refine ch_tswIn (tgt := 260) (off := 225) d_d_takeCommand_35 (by rw [e100]; decide) (by rw [e100]; decide) (by rw [e100]; rfl) (by decide) ?_
      refine ch_aload_n (i := 0) d_d_takeCommand_260 rfl rfl ?_
      refine ch_aload_n (i := 1) d_d_takeCommand_261 rfl rfl ?_
      refine ch_aload_n (i := 2) d_d_takeCommand_262 rfl rfl ?_
      refine ch_callV (as := [.inr (6, j1, 0), .inr (4, 0, 0)]) d_d_takeCommand_263 lk_d_45 mi_d_takeChild me_d_takeChild rfl rfl rfl ⟨Nat.le_of_ble_eq_true rfl, Nat.le_of_ble_eq_true rfl⟩ (Nat.le_of_ble_eq_true rfl) ⟨Nat.le_of_ble_eq_true rfl, Nat.le_of_ble_eq_true rfl⟩ (ch_mono (ch_Ki (fun r20 m21 q22 => ?_)) (s_d_takeChild g (fun (r_ : Int32) (m_ : ch_M) => (((d_tk 2 m9 j1).1 = true) ∧ 1 = r_ ∧ m_ = ((d_tk 2 m9 j1).2)) ∨ ((¬ (d_tk 2 m9 j1).1 = true) ∧ 0 = r_ ∧ m_ = ((d_tk 2 m9 j1).2))) (j1) m9 ⟨(fun c_ => (Or.inl ⟨c_, rfl, rfl⟩)), (fun c_ => (Or.inr ⟨c_, rfl, rfl⟩))⟩))
      rcases q22 with ⟨c_, rfl, hm_⟩ | ⟨c_, rfl, hm_⟩
      · replace h := h.1 c_ m21 hm_
        exact ch_iret (ty := .boolean) d_d_takeCommand_266 rfl rfl (Nat.le_of_ble_eq_true rfl) h
      · replace h := h.2 c_ m21 hm_
        exact ch_iret (ty := .boolean) d_d_takeCommand_266 rfl rfl (Nat.le_of_ble_eq_true rfl) h
    replace h := h.2
    by_cases e101 : (d_sg (ch_ob m 6 j1) (m (7, 0, 0) 0)) = 101
    · replace h := h.1 e101
      refine ch_tswIn (tgt := 260) (off := 225) d_d_takeCommand_35 (by rw [e101]; decide) (by rw [e101]; decide) (by rw [e101]; rfl) (by decide) ?_
      refine ch_aload_n (i := 0) d_d_takeCommand_260 rfl rfl ?_
      refine ch_aload_n (i := 1) d_d_takeCommand_261 rfl rfl ?_
      refine ch_aload_n (i := 2) d_d_takeCommand_262 rfl rfl ?_
      refine ch_callV (as := [.inr (6, j1, 0), .inr (4, 0, 0)]) d_d_takeCommand_263 lk_d_45 mi_d_takeChild me_d_takeChild rfl rfl rfl ⟨Nat.le_of_ble_eq_true rfl, Nat.le_of_ble_eq_true rfl⟩ (Nat.le_of_ble_eq_true rfl) ⟨Nat.le_of_ble_eq_true rfl, Nat.le_of_ble_eq_true rfl⟩ (ch_mono (ch_Ki (fun r23 m24 q25 => ?_)) (s_d_takeChild g (fun (r_ : Int32) (m_ : ch_M) => (((d_tk 2 m9 j1).1 = true) ∧ 1 = r_ ∧ m_ = ((d_tk 2 m9 j1).2)) ∨ ((¬ (d_tk 2 m9 j1).1 = true) ∧ 0 = r_ ∧ m_ = ((d_tk 2 m9 j1).2))) (j1) m9 ⟨(fun c_ => (Or.inl ⟨c_, rfl, rfl⟩)), (fun c_ => (Or.inr ⟨c_, rfl, rfl⟩))⟩))
      rcases q25 with ⟨c_, rfl, hm_⟩ | ⟨c_, rfl, hm_⟩
      · replace h := h.1 c_ m24 hm_
        exact ch_iret (ty := .boolean) d_d_takeCommand_266 rfl rfl (Nat.le_of_ble_eq_true rfl) h
      · replace h := h.2 c_ m24 hm_
        exact ch_iret (ty := .boolean) d_d_takeCommand_266 rfl rfl (Nat.le_of_ble_eq_true rfl) h
    replace h := h.2
    by_cases e102 : (d_sg (ch_ob m 6 j1) (m (7, 0, 0) 0)) = 102
    · replace h := h.1 e102
      refine ch_tswIn (tgt := 260) (off := 225) d_d_takeCommand_35 (by rw [e102]; decide) (by rw [e102]; decide) (by rw [e102]; rfl) (by decide) ?_
      refine ch_aload_n (i := 0) d_d_takeCommand_260 rfl rfl ?_
      refine ch_aload_n (i := 1) d_d_takeCommand_261 rfl rfl ?_
      refine ch_aload_n (i := 2) d_d_takeCommand_262 rfl rfl ?_
      refine ch_callV (as := [.inr (6, j1, 0), .inr (4, 0, 0)]) d_d_takeCommand_263 lk_d_45 mi_d_takeChild me_d_takeChild rfl rfl rfl ⟨Nat.le_of_ble_eq_true rfl, Nat.le_of_ble_eq_true rfl⟩ (Nat.le_of_ble_eq_true rfl) ⟨Nat.le_of_ble_eq_true rfl, Nat.le_of_ble_eq_true rfl⟩ (ch_mono (ch_Ki (fun r26 m27 q28 => ?_)) (s_d_takeChild g (fun (r_ : Int32) (m_ : ch_M) => (((d_tk 2 m9 j1).1 = true) ∧ 1 = r_ ∧ m_ = ((d_tk 2 m9 j1).2)) ∨ ((¬ (d_tk 2 m9 j1).1 = true) ∧ 0 = r_ ∧ m_ = ((d_tk 2 m9 j1).2))) (j1) m9 ⟨(fun c_ => (Or.inl ⟨c_, rfl, rfl⟩)), (fun c_ => (Or.inr ⟨c_, rfl, rfl⟩))⟩))
      rcases q28 with ⟨c_, rfl, hm_⟩ | ⟨c_, rfl, hm_⟩
      · replace h := h.1 c_ m27 hm_
        exact ch_iret (ty := .boolean) d_d_takeCommand_266 rfl rfl (Nat.le_of_ble_eq_true rfl) h
      · replace h := h.2 c_ m27 hm_
        exact ch_iret (ty := .boolean) d_d_takeCommand_266 rfl rfl (Nat.le_of_ble_eq_true rfl) h
    replace h := h.2
    by_cases e103 : (d_sg (ch_ob m 6 j1) (m (7, 0, 0) 0)) = 103
    · replace h := h.1 e103
      refine ch_tswIn (tgt := 207) (off := 172) d_d_takeCommand_35 (by rw [e103]; decide) (by rw [e103]; decide) (by rw [e103]; rfl) (by decide) ?_
      refine ch_aload_n (i := 0) d_d_takeCommand_207 rfl rfl ?_
      refine ch_aload_n (i := 1) d_d_takeCommand_208 rfl rfl ?_
      refine ch_aload_n (i := 2) d_d_takeCommand_209 rfl rfl ?_
      refine ch_callV (as := [.inr (6, j1, 0), .inr (4, 0, 0)]) d_d_takeCommand_210 lk_d_45 mi_d_takeChild me_d_takeChild rfl rfl rfl ⟨Nat.le_of_ble_eq_true rfl, Nat.le_of_ble_eq_true rfl⟩ (Nat.le_of_ble_eq_true rfl) ⟨Nat.le_of_ble_eq_true rfl, Nat.le_of_ble_eq_true rfl⟩ (ch_mono (ch_Ki (fun r29 m30 q31 => ?_)) (s_d_takeChild g (fun (r_ : Int32) (m_ : ch_M) => (((d_tk 2 m9 j1).1 = true) ∧ 1 = r_ ∧ m_ = ((d_tk 2 m9 j1).2)) ∨ ((¬ (d_tk 2 m9 j1).1 = true) ∧ 0 = r_ ∧ m_ = ((d_tk 2 m9 j1).2))) (j1) m9 ⟨(fun c_ => (Or.inl ⟨c_, rfl, rfl⟩)), (fun c_ => (Or.inr ⟨c_, rfl, rfl⟩))⟩))
      rcases q31 with ⟨c_, rfl, hm_⟩ | ⟨c_, rfl, hm_⟩
      · replace h := h.1 c_ m30 hm_
        refine ch_if_eq (tgt := 258) d_d_takeCommand_213 (by decide) (fun c => absurd c (by decide)) (fun _ => ?_)
        refine ch_aload_n (i := 0) d_d_takeCommand_216 rfl rfl ?_
        refine ch_aload_n (i := 1) d_d_takeCommand_217 rfl rfl ?_
        refine ch_bipush (v := 62) d_d_takeCommand_218 (by decide) ?_
        refine ch_callV (as := [.inr (6, j1, 0), .inl (.int 62)]) d_d_takeCommand_220 lk_d_24 mi_d_takeSign me_d_takeSign rfl rfl rfl ⟨Nat.le_of_ble_eq_true rfl, Nat.le_of_ble_eq_true rfl⟩ (Nat.le_of_ble_eq_true rfl) ⟨Nat.le_of_ble_eq_true rfl, Nat.le_of_ble_eq_true rfl⟩ (ch_mono (ch_Ki (fun r32 m33 q34 => ?_)) (s_d_takeSign g (fun (r_ : Int32) (m_ : ch_M) => (((d_ts m30 j1 62).1 = true) ∧ 1 = r_ ∧ m_ = ((d_ts m30 j1 62).2)) ∨ ((¬ (d_ts m30 j1 62).1 = true) ∧ 0 = r_ ∧ m_ = ((d_ts m30 j1 62).2))) (j1) (62) m30 ⟨(fun c_ => (Or.inl ⟨c_, rfl, rfl⟩)), (fun c_ => (Or.inr ⟨c_, rfl, rfl⟩))⟩))
        rcases q34 with ⟨c_, rfl, hm_⟩ | ⟨c_, rfl, hm_⟩
        · replace h := h.1 c_ m33 hm_
          refine ch_if_eq (tgt := 258) d_d_takeCommand_223 (by decide) (fun c => absurd c (by decide)) (fun _ => ?_)
          refine ch_aload_n (i := 0) d_d_takeCommand_226 rfl rfl ?_
          refine ch_aload_n (i := 1) d_d_takeCommand_227 rfl rfl ?_
          refine ch_aload_n (i := 2) d_d_takeCommand_228 rfl rfl ?_
          refine ch_callV (as := [.inr (6, j1, 0), .inr (4, 0, 0)]) d_d_takeCommand_229 lk_d_59 mi_d_takeOther me_d_takeOther rfl rfl rfl ⟨Nat.le_of_ble_eq_true rfl, Nat.le_of_ble_eq_true rfl⟩ (Nat.le_of_ble_eq_true rfl) ⟨Nat.le_of_ble_eq_true rfl, Nat.le_of_ble_eq_true rfl⟩ (ch_mono (ch_Ki (fun r35 m36 q37 => ?_)) (s_d_takeOther g (fun (r_ : Int32) (m_ : ch_M) => (((d_tk 3 m33 j1).1 = true) ∧ 1 = r_ ∧ m_ = ((d_tk 3 m33 j1).2)) ∨ ((¬ (d_tk 3 m33 j1).1 = true) ∧ 0 = r_ ∧ m_ = ((d_tk 3 m33 j1).2))) (j1) m33 ⟨(fun c_ => (Or.inl ⟨c_, rfl, rfl⟩)), (fun c_ => (Or.inr ⟨c_, rfl, rfl⟩))⟩))
          rcases q37 with ⟨c_, rfl, hm_⟩ | ⟨c_, rfl, hm_⟩
          · replace h := h.1 c_ m36 hm_
            refine ch_if_eq (tgt := 258) d_d_takeCommand_232 (by decide) (fun c => absurd c (by decide)) (fun _ => ?_)
            refine ch_aload_n (i := 0) d_d_takeCommand_235 rfl rfl ?_
            refine ch_aload_n (i := 1) d_d_takeCommand_236 rfl rfl ?_
            refine ch_bipush (v := 42) d_d_takeCommand_237 (by decide) ?_
            refine ch_callV (as := [.inr (6, j1, 0), .inl (.int 42)]) d_d_takeCommand_239 lk_d_24 mi_d_takeSign me_d_takeSign rfl rfl rfl ⟨Nat.le_of_ble_eq_true rfl, Nat.le_of_ble_eq_true rfl⟩ (Nat.le_of_ble_eq_true rfl) ⟨Nat.le_of_ble_eq_true rfl, Nat.le_of_ble_eq_true rfl⟩ (ch_mono (ch_Ki (fun r38 m39 q40 => ?_)) (s_d_takeSign g (fun (r_ : Int32) (m_ : ch_M) => (((d_ts m36 j1 42).1 = true) ∧ 1 = r_ ∧ m_ = ((d_ts m36 j1 42).2)) ∨ ((¬ (d_ts m36 j1 42).1 = true) ∧ 0 = r_ ∧ m_ = ((d_ts m36 j1 42).2))) (j1) (42) m36 ⟨(fun c_ => (Or.inl ⟨c_, rfl, rfl⟩)), (fun c_ => (Or.inr ⟨c_, rfl, rfl⟩))⟩))
            rcases q40 with ⟨c_, rfl, hm_⟩ | ⟨c_, rfl, hm_⟩
            · replace h := h.1 c_ m39 hm_
              refine ch_if_eq (tgt := 258) d_d_takeCommand_242 (by decide) (fun c => absurd c (by decide)) (fun _ => ?_)
              refine ch_aload_n (i := 0) d_d_takeCommand_245 rfl rfl ?_
              refine ch_aload_n (i := 1) d_d_takeCommand_246 rfl rfl ?_
              refine ch_aload_n (i := 2) d_d_takeCommand_247 rfl rfl ?_
              refine ch_callV (as := [.inr (6, j1, 0), .inr (4, 0, 0)]) d_d_takeCommand_248 lk_d_42 mi_d_takeNumber me_d_takeNumber rfl rfl rfl ⟨Nat.le_of_ble_eq_true rfl, Nat.le_of_ble_eq_true rfl⟩ (Nat.le_of_ble_eq_true rfl) ⟨Nat.le_of_ble_eq_true rfl, Nat.le_of_ble_eq_true rfl⟩ (ch_mono (ch_Ki (fun r41 m42 q43 => ?_)) (s_d_takeNumber g (fun (r_ : Int32) (m_ : ch_M) => (((d_tn m39 j1).1 = true) ∧ 1 = r_ ∧ m_ = ((d_tn m39 j1).2)) ∨ ((¬ (d_tn m39 j1).1 = true) ∧ 0 = r_ ∧ m_ = ((d_tn m39 j1).2))) (j1) m39 ⟨(fun c_ => (Or.inl ⟨c_, rfl, rfl⟩)), (fun c_ => (Or.inr ⟨c_, rfl, rfl⟩))⟩))
              rcases q43 with ⟨c_, rfl, hm_⟩ | ⟨c_, rfl, hm_⟩
              · replace h := h.1 c_ m42 hm_
                refine ch_if_eq (tgt := 258) d_d_takeCommand_251 (by decide) (fun c => absurd c (by decide)) (fun _ => ?_)
                refine ch_iconst (v := 1) d_d_takeCommand_254 (by decide) ?_
                refine ch_goto (tgt := 259) d_d_takeCommand_255 (by decide) ?_
                exact ch_iret (ty := .boolean) d_d_takeCommand_259 rfl rfl (Nat.le_of_ble_eq_true rfl) h
              · replace h := h.2 c_ m42 hm_
                refine ch_if_eq (tgt := 258) d_d_takeCommand_251 (by decide) (fun _ => ?_) (fun c => absurd c (by decide))
                refine ch_iconst (v := 0) d_d_takeCommand_258 (by decide) ?_
                exact ch_iret (ty := .boolean) d_d_takeCommand_259 rfl rfl (Nat.le_of_ble_eq_true rfl) h
            · replace h := h.2 c_ m39 hm_
              refine ch_if_eq (tgt := 258) d_d_takeCommand_242 (by decide) (fun _ => ?_) (fun c => absurd c (by decide))
              refine ch_iconst (v := 0) d_d_takeCommand_258 (by decide) ?_
              exact ch_iret (ty := .boolean) d_d_takeCommand_259 rfl rfl (Nat.le_of_ble_eq_true rfl) h
          · replace h := h.2 c_ m36 hm_
            refine ch_if_eq (tgt := 258) d_d_takeCommand_232 (by decide) (fun _ => ?_) (fun c => absurd c (by decide))
            refine ch_iconst (v := 0) d_d_takeCommand_258 (by decide) ?_
            exact ch_iret (ty := .boolean) d_d_takeCommand_259 rfl rfl (Nat.le_of_ble_eq_true rfl) h
        · replace h := h.2 c_ m33 hm_
          refine ch_if_eq (tgt := 258) d_d_takeCommand_223 (by decide) (fun _ => ?_) (fun c => absurd c (by decide))
          refine ch_iconst (v := 0) d_d_takeCommand_258 (by decide) ?_
          exact ch_iret (ty := .boolean) d_d_takeCommand_259 rfl rfl (Nat.le_of_ble_eq_true rfl) h
      · replace h := h.2 c_ m30 hm_
        refine ch_if_eq (tgt := 258) d_d_takeCommand_213 (by decide) (fun _ => ?_) (fun c => absurd c (by decide))
        refine ch_iconst (v := 0) d_d_takeCommand_258 (by decide) ?_
        exact ch_iret (ty := .boolean) d_d_takeCommand_259 rfl rfl (Nat.le_of_ble_eq_true rfl) h
    replace h := h.2
    by_cases e104 : (d_sg (ch_ob m 6 j1) (m (7, 0, 0) 0)) = 104
    · replace h := h.1 e104
      refine ch_tswIn (tgt := 161) (off := 126) d_d_takeCommand_35 (by rw [e104]; decide) (by rw [e104]; decide) (by rw [e104]; rfl) (by decide) ?_
      refine ch_aload_n (i := 0) d_d_takeCommand_161 rfl rfl ?_
      refine ch_aload_n (i := 1) d_d_takeCommand_162 rfl rfl ?_
      refine ch_aload_n (i := 2) d_d_takeCommand_163 rfl rfl ?_
      refine ch_callV (as := [.inr (6, j1, 0), .inr (4, 0, 0)]) d_d_takeCommand_164 lk_d_45 mi_d_takeChild me_d_takeChild rfl rfl rfl ⟨Nat.le_of_ble_eq_true rfl, Nat.le_of_ble_eq_true rfl⟩ (Nat.le_of_ble_eq_true rfl) ⟨Nat.le_of_ble_eq_true rfl, Nat.le_of_ble_eq_true rfl⟩ (ch_mono (ch_Ki (fun r44 m45 q46 => ?_)) (s_d_takeChild g (fun (r_ : Int32) (m_ : ch_M) => (((d_tk 2 m9 j1).1 = true) ∧ 1 = r_ ∧ m_ = ((d_tk 2 m9 j1).2)) ∨ ((¬ (d_tk 2 m9 j1).1 = true) ∧ 0 = r_ ∧ m_ = ((d_tk 2 m9 j1).2))) (j1) m9 ⟨(fun c_ => (Or.inl ⟨c_, rfl, rfl⟩)), (fun c_ => (Or.inr ⟨c_, rfl, rfl⟩))⟩))
      rcases q46 with ⟨c_, rfl, hm_⟩ | ⟨c_, rfl, hm_⟩
      · replace h := h.1 c_ m45 hm_
        refine ch_if_eq (tgt := 196) d_d_takeCommand_167 (by decide) (fun c => absurd c (by decide)) (fun _ => ?_)
        refine ch_aload_n (i := 0) d_d_takeCommand_170 rfl rfl ?_
        refine ch_aload_n (i := 1) d_d_takeCommand_171 rfl rfl ?_
        refine ch_bipush (v := 58) d_d_takeCommand_172 (by decide) ?_
        refine ch_callV (as := [.inr (6, j1, 0), .inl (.int 58)]) d_d_takeCommand_174 lk_d_24 mi_d_takeSign me_d_takeSign rfl rfl rfl ⟨Nat.le_of_ble_eq_true rfl, Nat.le_of_ble_eq_true rfl⟩ (Nat.le_of_ble_eq_true rfl) ⟨Nat.le_of_ble_eq_true rfl, Nat.le_of_ble_eq_true rfl⟩ (ch_mono (ch_Ki (fun r47 m48 q49 => ?_)) (s_d_takeSign g (fun (r_ : Int32) (m_ : ch_M) => (((d_ts m45 j1 58).1 = true) ∧ 1 = r_ ∧ m_ = ((d_ts m45 j1 58).2)) ∨ ((¬ (d_ts m45 j1 58).1 = true) ∧ 0 = r_ ∧ m_ = ((d_ts m45 j1 58).2))) (j1) (58) m45 ⟨(fun c_ => (Or.inl ⟨c_, rfl, rfl⟩)), (fun c_ => (Or.inr ⟨c_, rfl, rfl⟩))⟩))
        rcases q49 with ⟨c_, rfl, hm_⟩ | ⟨c_, rfl, hm_⟩
        · replace h := h.1 c_ m48 hm_
          refine ch_if_eq (tgt := 196) d_d_takeCommand_177 (by decide) (fun c => absurd c (by decide)) (fun _ => ?_)
          refine ch_aload_n (i := 0) d_d_takeCommand_180 rfl rfl ?_
          refine ch_aload_n (i := 1) d_d_takeCommand_181 rfl rfl ?_
          refine ch_aload_n (i := 2) d_d_takeCommand_182 rfl rfl ?_
          refine ch_get (v := .inr (5, 0, 0)) d_d_takeCommand_183 fl_d_48 rfl ?_
          refine ch_callV (as := [.inr (6, j1, 0), .inr (5, 0, 0)]) d_d_takeCommand_186 lk_d_52 mi_d_takeSteps me_d_takeSteps rfl rfl rfl ⟨Nat.le_of_ble_eq_true rfl, Nat.le_of_ble_eq_true rfl⟩ (Nat.le_of_ble_eq_true rfl) ⟨Nat.le_of_ble_eq_true rfl, Nat.le_of_ble_eq_true rfl⟩ (ch_mono (ch_Ki (fun r50 m51 q52 => ?_)) (s_d_takeSteps g (fun (r_ : Int32) (m_ : ch_M) => (((d_st m48 j1 0).1 = true) ∧ 1 = r_ ∧ m_ = ((d_st m48 j1 0).2)) ∨ ((¬ (d_st m48 j1 0).1 = true) ∧ 0 = r_ ∧ m_ = ((d_st m48 j1 0).2))) (j1) (0) m48 ⟨(fun c_ => (Or.inl ⟨c_, rfl, rfl⟩)), (fun c_ => (Or.inr ⟨c_, rfl, rfl⟩))⟩))
          rcases q52 with ⟨c_, rfl, hm_⟩ | ⟨c_, rfl, hm_⟩
          · replace h := h.1 c_ m51 hm_
            refine ch_if_eq (tgt := 196) d_d_takeCommand_189 (by decide) (fun c => absurd c (by decide)) (fun _ => ?_)
            refine ch_iconst (v := 1) d_d_takeCommand_192 (by decide) ?_
            refine ch_goto (tgt := 197) d_d_takeCommand_193 (by decide) ?_
            exact ch_iret (ty := .boolean) d_d_takeCommand_197 rfl rfl (Nat.le_of_ble_eq_true rfl) h
          · replace h := h.2 c_ m51 hm_
            refine ch_if_eq (tgt := 196) d_d_takeCommand_189 (by decide) (fun _ => ?_) (fun c => absurd c (by decide))
            refine ch_iconst (v := 0) d_d_takeCommand_196 (by decide) ?_
            exact ch_iret (ty := .boolean) d_d_takeCommand_197 rfl rfl (Nat.le_of_ble_eq_true rfl) h
        · replace h := h.2 c_ m48 hm_
          refine ch_if_eq (tgt := 196) d_d_takeCommand_177 (by decide) (fun _ => ?_) (fun c => absurd c (by decide))
          refine ch_iconst (v := 0) d_d_takeCommand_196 (by decide) ?_
          exact ch_iret (ty := .boolean) d_d_takeCommand_197 rfl rfl (Nat.le_of_ble_eq_true rfl) h
      · replace h := h.2 c_ m45 hm_
        refine ch_if_eq (tgt := 196) d_d_takeCommand_167 (by decide) (fun _ => ?_) (fun c => absurd c (by decide))
        refine ch_iconst (v := 0) d_d_takeCommand_196 (by decide) ?_
        exact ch_iret (ty := .boolean) d_d_takeCommand_197 rfl rfl (Nat.le_of_ble_eq_true rfl) h
    replace h := h.2
    by_cases e105 : (d_sg (ch_ob m 6 j1) (m (7, 0, 0) 0)) = 105
    · replace h := h.1 e105
      refine ch_tswIn (tgt := 260) (off := 225) d_d_takeCommand_35 (by rw [e105]; decide) (by rw [e105]; decide) (by rw [e105]; rfl) (by decide) ?_
      refine ch_aload_n (i := 0) d_d_takeCommand_260 rfl rfl ?_
      refine ch_aload_n (i := 1) d_d_takeCommand_261 rfl rfl ?_
      refine ch_aload_n (i := 2) d_d_takeCommand_262 rfl rfl ?_
      refine ch_callV (as := [.inr (6, j1, 0), .inr (4, 0, 0)]) d_d_takeCommand_263 lk_d_45 mi_d_takeChild me_d_takeChild rfl rfl rfl ⟨Nat.le_of_ble_eq_true rfl, Nat.le_of_ble_eq_true rfl⟩ (Nat.le_of_ble_eq_true rfl) ⟨Nat.le_of_ble_eq_true rfl, Nat.le_of_ble_eq_true rfl⟩ (ch_mono (ch_Ki (fun r53 m54 q55 => ?_)) (s_d_takeChild g (fun (r_ : Int32) (m_ : ch_M) => (((d_tk 2 m9 j1).1 = true) ∧ 1 = r_ ∧ m_ = ((d_tk 2 m9 j1).2)) ∨ ((¬ (d_tk 2 m9 j1).1 = true) ∧ 0 = r_ ∧ m_ = ((d_tk 2 m9 j1).2))) (j1) m9 ⟨(fun c_ => (Or.inl ⟨c_, rfl, rfl⟩)), (fun c_ => (Or.inr ⟨c_, rfl, rfl⟩))⟩))
      rcases q55 with ⟨c_, rfl, hm_⟩ | ⟨c_, rfl, hm_⟩
      · replace h := h.1 c_ m54 hm_
        exact ch_iret (ty := .boolean) d_d_takeCommand_266 rfl rfl (Nat.le_of_ble_eq_true rfl) h
      · replace h := h.2 c_ m54 hm_
        exact ch_iret (ty := .boolean) d_d_takeCommand_266 rfl rfl (Nat.le_of_ble_eq_true rfl) h
    replace h := h.2
    by_cases e106 : (d_sg (ch_ob m 6 j1) (m (7, 0, 0) 0)) = 106
    · replace h := h.1 e106
      refine ch_tswIn (tgt := 260) (off := 225) d_d_takeCommand_35 (by rw [e106]; decide) (by rw [e106]; decide) (by rw [e106]; rfl) (by decide) ?_
      refine ch_aload_n (i := 0) d_d_takeCommand_260 rfl rfl ?_
      refine ch_aload_n (i := 1) d_d_takeCommand_261 rfl rfl ?_
      refine ch_aload_n (i := 2) d_d_takeCommand_262 rfl rfl ?_
      refine ch_callV (as := [.inr (6, j1, 0), .inr (4, 0, 0)]) d_d_takeCommand_263 lk_d_45 mi_d_takeChild me_d_takeChild rfl rfl rfl ⟨Nat.le_of_ble_eq_true rfl, Nat.le_of_ble_eq_true rfl⟩ (Nat.le_of_ble_eq_true rfl) ⟨Nat.le_of_ble_eq_true rfl, Nat.le_of_ble_eq_true rfl⟩ (ch_mono (ch_Ki (fun r56 m57 q58 => ?_)) (s_d_takeChild g (fun (r_ : Int32) (m_ : ch_M) => (((d_tk 2 m9 j1).1 = true) ∧ 1 = r_ ∧ m_ = ((d_tk 2 m9 j1).2)) ∨ ((¬ (d_tk 2 m9 j1).1 = true) ∧ 0 = r_ ∧ m_ = ((d_tk 2 m9 j1).2))) (j1) m9 ⟨(fun c_ => (Or.inl ⟨c_, rfl, rfl⟩)), (fun c_ => (Or.inr ⟨c_, rfl, rfl⟩))⟩))
      rcases q58 with ⟨c_, rfl, hm_⟩ | ⟨c_, rfl, hm_⟩
      · replace h := h.1 c_ m57 hm_
        exact ch_iret (ty := .boolean) d_d_takeCommand_266 rfl rfl (Nat.le_of_ble_eq_true rfl) h
      · replace h := h.2 c_ m57 hm_
        exact ch_iret (ty := .boolean) d_d_takeCommand_266 rfl rfl (Nat.le_of_ble_eq_true rfl) h
    replace h := h.2
    by_cases e107 : (d_sg (ch_ob m 6 j1) (m (7, 0, 0) 0)) = 107
    · replace h := h.1 e107
      refine ch_tswIn (tgt := 260) (off := 225) d_d_takeCommand_35 (by rw [e107]; decide) (by rw [e107]; decide) (by rw [e107]; rfl) (by decide) ?_
      refine ch_aload_n (i := 0) d_d_takeCommand_260 rfl rfl ?_
      refine ch_aload_n (i := 1) d_d_takeCommand_261 rfl rfl ?_
      refine ch_aload_n (i := 2) d_d_takeCommand_262 rfl rfl ?_
      refine ch_callV (as := [.inr (6, j1, 0), .inr (4, 0, 0)]) d_d_takeCommand_263 lk_d_45 mi_d_takeChild me_d_takeChild rfl rfl rfl ⟨Nat.le_of_ble_eq_true rfl, Nat.le_of_ble_eq_true rfl⟩ (Nat.le_of_ble_eq_true rfl) ⟨Nat.le_of_ble_eq_true rfl, Nat.le_of_ble_eq_true rfl⟩ (ch_mono (ch_Ki (fun r59 m60 q61 => ?_)) (s_d_takeChild g (fun (r_ : Int32) (m_ : ch_M) => (((d_tk 2 m9 j1).1 = true) ∧ 1 = r_ ∧ m_ = ((d_tk 2 m9 j1).2)) ∨ ((¬ (d_tk 2 m9 j1).1 = true) ∧ 0 = r_ ∧ m_ = ((d_tk 2 m9 j1).2))) (j1) m9 ⟨(fun c_ => (Or.inl ⟨c_, rfl, rfl⟩)), (fun c_ => (Or.inr ⟨c_, rfl, rfl⟩))⟩))
      rcases q61 with ⟨c_, rfl, hm_⟩ | ⟨c_, rfl, hm_⟩
      · replace h := h.1 c_ m60 hm_
        exact ch_iret (ty := .boolean) d_d_takeCommand_266 rfl rfl (Nat.le_of_ble_eq_true rfl) h
      · replace h := h.2 c_ m60 hm_
        exact ch_iret (ty := .boolean) d_d_takeCommand_266 rfl rfl (Nat.le_of_ble_eq_true rfl) h
    replace h := h.2
    by_cases e108 : (d_sg (ch_ob m 6 j1) (m (7, 0, 0) 0)) = 108
    · replace h := h.1 e108
      refine ch_tswIn (tgt := 260) (off := 225) d_d_takeCommand_35 (by rw [e108]; decide) (by rw [e108]; decide) (by rw [e108]; rfl) (by decide) ?_
      refine ch_aload_n (i := 0) d_d_takeCommand_260 rfl rfl ?_
      refine ch_aload_n (i := 1) d_d_takeCommand_261 rfl rfl ?_
      refine ch_aload_n (i := 2) d_d_takeCommand_262 rfl rfl ?_
      refine ch_callV (as := [.inr (6, j1, 0), .inr (4, 0, 0)]) d_d_takeCommand_263 lk_d_45 mi_d_takeChild me_d_takeChild rfl rfl rfl ⟨Nat.le_of_ble_eq_true rfl, Nat.le_of_ble_eq_true rfl⟩ (Nat.le_of_ble_eq_true rfl) ⟨Nat.le_of_ble_eq_true rfl, Nat.le_of_ble_eq_true rfl⟩ (ch_mono (ch_Ki (fun r62 m63 q64 => ?_)) (s_d_takeChild g (fun (r_ : Int32) (m_ : ch_M) => (((d_tk 2 m9 j1).1 = true) ∧ 1 = r_ ∧ m_ = ((d_tk 2 m9 j1).2)) ∨ ((¬ (d_tk 2 m9 j1).1 = true) ∧ 0 = r_ ∧ m_ = ((d_tk 2 m9 j1).2))) (j1) m9 ⟨(fun c_ => (Or.inl ⟨c_, rfl, rfl⟩)), (fun c_ => (Or.inr ⟨c_, rfl, rfl⟩))⟩))
      rcases q64 with ⟨c_, rfl, hm_⟩ | ⟨c_, rfl, hm_⟩
      · replace h := h.1 c_ m63 hm_
        exact ch_iret (ty := .boolean) d_d_takeCommand_266 rfl rfl (Nat.le_of_ble_eq_true rfl) h
      · replace h := h.2 c_ m63 hm_
        exact ch_iret (ty := .boolean) d_d_takeCommand_266 rfl rfl (Nat.le_of_ble_eq_true rfl) h
    replace h := h.2
    by_cases e109 : (d_sg (ch_ob m 6 j1) (m (7, 0, 0) 0)) = 109
    · replace h := h.1 e109
      refine ch_tswIn (tgt := 260) (off := 225) d_d_takeCommand_35 (by rw [e109]; decide) (by rw [e109]; decide) (by rw [e109]; rfl) (by decide) ?_
      refine ch_aload_n (i := 0) d_d_takeCommand_260 rfl rfl ?_
      refine ch_aload_n (i := 1) d_d_takeCommand_261 rfl rfl ?_
      refine ch_aload_n (i := 2) d_d_takeCommand_262 rfl rfl ?_
      refine ch_callV (as := [.inr (6, j1, 0), .inr (4, 0, 0)]) d_d_takeCommand_263 lk_d_45 mi_d_takeChild me_d_takeChild rfl rfl rfl ⟨Nat.le_of_ble_eq_true rfl, Nat.le_of_ble_eq_true rfl⟩ (Nat.le_of_ble_eq_true rfl) ⟨Nat.le_of_ble_eq_true rfl, Nat.le_of_ble_eq_true rfl⟩ (ch_mono (ch_Ki (fun r65 m66 q67 => ?_)) (s_d_takeChild g (fun (r_ : Int32) (m_ : ch_M) => (((d_tk 2 m9 j1).1 = true) ∧ 1 = r_ ∧ m_ = ((d_tk 2 m9 j1).2)) ∨ ((¬ (d_tk 2 m9 j1).1 = true) ∧ 0 = r_ ∧ m_ = ((d_tk 2 m9 j1).2))) (j1) m9 ⟨(fun c_ => (Or.inl ⟨c_, rfl, rfl⟩)), (fun c_ => (Or.inr ⟨c_, rfl, rfl⟩))⟩))
      rcases q67 with ⟨c_, rfl, hm_⟩ | ⟨c_, rfl, hm_⟩
      · replace h := h.1 c_ m66 hm_
        exact ch_iret (ty := .boolean) d_d_takeCommand_266 rfl rfl (Nat.le_of_ble_eq_true rfl) h
      · replace h := h.2 c_ m66 hm_
        exact ch_iret (ty := .boolean) d_d_takeCommand_266 rfl rfl (Nat.le_of_ble_eq_true rfl) h
    replace h := h.2
    by_cases e110 : (d_sg (ch_ob m 6 j1) (m (7, 0, 0) 0)) = 110
    · replace h := h.1 e110
      refine ch_tswIn (tgt := 120) (off := 85) d_d_takeCommand_35 (by rw [e110]; decide) (by rw [e110]; decide) (by rw [e110]; rfl) (by decide) ?_
      refine ch_aload_n (i := 0) d_d_takeCommand_120 rfl rfl ?_
      refine ch_aload_n (i := 1) d_d_takeCommand_121 rfl rfl ?_
      refine ch_aload_n (i := 2) d_d_takeCommand_122 rfl rfl ?_
      refine ch_callV (as := [.inr (6, j1, 0), .inr (4, 0, 0)]) d_d_takeCommand_123 lk_d_42 mi_d_takeNumber me_d_takeNumber rfl rfl rfl ⟨Nat.le_of_ble_eq_true rfl, Nat.le_of_ble_eq_true rfl⟩ (Nat.le_of_ble_eq_true rfl) ⟨Nat.le_of_ble_eq_true rfl, Nat.le_of_ble_eq_true rfl⟩ (ch_mono (ch_Ki (fun r68 m69 q70 => ?_)) (s_d_takeNumber g (fun (r_ : Int32) (m_ : ch_M) => (((d_tn m9 j1).1 = true) ∧ 1 = r_ ∧ m_ = ((d_tn m9 j1).2)) ∨ ((¬ (d_tn m9 j1).1 = true) ∧ 0 = r_ ∧ m_ = ((d_tn m9 j1).2))) (j1) m9 ⟨(fun c_ => (Or.inl ⟨c_, rfl, rfl⟩)), (fun c_ => (Or.inr ⟨c_, rfl, rfl⟩))⟩))
      rcases q70 with ⟨c_, rfl, hm_⟩ | ⟨c_, rfl, hm_⟩
      · replace h := h.1 c_ m69 hm_
        exact ch_iret (ty := .boolean) d_d_takeCommand_126 rfl rfl (Nat.le_of_ble_eq_true rfl) h
      · replace h := h.2 c_ m69 hm_
        exact ch_iret (ty := .boolean) d_d_takeCommand_126 rfl rfl (Nat.le_of_ble_eq_true rfl) h
    replace h := h.2
    by_cases e111 : (d_sg (ch_ob m 6 j1) (m (7, 0, 0) 0)) = 111
    · replace h := h.1 e111
      refine ch_tswIn (tgt := 260) (off := 225) d_d_takeCommand_35 (by rw [e111]; decide) (by rw [e111]; decide) (by rw [e111]; rfl) (by decide) ?_
      refine ch_aload_n (i := 0) d_d_takeCommand_260 rfl rfl ?_
      refine ch_aload_n (i := 1) d_d_takeCommand_261 rfl rfl ?_
      refine ch_aload_n (i := 2) d_d_takeCommand_262 rfl rfl ?_
      refine ch_callV (as := [.inr (6, j1, 0), .inr (4, 0, 0)]) d_d_takeCommand_263 lk_d_45 mi_d_takeChild me_d_takeChild rfl rfl rfl ⟨Nat.le_of_ble_eq_true rfl, Nat.le_of_ble_eq_true rfl⟩ (Nat.le_of_ble_eq_true rfl) ⟨Nat.le_of_ble_eq_true rfl, Nat.le_of_ble_eq_true rfl⟩ (ch_mono (ch_Ki (fun r71 m72 q73 => ?_)) (s_d_takeChild g (fun (r_ : Int32) (m_ : ch_M) => (((d_tk 2 m9 j1).1 = true) ∧ 1 = r_ ∧ m_ = ((d_tk 2 m9 j1).2)) ∨ ((¬ (d_tk 2 m9 j1).1 = true) ∧ 0 = r_ ∧ m_ = ((d_tk 2 m9 j1).2))) (j1) m9 ⟨(fun c_ => (Or.inl ⟨c_, rfl, rfl⟩)), (fun c_ => (Or.inr ⟨c_, rfl, rfl⟩))⟩))
      rcases q73 with ⟨c_, rfl, hm_⟩ | ⟨c_, rfl, hm_⟩
      · replace h := h.1 c_ m72 hm_
        exact ch_iret (ty := .boolean) d_d_takeCommand_266 rfl rfl (Nat.le_of_ble_eq_true rfl) h
      · replace h := h.2 c_ m72 hm_
        exact ch_iret (ty := .boolean) d_d_takeCommand_266 rfl rfl (Nat.le_of_ble_eq_true rfl) h
    replace h := h.2
    by_cases e112 : (d_sg (ch_ob m 6 j1) (m (7, 0, 0) 0)) = 112
    · replace h := h.1 e112
      refine ch_tswIn (tgt := 260) (off := 225) d_d_takeCommand_35 (by rw [e112]; decide) (by rw [e112]; decide) (by rw [e112]; rfl) (by decide) ?_
      refine ch_aload_n (i := 0) d_d_takeCommand_260 rfl rfl ?_
      refine ch_aload_n (i := 1) d_d_takeCommand_261 rfl rfl ?_
      refine ch_aload_n (i := 2) d_d_takeCommand_262 rfl rfl ?_
      refine ch_callV (as := [.inr (6, j1, 0), .inr (4, 0, 0)]) d_d_takeCommand_263 lk_d_45 mi_d_takeChild me_d_takeChild rfl rfl rfl ⟨Nat.le_of_ble_eq_true rfl, Nat.le_of_ble_eq_true rfl⟩ (Nat.le_of_ble_eq_true rfl) ⟨Nat.le_of_ble_eq_true rfl, Nat.le_of_ble_eq_true rfl⟩ (ch_mono (ch_Ki (fun r74 m75 q76 => ?_)) (s_d_takeChild g (fun (r_ : Int32) (m_ : ch_M) => (((d_tk 2 m9 j1).1 = true) ∧ 1 = r_ ∧ m_ = ((d_tk 2 m9 j1).2)) ∨ ((¬ (d_tk 2 m9 j1).1 = true) ∧ 0 = r_ ∧ m_ = ((d_tk 2 m9 j1).2))) (j1) m9 ⟨(fun c_ => (Or.inl ⟨c_, rfl, rfl⟩)), (fun c_ => (Or.inr ⟨c_, rfl, rfl⟩))⟩))
      rcases q76 with ⟨c_, rfl, hm_⟩ | ⟨c_, rfl, hm_⟩
      · replace h := h.1 c_ m75 hm_
        exact ch_iret (ty := .boolean) d_d_takeCommand_266 rfl rfl (Nat.le_of_ble_eq_true rfl) h
      · replace h := h.2 c_ m75 hm_
        exact ch_iret (ty := .boolean) d_d_takeCommand_266 rfl rfl (Nat.le_of_ble_eq_true rfl) h
    replace h := h.2
    by_cases e113 : (d_sg (ch_ob m 6 j1) (m (7, 0, 0) 0)) = 113
    · replace h := h.1 e113
      refine ch_tswIn (tgt := 260) (off := 225) d_d_takeCommand_35 (by rw [e113]; decide) (by rw [e113]; decide) (by rw [e113]; rfl) (by decide) ?_
      refine ch_aload_n (i := 0) d_d_takeCommand_260 rfl rfl ?_
      refine ch_aload_n (i := 1) d_d_takeCommand_261 rfl rfl ?_
      refine ch_aload_n (i := 2) d_d_takeCommand_262 rfl rfl ?_
      refine ch_callV (as := [.inr (6, j1, 0), .inr (4, 0, 0)]) d_d_takeCommand_263 lk_d_45 mi_d_takeChild me_d_takeChild rfl rfl rfl ⟨Nat.le_of_ble_eq_true rfl, Nat.le_of_ble_eq_true rfl⟩ (Nat.le_of_ble_eq_true rfl) ⟨Nat.le_of_ble_eq_true rfl, Nat.le_of_ble_eq_true rfl⟩ (ch_mono (ch_Ki (fun r77 m78 q79 => ?_)) (s_d_takeChild g (fun (r_ : Int32) (m_ : ch_M) => (((d_tk 2 m9 j1).1 = true) ∧ 1 = r_ ∧ m_ = ((d_tk 2 m9 j1).2)) ∨ ((¬ (d_tk 2 m9 j1).1 = true) ∧ 0 = r_ ∧ m_ = ((d_tk 2 m9 j1).2))) (j1) m9 ⟨(fun c_ => (Or.inl ⟨c_, rfl, rfl⟩)), (fun c_ => (Or.inr ⟨c_, rfl, rfl⟩))⟩))
      rcases q79 with ⟨c_, rfl, hm_⟩ | ⟨c_, rfl, hm_⟩
      · replace h := h.1 c_ m78 hm_
        exact ch_iret (ty := .boolean) d_d_takeCommand_266 rfl rfl (Nat.le_of_ble_eq_true rfl) h
      · replace h := h.2 c_ m78 hm_
        exact ch_iret (ty := .boolean) d_d_takeCommand_266 rfl rfl (Nat.le_of_ble_eq_true rfl) h
    replace h := h.2
    by_cases e114 : (d_sg (ch_ob m 6 j1) (m (7, 0, 0) 0)) = 114
    · replace h := h.1 e114
      refine ch_tswIn (tgt := 198) (off := 163) d_d_takeCommand_35 (by rw [e114]; decide) (by rw [e114]; decide) (by rw [e114]; rfl) (by decide) ?_
      refine ch_aload_n (i := 0) d_d_takeCommand_198 rfl rfl ?_
      refine ch_aload_n (i := 1) d_d_takeCommand_199 rfl rfl ?_
      refine ch_aload_n (i := 2) d_d_takeCommand_200 rfl rfl ?_
      refine ch_callV (as := [.inr (6, j1, 0), .inr (4, 0, 0)]) d_d_takeCommand_201 lk_d_56 mi_d_takeDigit me_d_takeDigit rfl rfl rfl ⟨Nat.le_of_ble_eq_true rfl, Nat.le_of_ble_eq_true rfl⟩ (Nat.le_of_ble_eq_true rfl) ⟨Nat.le_of_ble_eq_true rfl, Nat.le_of_ble_eq_true rfl⟩ (ch_mono (ch_Ki (fun r80 m81 q82 => ?_)) (s_d_takeDigit g (fun (r_ : Int32) (m_ : ch_M) => (((d_tk 4 m9 j1).1 = true) ∧ 1 = r_ ∧ m_ = ((d_tk 4 m9 j1).2)) ∨ ((¬ (d_tk 4 m9 j1).1 = true) ∧ 0 = r_ ∧ m_ = ((d_tk 4 m9 j1).2))) (j1) m9 ⟨(fun c_ => (Or.inl ⟨c_, rfl, rfl⟩)), (fun c_ => (Or.inr ⟨c_, rfl, rfl⟩))⟩))
      rcases q82 with ⟨c_, rfl, hm_⟩ | ⟨c_, rfl, hm_⟩
      · replace h := h.1 c_ m81 hm_
        exact ch_iret (ty := .boolean) d_d_takeCommand_204 rfl rfl (Nat.le_of_ble_eq_true rfl) h
      · replace h := h.2 c_ m81 hm_
        exact ch_iret (ty := .boolean) d_d_takeCommand_204 rfl rfl (Nat.le_of_ble_eq_true rfl) h
    replace h := h.2
    by_cases e115 : (d_sg (ch_ob m 6 j1) (m (7, 0, 0) 0)) = 115
    · replace h := h.1 e115
      refine ch_tswIn (tgt := 260) (off := 225) d_d_takeCommand_35 (by rw [e115]; decide) (by rw [e115]; decide) (by rw [e115]; rfl) (by decide) ?_
      refine ch_aload_n (i := 0) d_d_takeCommand_260 rfl rfl ?_
      refine ch_aload_n (i := 1) d_d_takeCommand_261 rfl rfl ?_
      refine ch_aload_n (i := 2) d_d_takeCommand_262 rfl rfl ?_
      refine ch_callV (as := [.inr (6, j1, 0), .inr (4, 0, 0)]) d_d_takeCommand_263 lk_d_45 mi_d_takeChild me_d_takeChild rfl rfl rfl ⟨Nat.le_of_ble_eq_true rfl, Nat.le_of_ble_eq_true rfl⟩ (Nat.le_of_ble_eq_true rfl) ⟨Nat.le_of_ble_eq_true rfl, Nat.le_of_ble_eq_true rfl⟩ (ch_mono (ch_Ki (fun r83 m84 q85 => ?_)) (s_d_takeChild g (fun (r_ : Int32) (m_ : ch_M) => (((d_tk 2 m9 j1).1 = true) ∧ 1 = r_ ∧ m_ = ((d_tk 2 m9 j1).2)) ∨ ((¬ (d_tk 2 m9 j1).1 = true) ∧ 0 = r_ ∧ m_ = ((d_tk 2 m9 j1).2))) (j1) m9 ⟨(fun c_ => (Or.inl ⟨c_, rfl, rfl⟩)), (fun c_ => (Or.inr ⟨c_, rfl, rfl⟩))⟩))
      rcases q85 with ⟨c_, rfl, hm_⟩ | ⟨c_, rfl, hm_⟩
      · replace h := h.1 c_ m84 hm_
        exact ch_iret (ty := .boolean) d_d_takeCommand_266 rfl rfl (Nat.le_of_ble_eq_true rfl) h
      · replace h := h.2 c_ m84 hm_
        exact ch_iret (ty := .boolean) d_d_takeCommand_266 rfl rfl (Nat.le_of_ble_eq_true rfl) h
    replace h := h.2
    by_cases e116 : (d_sg (ch_ob m 6 j1) (m (7, 0, 0) 0)) = 116
    · replace h := h.1 e116
      refine ch_tswIn (tgt := 205) (off := 170) d_d_takeCommand_35 (by rw [e116]; decide) (by rw [e116]; decide) (by rw [e116]; rfl) (by decide) ?_
      refine ch_iconst (v := 1) d_d_takeCommand_205 (by decide) ?_
      exact ch_iret (ty := .boolean) d_d_takeCommand_206 rfl rfl (Nat.le_of_ble_eq_true rfl) h
    replace h := h.2
    have hx : (Int32.toInt (d_sg (ch_ob m 6 j1) (m (7, 0, 0) 0)) < 99 ∨ 116 < Int32.toInt (d_sg (ch_ob m 6 j1) (m (7, 0, 0) 0))) := by
      have f99 : Int32.toInt (d_sg (ch_ob m 6 j1) (m (7, 0, 0) 0)) ≠ 99 := fun q => e99 (Int32.toInt_inj.mp (q.trans (by decide)))
      have f100 : Int32.toInt (d_sg (ch_ob m 6 j1) (m (7, 0, 0) 0)) ≠ 100 := fun q => e100 (Int32.toInt_inj.mp (q.trans (by decide)))
      have f101 : Int32.toInt (d_sg (ch_ob m 6 j1) (m (7, 0, 0) 0)) ≠ 101 := fun q => e101 (Int32.toInt_inj.mp (q.trans (by decide)))
      have f102 : Int32.toInt (d_sg (ch_ob m 6 j1) (m (7, 0, 0) 0)) ≠ 102 := fun q => e102 (Int32.toInt_inj.mp (q.trans (by decide)))
      have f103 : Int32.toInt (d_sg (ch_ob m 6 j1) (m (7, 0, 0) 0)) ≠ 103 := fun q => e103 (Int32.toInt_inj.mp (q.trans (by decide)))
      have f104 : Int32.toInt (d_sg (ch_ob m 6 j1) (m (7, 0, 0) 0)) ≠ 104 := fun q => e104 (Int32.toInt_inj.mp (q.trans (by decide)))
      have f105 : Int32.toInt (d_sg (ch_ob m 6 j1) (m (7, 0, 0) 0)) ≠ 105 := fun q => e105 (Int32.toInt_inj.mp (q.trans (by decide)))
      have f106 : Int32.toInt (d_sg (ch_ob m 6 j1) (m (7, 0, 0) 0)) ≠ 106 := fun q => e106 (Int32.toInt_inj.mp (q.trans (by decide)))
      have f107 : Int32.toInt (d_sg (ch_ob m 6 j1) (m (7, 0, 0) 0)) ≠ 107 := fun q => e107 (Int32.toInt_inj.mp (q.trans (by decide)))
      have f108 : Int32.toInt (d_sg (ch_ob m 6 j1) (m (7, 0, 0) 0)) ≠ 108 := fun q => e108 (Int32.toInt_inj.mp (q.trans (by decide)))
      have f109 : Int32.toInt (d_sg (ch_ob m 6 j1) (m (7, 0, 0) 0)) ≠ 109 := fun q => e109 (Int32.toInt_inj.mp (q.trans (by decide)))
      have f110 : Int32.toInt (d_sg (ch_ob m 6 j1) (m (7, 0, 0) 0)) ≠ 110 := fun q => e110 (Int32.toInt_inj.mp (q.trans (by decide)))
      have f111 : Int32.toInt (d_sg (ch_ob m 6 j1) (m (7, 0, 0) 0)) ≠ 111 := fun q => e111 (Int32.toInt_inj.mp (q.trans (by decide)))
      have f112 : Int32.toInt (d_sg (ch_ob m 6 j1) (m (7, 0, 0) 0)) ≠ 112 := fun q => e112 (Int32.toInt_inj.mp (q.trans (by decide)))
      have f113 : Int32.toInt (d_sg (ch_ob m 6 j1) (m (7, 0, 0) 0)) ≠ 113 := fun q => e113 (Int32.toInt_inj.mp (q.trans (by decide)))
      have f114 : Int32.toInt (d_sg (ch_ob m 6 j1) (m (7, 0, 0) 0)) ≠ 114 := fun q => e114 (Int32.toInt_inj.mp (q.trans (by decide)))
      have f115 : Int32.toInt (d_sg (ch_ob m 6 j1) (m (7, 0, 0) 0)) ≠ 115 := fun q => e115 (Int32.toInt_inj.mp (q.trans (by decide)))
      have f116 : Int32.toInt (d_sg (ch_ob m 6 j1) (m (7, 0, 0) 0)) ≠ 116 := fun q => e116 (Int32.toInt_inj.mp (q.trans (by decide)))
      omega
    replace h := h hx
    refine ch_tswOut (tgt := 260) d_d_takeCommand_35 hx (by decide) ?_
    refine ch_aload_n (i := 0) d_d_takeCommand_260 rfl rfl ?_
    refine ch_aload_n (i := 1) d_d_takeCommand_261 rfl rfl ?_
    refine ch_aload_n (i := 2) d_d_takeCommand_262 rfl rfl ?_
    refine ch_callV (as := [.inr (6, j1, 0), .inr (4, 0, 0)]) d_d_takeCommand_263 lk_d_45 mi_d_takeChild me_d_takeChild rfl rfl rfl ⟨Nat.le_of_ble_eq_true rfl, Nat.le_of_ble_eq_true rfl⟩ (Nat.le_of_ble_eq_true rfl) ⟨Nat.le_of_ble_eq_true rfl, Nat.le_of_ble_eq_true rfl⟩ (ch_mono (ch_Ki (fun r86 m87 q88 => ?_)) (s_d_takeChild g (fun (r_ : Int32) (m_ : ch_M) => (((d_tk 2 m9 j1).1 = true) ∧ 1 = r_ ∧ m_ = ((d_tk 2 m9 j1).2)) ∨ ((¬ (d_tk 2 m9 j1).1 = true) ∧ 0 = r_ ∧ m_ = ((d_tk 2 m9 j1).2))) (j1) m9 ⟨(fun c_ => (Or.inl ⟨c_, rfl, rfl⟩)), (fun c_ => (Or.inr ⟨c_, rfl, rfl⟩))⟩))
    rcases q88 with ⟨c_, rfl, hm_⟩ | ⟨c_, rfl, hm_⟩
    · replace h := h.1 c_ m87 hm_
      exact ch_iret (ty := .boolean) d_d_takeCommand_266 rfl rfl (Nat.le_of_ble_eq_true rfl) h
    · replace h := h.2 c_ m87 hm_
      exact ch_iret (ty := .boolean) d_d_takeCommand_266 rfl rfl (Nat.le_of_ble_eq_true rfl) h
  · replace h := h.2 c_
    refine ch_if_ne (tgt := 16) d_d_takeCommand_11 (by decide) (fun c => absurd c (by decide)) (fun _ => ?_)
    refine ch_iconst (v := 0) d_d_takeCommand_14 (by decide) ?_
    exact ch_iret (ty := .boolean) d_d_takeCommand_15 rfl rfl (Nat.le_of_ble_eq_true rfl) h
