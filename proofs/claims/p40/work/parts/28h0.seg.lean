theorem e_x_commands (g : ch_G) (Q : ch_O → ch_M → Prop)  (m : ch_M) (h : ch_J g m_x_commands (ch_rm m_x_commands) (ch_E g m_x_commands Q) 0 [some (.inr (0, 0, 0)), none] [] m 0) : ch_C g m_x_commands [.inr (0, 0, 0)] m Q :=
  ch_enter mf_x_commands (by intro v hv; simp only [List.mem_cons, List.not_mem_nil, or_false] at hv; rcases hv with rfl <;> rfl) (Nat.le_of_ble_eq_true rfl) h
set_option maxHeartbeats 1600000 in
theorem g_x_commands_0 (g : ch_G) (Q : ch_O → ch_M → Prop)  (m : ch_M) (h : ((∀ m2 : ch_M, m2 = ((d_ff 0 60 (ch_os m 7 0 (ch_bw (ch_ob m 7 0) 0 0 0))).2) → (∀ m4 : ch_M, m4 = ch_wr m2 (0, 0, 0) 13 ((d_ff 0 60 (ch_os m 7 0 (ch_bw (ch_ob m 7 0) 0 0 0))).1) → (((m4 (0, 0, 0) 13) = (-1) → ((∀ m6 : ch_M, m6 = ch_os m4 1 1 (y_cp (ch_ob m4 1 0) (ch_ob m4 1 1)) → (x_ok 60 (x_p0 m6)) ∧ ((∀ m9 : ch_M, m9 = ((x_ct 60 0 (x_p0 m6)).2) → (∀ m12 : ch_M, m12 = ch_wr m9 (6, 0, 0) 1 0 → ((¬ ((x_ct 60 0 (x_p0 m6)).1) = 0 → (vp_in (m12 (2, 0, 0) 1) 8) ∧ ((∀ m14 : ch_M, m14 = ch_os (ch_os m12 2 0 (p_kB (ch_ob m12 2 0))) 1 (4 + p_kn (ch_ob m12 2 0)) (y_cp (ch_ob m12 1 1) (ch_ob m12 1 (4 + p_kn (ch_ob m12 2 0)))) → Q (.inl (some (.inl (.int ((x_ct 60 0 (x_p0 m6)).1))))) m14))) ∧ (((x_ct 60 0 (x_p0 m6)).1) = 0 → ((∀ m18 : ch_M, m18 = ch_os m12 1 0 (y_cp (ch_ob m12 1 1) (ch_ob m12 1 0)) → Q (.inr 0) m18)))))))))) ∧ (¬ (m4 (0, 0, 0) 13) = (-1) → (∀ m20 : ch_M, m20 = ch_wr m4 (6, 0, 0) 1 0 → Q (.inr 2) m20))))))) : ch_J g m_x_commands (ch_rm m_x_commands) (ch_E g m_x_commands Q) 0 [some (.inr (0, 0, 0)), none] [] m 0 := by
  refine ch_aload_n (i := 0) d_x_commands_0 rfl rfl ?_
  refine ch_aload_n (i := 0) d_x_commands_1 rfl rfl ?_
  refine ch_get (v := .inr (7, 0, 0)) d_x_commands_2 fl_x_56 rfl ?_
  refine ch_aload_n (i := 0) d_x_commands_5 rfl rfl ?_
  refine ch_get (v := .inr (6, 0, 0)) d_x_commands_6 fl_x_49 rfl ?_
  refine ch_aload_n (i := 0) d_x_commands_9 rfl rfl ?_
  refine ch_get (v := .inr (4, 0, 0)) d_x_commands_10 fl_x_42 rfl ?_
  refine ch_callV (as := [.inr (6, 0, 0), .inr (4, 0, 0)]) d_x_commands_13 lk_x_213 mi_d_findFault me_d_findFault rfl rfl rfl ⟨Nat.le_of_ble_eq_true rfl, Nat.le_of_ble_eq_true rfl⟩ (Nat.le_of_ble_eq_true rfl) ⟨Nat.le_of_ble_eq_true rfl, Nat.le_of_ble_eq_true rfl⟩ (ch_mono (ch_Ki (fun r1 m2 q3 => ?_)) (s_d_findFault g (fun (r_ : Int32) (m_ : ch_M) => (((d_ff 0 60 (ch_os m 7 0 (ch_bw (ch_ob m 7 0) 0 0 0))).1) = r_ ∧ m_ = ((d_ff 0 60 (ch_os m 7 0 (ch_bw (ch_ob m 7 0) 0 0 0))).2))) (0) m ⟨rfl, rfl⟩))
  obtain ⟨rfl, hm_⟩ := q3
  replace h := h m2 hm_
  refine ch_put d_x_commands_16 fp_x_77 rfl rfl rfl ?_
  generalize hmm4 : ch_wr m2 (0, 0, 0) 13 ((d_ff 0 60 (ch_os m 7 0 (ch_bw (ch_ob m 7 0) 0 0 0))).1) = m4
  replace h := h m4 hmm4.symm
  refine ch_aload_n (i := 0) d_x_commands_19 rfl rfl ?_
  refine ch_get (v := .inl (.int (m4 (0, 0, 0) 13))) d_x_commands_20 fl_x_77 rfl ?_
  refine ch_iconst (v := (-1)) d_x_commands_23 (by decide) ?_
  refine ch_icmp_eq (tgt := 43) d_x_commands_24 (by decide) (fun c => ?_) (fun c => ?_)
  · replace h := h.1 c
    refine ch_aload_n (i := 0) d_x_commands_43 rfl rfl ?_
    refine ch_get (v := .inr (1, 1, 0)) d_x_commands_44 fl_x_16 rfl ?_
    refine ch_aload_n (i := 0) d_x_commands_47 rfl rfl ?_
    refine ch_get (v := .inr (1, 0, 0)) d_x_commands_48 fl_x_10 rfl ?_
    refine ch_callV (as := [.inr (1, 0, 0)]) d_x_commands_51 lk_x_174 mi_y_copyFrom me_y_copyFrom rfl rfl rfl ⟨Nat.le_of_ble_eq_true rfl, Nat.le_of_ble_eq_true rfl⟩ (Nat.le_of_ble_eq_true rfl) ⟨Nat.le_of_ble_eq_true rfl, Nat.le_of_ble_eq_true rfl⟩ (ch_mono (ch_Kv (fun m6 q7 => ?_)) (s_y_copyFrom g (fun (m_ : ch_M) => (m_ = ch_os m4 1 1 (y_cp (ch_ob m4 1 0) (ch_ob m4 1 1)))) (1) (0) m4 rfl))
    have hm_ := q7
    replace h := h m6 hm_
    refine ch_aload_n (i := 0) d_x_commands_54 rfl rfl ?_
    have b11 := h.1
    replace h := h.2
    refine ch_callV (as := []) d_x_commands_55 lk_x_217 mi_x_carryOutText me_x_carryOutText rfl rfl rfl ⟨Nat.le_of_ble_eq_true rfl, Nat.le_of_ble_eq_true rfl⟩ (Nat.le_of_ble_eq_true rfl) ⟨Nat.le_of_ble_eq_true rfl, Nat.le_of_ble_eq_true rfl⟩ (ch_mono (ch_Ki (fun r8 m9 q10 => ?_)) (s_x_carryOutText g (fun (r_ : Int32) (m_ : ch_M) => (((x_ct 60 0 (x_p0 m6)).1) = r_ ∧ m_ = ((x_ct 60 0 (x_p0 m6)).2)))  m6 ⟨b11, ⟨rfl, rfl⟩⟩))
    obtain ⟨rfl, hm_⟩ := q10
    replace h := h m9 hm_
    refine ch_istore_n (i := 1) d_x_commands_58 rfl (Nat.le_of_ble_eq_true rfl) (ls' := [some (.inr (0, 0, 0)), some (.inl (.int ((x_ct 60 0 (x_p0 m6)).1)))]) rfl ?_
    refine ch_aload_n (i := 0) d_x_commands_59 rfl rfl ?_
    refine ch_get (v := .inr (6, 0, 0)) d_x_commands_60 fl_x_49 rfl ?_
    refine ch_iconst (v := 0) d_x_commands_63 (by decide) ?_
    refine ch_put d_x_commands_64 fp_x_203 rfl rfl rfl ?_
    generalize hmm12 : ch_wr m9 (6, 0, 0) 1 0 = m12
    replace h := h m12 hmm12.symm
    refine ch_iload_n (i := 1) d_x_commands_67 rfl rfl ?_
    refine ch_if_ne (tgt := 90) d_x_commands_68 (by decide) (fun c => ?_) (fun c => ?_)
    · replace h := h.1 c
      refine ch_aload_n (i := 0) d_x_commands_90 rfl rfl ?_
      refine ch_get (v := .inr (2, 0, 0)) d_x_commands_91 fl_x_28 rfl ?_
      refine ch_aload_n (i := 0) d_x_commands_94 rfl rfl ?_
      refine ch_get (v := .inr (1, 1, 0)) d_x_commands_95 fl_x_16 rfl ?_
      have b16 := h.1
      replace h := h.2
      refine ch_callV (as := [.inr (1, 1, 0)]) d_x_commands_98 lk_x_223 mi_p_keep me_p_keep rfl rfl rfl ⟨Nat.le_of_ble_eq_true rfl, Nat.le_of_ble_eq_true rfl⟩ (Nat.le_of_ble_eq_true rfl) ⟨Nat.le_of_ble_eq_true rfl, Nat.le_of_ble_eq_true rfl⟩ (ch_mono (ch_Kv (fun m14 q15 => ?_)) (s_p_keep g (fun (m_ : ch_M) => (m_ = ch_os (ch_os m12 2 0 (p_kB (ch_ob m12 2 0))) 1 (4 + p_kn (ch_ob m12 2 0)) (y_cp (ch_ob m12 1 1) (ch_ob m12 1 (4 + p_kn (ch_ob m12 2 0)))))) (1) m12 ⟨b16, rfl⟩))
      have hm_ := q15
      replace h := h m14 hm_
      refine ch_iload_n (i := 1) d_x_commands_101 rfl rfl ?_
      exact ch_iret (ty := .int) d_x_commands_102 rfl rfl (Nat.le_of_ble_eq_true rfl) h
    · replace h := h.2 c
      refine ch_aload_n (i := 0) d_x_commands_71 rfl rfl ?_
      refine ch_get (v := .inr (1, 0, 0)) d_x_commands_72 fl_x_10 rfl ?_
      refine ch_aload_n (i := 0) d_x_commands_75 rfl rfl ?_
      refine ch_get (v := .inr (1, 1, 0)) d_x_commands_76 fl_x_16 rfl ?_
      refine ch_callV (as := [.inr (1, 1, 0)]) d_x_commands_79 lk_x_174 mi_y_copyFrom me_y_copyFrom rfl rfl rfl ⟨Nat.le_of_ble_eq_true rfl, Nat.le_of_ble_eq_true rfl⟩ (Nat.le_of_ble_eq_true rfl) ⟨Nat.le_of_ble_eq_true rfl, Nat.le_of_ble_eq_true rfl⟩ (ch_mono (ch_Kv (fun m18 q19 => ?_)) (s_y_copyFrom g (fun (m_ : ch_M) => (m_ = ch_os m12 1 0 (y_cp (ch_ob m12 1 1) (ch_ob m12 1 0)))) (0) (1) m12 rfl))
      have hm_ := q19
      replace h := h m18 hm_
      exact ch_throw d_x_commands_82 d_x_commands_85 d_x_commands_86 d_x_commands_89 tw_x_220 (by decide) rfl (Nat.le_of_ble_eq_true rfl) (Nat.le_of_ble_eq_true rfl) (Nat.le_of_ble_eq_true rfl) h
  · replace h := h.2 c
    refine ch_aload_n (i := 0) d_x_commands_27 rfl rfl ?_
    refine ch_get (v := .inr (6, 0, 0)) d_x_commands_28 fl_x_49 rfl ?_
    refine ch_iconst (v := 0) d_x_commands_31 (by decide) ?_
    refine ch_put d_x_commands_32 fp_x_203 rfl rfl rfl ?_
    generalize hmm20 : ch_wr m4 (6, 0, 0) 1 0 = m20
    replace h := h m20 hmm20.symm
    exact ch_throw d_x_commands_35 d_x_commands_38 d_x_commands_39 d_x_commands_42 tw_x_131 (by decide) rfl (Nat.le_of_ble_eq_true rfl) (Nat.le_of_ble_eq_true rfl) (Nat.le_of_ble_eq_true rfl) h
