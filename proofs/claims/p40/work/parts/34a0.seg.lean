theorem e_l_asks (g : ch_G) (Q : ch_O → ch_M → Prop)  (m : ch_M) (h : ch_J g m_l_asks (ch_rm m_l_asks) (ch_E g m_l_asks Q) 0 [some (.inr (0, 0, 0)), none, none, none, none] [] m 0) : ch_C g m_l_asks [.inr (0, 0, 0)] m Q :=
  ch_enter mf_l_asks (by intro v hv; simp only [List.mem_cons, List.not_mem_nil, or_false] at hv; rcases hv with rfl <;> rfl) (Nat.le_of_ble_eq_true rfl) h
set_option maxHeartbeats 1600000 in
theorem g_l_asks_0 (g : ch_G) (Q : ch_O → ch_M → Prop) (k : Nat) (hk : k + 1 ≤ 1200)  (m : ch_M) (h : (∃ T_1 : Nat, (a_inv T_1 m) ∧ ((∀ (M2 : ch_M), (a_same m M2) → (a_wr M2) → (∀ m4 : ch_M, m4 = M2 → ((∃ T_10 : Nat, (a_inv T_10 m4) ∧ ((∀ (M11 : ch_M), (a_same m4 M11) → (a_wr M11) → (∀ m13 : ch_M, m13 = M11 → (ch_J g m_l_asks (ch_rm m_l_asks) (ch_E g m_l_asks Q) 23 [some (.inr (0, 0, 0)), some (.inl (.long ((31 * (u_dl (V_mc (y_can (ch_ob m 1 0))))) + (Int32.toInt64 (f_fi (V_os (y_can (ch_ob m4 1 0)))))))), none, some (.inl (.int 0)), none] [] m13 (k + 1)))))))))))) : ch_J g m_l_asks (ch_rm m_l_asks) (ch_E g m_l_asks Q) 0 [some (.inr (0, 0, 0)), none, none, none, none] [] m k := by
  refine ch_ldc2 (v := 31) d_l_asks_0 lc_l_165 ?_
  refine ch_aload_n (i := 0) d_l_asks_3 rfl rfl ?_
  obtain ⟨T_1, h⟩ := h
  have b6 := h.1
  replace h := h.2
  refine ch_callSX (as := [.inr (0, 0, 0)]) d_l_asks_4 lk_l_167 ms_l_meanChalk rfl rfl ⟨Nat.le_of_ble_eq_true rfl, Nat.le_of_ble_eq_true rfl⟩ (Nat.le_of_ble_eq_true rfl) (ch_rk0 (b := 1) hk (Nat.le_of_ble_eq_true rfl) (Nat.le_of_ble_eq_true rfl)) (ch_mono (ch_Kd (fun r3 m4 q5 => ?_)) (t_l_meanChalk g (fun (r_ : UInt64) (m_ : ch_M) => (∃ (M2 : ch_M), (V_mc (y_can (ch_ob m 1 0))) = r_ ∧ (a_same m M2) ∧ (a_wr M2) ∧ m_ = M2)) (T_1) m ⟨b6, (fun M2 f0_ f1_ => ⟨M2, rfl, f0_, f1_, rfl⟩)⟩))
  obtain ⟨M2, rfl, f0_, f1_, hm_⟩ := q5
  replace h := h M2 f0_ f1_ m4 hm_
  refine ch_callS (as := [.inl (.double (V_mc (y_can (ch_ob m 1 0))))]) d_l_asks_7 lk_l_170 ms_u_doubleToLongBits rfl rfl ⟨Nat.le_of_ble_eq_true rfl, Nat.le_of_ble_eq_true rfl⟩ (Nat.le_of_ble_eq_true rfl) (ch_rk (a := 1) (b := 0) hk (Nat.le_of_ble_eq_true rfl) (Nat.le_of_ble_eq_true rfl)) (ch_mono (ch_Kl (fun r7 m8 q9 => ?_)) (s_u_doubleToLongBits g (fun (r_ : Int64) (m_ : ch_M) => ((u_dl (V_mc (y_can (ch_ob m 1 0)))) = r_ ∧ m4 = m_)) ((V_mc (y_can (ch_ob m 1 0)))) m4 ⟨rfl, rfl⟩))
  obtain ⟨rfl, rfl⟩ := q9
  replace h := h
  refine ch_lmul d_l_asks_10 ?_
  refine ch_aload_n (i := 0) d_l_asks_11 rfl rfl ?_
  obtain ⟨T_10, h⟩ := h
  have b15 := h.1
  replace h := h.2
  refine ch_callV (as := []) d_l_asks_12 lk_l_176 mi_x_ownedShare me_x_ownedShare rfl rfl rfl ⟨Nat.le_of_ble_eq_true rfl, Nat.le_of_ble_eq_true rfl⟩ (Nat.le_of_ble_eq_true rfl) (ch_rk (a := 1) (b := 0) hk (Nat.le_of_ble_eq_true rfl) (Nat.le_of_ble_eq_true rfl)) (ch_mono (ch_Kf (fun r12 m13 q14 => ?_)) (t_x_ownedShare g (fun (r_ : UInt32) (m_ : ch_M) => (∃ (M11 : ch_M), (V_os (y_can (ch_ob m4 1 0))) = r_ ∧ (a_same m4 M11) ∧ (a_wr M11) ∧ m_ = M11)) (T_10) m4 ⟨b15, (fun M11 f0_ f1_ => ⟨M11, rfl, f0_, f1_, rfl⟩)⟩))
  obtain ⟨M11, rfl, f0_, f1_, hm_⟩ := q14
  replace h := h M11 f0_ f1_ m13 hm_
  refine ch_callS (as := [.inl (.float (V_os (y_can (ch_ob m4 1 0))))]) d_l_asks_15 lk_l_180 ms_f_floatToIntBits rfl rfl ⟨Nat.le_of_ble_eq_true rfl, Nat.le_of_ble_eq_true rfl⟩ (Nat.le_of_ble_eq_true rfl) (ch_rk (a := 1) (b := 0) hk (Nat.le_of_ble_eq_true rfl) (Nat.le_of_ble_eq_true rfl)) (ch_mono (ch_Ki (fun r16 m17 q18 => ?_)) (s_f_floatToIntBits g (fun (r_ : Int32) (m_ : ch_M) => ((f_fi (V_os (y_can (ch_ob m4 1 0)))) = r_ ∧ m13 = m_)) ((V_os (y_can (ch_ob m4 1 0)))) m13 ⟨rfl, rfl⟩))
  obtain ⟨rfl, rfl⟩ := q18
  replace h := h
  refine ch_i2l d_l_asks_18 ?_
  refine ch_ladd d_l_asks_19 ?_
  refine ch_lstore_n (i := 1) d_l_asks_20 rfl (Nat.le_of_ble_eq_true rfl) (ls' := [some (.inr (0, 0, 0)), some (.inl (.long ((31 * (u_dl (V_mc (y_can (ch_ob m 1 0))))) + (Int32.toInt64 (f_fi (V_os (y_can (ch_ob m4 1 0)))))))), none, none, none]) rfl ?_
  refine ch_iconst (v := 0) d_l_asks_21 (by decide) ?_
  refine ch_istore_n (i := 3) d_l_asks_22 rfl (Nat.le_of_ble_eq_true rfl) (ls' := [some (.inr (0, 0, 0)), some (.inl (.long ((31 * (u_dl (V_mc (y_can (ch_ob m 1 0))))) + (Int32.toInt64 (f_fi (V_os (y_can (ch_ob m4 1 0)))))))), none, some (.inl (.int 0)), none]) rfl ?_
  exact h
set_option maxHeartbeats 1600000 in
theorem g_l_asks_23 (g : ch_G) (Q : ch_O → ch_M → Prop) (k : Nat) (hk : k + 1 ≤ 1200) (x1 : Int64) (x3 : Int32) (o4 : Option ch_V) (m : ch_M) (h : ((10 ≤ x3 → ch_J g m_l_asks (ch_rm m_l_asks) (ch_E g m_l_asks Q) 50 [some (.inr (0, 0, 0)), some (.inl (.long x1)), none, some (.inl (.int 0)), o4] [] m k) ∧ (¬ 10 ≤ x3 → (∃ T_1 : Nat, (a_inv T_1 m) ∧ ((0 : Int32) ≤ x3 ∧ x3 ≤ (9 : Int32)) ∧ ((∀ (M2 : ch_M), (a_same m M2) → (a_wr M2) → (∀ m4 : ch_M, m4 = M2 → ch_J g m_l_asks (ch_rm m_l_asks) (ch_E g m_l_asks Q) 23 [some (.inr (0, 0, 0)), some (.inl (.long ((31 * x1) + (Int32.toInt64 (x_acR (y_can (ch_ob m 1 0)) 0 0 x3))))), none, some (.inl (.int (x3 + 1))), o4] [] m4 (k + 1)))))))) : ch_J g m_l_asks (ch_rm m_l_asks) (ch_E g m_l_asks Q) 23 [some (.inr (0, 0, 0)), some (.inl (.long x1)), none, some (.inl (.int x3)), o4] [] m k := by
  refine ch_iload_n (i := 3) d_l_asks_23 rfl rfl ?_
  refine ch_bipush (v := 10) d_l_asks_24 (by decide) ?_
  refine ch_icmp_ge (tgt := 48) d_l_asks_26 (by decide) (fun c => ?_) (fun c => ?_)
  · replace h := h.1 c
    refine ch_iconst (v := 0) d_l_asks_48 (by decide) ?_
    refine ch_istore_n (i := 3) d_l_asks_49 rfl (Nat.le_of_ble_eq_true rfl) (ls' := [some (.inr (0, 0, 0)), some (.inl (.long x1)), none, some (.inl (.int 0)), o4]) rfl ?_
    exact h
  · replace h := h.2 c
    refine ch_ldc2 (v := 31) d_l_asks_29 lc_l_165 ?_
    refine ch_lload_n (i := 1) d_l_asks_32 rfl rfl ?_
    refine ch_lmul d_l_asks_33 ?_
    refine ch_aload_n (i := 0) d_l_asks_34 rfl rfl ?_
    refine ch_iload_n (i := 3) d_l_asks_35 rfl rfl ?_
    obtain ⟨T_1, h⟩ := h
    have b6 := h.1
    replace h := h.2
    have b7 := h.1
    replace h := h.2
    refine ch_callSX (as := [.inr (0, 0, 0), .inl (.int x3)]) d_l_asks_36 lk_l_186 ms_l_account rfl rfl ⟨Nat.le_of_ble_eq_true rfl, Nat.le_of_ble_eq_true rfl⟩ (Nat.le_of_ble_eq_true rfl) (ch_rk0 (b := 1) hk (Nat.le_of_ble_eq_true rfl) (Nat.le_of_ble_eq_true rfl)) (ch_mono (ch_Ki (fun r3 m4 q5 => ?_)) (t_l_account g (fun (r_ : Int32) (m_ : ch_M) => (∃ (M2 : ch_M), (x_acR (y_can (ch_ob m 1 0)) 0 0 x3) = r_ ∧ (a_same m M2) ∧ (a_wr M2) ∧ m_ = M2)) (T_1) (x3) m ⟨b6, b7, (fun M2 f0_ f1_ => ⟨M2, rfl, f0_, f1_, rfl⟩)⟩))
    obtain ⟨M2, rfl, f0_, f1_, hm_⟩ := q5
    replace h := h M2 f0_ f1_ m4 hm_
    refine ch_i2l d_l_asks_39 ?_
    refine ch_ladd d_l_asks_40 ?_
    refine ch_lstore_n (i := 1) d_l_asks_41 rfl (Nat.le_of_ble_eq_true rfl) (ls' := [some (.inr (0, 0, 0)), some (.inl (.long ((31 * x1) + (Int32.toInt64 (x_acR (y_can (ch_ob m 1 0)) 0 0 x3))))), none, some (.inl (.int x3)), o4]) rfl ?_
    refine ch_iinc (i := 3) (v := (x3 + 1)) d_l_asks_42 rfl rfl (Nat.le_of_ble_eq_true rfl) (ls' := [some (.inr (0, 0, 0)), some (.inl (.long ((31 * x1) + (Int32.toInt64 (x_acR (y_can (ch_ob m 1 0)) 0 0 x3))))), none, some (.inl (.int (x3 + 1))), o4]) rfl ?_
    refine ch_goto (tgt := 23) d_l_asks_45 (by decide) ?_
    exact h
set_option maxHeartbeats 1600000 in
theorem g_l_asks_50 (g : ch_G) (Q : ch_O → ch_M → Prop) (k : Nat) (hk : k + 1 ≤ 1200) (x1 : Int64) (x3 : Int32) (o4 : Option ch_V) (m : ch_M) (h : (∃ T_1 : Nat, (a_inv T_1 m) ∧ ((0 : Int32) ≤ 0 ∧ 0 ≤ (9 : Int32)) ∧ ((∀ (M2 : ch_M), (a_same m M2) → (a_wr M2) → (∀ m4 : ch_M, m4 = M2 → (((x_acR (y_can (ch_ob m 1 0)) 0 0 0) ≤ x3 → ch_J g m_l_asks (ch_rm m_l_asks) (ch_E g m_l_asks Q) 240 [some (.inr (0, 0, 0)), some (.inl (.long x1)), none, some (.inl (.int 1)), o4] [] m4 (k + 1)) ∧ (¬ (x_acR (y_can (ch_ob m 1 0)) 0 0 0) ≤ x3 → ch_J g m_l_asks (ch_rm m_l_asks) (ch_E g m_l_asks Q) 62 [some (.inr (0, 0, 0)), some (.inl (.long x1)), none, some (.inl (.int x3)), some (.inl (.int 0))] [] m4 (k + 1)))))))) : ch_J g m_l_asks (ch_rm m_l_asks) (ch_E g m_l_asks Q) 50 [some (.inr (0, 0, 0)), some (.inl (.long x1)), none, some (.inl (.int x3)), o4] [] m k := by
  refine ch_iload_n (i := 3) d_l_asks_50 rfl rfl ?_
  refine ch_aload_n (i := 0) d_l_asks_51 rfl rfl ?_
  refine ch_iconst (v := 0) d_l_asks_52 (by decide) ?_
  obtain ⟨T_1, h⟩ := h
  have b6 := h.1
  replace h := h.2
  have b7 := h.1
  replace h := h.2
  refine ch_callSX (as := [.inr (0, 0, 0), .inl (.int 0)]) d_l_asks_53 lk_l_186 ms_l_account rfl rfl ⟨Nat.le_of_ble_eq_true rfl, Nat.le_of_ble_eq_true rfl⟩ (Nat.le_of_ble_eq_true rfl) (ch_rk0 (b := 1) hk (Nat.le_of_ble_eq_true rfl) (Nat.le_of_ble_eq_true rfl)) (ch_mono (ch_Ki (fun r3 m4 q5 => ?_)) (t_l_account g (fun (r_ : Int32) (m_ : ch_M) => (∃ (M2 : ch_M), (x_acR (y_can (ch_ob m 1 0)) 0 0 0) = r_ ∧ (a_same m M2) ∧ (a_wr M2) ∧ m_ = M2)) (T_1) (0) m ⟨b6, b7, (fun M2 f0_ f1_ => ⟨M2, rfl, f0_, f1_, rfl⟩)⟩))
  obtain ⟨M2, rfl, f0_, f1_, hm_⟩ := q5
  replace h := h M2 f0_ f1_ m4 hm_
  refine ch_icmp_ge (tgt := 238) d_l_asks_56 (by decide) (fun c => ?_) (fun c => ?_)
  · replace h := h.1 c
    refine ch_iconst (v := 1) d_l_asks_238 (by decide) ?_
    refine ch_istore_n (i := 3) d_l_asks_239 rfl (Nat.le_of_ble_eq_true rfl) (ls' := [some (.inr (0, 0, 0)), some (.inl (.long x1)), none, some (.inl (.int 1)), o4]) rfl ?_
    exact h
  · replace h := h.2 c
    refine ch_iconst (v := 0) d_l_asks_59 (by decide) ?_
    refine ch_istore (i := 4) d_l_asks_60 (Nat.le_of_ble_eq_true rfl) (ls' := [some (.inr (0, 0, 0)), some (.inl (.long x1)), none, some (.inl (.int x3)), some (.inl (.int 0))]) rfl ?_
    exact h
set_option maxHeartbeats 1600000 in
theorem g_l_asks_62 (g : ch_G) (Q : ch_O → ch_M → Prop) (k : Nat) (hk : k + 9 ≤ 1200) (x1 : Int64) (x3 : Int32) (x4 : Int32) (m : ch_M) (h : ((7 ≤ x4 → (∃ T_1 : Nat, (a_inv T_1 m) ∧ (0 ≤ x3 ∧ x3 < m (1, 0, 0) 8) ∧ ((∀ (M2 : ch_M), (a_same m M2) → (a_wr M2) → (∀ m4 : ch_M, m4 = M2 → (∃ T_8 : Nat, (a_inv T_8 m4) ∧ (0 ≤ x3 ∧ x3 < m4 (1, 0, 0) 8) ∧ ((∀ (M9 : ch_M), (a_same m4 M9) → (a_wr M9) → (∀ m11 : ch_M, m11 = M9 → (∃ T_15 : Nat, (a_inv T_15 m11) ∧ (0 ≤ x3 ∧ x3 < m11 (1, 0, 0) 8) ∧ ((∀ (M16 : ch_M), (a_same m11 M16) → (a_wr M16) → (∀ m18 : ch_M, m18 = M16 → (∃ T_22 : Nat, (a_inv T_22 m18) ∧ (0 ≤ x3 ∧ x3 < m18 (1, 0, 0) 8) ∧ ((∀ (M23 : ch_M), (a_same m18 M23) → (a_wr M23) → (∀ m25 : ch_M, m25 = M23 → (∃ T_29 : Nat, (a_inv T_29 m25) ∧ (0 ≤ x3 ∧ x3 < m25 (1, 0, 0) 8) ∧ ((∀ (M30 : ch_M), (a_same m25 M30) → (a_wr M30) → (∀ m32 : ch_M, m32 = M30 → (∃ T_36 : Nat, (a_inv T_36 m32) ∧ (0 ≤ x3 ∧ x3 < m32 (1, 0, 0) 8) ∧ ((∀ (M37 : ch_M), (a_same m32 M37) → (a_wr M37) → (∀ m39 : ch_M, m39 = M37 → (∃ T_43 : Nat, (a_inv T_43 m39) ∧ (0 ≤ x3 ∧ x3 < m39 (1, 0, 0) 8) ∧ ((∀ (M44 : ch_M), (a_same m39 M44) → (a_wr M44) → (∀ m46 : ch_M, m46 = M44 → ch_J g m_l_asks (ch_rm m_l_asks) (ch_E g m_l_asks Q) 174 [some (.inr (0, 0, 0)), some (.inl (.long ((31 * ((31 * ((31 * ((31 * ((31 * ((31 * ((31 * x1) + (Int32.toInt64 (y_ofS ((y_can (ch_ob m 1 0)) 1) x3 0 12)))) + (Int32.toInt64 (w_fl z_B (w_l (y_can (ch_ob m4 1 0)) x3) 12 1 0)))) + (Int32.toInt64 ((w_fo z_B (w_l (y_can (ch_ob m11 1 0)) x3) 14).2)))) + (Int32.toInt64 ((y_lr ((y_can (ch_ob m18 1 0)) 1) x3 12).1)))) + (Int32.toInt64 (V_rf (y_can (ch_ob m25 1 0)) x3)))) + (Int32.toInt64 (V_wl (y_can (ch_ob m32 1 0)) x3)))) + (Int32.toInt64 (V_tf (y_can (ch_ob m39 1 0)) x3))))), none, some (.inl (.int x3)), some (.inl (.int 0))] [] m46 (k + 9)))))))))))))))))))))))))))))) ∧ (¬ 7 ≤ x4 → (∃ T_50 : Nat, (a_inv T_50 m) ∧ (0 ≤ x3 ∧ x3 < m (1, 0, 0) 8) ∧ ((0 : Int32) ≤ x4 ∧ x4 ≤ (6 : Int32)) ∧ ((∀ (M51 : ch_M), (a_same m M51) → (a_wr M51) → (∀ m53 : ch_M, m53 = M51 → ch_J g m_l_asks (ch_rm m_l_asks) (ch_E g m_l_asks Q) 62 [some (.inr (0, 0, 0)), some (.inl (.long ((31 * x1) + (Int32.toInt64 (x_coR (y_can (ch_ob m 1 0)) x3 x4))))), none, some (.inl (.int x3)), some (.inl (.int (x4 + 1)))] [] m53 (k + 2)))))))) : ch_J g m_l_asks (ch_rm m_l_asks) (ch_E g m_l_asks Q) 62 [some (.inr (0, 0, 0)), some (.inl (.long x1)), none, some (.inl (.int x3)), some (.inl (.int x4))] [] m k := by
  refine ch_iload d_l_asks_62 rfl ?_
  refine ch_bipush (v := 7) d_l_asks_64 (by decide) ?_
  refine ch_icmp_ge (tgt := 90) d_l_asks_66 (by decide) (fun c => ?_) (fun c => ?_)
  · replace h := h.1 c
    refine ch_ldc2 (v := 31) d_l_asks_90 lc_l_165 ?_
    refine ch_ldc2 (v := 31) d_l_asks_93 lc_l_165 ?_
    refine ch_ldc2 (v := 31) d_l_asks_96 lc_l_165 ?_
    refine ch_ldc2 (v := 31) d_l_asks_99 lc_l_165 ?_
    refine ch_ldc2 (v := 31) d_l_asks_102 lc_l_165 ?_
    refine ch_lload_n (i := 1) d_l_asks_105 rfl rfl ?_
    refine ch_lmul d_l_asks_106 ?_
    refine ch_aload_n (i := 0) d_l_asks_107 rfl rfl ?_
    refine ch_iload_n (i := 3) d_l_asks_108 rfl rfl ?_
    obtain ⟨T_1, h⟩ := h
    have b6 := h.1
    replace h := h.2
    have b7 := h.1
    replace h := h.2
    refine ch_callSXw (as := [.inr (0, 0, 0), .inl (.int x3)]) d_l_asks_109 lk_l_191 ms_l_squares rfl rfl ⟨Nat.le_of_ble_eq_true rfl, Nat.le_of_ble_eq_true rfl⟩ (Nat.le_of_ble_eq_true rfl) (ch_rk0 (b := 1) hk (Nat.le_of_ble_eq_true rfl) (Nat.le_of_ble_eq_true rfl)) (ch_mono (ch_Ki (fun r3 m4 q5 => ?_)) (t_l_squares g (fun (r_ : Int32) (m_ : ch_M) => (∃ (M2 : ch_M), (y_ofS ((y_can (ch_ob m 1 0)) 1) x3 0 12) = r_ ∧ (a_same m M2) ∧ (a_wr M2) ∧ m_ = M2)) (T_1) (x3) m ⟨b6, b7, (fun M2 f0_ f1_ => ⟨M2, rfl, f0_, f1_, rfl⟩)⟩))
    obtain ⟨M2, rfl, f0_, f1_, hm_⟩ := q5
    replace h := h M2 f0_ f1_ m4 hm_
    refine ch_i2l d_l_asks_112 ?_
    refine ch_ladd d_l_asks_113 ?_
    refine ch_lmul d_l_asks_114 ?_
    refine ch_aload_n (i := 0) d_l_asks_115 rfl rfl ?_
    refine ch_iload_n (i := 3) d_l_asks_116 rfl rfl ?_
    obtain ⟨T_8, h⟩ := h
    have b13 := h.1
    replace h := h.2
    have b14 := h.1
    replace h := h.2
    refine ch_callSX (as := [.inr (0, 0, 0), .inl (.int x3)]) d_l_asks_117 lk_l_193 ms_l_fewest rfl rfl ⟨Nat.le_of_ble_eq_true rfl, Nat.le_of_ble_eq_true rfl⟩ (Nat.le_of_ble_eq_true rfl) (ch_rk (a := 1) (b := 1) hk (Nat.le_of_ble_eq_true rfl) (Nat.le_of_ble_eq_true rfl)) (ch_mono (ch_Ki (fun r10 m11 q12 => ?_)) (t_l_fewest g (fun (r_ : Int32) (m_ : ch_M) => (∃ (M9 : ch_M), (w_fl z_B (w_l (y_can (ch_ob m4 1 0)) x3) 12 1 0) = r_ ∧ (a_same m4 M9) ∧ (a_wr M9) ∧ m_ = M9)) (T_8) (x3) m4 ⟨b13, b14, (fun M9 f0_ f1_ => ⟨M9, rfl, f0_, f1_, rfl⟩)⟩))
    obtain ⟨M9, rfl, f0_, f1_, hm_⟩ := q12
    replace h := h M9 f0_ f1_ m11 hm_
    refine ch_i2l d_l_asks_120 ?_
    refine ch_ladd d_l_asks_121 ?_
    refine ch_lmul d_l_asks_122 ?_
    refine ch_aload_n (i := 0) d_l_asks_123 rfl rfl ?_
    refine ch_iload_n (i := 3) d_l_asks_124 rfl rfl ?_
    obtain ⟨T_15, h⟩ := h
    have b20 := h.1
    replace h := h.2
    have b21 := h.1
    replace h := h.2
    refine ch_callSX (as := [.inr (0, 0, 0), .inl (.int x3)]) d_l_asks_125 lk_l_195 ms_l_fewestAgain rfl rfl ⟨Nat.le_of_ble_eq_true rfl, Nat.le_of_ble_eq_true rfl⟩ (Nat.le_of_ble_eq_true rfl) (ch_rk (a := 2) (b := 1) hk (Nat.le_of_ble_eq_true rfl) (Nat.le_of_ble_eq_true rfl)) (ch_mono (ch_Ki (fun r17 m18 q19 => ?_)) (t_l_fewestAgain g (fun (r_ : Int32) (m_ : ch_M) => (∃ (M16 : ch_M), ((w_fo z_B (w_l (y_can (ch_ob m11 1 0)) x3) 14).2) = r_ ∧ (a_same m11 M16) ∧ (a_wr M16) ∧ m_ = M16)) (T_15) (x3) m11 ⟨b20, b21, (fun M16 f0_ f1_ => ⟨M16, rfl, f0_, f1_, rfl⟩)⟩))
    obtain ⟨M16, rfl, f0_, f1_, hm_⟩ := q19
    replace h := h M16 f0_ f1_ m18 hm_
    refine ch_i2l d_l_asks_128 ?_
    refine ch_ladd d_l_asks_129 ?_
    refine ch_lmul d_l_asks_130 ?_
    refine ch_aload_n (i := 0) d_l_asks_131 rfl rfl ?_
    refine ch_iload_n (i := 3) d_l_asks_132 rfl rfl ?_
    obtain ⟨T_22, h⟩ := h
    have b27 := h.1
    replace h := h.2
    have b28 := h.1
    replace h := h.2
    refine ch_callSX (as := [.inr (0, 0, 0), .inl (.int x3)]) d_l_asks_133 lk_l_197 ms_l_longest rfl rfl ⟨Nat.le_of_ble_eq_true rfl, Nat.le_of_ble_eq_true rfl⟩ (Nat.le_of_ble_eq_true rfl) (ch_rk (a := 3) (b := 1) hk (Nat.le_of_ble_eq_true rfl) (Nat.le_of_ble_eq_true rfl)) (ch_mono (ch_Ki (fun r24 m25 q26 => ?_)) (t_l_longest g (fun (r_ : Int32) (m_ : ch_M) => (∃ (M23 : ch_M), ((y_lr ((y_can (ch_ob m18 1 0)) 1) x3 12).1) = r_ ∧ (a_same m18 M23) ∧ (a_wr M23) ∧ m_ = M23)) (T_22) (x3) m18 ⟨b27, b28, (fun M23 f0_ f1_ => ⟨M23, rfl, f0_, f1_, rfl⟩)⟩))
    obtain ⟨M23, rfl, f0_, f1_, hm_⟩ := q26
    replace h := h M23 f0_ f1_ m25 hm_
    refine ch_i2l d_l_asks_136 ?_
    refine ch_ladd d_l_asks_137 ?_
    refine ch_lmul d_l_asks_138 ?_
    refine ch_aload_n (i := 0) d_l_asks_139 rfl rfl ?_
    refine ch_iload_n (i := 3) d_l_asks_140 rfl rfl ?_
    obtain ⟨T_29, h⟩ := h
    have b34 := h.1
    replace h := h.2
    have b35 := h.1
    replace h := h.2
    refine ch_callSX (as := [.inr (0, 0, 0), .inl (.int x3)]) d_l_asks_141 lk_l_199 ms_l_rainFor rfl rfl ⟨Nat.le_of_ble_eq_true rfl, Nat.le_of_ble_eq_true rfl⟩ (Nat.le_of_ble_eq_true rfl) (ch_rk (a := 4) (b := 2) hk (Nat.le_of_ble_eq_true rfl) (Nat.le_of_ble_eq_true rfl)) (ch_mono (ch_Ki (fun r31 m32 q33 => ?_)) (t_l_rainFor g (fun (r_ : Int32) (m_ : ch_M) => (∃ (M30 : ch_M), (V_rf (y_can (ch_ob m25 1 0)) x3) = r_ ∧ (a_same m25 M30) ∧ (a_wr M30) ∧ m_ = M30)) (T_29) (x3) m25 ⟨b34, b35, (fun M30 f0_ f1_ => ⟨M30, rfl, f0_, f1_, rfl⟩)⟩))
    obtain ⟨M30, rfl, f0_, f1_, hm_⟩ := q33
    replace h := h M30 f0_ f1_ m32 hm_
    refine ch_i2l d_l_asks_144 ?_
    refine ch_ladd d_l_asks_145 ?_
    refine ch_lstore_n (i := 1) d_l_asks_146 rfl (Nat.le_of_ble_eq_true rfl) (ls' := [some (.inr (0, 0, 0)), some (.inl (.long ((31 * ((31 * ((31 * ((31 * ((31 * x1) + (Int32.toInt64 (y_ofS ((y_can (ch_ob m 1 0)) 1) x3 0 12)))) + (Int32.toInt64 (w_fl z_B (w_l (y_can (ch_ob m4 1 0)) x3) 12 1 0)))) + (Int32.toInt64 ((w_fo z_B (w_l (y_can (ch_ob m11 1 0)) x3) 14).2)))) + (Int32.toInt64 ((y_lr ((y_can (ch_ob m18 1 0)) 1) x3 12).1)))) + (Int32.toInt64 (V_rf (y_can (ch_ob m25 1 0)) x3))))), none, some (.inl (.int x3)), some (.inl (.int x4))]) rfl ?_
    refine ch_ldc2 (v := 31) d_l_asks_147 lc_l_165 ?_
    refine ch_ldc2 (v := 31) d_l_asks_150 lc_l_165 ?_
    refine ch_lload_n (i := 1) d_l_asks_153 rfl rfl ?_
    refine ch_lmul d_l_asks_154 ?_
    refine ch_aload_n (i := 0) d_l_asks_155 rfl rfl ?_
    refine ch_iload_n (i := 3) d_l_asks_156 rfl rfl ?_
    obtain ⟨T_36, h⟩ := h
    have b41 := h.1
    replace h := h.2
    have b42 := h.1
    replace h := h.2
    refine ch_callSX (as := [.inr (0, 0, 0), .inl (.int x3)]) d_l_asks_157 lk_l_201 ms_l_wouldLose rfl rfl ⟨Nat.le_of_ble_eq_true rfl, Nat.le_of_ble_eq_true rfl⟩ (Nat.le_of_ble_eq_true rfl) (ch_rk (a := 6) (b := 1) hk (Nat.le_of_ble_eq_true rfl) (Nat.le_of_ble_eq_true rfl)) (ch_mono (ch_Ki (fun r38 m39 q40 => ?_)) (t_l_wouldLose g (fun (r_ : Int32) (m_ : ch_M) => (∃ (M37 : ch_M), (V_wl (y_can (ch_ob m32 1 0)) x3) = r_ ∧ (a_same m32 M37) ∧ (a_wr M37) ∧ m_ = M37)) (T_36) (x3) m32 ⟨b41, b42, (fun M37 f0_ f1_ => ⟨M37, rfl, f0_, f1_, rfl⟩)⟩))
    obtain ⟨M37, rfl, f0_, f1_, hm_⟩ := q40
    replace h := h M37 f0_ f1_ m39 hm_
    refine ch_i2l d_l_asks_160 ?_
    refine ch_ladd d_l_asks_161 ?_
    refine ch_lmul d_l_asks_162 ?_
    refine ch_aload_n (i := 0) d_l_asks_163 rfl rfl ?_
    refine ch_iload_n (i := 3) d_l_asks_164 rfl rfl ?_
    obtain ⟨T_43, h⟩ := h
    have b48 := h.1
    replace h := h.2
    have b49 := h.1
    replace h := h.2
    refine ch_callSX (as := [.inr (0, 0, 0), .inl (.int x3)]) d_l_asks_165 lk_l_203 ms_l_termsFor rfl rfl ⟨Nat.le_of_ble_eq_true rfl, Nat.le_of_ble_eq_true rfl⟩ (Nat.le_of_ble_eq_true rfl) (ch_rk (a := 7) (b := 2) hk (Nat.le_of_ble_eq_true rfl) (Nat.le_of_ble_eq_true rfl)) (ch_mono (ch_Ki (fun r45 m46 q47 => ?_)) (t_l_termsFor g (fun (r_ : Int32) (m_ : ch_M) => (∃ (M44 : ch_M), (V_tf (y_can (ch_ob m39 1 0)) x3) = r_ ∧ (a_same m39 M44) ∧ (a_wr M44) ∧ m_ = M44)) (T_43) (x3) m39 ⟨b48, b49, (fun M44 f0_ f1_ => ⟨M44, rfl, f0_, f1_, rfl⟩)⟩))
    obtain ⟨M44, rfl, f0_, f1_, hm_⟩ := q47
    replace h := h M44 f0_ f1_ m46 hm_
    refine ch_i2l d_l_asks_168 ?_
    refine ch_ladd d_l_asks_169 ?_
    refine ch_lstore_n (i := 1) d_l_asks_170 rfl (Nat.le_of_ble_eq_true rfl) (ls' := [some (.inr (0, 0, 0)), some (.inl (.long ((31 * ((31 * ((31 * ((31 * ((31 * ((31 * ((31 * x1) + (Int32.toInt64 (y_ofS ((y_can (ch_ob m 1 0)) 1) x3 0 12)))) + (Int32.toInt64 (w_fl z_B (w_l (y_can (ch_ob m4 1 0)) x3) 12 1 0)))) + (Int32.toInt64 ((w_fo z_B (w_l (y_can (ch_ob m11 1 0)) x3) 14).2)))) + (Int32.toInt64 ((y_lr ((y_can (ch_ob m18 1 0)) 1) x3 12).1)))) + (Int32.toInt64 (V_rf (y_can (ch_ob m25 1 0)) x3)))) + (Int32.toInt64 (V_wl (y_can (ch_ob m32 1 0)) x3)))) + (Int32.toInt64 (V_tf (y_can (ch_ob m39 1 0)) x3))))), none, some (.inl (.int x3)), some (.inl (.int x4))]) rfl ?_
    refine ch_iconst (v := 0) d_l_asks_171 (by decide) ?_
    refine ch_istore (i := 4) d_l_asks_172 (Nat.le_of_ble_eq_true rfl) (ls' := [some (.inr (0, 0, 0)), some (.inl (.long ((31 * ((31 * ((31 * ((31 * ((31 * ((31 * ((31 * x1) + (Int32.toInt64 (y_ofS ((y_can (ch_ob m 1 0)) 1) x3 0 12)))) + (Int32.toInt64 (w_fl z_B (w_l (y_can (ch_ob m4 1 0)) x3) 12 1 0)))) + (Int32.toInt64 ((w_fo z_B (w_l (y_can (ch_ob m11 1 0)) x3) 14).2)))) + (Int32.toInt64 ((y_lr ((y_can (ch_ob m18 1 0)) 1) x3 12).1)))) + (Int32.toInt64 (V_rf (y_can (ch_ob m25 1 0)) x3)))) + (Int32.toInt64 (V_wl (y_can (ch_ob m32 1 0)) x3)))) + (Int32.toInt64 (V_tf (y_can (ch_ob m39 1 0)) x3))))), none, some (.inl (.int x3)), some (.inl (.int 0))]) rfl ?_
    exact h
  · replace h := h.2 c
    refine ch_ldc2 (v := 31) d_l_asks_69 lc_l_165 ?_
    refine ch_lload_n (i := 1) d_l_asks_72 rfl rfl ?_
    refine ch_lmul d_l_asks_73 ?_
    refine ch_aload_n (i := 0) d_l_asks_74 rfl rfl ?_
    refine ch_iload_n (i := 3) d_l_asks_75 rfl rfl ?_
    refine ch_iload d_l_asks_76 rfl ?_
    obtain ⟨T_50, h⟩ := h
    have b55 := h.1
    replace h := h.2
    have b56 := h.1
    replace h := h.2
    have b57 := h.1
    replace h := h.2
    refine ch_callSX (as := [.inr (0, 0, 0), .inl (.int x3), .inl (.int x4)]) d_l_asks_78 lk_l_188 ms_l_of rfl rfl ⟨Nat.le_of_ble_eq_true rfl, Nat.le_of_ble_eq_true rfl⟩ (Nat.le_of_ble_eq_true rfl) (ch_rk0 (b := 2) hk (Nat.le_of_ble_eq_true rfl) (Nat.le_of_ble_eq_true rfl)) (ch_mono (ch_Ki (fun r52 m53 q54 => ?_)) (t_l_of g (fun (r_ : Int32) (m_ : ch_M) => (∃ (M51 : ch_M), (x_coR (y_can (ch_ob m 1 0)) x3 x4) = r_ ∧ (a_same m M51) ∧ (a_wr M51) ∧ m_ = M51)) (T_50) (x3) (x4) m ⟨b55, b56, b57, (fun M51 f0_ f1_ => ⟨M51, rfl, f0_, f1_, rfl⟩)⟩))
    obtain ⟨M51, rfl, f0_, f1_, hm_⟩ := q54
    replace h := h M51 f0_ f1_ m53 hm_
    refine ch_i2l d_l_asks_81 ?_
    refine ch_ladd d_l_asks_82 ?_
    refine ch_lstore_n (i := 1) d_l_asks_83 rfl (Nat.le_of_ble_eq_true rfl) (ls' := [some (.inr (0, 0, 0)), some (.inl (.long ((31 * x1) + (Int32.toInt64 (x_coR (y_can (ch_ob m 1 0)) x3 x4))))), none, some (.inl (.int x3)), some (.inl (.int x4))]) rfl ?_
    refine ch_iinc (i := 4) (v := (x4 + 1)) d_l_asks_84 rfl rfl (Nat.le_of_ble_eq_true rfl) (ls' := [some (.inr (0, 0, 0)), some (.inl (.long ((31 * x1) + (Int32.toInt64 (x_coR (y_can (ch_ob m 1 0)) x3 x4))))), none, some (.inl (.int x3)), some (.inl (.int (x4 + 1)))]) rfl ?_
    refine ch_goto (tgt := 62) d_l_asks_87 (by decide) ?_
    exact h
set_option maxHeartbeats 1600000 in
theorem g_l_asks_174 (g : ch_G) (Q : ch_O → ch_M → Prop) (k : Nat) (hk : k + 2 ≤ 1200) (x1 : Int64) (x3 : Int32) (x4 : Int32) (m : ch_M) (h : ((6 ≤ x4 → ch_J g m_l_asks (ch_rm m_l_asks) (ch_E g m_l_asks Q) 205 [some (.inr (0, 0, 0)), some (.inl (.long x1)), none, some (.inl (.int x3)), some (.inl (.int 0))] [] m k) ∧ (¬ 6 ≤ x4 → (∃ T_1 : Nat, (a_inv T_1 m) ∧ (0 ≤ x3 ∧ x3 < m (1, 0, 0) 8) ∧ ((∀ (M2 : ch_M), (a_same m M2) → (a_wr M2) → (∀ m4 : ch_M, m4 = M2 → ch_J g m_l_asks (ch_rm m_l_asks) (ch_E g m_l_asks Q) 174 [some (.inr (0, 0, 0)), some (.inl (.long ((31 * x1) + (Int32.toInt64 (V_st (y_can (ch_ob m 1 0)) x3 x4))))), none, some (.inl (.int x3)), some (.inl (.int (x4 + 1)))] [] m4 (k + 2)))))))) : ch_J g m_l_asks (ch_rm m_l_asks) (ch_E g m_l_asks Q) 174 [some (.inr (0, 0, 0)), some (.inl (.long x1)), none, some (.inl (.int x3)), some (.inl (.int x4))] [] m k := by
  refine ch_iload d_l_asks_174 rfl ?_
  refine ch_bipush (v := 6) d_l_asks_176 (by decide) ?_
  refine ch_icmp_ge (tgt := 202) d_l_asks_178 (by decide) (fun c => ?_) (fun c => ?_)
  · replace h := h.1 c
    refine ch_iconst (v := 0) d_l_asks_202 (by decide) ?_
    refine ch_istore (i := 4) d_l_asks_203 (Nat.le_of_ble_eq_true rfl) (ls' := [some (.inr (0, 0, 0)), some (.inl (.long x1)), none, some (.inl (.int x3)), some (.inl (.int 0))]) rfl ?_
    exact h
  · replace h := h.2 c
    refine ch_ldc2 (v := 31) d_l_asks_181 lc_l_165 ?_
    refine ch_lload_n (i := 1) d_l_asks_184 rfl rfl ?_
    refine ch_lmul d_l_asks_185 ?_
    refine ch_aload_n (i := 0) d_l_asks_186 rfl rfl ?_
    refine ch_iload_n (i := 3) d_l_asks_187 rfl rfl ?_
    refine ch_iload d_l_asks_188 rfl ?_
    obtain ⟨T_1, h⟩ := h
    have b6 := h.1
    replace h := h.2
    have b7 := h.1
    replace h := h.2
    refine ch_callSX (as := [.inr (0, 0, 0), .inl (.int x3), .inl (.int x4)]) d_l_asks_190 lk_l_205 ms_l_step rfl rfl ⟨Nat.le_of_ble_eq_true rfl, Nat.le_of_ble_eq_true rfl⟩ (Nat.le_of_ble_eq_true rfl) (ch_rk0 (b := 2) hk (Nat.le_of_ble_eq_true rfl) (Nat.le_of_ble_eq_true rfl)) (ch_mono (ch_Ki (fun r3 m4 q5 => ?_)) (t_l_step g (fun (r_ : Int32) (m_ : ch_M) => (∃ (M2 : ch_M), (V_st (y_can (ch_ob m 1 0)) x3 x4) = r_ ∧ (a_same m M2) ∧ (a_wr M2) ∧ m_ = M2)) (T_1) (x3) (x4) m ⟨b6, b7, (fun M2 f0_ f1_ => ⟨M2, rfl, f0_, f1_, rfl⟩)⟩))
    obtain ⟨M2, rfl, f0_, f1_, hm_⟩ := q5
    replace h := h M2 f0_ f1_ m4 hm_
    refine ch_i2l d_l_asks_193 ?_
    refine ch_ladd d_l_asks_194 ?_
    refine ch_lstore_n (i := 1) d_l_asks_195 rfl (Nat.le_of_ble_eq_true rfl) (ls' := [some (.inr (0, 0, 0)), some (.inl (.long ((31 * x1) + (Int32.toInt64 (V_st (y_can (ch_ob m 1 0)) x3 x4))))), none, some (.inl (.int x3)), some (.inl (.int x4))]) rfl ?_
    refine ch_iinc (i := 4) (v := (x4 + 1)) d_l_asks_196 rfl rfl (Nat.le_of_ble_eq_true rfl) (ls' := [some (.inr (0, 0, 0)), some (.inl (.long ((31 * x1) + (Int32.toInt64 (V_st (y_can (ch_ob m 1 0)) x3 x4))))), none, some (.inl (.int x3)), some (.inl (.int (x4 + 1)))]) rfl ?_
    refine ch_goto (tgt := 174) d_l_asks_199 (by decide) ?_
    exact h
set_option maxHeartbeats 1600000 in
theorem g_l_asks_205 (g : ch_G) (Q : ch_O → ch_M → Prop) (k : Nat) (hk : k + 1 ≤ 1200) (x1 : Int64) (x3 : Int32) (x4 : Int32) (m : ch_M) (h : ((4 ≤ x4 → ch_J g m_l_asks (ch_rm m_l_asks) (ch_E g m_l_asks Q) 50 [some (.inr (0, 0, 0)), some (.inl (.long x1)), none, some (.inl (.int (x3 + 1))), some (.inl (.int x4))] [] m k) ∧ (¬ 4 ≤ x4 → (∃ T_1 : Nat, (a_inv T_1 m) ∧ ((0 : Int32) ≤ x4 ∧ x4 ≤ (3 : Int32)) ∧ (0 ≤ x3 ∧ x3 < m (1, 0, 0) 8) ∧ ((∀ (M2 : ch_M), (a_same m M2) → (a_wr M2) → (∀ m4 : ch_M, m4 = M2 → ch_J g m_l_asks (ch_rm m_l_asks) (ch_E g m_l_asks Q) 205 [some (.inr (0, 0, 0)), some (.inl (.long ((31 * x1) + (Int32.toInt64 (V_rk (y_can (ch_ob m 1 0)) x4 x3))))), none, some (.inl (.int x3)), some (.inl (.int (x4 + 1)))] [] m4 (k + 1)))))))) : ch_J g m_l_asks (ch_rm m_l_asks) (ch_E g m_l_asks Q) 205 [some (.inr (0, 0, 0)), some (.inl (.long x1)), none, some (.inl (.int x3)), some (.inl (.int x4))] [] m k := by
  refine ch_iload d_l_asks_205 rfl ?_
  refine ch_iconst (v := 4) d_l_asks_207 (by decide) ?_
  refine ch_icmp_ge (tgt := 232) d_l_asks_208 (by decide) (fun c => ?_) (fun c => ?_)
  · replace h := h.1 c
    refine ch_iinc (i := 3) (v := (x3 + 1)) d_l_asks_232 rfl rfl (Nat.le_of_ble_eq_true rfl) (ls' := [some (.inr (0, 0, 0)), some (.inl (.long x1)), none, some (.inl (.int (x3 + 1))), some (.inl (.int x4))]) rfl ?_
    refine ch_goto (tgt := 50) d_l_asks_235 (by decide) ?_
    exact h
  · replace h := h.2 c
    refine ch_ldc2 (v := 31) d_l_asks_211 lc_l_165 ?_
    refine ch_lload_n (i := 1) d_l_asks_214 rfl rfl ?_
    refine ch_lmul d_l_asks_215 ?_
    refine ch_aload_n (i := 0) d_l_asks_216 rfl rfl ?_
    refine ch_iload d_l_asks_217 rfl ?_
    refine ch_iload_n (i := 3) d_l_asks_219 rfl rfl ?_
    obtain ⟨T_1, h⟩ := h
    have b6 := h.1
    replace h := h.2
    have b7 := h.1
    replace h := h.2
    have b8 := h.1
    replace h := h.2
    refine ch_callSX (as := [.inr (0, 0, 0), .inl (.int x4), .inl (.int x3)]) d_l_asks_220 lk_l_207 ms_l_ranked rfl rfl ⟨Nat.le_of_ble_eq_true rfl, Nat.le_of_ble_eq_true rfl⟩ (Nat.le_of_ble_eq_true rfl) (ch_rk0 (b := 1) hk (Nat.le_of_ble_eq_true rfl) (Nat.le_of_ble_eq_true rfl)) (ch_mono (ch_Ki (fun r3 m4 q5 => ?_)) (t_l_ranked g (fun (r_ : Int32) (m_ : ch_M) => (∃ (M2 : ch_M), (V_rk (y_can (ch_ob m 1 0)) x4 x3) = r_ ∧ (a_same m M2) ∧ (a_wr M2) ∧ m_ = M2)) (T_1) (x4) (x3) m ⟨b6, b7, b8, (fun M2 f0_ f1_ => ⟨M2, rfl, f0_, f1_, rfl⟩)⟩))
    obtain ⟨M2, rfl, f0_, f1_, hm_⟩ := q5
    replace h := h M2 f0_ f1_ m4 hm_
    refine ch_i2l d_l_asks_223 ?_
    refine ch_ladd d_l_asks_224 ?_
    refine ch_lstore_n (i := 1) d_l_asks_225 rfl (Nat.le_of_ble_eq_true rfl) (ls' := [some (.inr (0, 0, 0)), some (.inl (.long ((31 * x1) + (Int32.toInt64 (V_rk (y_can (ch_ob m 1 0)) x4 x3))))), none, some (.inl (.int x3)), some (.inl (.int x4))]) rfl ?_
    refine ch_iinc (i := 4) (v := (x4 + 1)) d_l_asks_226 rfl rfl (Nat.le_of_ble_eq_true rfl) (ls' := [some (.inr (0, 0, 0)), some (.inl (.long ((31 * x1) + (Int32.toInt64 (V_rk (y_can (ch_ob m 1 0)) x4 x3))))), none, some (.inl (.int x3)), some (.inl (.int (x4 + 1)))]) rfl ?_
    refine ch_goto (tgt := 205) d_l_asks_229 (by decide) ?_
    exact h
set_option maxHeartbeats 1600000 in
theorem g_l_asks_240 (g : ch_G) (Q : ch_O → ch_M → Prop) (k : Nat) (hk : k + 1 ≤ 1200) (x1 : Int64) (x3 : Int32) (o4 : Option ch_V) (m : ch_M) (h : ((10 ≤ x3 → ch_J g m_l_asks (ch_rm m_l_asks) (ch_E g m_l_asks Q) 267 [some (.inr (0, 0, 0)), some (.inl (.long x1)), none, some (.inl (.int 0)), o4] [] m k) ∧ (¬ 10 ≤ x3 → (∃ T_1 : Nat, (a_inv T_1 m) ∧ ((1 : Int32) ≤ x3 ∧ x3 ≤ (9 : Int32)) ∧ ((∀ (M2 : ch_M), (a_same m M2) → (a_wr M2) → (∀ m4 : ch_M, m4 = M2 → ch_J g m_l_asks (ch_rm m_l_asks) (ch_E g m_l_asks Q) 240 [some (.inr (0, 0, 0)), some (.inl (.long ((31 * x1) + (Int32.toInt64 (y_washR (y_can (ch_ob m 1 0)) x3))))), none, some (.inl (.int (x3 + 1))), o4] [] m4 (k + 1)))))))) : ch_J g m_l_asks (ch_rm m_l_asks) (ch_E g m_l_asks Q) 240 [some (.inr (0, 0, 0)), some (.inl (.long x1)), none, some (.inl (.int x3)), o4] [] m k := by
  refine ch_iload_n (i := 3) d_l_asks_240 rfl rfl ?_
  refine ch_bipush (v := 10) d_l_asks_241 (by decide) ?_
  refine ch_icmp_ge (tgt := 265) d_l_asks_243 (by decide) (fun c => ?_) (fun c => ?_)
  · replace h := h.1 c
    refine ch_iconst (v := 0) d_l_asks_265 (by decide) ?_
    refine ch_istore_n (i := 3) d_l_asks_266 rfl (Nat.le_of_ble_eq_true rfl) (ls' := [some (.inr (0, 0, 0)), some (.inl (.long x1)), none, some (.inl (.int 0)), o4]) rfl ?_
    exact h
  · replace h := h.2 c
    refine ch_ldc2 (v := 31) d_l_asks_246 lc_l_165 ?_
    refine ch_lload_n (i := 1) d_l_asks_249 rfl rfl ?_
    refine ch_lmul d_l_asks_250 ?_
    refine ch_aload_n (i := 0) d_l_asks_251 rfl rfl ?_
    refine ch_iload_n (i := 3) d_l_asks_252 rfl rfl ?_
    obtain ⟨T_1, h⟩ := h
    have b6 := h.1
    replace h := h.2
    have b7 := h.1
    replace h := h.2
    refine ch_callSX (as := [.inr (0, 0, 0), .inl (.int x3)]) d_l_asks_253 lk_l_209 ms_l_wouldEnd rfl rfl ⟨Nat.le_of_ble_eq_true rfl, Nat.le_of_ble_eq_true rfl⟩ (Nat.le_of_ble_eq_true rfl) (ch_rk0 (b := 1) hk (Nat.le_of_ble_eq_true rfl) (Nat.le_of_ble_eq_true rfl)) (ch_mono (ch_Ki (fun r3 m4 q5 => ?_)) (t_l_wouldEnd g (fun (r_ : Int32) (m_ : ch_M) => (∃ (M2 : ch_M), (y_washR (y_can (ch_ob m 1 0)) x3) = r_ ∧ (a_same m M2) ∧ (a_wr M2) ∧ m_ = M2)) (T_1) (x3) m ⟨b6, b7, (fun M2 f0_ f1_ => ⟨M2, rfl, f0_, f1_, rfl⟩)⟩))
    obtain ⟨M2, rfl, f0_, f1_, hm_⟩ := q5
    replace h := h M2 f0_ f1_ m4 hm_
    refine ch_i2l d_l_asks_256 ?_
    refine ch_ladd d_l_asks_257 ?_
    refine ch_lstore_n (i := 1) d_l_asks_258 rfl (Nat.le_of_ble_eq_true rfl) (ls' := [some (.inr (0, 0, 0)), some (.inl (.long ((31 * x1) + (Int32.toInt64 (y_washR (y_can (ch_ob m 1 0)) x3))))), none, some (.inl (.int x3)), o4]) rfl ?_
    refine ch_iinc (i := 3) (v := (x3 + 1)) d_l_asks_259 rfl rfl (Nat.le_of_ble_eq_true rfl) (ls' := [some (.inr (0, 0, 0)), some (.inl (.long ((31 * x1) + (Int32.toInt64 (y_washR (y_can (ch_ob m 1 0)) x3))))), none, some (.inl (.int (x3 + 1))), o4]) rfl ?_
    refine ch_goto (tgt := 240) d_l_asks_262 (by decide) ?_
    exact h
set_option maxHeartbeats 1600000 in
theorem g_l_asks_267 (g : ch_G) (Q : ch_O → ch_M → Prop) (k : Nat) (hk : k + 1 ≤ 1200) (x1 : Int64) (x3 : Int32) (o4 : Option ch_V) (m : ch_M) (h : ((5 ≤ x3 → (∃ T_1 : Nat, (a_inv T_1 m) ∧ ((∀ (M2 : ch_M), (a_same m M2) → (a_wr M2) → (M2 (6, 1, 0) 1 = x_ln (y_can (ch_ob m 1 0)) z_B 12 0 1) → (∀ k_, k_ < Int32.toNatClampNeg (x_ln (y_can (ch_ob m 1 0)) z_B 12 0 1) → M2 (6, 1, 1) k_ = x_ln (y_can (ch_ob m 1 0)) z_B 12 1 k_) → (∀ m4 : ch_M, m4 = M2 → ch_J g m_l_asks (ch_rm m_l_asks) (ch_E g m_l_asks Q) 299 [some (.inr (0, 0, 0)), some (.inl (.long x1)), none, some (.inl (.int (x_ln (y_can (ch_ob m 1 0)) z_B 12 0 1))), some (.inl (.int 0))] [] m4 k))))) ∧ (¬ 5 ≤ x3 → (∃ T_7 : Nat, (a_inv T_7 m) ∧ ((∀ (M8 : ch_M), (a_same m M8) → (a_wr M8) → (∀ m10 : ch_M, m10 = M8 → ch_J g m_l_asks (ch_rm m_l_asks) (ch_E g m_l_asks Q) 267 [some (.inr (0, 0, 0)), some (.inl (.long ((31 * x1) + (Int32.toInt64 (V_wa (y_can (ch_ob m 1 0)) x3))))), none, some (.inl (.int (x3 + 1))), o4] [] m10 (k + 1)))))))) : ch_J g m_l_asks (ch_rm m_l_asks) (ch_E g m_l_asks Q) 267 [some (.inr (0, 0, 0)), some (.inl (.long x1)), none, some (.inl (.int x3)), o4] [] m k := by
  refine ch_iload_n (i := 3) d_l_asks_267 rfl rfl ?_
  refine ch_iconst (v := 5) d_l_asks_268 (by decide) ?_
  refine ch_icmp_ge (tgt := 291) d_l_asks_269 (by decide) (fun c => ?_) (fun c => ?_)
  · replace h := h.1 c
    refine ch_aload_n (i := 0) d_l_asks_291 rfl rfl ?_
    obtain ⟨T_1, h⟩ := h
    have b6 := h.1
    replace h := h.2
    refine ch_callV (as := []) d_l_asks_292 lk_l_213 mi_x_line me_x_line rfl rfl rfl ⟨Nat.le_of_ble_eq_true rfl, Nat.le_of_ble_eq_true rfl⟩ (Nat.le_of_ble_eq_true rfl) (ch_rk0 (b := 0) hk (Nat.le_of_ble_eq_true rfl) (Nat.le_of_ble_eq_true rfl)) (ch_mono (ch_Ki (fun r3 m4 q5 => ?_)) (t_x_line g (fun (r_ : Int32) (m_ : ch_M) => (∃ (M2 : ch_M), (x_ln (y_can (ch_ob m 1 0)) z_B 12 0 1) = r_ ∧ (a_same m M2) ∧ (a_wr M2) ∧ (M2 (6, 1, 0) 1 = x_ln (y_can (ch_ob m 1 0)) z_B 12 0 1) ∧ (∀ k_, k_ < Int32.toNatClampNeg (x_ln (y_can (ch_ob m 1 0)) z_B 12 0 1) → M2 (6, 1, 1) k_ = x_ln (y_can (ch_ob m 1 0)) z_B 12 1 k_) ∧ m_ = M2)) (T_1) m ⟨b6, (fun M2 f0_ f1_ f2_ f3_ => ⟨M2, rfl, f0_, f1_, f2_, f3_, rfl⟩)⟩))
    obtain ⟨M2, rfl, f0_, f1_, f2_, f3_, hm_⟩ := q5
    replace h := h M2 f0_ f1_ f2_ f3_ m4 hm_
    refine ch_istore_n (i := 3) d_l_asks_295 rfl (Nat.le_of_ble_eq_true rfl) (ls' := [some (.inr (0, 0, 0)), some (.inl (.long x1)), none, some (.inl (.int (x_ln (y_can (ch_ob m 1 0)) z_B 12 0 1))), o4]) rfl ?_
    refine ch_iconst (v := 0) d_l_asks_296 (by decide) ?_
    refine ch_istore (i := 4) d_l_asks_297 (Nat.le_of_ble_eq_true rfl) (ls' := [some (.inr (0, 0, 0)), some (.inl (.long x1)), none, some (.inl (.int (x_ln (y_can (ch_ob m 1 0)) z_B 12 0 1))), some (.inl (.int 0))]) rfl ?_
    exact h
  · replace h := h.2 c
    refine ch_ldc2 (v := 31) d_l_asks_272 lc_l_165 ?_
    refine ch_lload_n (i := 1) d_l_asks_275 rfl rfl ?_
    refine ch_lmul d_l_asks_276 ?_
    refine ch_aload_n (i := 0) d_l_asks_277 rfl rfl ?_
    refine ch_iload_n (i := 3) d_l_asks_278 rfl rfl ?_
    obtain ⟨T_7, h⟩ := h
    have b12 := h.1
    replace h := h.2
    refine ch_callSX (as := [.inr (0, 0, 0), .inl (.int x3)]) d_l_asks_279 lk_l_211 ms_l_warrantAt rfl rfl ⟨Nat.le_of_ble_eq_true rfl, Nat.le_of_ble_eq_true rfl⟩ (Nat.le_of_ble_eq_true rfl) (ch_rk0 (b := 1) hk (Nat.le_of_ble_eq_true rfl) (Nat.le_of_ble_eq_true rfl)) (ch_mono (ch_Ki (fun r9 m10 q11 => ?_)) (t_l_warrantAt g (fun (r_ : Int32) (m_ : ch_M) => (∃ (M8 : ch_M), (V_wa (y_can (ch_ob m 1 0)) x3) = r_ ∧ (a_same m M8) ∧ (a_wr M8) ∧ m_ = M8)) (T_7) (x3) m ⟨b12, (fun M8 f0_ f1_ => ⟨M8, rfl, f0_, f1_, rfl⟩)⟩))
    obtain ⟨M8, rfl, f0_, f1_, hm_⟩ := q11
    replace h := h M8 f0_ f1_ m10 hm_
    refine ch_i2l d_l_asks_282 ?_
    refine ch_ladd d_l_asks_283 ?_
    refine ch_lstore_n (i := 1) d_l_asks_284 rfl (Nat.le_of_ble_eq_true rfl) (ls' := [some (.inr (0, 0, 0)), some (.inl (.long ((31 * x1) + (Int32.toInt64 (V_wa (y_can (ch_ob m 1 0)) x3))))), none, some (.inl (.int x3)), o4]) rfl ?_
    refine ch_iinc (i := 3) (v := (x3 + 1)) d_l_asks_285 rfl rfl (Nat.le_of_ble_eq_true rfl) (ls' := [some (.inr (0, 0, 0)), some (.inl (.long ((31 * x1) + (Int32.toInt64 (V_wa (y_can (ch_ob m 1 0)) x3))))), none, some (.inl (.int (x3 + 1))), o4]) rfl ?_
    refine ch_goto (tgt := 267) d_l_asks_288 (by decide) ?_
    exact h
set_option maxHeartbeats 1600000 in
theorem g_l_asks_299 (g : ch_G) (Q : ch_O → ch_M → Prop) (k : Nat) (hk : k + 1 ≤ 1200) (x1 : Int64) (x3 : Int32) (x4 : Int32) (m : ch_M) (h : ((x3 ≤ x4 → (∃ T_1 : Nat, (a_inv T_1 m) ∧ ((∀ (M2 : ch_M), (a_same m M2) → (a_wr M2) → (M2 (6, 1, 0) 1 = V_wn (y_can (ch_ob m 1 0)) 0 1) → (∀ k_, k_ < Int32.toNatClampNeg (V_wn (y_can (ch_ob m 1 0)) 0 1) → M2 (6, 1, 1) k_ = V_wn (y_can (ch_ob m 1 0)) 1 k_) → (∀ m4 : ch_M, m4 = M2 → ch_J g m_l_asks (ch_rm m_l_asks) (ch_E g m_l_asks Q) 333 [some (.inr (0, 0, 0)), some (.inl (.long x1)), none, some (.inl (.int (V_wn (y_can (ch_ob m 1 0)) 0 1))), some (.inl (.int 0))] [] m4 k))))) ∧ (¬ x3 ≤ x4 → (∃ T_7 : Nat, (a_inv T_7 m) ∧ (0 ≤ x4 ∧ x4 < m (6, 1, 0) 1) ∧ (ch_J g m_l_asks (ch_rm m_l_asks) (ch_E g m_l_asks Q) 299 [some (.inr (0, 0, 0)), some (.inl (.long ((31 * x1) + (Int32.toInt64 (m (6, 1, 1) (Int32.toNatClampNeg x4)))))), none, some (.inl (.int x3)), some (.inl (.int (x4 + 1)))] [] m (k + 1)))))) : ch_J g m_l_asks (ch_rm m_l_asks) (ch_E g m_l_asks Q) 299 [some (.inr (0, 0, 0)), some (.inl (.long x1)), none, some (.inl (.int x3)), some (.inl (.int x4))] [] m k := by
  refine ch_iload d_l_asks_299 rfl ?_
  refine ch_iload_n (i := 3) d_l_asks_301 rfl rfl ?_
  refine ch_icmp_ge (tgt := 325) d_l_asks_302 (by decide) (fun c => ?_) (fun c => ?_)
  · replace h := h.1 c
    refine ch_aload_n (i := 0) d_l_asks_325 rfl rfl ?_
    obtain ⟨T_1, h⟩ := h
    have b6 := h.1
    replace h := h.2
    refine ch_callV (as := []) d_l_asks_326 lk_l_216 mi_x_warrants me_x_warrants rfl rfl rfl ⟨Nat.le_of_ble_eq_true rfl, Nat.le_of_ble_eq_true rfl⟩ (Nat.le_of_ble_eq_true rfl) (ch_rk0 (b := 0) hk (Nat.le_of_ble_eq_true rfl) (Nat.le_of_ble_eq_true rfl)) (ch_mono (ch_Ki (fun r3 m4 q5 => ?_)) (t_x_warrants g (fun (r_ : Int32) (m_ : ch_M) => (∃ (M2 : ch_M), (V_wn (y_can (ch_ob m 1 0)) 0 1) = r_ ∧ (a_same m M2) ∧ (a_wr M2) ∧ (M2 (6, 1, 0) 1 = V_wn (y_can (ch_ob m 1 0)) 0 1) ∧ (∀ k_, k_ < Int32.toNatClampNeg (V_wn (y_can (ch_ob m 1 0)) 0 1) → M2 (6, 1, 1) k_ = V_wn (y_can (ch_ob m 1 0)) 1 k_) ∧ m_ = M2)) (T_1) m ⟨b6, (fun M2 f0_ f1_ f2_ f3_ => ⟨M2, rfl, f0_, f1_, f2_, f3_, rfl⟩)⟩))
    obtain ⟨M2, rfl, f0_, f1_, f2_, f3_, hm_⟩ := q5
    replace h := h M2 f0_ f1_ f2_ f3_ m4 hm_
    refine ch_istore_n (i := 3) d_l_asks_329 rfl (Nat.le_of_ble_eq_true rfl) (ls' := [some (.inr (0, 0, 0)), some (.inl (.long x1)), none, some (.inl (.int (V_wn (y_can (ch_ob m 1 0)) 0 1))), some (.inl (.int x4))]) rfl ?_
    refine ch_iconst (v := 0) d_l_asks_330 (by decide) ?_
    refine ch_istore (i := 4) d_l_asks_331 (Nat.le_of_ble_eq_true rfl) (ls' := [some (.inr (0, 0, 0)), some (.inl (.long x1)), none, some (.inl (.int (V_wn (y_can (ch_ob m 1 0)) 0 1))), some (.inl (.int 0))]) rfl ?_
    exact h
  · replace h := h.2 c
    refine ch_ldc2 (v := 31) d_l_asks_305 lc_l_165 ?_
    refine ch_lload_n (i := 1) d_l_asks_308 rfl rfl ?_
    refine ch_lmul d_l_asks_309 ?_
    refine ch_aload_n (i := 0) d_l_asks_310 rfl rfl ?_
    refine ch_iload d_l_asks_311 rfl ?_
    obtain ⟨T_7, h⟩ := h
    have b11 := h.1
    replace h := h.2
    have b12 := h.1
    replace h := h.2
    refine ch_callSX (as := [.inr (0, 0, 0), .inl (.int x4)]) d_l_asks_313 lk_l_144 ms_l_character rfl rfl ⟨Nat.le_of_ble_eq_true rfl, Nat.le_of_ble_eq_true rfl⟩ (Nat.le_of_ble_eq_true rfl) (ch_rk0 (b := 1) hk (Nat.le_of_ble_eq_true rfl) (Nat.le_of_ble_eq_true rfl)) (ch_mono (ch_Ki (fun r8 m9 q10 => ?_)) (t_l_character g (fun (r_ : Int32) (m_ : ch_M) => ((m (6, 1, 1) (Int32.toNatClampNeg x4)) = r_ ∧ m = m_)) (T_7) (x4) m ⟨b11, b12, ⟨rfl, rfl⟩⟩))
    obtain ⟨rfl, rfl⟩ := q10
    replace h := h
    refine ch_i2l d_l_asks_316 ?_
    refine ch_ladd d_l_asks_317 ?_
    refine ch_lstore_n (i := 1) d_l_asks_318 rfl (Nat.le_of_ble_eq_true rfl) (ls' := [some (.inr (0, 0, 0)), some (.inl (.long ((31 * x1) + (Int32.toInt64 (m (6, 1, 1) (Int32.toNatClampNeg x4)))))), none, some (.inl (.int x3)), some (.inl (.int x4))]) rfl ?_
    refine ch_iinc (i := 4) (v := (x4 + 1)) d_l_asks_319 rfl rfl (Nat.le_of_ble_eq_true rfl) (ls' := [some (.inr (0, 0, 0)), some (.inl (.long ((31 * x1) + (Int32.toInt64 (m (6, 1, 1) (Int32.toNatClampNeg x4)))))), none, some (.inl (.int x3)), some (.inl (.int (x4 + 1)))]) rfl ?_
    refine ch_goto (tgt := 299) d_l_asks_322 (by decide) ?_
    exact h
set_option maxHeartbeats 1600000 in
theorem g_l_asks_333 (g : ch_G) (Q : ch_O → ch_M → Prop) (k : Nat) (hk : k + 1 ≤ 1200) (x1 : Int64) (x3 : Int32) (x4 : Int32) (m : ch_M) (h : ((x3 ≤ x4 → (∃ T_1 : Nat, (a_inv T_1 m) ∧ ((∀ (M2 : ch_M), (a_same m M2) → (a_wr M2) → (∀ m4 : ch_M, m4 = M2 → Q (.inl (some (.inl (.long ((31 * x1) + (Int32.toInt64 ((y_lr ((y_can (ch_ob m 1 0)) 1) (-1) 12).1))))))) m4))))) ∧ (¬ x3 ≤ x4 → (∃ T_7 : Nat, (a_inv T_7 m) ∧ (0 ≤ x4 ∧ x4 < m (6, 1, 0) 1) ∧ (ch_J g m_l_asks (ch_rm m_l_asks) (ch_E g m_l_asks Q) 333 [some (.inr (0, 0, 0)), some (.inl (.long ((31 * x1) + (Int32.toInt64 (m (6, 1, 1) (Int32.toNatClampNeg x4)))))), none, some (.inl (.int x3)), some (.inl (.int (x4 + 1)))] [] m (k + 1)))))) : ch_J g m_l_asks (ch_rm m_l_asks) (ch_E g m_l_asks Q) 333 [some (.inr (0, 0, 0)), some (.inl (.long x1)), none, some (.inl (.int x3)), some (.inl (.int x4))] [] m k := by
  refine ch_iload d_l_asks_333 rfl ?_
  refine ch_iload_n (i := 3) d_l_asks_335 rfl rfl ?_
  refine ch_icmp_ge (tgt := 359) d_l_asks_336 (by decide) (fun c => ?_) (fun c => ?_)
  · replace h := h.1 c
    refine ch_ldc2 (v := 31) d_l_asks_359 lc_l_165 ?_
    refine ch_lload_n (i := 1) d_l_asks_362 rfl rfl ?_
    refine ch_lmul d_l_asks_363 ?_
    refine ch_aload_n (i := 0) d_l_asks_364 rfl rfl ?_
    obtain ⟨T_1, h⟩ := h
    have b6 := h.1
    replace h := h.2
    refine ch_callV (as := []) d_l_asks_365 lk_l_219 mi_x_gap me_x_gap rfl rfl rfl ⟨Nat.le_of_ble_eq_true rfl, Nat.le_of_ble_eq_true rfl⟩ (Nat.le_of_ble_eq_true rfl) (ch_rk0 (b := 0) hk (Nat.le_of_ble_eq_true rfl) (Nat.le_of_ble_eq_true rfl)) (ch_mono (ch_Ki (fun r3 m4 q5 => ?_)) (t_x_gap g (fun (r_ : Int32) (m_ : ch_M) => (∃ (M2 : ch_M), ((y_lr ((y_can (ch_ob m 1 0)) 1) (-1) 12).1) = r_ ∧ (a_same m M2) ∧ (a_wr M2) ∧ m_ = M2)) (T_1) m ⟨b6, (fun M2 f0_ f1_ => ⟨M2, rfl, f0_, f1_, rfl⟩)⟩))
    obtain ⟨M2, rfl, f0_, f1_, hm_⟩ := q5
    replace h := h M2 f0_ f1_ m4 hm_
    refine ch_i2l d_l_asks_368 ?_
    refine ch_ladd d_l_asks_369 ?_
    exact ch_lret d_l_asks_370 rfl (show k ≤ 1200 by omega) h
  · replace h := h.2 c
    refine ch_ldc2 (v := 31) d_l_asks_339 lc_l_165 ?_
    refine ch_lload_n (i := 1) d_l_asks_342 rfl rfl ?_
    refine ch_lmul d_l_asks_343 ?_
    refine ch_aload_n (i := 0) d_l_asks_344 rfl rfl ?_
    refine ch_iload d_l_asks_345 rfl ?_
    obtain ⟨T_7, h⟩ := h
    have b11 := h.1
    replace h := h.2
    have b12 := h.1
    replace h := h.2
    refine ch_callSX (as := [.inr (0, 0, 0), .inl (.int x4)]) d_l_asks_347 lk_l_144 ms_l_character rfl rfl ⟨Nat.le_of_ble_eq_true rfl, Nat.le_of_ble_eq_true rfl⟩ (Nat.le_of_ble_eq_true rfl) (ch_rk0 (b := 1) hk (Nat.le_of_ble_eq_true rfl) (Nat.le_of_ble_eq_true rfl)) (ch_mono (ch_Ki (fun r8 m9 q10 => ?_)) (t_l_character g (fun (r_ : Int32) (m_ : ch_M) => ((m (6, 1, 1) (Int32.toNatClampNeg x4)) = r_ ∧ m = m_)) (T_7) (x4) m ⟨b11, b12, ⟨rfl, rfl⟩⟩))
    obtain ⟨rfl, rfl⟩ := q10
    replace h := h
    refine ch_i2l d_l_asks_350 ?_
    refine ch_ladd d_l_asks_351 ?_
    refine ch_lstore_n (i := 1) d_l_asks_352 rfl (Nat.le_of_ble_eq_true rfl) (ls' := [some (.inr (0, 0, 0)), some (.inl (.long ((31 * x1) + (Int32.toInt64 (m (6, 1, 1) (Int32.toNatClampNeg x4)))))), none, some (.inl (.int x3)), some (.inl (.int x4))]) rfl ?_
    refine ch_iinc (i := 4) (v := (x4 + 1)) d_l_asks_353 rfl rfl (Nat.le_of_ble_eq_true rfl) (ls' := [some (.inr (0, 0, 0)), some (.inl (.long ((31 * x1) + (Int32.toInt64 (m (6, 1, 1) (Int32.toNatClampNeg x4)))))), none, some (.inl (.int x3)), some (.inl (.int (x4 + 1)))]) rfl ?_
    refine ch_goto (tgt := 333) d_l_asks_356 (by decide) ?_
    exact h
