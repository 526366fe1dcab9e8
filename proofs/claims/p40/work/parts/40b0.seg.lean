theorem e_l_changes (g : ch_G) (Q : ch_O → ch_M → Prop) (p1 : Int32) (m : ch_M) (h : ch_J g m_l_changes (ch_rm m_l_changes) (ch_E g m_l_changes Q) 0 [some (.inr (0, 0, 0)), some (.inl (.int p1)), none] [] m 0) : ch_C g m_l_changes [.inr (0, 0, 0), .inl (.int p1)] m Q :=
  ch_enter mf_l_changes (by intro v hv; simp only [List.mem_cons, List.not_mem_nil, or_false] at hv; rcases hv with rfl | rfl <;> rfl) (Nat.le_of_ble_eq_true rfl) h
set_option maxHeartbeats 1600000 in
theorem g_l_changes_0 (g : ch_G) (Q : ch_O → ch_M → Prop) (k : Nat) (hk : k + 3 ≤ 200) (p1 : Int32) (m : ch_M) (h : (∃ T_1 : Nat, (a_inv T_1 m) ∧ ((0 : Int32) ≤ 0 ∧ 0 ≤ (9 : Int32)) ∧ ((∀ (M2 : ch_M), (a_same m M2) → (a_wr M2) → (∀ m4 : ch_M, m4 = M2 → (¬ ((x_acR (y_can (ch_ob m 1 0)) 0 0 0) + 1) = (0 : Int32)) ∧ ((¬ 22 = (0 : Int32)) ∧ ((((l_sm p1 22) = 0 → (¬ 101 = (0 : Int32)) ∧ ((∃ A_20 : a_G, (a_S A_20 m4) ∧ (A_20.1 + 720 < 2 ^ 31) ∧ (0 < A_20.1) ∧ ((∀ (R21 : Int32) (M22 : ch_M), (a_R A_20 m4 R21 M22) → (∀ m24 : ch_M, m24 = M22 → ((R21 < 0 → Q (.inl (some (.inl (.int 0)))) m24) ∧ (¬ R21 < 0 → Q (.inl (some (.inl (.int 1)))) m24)))))))) ∧ ((l_sm p1 22) = 1 → (¬ 13 = (0 : Int32)) ∧ ((∃ A_33 : a_G, (a_S A_33 m4) ∧ (A_33.1 + 720 < 2 ^ 31) ∧ (0 < A_33.1) ∧ ((∀ (R34 : Int32) (M35 : ch_M), (a_R A_33 m4 R34 M35) → (∀ m37 : ch_M, m37 = M35 → ((R34 < 0 → Q (.inl (some (.inl (.int 0)))) m37) ∧ (¬ R34 < 0 → Q (.inl (some (.inl (.int 1)))) m37)))))))) ∧ ((l_sm p1 22) = 2 → (¬ 13 = (0 : Int32)) ∧ ((∃ A_46 : a_G, (a_S A_46 m4) ∧ (A_46.1 + 720 < 2 ^ 31) ∧ (0 < A_46.1) ∧ ((∀ (R47 : Int32) (M48 : ch_M), (a_R A_46 m4 R47 M48) → (∀ m50 : ch_M, m50 = M48 → ((R47 < 0 → Q (.inl (some (.inl (.int 0)))) m50) ∧ (¬ R47 < 0 → Q (.inl (some (.inl (.int 1)))) m50)))))))) ∧ ((l_sm p1 22) = 3 → (¬ 13 = (0 : Int32)) ∧ ((∃ A_59 : a_G, (a_S A_59 m4) ∧ (A_59.1 + 720 < 2 ^ 31) ∧ (0 < A_59.1) ∧ ((∀ (R60 : Int32) (M61 : ch_M), (a_R A_59 m4 R60 M61) → (∀ m63 : ch_M, m63 = M61 → ((R60 < 0 → Q (.inl (some (.inl (.int 0)))) m63) ∧ (¬ R60 < 0 → Q (.inl (some (.inl (.int 1)))) m63)))))))) ∧ ((l_sm p1 22) = 4 → (¬ 13 = (0 : Int32)) ∧ ((∃ A_72 : a_G, (a_S A_72 m4) ∧ (A_72.1 + 720 < 2 ^ 31) ∧ (0 < A_72.1) ∧ ((∀ (R73 : Int32) (M74 : ch_M), (a_R A_72 m4 R73 M74) → (∀ m76 : ch_M, m76 = M74 → ((R73 < 0 → Q (.inl (some (.inl (.int 0)))) m76) ∧ (¬ R73 < 0 → Q (.inl (some (.inl (.int 1)))) m76)))))))) ∧ ((l_sm p1 22) = 5 → (¬ 7 = (0 : Int32)) ∧ (((¬ (l_sm (p1 >>> (8 &&& (31 : Int32))) 7) = 0 → ((∀ (R85 : Int32), (l_gd R85 = true) → (∃ A_89 : a_G, (a_S A_89 m4) ∧ (A_89.1 + 720 < 2 ^ 31) ∧ (0 < A_89.1) ∧ ((∀ (R90 : Int32) (M91 : ch_M), (a_R A_89 m4 R90 M91) → (∀ m93 : ch_M, m93 = M91 → ((R90 < 0 → Q (.inl (some (.inl (.int 0)))) m93) ∧ (¬ R90 < 0 → Q (.inl (some (.inl (.int 1)))) m93))))))))) ∧ ((l_sm (p1 >>> (8 &&& (31 : Int32))) 7) = 0 → (∃ A_98 : a_G, (a_S A_98 m4) ∧ (A_98.1 + 720 < 2 ^ 31) ∧ (0 < A_98.1) ∧ ((∀ (R99 : Int32) (M100 : ch_M), (a_R A_98 m4 R99 M100) → (∀ m102 : ch_M, m102 = M100 → ((R99 < 0 → Q (.inl (some (.inl (.int 0)))) m102) ∧ (¬ R99 < 0 → Q (.inl (some (.inl (.int 1)))) m102)))))))))) ∧ ((l_sm p1 22) = 6 → (¬ 7 = (0 : Int32)) ∧ (((¬ (l_sm (p1 >>> (8 &&& (31 : Int32))) 7) = 0 → ((∀ (R111 : Int32), (l_gd R111 = true) → (∃ A_115 : a_G, (a_S A_115 m4) ∧ (A_115.1 + 720 < 2 ^ 31) ∧ (0 < A_115.1) ∧ ((∀ (R116 : Int32) (M117 : ch_M), (a_R A_115 m4 R116 M117) → (∀ m119 : ch_M, m119 = M117 → ((R116 < 0 → Q (.inl (some (.inl (.int 0)))) m119) ∧ (¬ R116 < 0 → Q (.inl (some (.inl (.int 1)))) m119))))))))) ∧ ((l_sm (p1 >>> (8 &&& (31 : Int32))) 7) = 0 → (∃ A_124 : a_G, (a_S A_124 m4) ∧ (A_124.1 + 720 < 2 ^ 31) ∧ (0 < A_124.1) ∧ ((∀ (R125 : Int32) (M126 : ch_M), (a_R A_124 m4 R125 M126) → (∀ m128 : ch_M, m128 = M126 → ((R125 < 0 → Q (.inl (some (.inl (.int 0)))) m128) ∧ (¬ R125 < 0 → Q (.inl (some (.inl (.int 1)))) m128)))))))))) ∧ ((l_sm p1 22) = 7 → (¬ 7 = (0 : Int32)) ∧ (((¬ (l_sm (p1 >>> (8 &&& (31 : Int32))) 7) = 0 → ((∀ (R137 : Int32), (l_gd R137 = true) → (∃ A_141 : a_G, (a_S A_141 m4) ∧ (A_141.1 + 720 < 2 ^ 31) ∧ (0 < A_141.1) ∧ ((∀ (R142 : Int32) (M143 : ch_M), (a_R A_141 m4 R142 M143) → (∀ m145 : ch_M, m145 = M143 → ((R142 < 0 → Q (.inl (some (.inl (.int 0)))) m145) ∧ (¬ R142 < 0 → Q (.inl (some (.inl (.int 1)))) m145))))))))) ∧ ((l_sm (p1 >>> (8 &&& (31 : Int32))) 7) = 0 → (∃ A_150 : a_G, (a_S A_150 m4) ∧ (A_150.1 + 720 < 2 ^ 31) ∧ (0 < A_150.1) ∧ ((∀ (R151 : Int32) (M152 : ch_M), (a_R A_150 m4 R151 M152) → (∀ m154 : ch_M, m154 = M152 → ((R151 < 0 → Q (.inl (some (.inl (.int 0)))) m154) ∧ (¬ R151 < 0 → Q (.inl (some (.inl (.int 1)))) m154)))))))))) ∧ ((l_sm p1 22) = 8 → (¬ 7 = (0 : Int32)) ∧ (((¬ (l_sm (p1 >>> (8 &&& (31 : Int32))) 7) = 0 → ((∀ (R163 : Int32), (l_gd R163 = true) → (∃ A_167 : a_G, (a_S A_167 m4) ∧ (A_167.1 + 720 < 2 ^ 31) ∧ (0 < A_167.1) ∧ ((∀ (R168 : Int32) (M169 : ch_M), (a_R A_167 m4 R168 M169) → (∀ m171 : ch_M, m171 = M169 → ((R168 < 0 → Q (.inl (some (.inl (.int 0)))) m171) ∧ (¬ R168 < 0 → Q (.inl (some (.inl (.int 1)))) m171))))))))) ∧ ((l_sm (p1 >>> (8 &&& (31 : Int32))) 7) = 0 → (∃ A_176 : a_G, (a_S A_176 m4) ∧ (A_176.1 + 720 < 2 ^ 31) ∧ (0 < A_176.1) ∧ ((∀ (R177 : Int32) (M178 : ch_M), (a_R A_176 m4 R177 M178) → (∀ m180 : ch_M, m180 = M178 → ((R177 < 0 → Q (.inl (some (.inl (.int 0)))) m180) ∧ (¬ R177 < 0 → Q (.inl (some (.inl (.int 1)))) m180)))))))))) ∧ ((l_sm p1 22) = 9 → (∃ A_185 : a_G, (a_S A_185 m4) ∧ (A_185.1 + 720 < 2 ^ 31) ∧ (0 < A_185.1) ∧ ((∀ (R186 : Int32) (M187 : ch_M), (a_R A_185 m4 R186 M187) → (∀ m189 : ch_M, m189 = M187 → ((R186 < 0 → Q (.inl (some (.inl (.int 0)))) m189) ∧ (¬ R186 < 0 → Q (.inl (some (.inl (.int 1)))) m189))))))) ∧ ((l_sm p1 22) = 10 → (∃ A_194 : a_G, (a_S A_194 m4) ∧ (A_194.1 + 720 < 2 ^ 31) ∧ (0 < A_194.1) ∧ ((∀ (R195 : Int32) (M196 : ch_M), (a_R A_194 m4 R195 M196) → (∀ m198 : ch_M, m198 = M196 → ((R195 < 0 → Q (.inl (some (.inl (.int 0)))) m198) ∧ (¬ R195 < 0 → Q (.inl (some (.inl (.int 1)))) m198))))))) ∧ ((l_sm p1 22) = 11 → (∃ A_203 : a_G, (a_S A_203 m4) ∧ (A_203.1 + 720 < 2 ^ 31) ∧ (0 < A_203.1) ∧ ((∀ (R204 : Int32) (M205 : ch_M), (a_R A_203 m4 R204 M205) → (∀ m207 : ch_M, m207 = M205 → ((R204 < 0 → Q (.inl (some (.inl (.int 0)))) m207) ∧ (¬ R204 < 0 → Q (.inl (some (.inl (.int 1)))) m207))))))) ∧ ((l_sm p1 22) = 12 → (¬ 5 = (0 : Int32)) ∧ ((∃ A_216 : a_G, (a_S A_216 m4) ∧ (A_216.1 + 720 < 2 ^ 31) ∧ (0 < A_216.1) ∧ ((∀ (R217 : Int32) (M218 : ch_M), (a_R A_216 m4 R217 M218) → (∀ m220 : ch_M, m220 = M218 → ((R217 < 0 → Q (.inl (some (.inl (.int 0)))) m220) ∧ (¬ R217 < 0 → Q (.inl (some (.inl (.int 1)))) m220)))))))) ∧ ((l_sm p1 22) = 13 → (¬ 5 = (0 : Int32)) ∧ ((∃ A_229 : a_G, (a_S A_229 m4) ∧ (A_229.1 + 720 < 2 ^ 31) ∧ (0 < A_229.1) ∧ ((∀ (R230 : Int32) (M231 : ch_M), (a_R A_229 m4 R230 M231) → (∀ m233 : ch_M, m233 = M231 → ((R230 < 0 → Q (.inl (some (.inl (.int 0)))) m233) ∧ (¬ R230 < 0 → Q (.inl (some (.inl (.int 1)))) m233)))))))) ∧ ((l_sm p1 22) = 14 → (∃ T_238 : Nat, (a_inv T_238 m4) ∧ ((0 : Int32) ≤ 0 ∧ 0 ≤ (9 : Int32)) ∧ ((∀ (M239 : ch_M), (a_same m4 M239) → (a_wr M239) → (∀ m241 : ch_M, m241 = M239 → (¬ ((x_acR (y_can (ch_ob m4 1 0)) 0 0 0) + 1) = (0 : Int32)) ∧ ((¬ 9 = (0 : Int32)) ∧ ((∃ A_253 : a_G, (a_S A_253 m241) ∧ (A_253.1 + 720 < 2 ^ 31) ∧ (0 < A_253.1) ∧ ((∀ (R254 : Int32) (M255 : ch_M), (a_R A_253 m241 R254 M255) → (∀ m257 : ch_M, m257 = M255 → ((R254 < 0 → Q (.inl (some (.inl (.int 0)))) m257) ∧ (¬ R254 < 0 → Q (.inl (some (.inl (.int 1)))) m257))))))))))))) ∧ ((l_sm p1 22) = 15 → ch_J g m_l_changes (ch_rm m_l_changes) (ch_E g m_l_changes Q) 273 [some (.inr (0, 0, 0)), some (.inl (.int p1)), some (.inl (.int (l_sm (p1 >>> (4 &&& (31 : Int32))) ((x_acR (y_can (ch_ob m 1 0)) 0 0 0) + 1))))] [] m4 (k + 1)) ∧ ((l_sm p1 22) = 16 → ch_J g m_l_changes (ch_rm m_l_changes) (ch_E g m_l_changes Q) 273 [some (.inr (0, 0, 0)), some (.inl (.int p1)), some (.inl (.int (l_sm (p1 >>> (4 &&& (31 : Int32))) ((x_acR (y_can (ch_ob m 1 0)) 0 0 0) + 1))))] [] m4 (k + 1)) ∧ ((Int32.toInt (l_sm p1 22) < 0 ∨ 16 < Int32.toInt (l_sm p1 22)) → (∃ A_262 : a_G, (a_S A_262 m4) ∧ (A_262.1 + 720 < 2 ^ 31) ∧ (0 < A_262.1) ∧ ((∀ (R263 : Int32) (M264 : ch_M), (a_R A_262 m4 R263 M264) → (∀ m266 : ch_M, m266 = M264 → ((R263 < 0 → Q (.inl (some (.inl (.int 0)))) m266) ∧ (¬ R263 < 0 → Q (.inl (some (.inl (.int 1)))) m266))))))))))))))) : ch_J g m_l_changes (ch_rm m_l_changes) (ch_E g m_l_changes Q) 0 [some (.inr (0, 0, 0)), some (.inl (.int p1)), none] [] m k := by
  refine ch_iload_n (i := 1) d_l_changes_0 rfl rfl ?_
  refine ch_iconst (v := 4) d_l_changes_1 (by decide) ?_
  refine ch_ishr d_l_changes_2 ?_
  refine ch_aload_n (i := 0) d_l_changes_3 rfl rfl ?_
  refine ch_iconst (v := 0) d_l_changes_4 (by decide) ?_
  obtain ⟨T_1, h⟩ := h
  have b6 := h.1
  replace h := h.2
  have b7 := h.1
  replace h := h.2
  refine ch_callSX (as := [.inr (0, 0, 0), .inl (.int 0)]) d_l_changes_5 lk_l_186 ms_l_account rfl rfl ⟨Nat.le_of_ble_eq_true rfl, Nat.le_of_ble_eq_true rfl⟩ (Nat.le_of_ble_eq_true rfl) (ch_rk0 (b := 1) hk (Nat.le_of_ble_eq_true rfl) (Nat.le_of_ble_eq_true rfl)) (ch_mono (ch_Ki (fun r3 m4 q5 => ?_)) (t_l_account g (fun (r_ : Int32) (m_ : ch_M) => (∃ (M2 : ch_M), (x_acR (y_can (ch_ob m 1 0)) 0 0 0) = r_ ∧ (a_same m M2) ∧ (a_wr M2) ∧ m_ = M2)) (T_1) (0) m ⟨b6, b7, (fun M2 f0_ f1_ => ⟨M2, rfl, f0_, f1_, rfl⟩)⟩))
  obtain ⟨M2, rfl, f0_, f1_, hm_⟩ := q5
  replace h := h M2 f0_ f1_ m4 hm_
  refine ch_iconst (v := 1) d_l_changes_8 (by decide) ?_
  refine ch_iadd d_l_changes_9 ?_
  have b11 := h.1
  replace h := h.2
  refine ch_callS (as := [.inl (.int (p1 >>> (4 &&& (31 : Int32)))), .inl (.int ((x_acR (y_can (ch_ob m 1 0)) 0 0 0) + 1))]) d_l_changes_10 lk_l_146 ms_l_some rfl rfl ⟨Nat.le_of_ble_eq_true rfl, Nat.le_of_ble_eq_true rfl⟩ (Nat.le_of_ble_eq_true rfl) (ch_rk (a := 1) (b := 0) hk (Nat.le_of_ble_eq_true rfl) (Nat.le_of_ble_eq_true rfl)) (ch_mono (ch_Ki (fun r8 m9 q10 => ?_)) (s_l_some g (fun (r_ : Int32) (m_ : ch_M) => ((l_sm (p1 >>> (4 &&& (31 : Int32))) ((x_acR (y_can (ch_ob m 1 0)) 0 0 0) + 1)) = r_ ∧ m4 = m_)) ((p1 >>> (4 &&& (31 : Int32)))) (((x_acR (y_can (ch_ob m 1 0)) 0 0 0) + 1)) m4 ⟨b11, ⟨rfl, rfl⟩⟩))
  obtain ⟨rfl, rfl⟩ := q10
  replace h := h
  refine ch_istore_n (i := 2) d_l_changes_13 rfl (Nat.le_of_ble_eq_true rfl) (ls' := [some (.inr (0, 0, 0)), some (.inl (.int p1)), some (.inl (.int (l_sm (p1 >>> (4 &&& (31 : Int32))) ((x_acR (y_can (ch_ob m 1 0)) 0 0 0) + 1))))]) rfl ?_
  refine ch_iload_n (i := 1) d_l_changes_14 rfl rfl ?_
  refine ch_bipush (v := 22) d_l_changes_15 (by decide) ?_
  have b15 := h.1
  replace h := h.2
  refine ch_callS (as := [.inl (.int p1), .inl (.int 22)]) d_l_changes_17 lk_l_146 ms_l_some rfl rfl ⟨Nat.le_of_ble_eq_true rfl, Nat.le_of_ble_eq_true rfl⟩ (Nat.le_of_ble_eq_true rfl) (ch_rk (a := 1) (b := 0) hk (Nat.le_of_ble_eq_true rfl) (Nat.le_of_ble_eq_true rfl)) (ch_mono (ch_Ki (fun r12 m13 q14 => ?_)) (s_l_some g (fun (r_ : Int32) (m_ : ch_M) => ((l_sm p1 22) = r_ ∧ m4 = m_)) (p1) (22) m4 ⟨b15, ⟨rfl, rfl⟩⟩))
  obtain ⟨rfl, rfl⟩ := q14
  replace h := h
  by_cases e0 : (l_sm p1 22) = 0
  · replace h := h.1 e0
    refine ch_tswIn (tgt := 104) (off := 84) d_l_changes_20 (by rw [e0]; decide) (by rw [e0]; decide) (by rw [e0]; rfl) (by decide) ?_
    refine ch_aload_n (i := 0) d_l_changes_104 rfl rfl ?_
    refine ch_iload_n (i := 1) d_l_changes_105 rfl rfl ?_
    refine ch_iconst (v := 4) d_l_changes_106 (by decide) ?_
    refine ch_ishr d_l_changes_107 ?_
    refine ch_bipush (v := 101) d_l_changes_108 (by decide) ?_
    have b19 := h.1
    replace h := h.2
    refine ch_callS (as := [.inl (.int (p1 >>> (4 &&& (31 : Int32)))), .inl (.int 101)]) d_l_changes_110 lk_l_146 ms_l_some rfl rfl ⟨Nat.le_of_ble_eq_true rfl, Nat.le_of_ble_eq_true rfl⟩ (Nat.le_of_ble_eq_true rfl) (ch_rk (a := 1) (b := 0) hk (Nat.le_of_ble_eq_true rfl) (Nat.le_of_ble_eq_true rfl)) (ch_mono (ch_Ki (fun r16 m17 q18 => ?_)) (s_l_some g (fun (r_ : Int32) (m_ : ch_M) => ((l_sm (p1 >>> (4 &&& (31 : Int32))) 101) = r_ ∧ m4 = m_)) ((p1 >>> (4 &&& (31 : Int32)))) (101) m4 ⟨b19, ⟨rfl, rfl⟩⟩))
    obtain ⟨rfl, rfl⟩ := q18
    replace h := h
    obtain ⟨A_20, h⟩ := h
    have b26 := h.1
    replace h := h.2
    have b27 := h.1
    replace h := h.2
    have b28 := h.1
    replace h := h.2
    refine ch_callSX (as := [.inr (0, 0, 0), .inl (.int (l_sm (p1 >>> (4 &&& (31 : Int32))) 101))]) d_l_changes_113 lk_l_153 ms_l_child rfl rfl ⟨Nat.le_of_ble_eq_true rfl, Nat.le_of_ble_eq_true rfl⟩ (Nat.le_of_ble_eq_true rfl) (ch_rk (a := 1) (b := 1) hk (Nat.le_of_ble_eq_true rfl) (Nat.le_of_ble_eq_true rfl)) (ch_mono (ch_Ki (fun r23 m24 q25 => ?_)) (v_l_child g (fun (r_ : Int32) (m_ : ch_M) => (∃ (R21 : Int32) (M22 : ch_M), R21 = r_ ∧ (a_R A_20 m4 R21 M22) ∧ m_ = M22)) (A_20) ((l_sm (p1 >>> (4 &&& (31 : Int32))) 101)) m4 ⟨b26, b27, b28, (fun R21 M22 f0_ => ⟨R21, M22, rfl, f0_, rfl⟩)⟩))
    obtain ⟨R21, M22, rfl, f0_, hm_⟩ := q25
    replace h := h R21 M22 f0_ m24 hm_
    refine ch_if_lt (tgt := 123) d_l_changes_116 (by decide) (fun c => ?_) (fun c => ?_)
    · replace h := h.1 c
      refine ch_iconst (v := 0) d_l_changes_123 (by decide) ?_
      exact ch_iret (ty := .boolean) d_l_changes_124 rfl rfl (show (k + 2) ≤ 200 by omega) h
    · replace h := h.2 c
      refine ch_iconst (v := 1) d_l_changes_119 (by decide) ?_
      refine ch_goto (tgt := 124) d_l_changes_120 (by decide) ?_
      exact ch_iret (ty := .boolean) d_l_changes_124 rfl rfl (show (k + 2) ≤ 200 by omega) h
  replace h := h.2
  by_cases e1 : (l_sm p1 22) = 1
  · replace h := h.1 e1
    refine ch_tswIn (tgt := 125) (off := 105) d_l_changes_20 (by rw [e1]; decide) (by rw [e1]; decide) (by rw [e1]; rfl) (by decide) ?_
    refine ch_aload_n (i := 0) d_l_changes_125 rfl rfl ?_
    refine ch_iload_n (i := 2) d_l_changes_126 rfl rfl ?_
    refine ch_iload_n (i := 1) d_l_changes_127 rfl rfl ?_
    refine ch_bipush (v := 8) d_l_changes_128 (by decide) ?_
    refine ch_ishr d_l_changes_130 ?_
    refine ch_bipush (v := 13) d_l_changes_131 (by decide) ?_
    have b32 := h.1
    replace h := h.2
    refine ch_callS (as := [.inl (.int (p1 >>> (8 &&& (31 : Int32)))), .inl (.int 13)]) d_l_changes_133 lk_l_146 ms_l_some rfl rfl ⟨Nat.le_of_ble_eq_true rfl, Nat.le_of_ble_eq_true rfl⟩ (Nat.le_of_ble_eq_true rfl) (ch_rk (a := 1) (b := 0) hk (Nat.le_of_ble_eq_true rfl) (Nat.le_of_ble_eq_true rfl)) (ch_mono (ch_Ki (fun r29 m30 q31 => ?_)) (s_l_some g (fun (r_ : Int32) (m_ : ch_M) => ((l_sm (p1 >>> (8 &&& (31 : Int32))) 13) = r_ ∧ m4 = m_)) ((p1 >>> (8 &&& (31 : Int32)))) (13) m4 ⟨b32, ⟨rfl, rfl⟩⟩))
    obtain ⟨rfl, rfl⟩ := q31
    replace h := h
    obtain ⟨A_33, h⟩ := h
    have b39 := h.1
    replace h := h.2
    have b40 := h.1
    replace h := h.2
    have b41 := h.1
    replace h := h.2
    refine ch_callSX (as := [.inr (0, 0, 0), .inl (.int (l_sm (p1 >>> (4 &&& (31 : Int32))) ((x_acR (y_can (ch_ob m 1 0)) 0 0 0) + 1))), .inl (.int (l_sm (p1 >>> (8 &&& (31 : Int32))) 13))]) d_l_changes_136 lk_l_155 ms_l_chalk rfl rfl ⟨Nat.le_of_ble_eq_true rfl, Nat.le_of_ble_eq_true rfl⟩ (Nat.le_of_ble_eq_true rfl) (ch_rk (a := 1) (b := 1) hk (Nat.le_of_ble_eq_true rfl) (Nat.le_of_ble_eq_true rfl)) (ch_mono (ch_Ki (fun r36 m37 q38 => ?_)) (v_l_chalk g (fun (r_ : Int32) (m_ : ch_M) => (∃ (R34 : Int32) (M35 : ch_M), R34 = r_ ∧ (a_R A_33 m4 R34 M35) ∧ m_ = M35)) (A_33) ((l_sm (p1 >>> (4 &&& (31 : Int32))) ((x_acR (y_can (ch_ob m 1 0)) 0 0 0) + 1))) ((l_sm (p1 >>> (8 &&& (31 : Int32))) 13)) m4 ⟨b39, b40, b41, (fun R34 M35 f0_ => ⟨R34, M35, rfl, f0_, rfl⟩)⟩))
    obtain ⟨R34, M35, rfl, f0_, hm_⟩ := q38
    replace h := h R34 M35 f0_ m37 hm_
    refine ch_if_lt (tgt := 146) d_l_changes_139 (by decide) (fun c => ?_) (fun c => ?_)
    · replace h := h.1 c
      refine ch_iconst (v := 0) d_l_changes_146 (by decide) ?_
      exact ch_iret (ty := .boolean) d_l_changes_147 rfl rfl (show (k + 2) ≤ 200 by omega) h
    · replace h := h.2 c
      refine ch_iconst (v := 1) d_l_changes_142 (by decide) ?_
      refine ch_goto (tgt := 147) d_l_changes_143 (by decide) ?_
      exact ch_iret (ty := .boolean) d_l_changes_147 rfl rfl (show (k + 2) ≤ 200 by omega) h
  replace h := h.2
  by_cases e2 : (l_sm p1 22) = 2
  · replace h := h.1 e2
    refine ch_tswIn (tgt := 125) (off := 105) d_l_changes_20 (by rw [e2]; decide) (by rw [e2]; decide) (by rw [e2]; rfl) (by decide) ?_
    refine ch_aload_n (i := 0) d_l_changes_125 rfl rfl ?_
    refine ch_iload_n (i := 2) d_l_changes_126 rfl rfl ?_
    refine ch_iload_n (i := 1) d_l_changes_127 rfl rfl ?_
    refine ch_bipush (v := 8) d_l_changes_128 (by decide) ?_
    refine ch_ishr d_l_changes_130 ?_
    refine ch_bipush (v := 13) d_l_changes_131 (by decide) ?_
    have b45 := h.1
    replace h := h.2
    refine ch_callS (as := [.inl (.int (p1 >>> (8 &&& (31 : Int32)))), .inl (.int 13)]) d_l_changes_133 lk_l_146 ms_l_some rfl rfl ⟨Nat.le_of_ble_eq_true rfl, Nat.le_of_ble_eq_true rfl⟩ (Nat.le_of_ble_eq_true rfl) (ch_rk (a := 1) (b := 0) hk (Nat.le_of_ble_eq_true rfl) (Nat.le_of_ble_eq_true rfl)) (ch_mono (ch_Ki (fun r42 m43 q44 => ?_)) (s_l_some g (fun (r_ : Int32) (m_ : ch_M) => ((l_sm (p1 >>> (8 &&& (31 : Int32))) 13) = r_ ∧ m4 = m_)) ((p1 >>> (8 &&& (31 : Int32)))) (13) m4 ⟨b45, ⟨rfl, rfl⟩⟩))
    obtain ⟨rfl, rfl⟩ := q44
    replace h := h
    obtain ⟨A_46, h⟩ := h
    have b52 := h.1
    replace h := h.2
    have b53 := h.1
    replace h := h.2
    have b54 := h.1
    replace h := h.2
    refine ch_callSX (as := [.inr (0, 0, 0), .inl (.int (l_sm (p1 >>> (4 &&& (31 : Int32))) ((x_acR (y_can (ch_ob m 1 0)) 0 0 0) + 1))), .inl (.int (l_sm (p1 >>> (8 &&& (31 : Int32))) 13))]) d_l_changes_136 lk_l_155 ms_l_chalk rfl rfl ⟨Nat.le_of_ble_eq_true rfl, Nat.le_of_ble_eq_true rfl⟩ (Nat.le_of_ble_eq_true rfl) (ch_rk (a := 1) (b := 1) hk (Nat.le_of_ble_eq_true rfl) (Nat.le_of_ble_eq_true rfl)) (ch_mono (ch_Ki (fun r49 m50 q51 => ?_)) (v_l_chalk g (fun (r_ : Int32) (m_ : ch_M) => (∃ (R47 : Int32) (M48 : ch_M), R47 = r_ ∧ (a_R A_46 m4 R47 M48) ∧ m_ = M48)) (A_46) ((l_sm (p1 >>> (4 &&& (31 : Int32))) ((x_acR (y_can (ch_ob m 1 0)) 0 0 0) + 1))) ((l_sm (p1 >>> (8 &&& (31 : Int32))) 13)) m4 ⟨b52, b53, b54, (fun R47 M48 f0_ => ⟨R47, M48, rfl, f0_, rfl⟩)⟩))
    obtain ⟨R47, M48, rfl, f0_, hm_⟩ := q51
    replace h := h R47 M48 f0_ m50 hm_
    refine ch_if_lt (tgt := 146) d_l_changes_139 (by decide) (fun c => ?_) (fun c => ?_)
    · replace h := h.1 c
      refine ch_iconst (v := 0) d_l_changes_146 (by decide) ?_
      exact ch_iret (ty := .boolean) d_l_changes_147 rfl rfl (show (k + 2) ≤ 200 by omega) h
    · replace h := h.2 c
      refine ch_iconst (v := 1) d_l_changes_142 (by decide) ?_
      refine ch_goto (tgt := 147) d_l_changes_143 (by decide) ?_
      exact ch_iret (ty := .boolean) d_l_changes_147 rfl rfl (show (k + 2) ≤ 200 by omega) h
  replace h := h.2
  by_cases e3 : (l_sm p1 22) = 3
  · replace h := h.1 e3
    refine ch_tswIn (tgt := 125) (off := 105) d_l_changes_20 (by rw [e3]; decide) (by rw [e3]; decide) (by rw [e3]; rfl) (by decide) ?_
    refine ch_aload_n (i := 0) d_l_changes_125 rfl rfl ?_
    refine ch_iload_n (i := 2) d_l_changes_126 rfl rfl ?_
    refine ch_iload_n (i := 1) d_l_changes_127 rfl rfl ?_
    refine ch_bipush (v := 8) d_l_changes_128 (by decide) ?_
    refine ch_ishr d_l_changes_130 ?_
    refine ch_bipush (v := 13) d_l_changes_131 (by decide) ?_
    have b58 := h.1
    replace h := h.2
    refine ch_callS (as := [.inl (.int (p1 >>> (8 &&& (31 : Int32)))), .inl (.int 13)]) d_l_changes_133 lk_l_146 ms_l_some rfl rfl ⟨Nat.le_of_ble_eq_true rfl, Nat.le_of_ble_eq_true rfl⟩ (Nat.le_of_ble_eq_true rfl) (ch_rk (a := 1) (b := 0) hk (Nat.le_of_ble_eq_true rfl) (Nat.le_of_ble_eq_true rfl)) (ch_mono (ch_Ki (fun r55 m56 q57 => ?_)) (s_l_some g (fun (r_ : Int32) (m_ : ch_M) => ((l_sm (p1 >>> (8 &&& (31 : Int32))) 13) = r_ ∧ m4 = m_)) ((p1 >>> (8 &&& (31 : Int32)))) (13) m4 ⟨b58, ⟨rfl, rfl⟩⟩))
    obtain ⟨rfl, rfl⟩ := q57
    replace h := h
    obtain ⟨A_59, h⟩ := h
    have b65 := h.1
    replace h := h.2
    have b66 := h.1
    replace h := h.2
    have b67 := h.1
    replace h := h.2
    refine ch_callSX (as := [.inr (0, 0, 0), .inl (.int (l_sm (p1 >>> (4 &&& (31 : Int32))) ((x_acR (y_can (ch_ob m 1 0)) 0 0 0) + 1))), .inl (.int (l_sm (p1 >>> (8 &&& (31 : Int32))) 13))]) d_l_changes_136 lk_l_155 ms_l_chalk rfl rfl ⟨Nat.le_of_ble_eq_true rfl, Nat.le_of_ble_eq_true rfl⟩ (Nat.le_of_ble_eq_true rfl) (ch_rk (a := 1) (b := 1) hk (Nat.le_of_ble_eq_true rfl) (Nat.le_of_ble_eq_true rfl)) (ch_mono (ch_Ki (fun r62 m63 q64 => ?_)) (v_l_chalk g (fun (r_ : Int32) (m_ : ch_M) => (∃ (R60 : Int32) (M61 : ch_M), R60 = r_ ∧ (a_R A_59 m4 R60 M61) ∧ m_ = M61)) (A_59) ((l_sm (p1 >>> (4 &&& (31 : Int32))) ((x_acR (y_can (ch_ob m 1 0)) 0 0 0) + 1))) ((l_sm (p1 >>> (8 &&& (31 : Int32))) 13)) m4 ⟨b65, b66, b67, (fun R60 M61 f0_ => ⟨R60, M61, rfl, f0_, rfl⟩)⟩))
    obtain ⟨R60, M61, rfl, f0_, hm_⟩ := q64
    replace h := h R60 M61 f0_ m63 hm_
    refine ch_if_lt (tgt := 146) d_l_changes_139 (by decide) (fun c => ?_) (fun c => ?_)
    · replace h := h.1 c
      refine ch_iconst (v := 0) d_l_changes_146 (by decide) ?_
      exact ch_iret (ty := .boolean) d_l_changes_147 rfl rfl (show (k + 2) ≤ 200 by omega) h
    · replace h := h.2 c
      refine ch_iconst (v := 1) d_l_changes_142 (by decide) ?_
      refine ch_goto (tgt := 147) d_l_changes_143 (by decide) ?_
      exact ch_iret (ty := .boolean) d_l_changes_147 rfl rfl (show (k + 2) ≤ 200 by omega) h
  replace h := h.2
  by_cases e4 : (l_sm p1 22) = 4
  · replace h := h.1 e4
    refine ch_tswIn (tgt := 125) (off := 105) d_l_changes_20 (by rw [e4]; decide) (by rw [e4]; decide) (by rw [e4]; rfl) (by decide) ?_
    refine ch_aload_n (i := 0) d_l_changes_125 rfl rfl ?_
    refine ch_iload_n (i := 2) d_l_changes_126 rfl rfl ?_
    refine ch_iload_n (i := 1) d_l_changes_127 rfl rfl ?_
    refine ch_bipush (v := 8) d_l_changes_128 (by decide) ?_
    refine ch_ishr d_l_changes_130 ?_
    refine ch_bipush (v := 13) d_l_changes_131 (by decide) ?_
    have b71 := h.1
    replace h := h.2
    refine ch_callS (as := [.inl (.int (p1 >>> (8 &&& (31 : Int32)))), .inl (.int 13)]) d_l_changes_133 lk_l_146 ms_l_some rfl rfl ⟨Nat.le_of_ble_eq_true rfl, Nat.le_of_ble_eq_true rfl⟩ (Nat.le_of_ble_eq_true rfl) (ch_rk (a := 1) (b := 0) hk (Nat.le_of_ble_eq_true rfl) (Nat.le_of_ble_eq_true rfl)) (ch_mono (ch_Ki (fun r68 m69 q70 => ?_)) (s_l_some g (fun (r_ : Int32) (m_ : ch_M) => ((l_sm (p1 >>> (8 &&& (31 : Int32))) 13) = r_ ∧ m4 = m_)) ((p1 >>> (8 &&& (31 : Int32)))) (13) m4 ⟨b71, ⟨rfl, rfl⟩⟩))
    obtain ⟨rfl, rfl⟩ := q70
    replace h := h
    obtain ⟨A_72, h⟩ := h
    have b78 := h.1
    replace h := h.2
    have b79 := h.1
    replace h := h.2
    have b80 := h.1
    replace h := h.2
    refine ch_callSX (as := [.inr (0, 0, 0), .inl (.int (l_sm (p1 >>> (4 &&& (31 : Int32))) ((x_acR (y_can (ch_ob m 1 0)) 0 0 0) + 1))), .inl (.int (l_sm (p1 >>> (8 &&& (31 : Int32))) 13))]) d_l_changes_136 lk_l_155 ms_l_chalk rfl rfl ⟨Nat.le_of_ble_eq_true rfl, Nat.le_of_ble_eq_true rfl⟩ (Nat.le_of_ble_eq_true rfl) (ch_rk (a := 1) (b := 1) hk (Nat.le_of_ble_eq_true rfl) (Nat.le_of_ble_eq_true rfl)) (ch_mono (ch_Ki (fun r75 m76 q77 => ?_)) (v_l_chalk g (fun (r_ : Int32) (m_ : ch_M) => (∃ (R73 : Int32) (M74 : ch_M), R73 = r_ ∧ (a_R A_72 m4 R73 M74) ∧ m_ = M74)) (A_72) ((l_sm (p1 >>> (4 &&& (31 : Int32))) ((x_acR (y_can (ch_ob m 1 0)) 0 0 0) + 1))) ((l_sm (p1 >>> (8 &&& (31 : Int32))) 13)) m4 ⟨b78, b79, b80, (fun R73 M74 f0_ => ⟨R73, M74, rfl, f0_, rfl⟩)⟩))
    obtain ⟨R73, M74, rfl, f0_, hm_⟩ := q77
    replace h := h R73 M74 f0_ m76 hm_
    refine ch_if_lt (tgt := 146) d_l_changes_139 (by decide) (fun c => ?_) (fun c => ?_)
    · replace h := h.1 c
      refine ch_iconst (v := 0) d_l_changes_146 (by decide) ?_
      exact ch_iret (ty := .boolean) d_l_changes_147 rfl rfl (show (k + 2) ≤ 200 by omega) h
    · replace h := h.2 c
      refine ch_iconst (v := 1) d_l_changes_142 (by decide) ?_
      refine ch_goto (tgt := 147) d_l_changes_143 (by decide) ?_
      exact ch_iret (ty := .boolean) d_l_changes_147 rfl rfl (show (k + 2) ≤ 200 by omega) h
  replace h := h.2
  by_cases e5 : (l_sm p1 22) = 5
  · replace h := h.1 e5
    refine ch_tswIn (tgt := 148) (off := 128) d_l_changes_20 (by rw [e5]; decide) (by rw [e5]; decide) (by rw [e5]; rfl) (by decide) ?_
    refine ch_aload_n (i := 0) d_l_changes_148 rfl rfl ?_
    refine ch_iload_n (i := 2) d_l_changes_149 rfl rfl ?_
    refine ch_iload_n (i := 1) d_l_changes_150 rfl rfl ?_
    refine ch_bipush (v := 8) d_l_changes_151 (by decide) ?_
    refine ch_ishr d_l_changes_153 ?_
    refine ch_bipush (v := 7) d_l_changes_154 (by decide) ?_
    have b84 := h.1
    replace h := h.2
    refine ch_callS (as := [.inl (.int (p1 >>> (8 &&& (31 : Int32)))), .inl (.int 7)]) d_l_changes_156 lk_l_146 ms_l_some rfl rfl ⟨Nat.le_of_ble_eq_true rfl, Nat.le_of_ble_eq_true rfl⟩ (Nat.le_of_ble_eq_true rfl) (ch_rk (a := 1) (b := 0) hk (Nat.le_of_ble_eq_true rfl) (Nat.le_of_ble_eq_true rfl)) (ch_mono (ch_Ki (fun r81 m82 q83 => ?_)) (s_l_some g (fun (r_ : Int32) (m_ : ch_M) => ((l_sm (p1 >>> (8 &&& (31 : Int32))) 7) = r_ ∧ m4 = m_)) ((p1 >>> (8 &&& (31 : Int32)))) (7) m4 ⟨b84, ⟨rfl, rfl⟩⟩))
    obtain ⟨rfl, rfl⟩ := q83
    replace h := h
    refine ch_if_ne (tgt := 169) d_l_changes_159 (by decide) (fun c => ?_) (fun c => ?_)
    · replace h := h.1 c
      refine ch_iload_n (i := 1) d_l_changes_169 rfl rfl ?_
      refine ch_bipush (v := 8) d_l_changes_170 (by decide) ?_
      refine ch_ishr d_l_changes_172 ?_
      refine ch_callS (as := [.inl (.int (p1 >>> (8 &&& (31 : Int32))))]) d_l_changes_173 lk_l_158 ms_l_steps rfl rfl ⟨Nat.le_of_ble_eq_true rfl, Nat.le_of_ble_eq_true rfl⟩ (Nat.le_of_ble_eq_true rfl) (ch_rk (a := 1) (b := 0) hk (Nat.le_of_ble_eq_true rfl) (Nat.le_of_ble_eq_true rfl)) (ch_mono (ch_Ki (fun r86 m87 q88 => ?_)) (s_l_steps g (fun (r_ : Int32) (m_ : ch_M) => (∃ (R85 : Int32), R85 = r_ ∧ (l_gd R85 = true) ∧ m4 = m_)) ((p1 >>> (8 &&& (31 : Int32)))) m4 (fun R85 f0_ => ⟨R85, rfl, f0_, rfl⟩)))
      obtain ⟨R85, rfl, f0_, rfl⟩ := q88
      replace h := h R85 f0_
      obtain ⟨A_89, h⟩ := h
      have b95 := h.1
      replace h := h.2
      have b96 := h.1
      replace h := h.2
      have b97 := h.1
      replace h := h.2
      refine ch_callSX (as := [.inr (0, 0, 0), .inl (.int (l_sm (p1 >>> (4 &&& (31 : Int32))) ((x_acR (y_can (ch_ob m 1 0)) 0 0 0) + 1))), .inl (.int R85)]) d_l_changes_176 lk_l_161 ms_l_hop rfl rfl ⟨Nat.le_of_ble_eq_true rfl, Nat.le_of_ble_eq_true rfl⟩ (Nat.le_of_ble_eq_true rfl) (ch_rk (a := 1) (b := 1) hk (Nat.le_of_ble_eq_true rfl) (Nat.le_of_ble_eq_true rfl)) (ch_mono (ch_Ki (fun r92 m93 q94 => ?_)) (v_l_hop g (fun (r_ : Int32) (m_ : ch_M) => (∃ (R90 : Int32) (M91 : ch_M), R90 = r_ ∧ (a_R A_89 m4 R90 M91) ∧ m_ = M91)) (A_89) ((l_sm (p1 >>> (4 &&& (31 : Int32))) ((x_acR (y_can (ch_ob m 1 0)) 0 0 0) + 1))) (R85) m4 ⟨b95, b96, b97, (fun R90 M91 f0_ => ⟨R90, M91, rfl, f0_, rfl⟩)⟩))
      obtain ⟨R90, M91, rfl, f0_, hm_⟩ := q94
      replace h := h R90 M91 f0_ m93 hm_
      refine ch_if_lt (tgt := 186) d_l_changes_179 (by decide) (fun c => ?_) (fun c => ?_)
      · replace h := h.1 c
        refine ch_iconst (v := 0) d_l_changes_186 (by decide) ?_
        exact ch_iret (ty := .boolean) d_l_changes_187 rfl rfl (show (k + 2) ≤ 200 by omega) h
      · replace h := h.2 c
        refine ch_iconst (v := 1) d_l_changes_182 (by decide) ?_
        refine ch_goto (tgt := 187) d_l_changes_183 (by decide) ?_
        exact ch_iret (ty := .boolean) d_l_changes_187 rfl rfl (show (k + 2) ≤ 200 by omega) h
    · replace h := h.2 c
      refine ch_iload_n (i := 1) d_l_changes_162 rfl rfl ?_
      refine ch_bipush (v := 8) d_l_changes_163 (by decide) ?_
      refine ch_ishr d_l_changes_165 ?_
      refine ch_goto (tgt := 176) d_l_changes_166 (by decide) ?_
      obtain ⟨A_98, h⟩ := h
      have b104 := h.1
      replace h := h.2
      have b105 := h.1
      replace h := h.2
      have b106 := h.1
      replace h := h.2
      refine ch_callSX (as := [.inr (0, 0, 0), .inl (.int (l_sm (p1 >>> (4 &&& (31 : Int32))) ((x_acR (y_can (ch_ob m 1 0)) 0 0 0) + 1))), .inl (.int (p1 >>> (8 &&& (31 : Int32))))]) d_l_changes_176 lk_l_161 ms_l_hop rfl rfl ⟨Nat.le_of_ble_eq_true rfl, Nat.le_of_ble_eq_true rfl⟩ (Nat.le_of_ble_eq_true rfl) (ch_rk (a := 1) (b := 1) hk (Nat.le_of_ble_eq_true rfl) (Nat.le_of_ble_eq_true rfl)) (ch_mono (ch_Ki (fun r101 m102 q103 => ?_)) (v_l_hop g (fun (r_ : Int32) (m_ : ch_M) => (∃ (R99 : Int32) (M100 : ch_M), R99 = r_ ∧ (a_R A_98 m4 R99 M100) ∧ m_ = M100)) (A_98) ((l_sm (p1 >>> (4 &&& (31 : Int32))) ((x_acR (y_can (ch_ob m 1 0)) 0 0 0) + 1))) ((p1 >>> (8 &&& (31 : Int32)))) m4 ⟨b104, b105, b106, (fun R99 M100 f0_ => ⟨R99, M100, rfl, f0_, rfl⟩)⟩))
      obtain ⟨R99, M100, rfl, f0_, hm_⟩ := q103
      replace h := h R99 M100 f0_ m102 hm_
      refine ch_if_lt (tgt := 186) d_l_changes_179 (by decide) (fun c => ?_) (fun c => ?_)
      · replace h := h.1 c
        refine ch_iconst (v := 0) d_l_changes_186 (by decide) ?_
        exact ch_iret (ty := .boolean) d_l_changes_187 rfl rfl (show (k + 2) ≤ 200 by omega) h
      · replace h := h.2 c
        refine ch_iconst (v := 1) d_l_changes_182 (by decide) ?_
        refine ch_goto (tgt := 187) d_l_changes_183 (by decide) ?_
        exact ch_iret (ty := .boolean) d_l_changes_187 rfl rfl (show (k + 2) ≤ 200 by omega) h
  replace h := h.2
  by_cases e6 : (l_sm p1 22) = 6
  · replace h := h.1 e6
    refine ch_tswIn (tgt := 148) (off := 128) d_l_changes_20 (by rw [e6]; decide) (by rw [e6]; decide) (by rw [e6]; rfl) (by decide) ?_
    refine ch_aload_n (i := 0) d_l_changes_148 rfl rfl ?_
    refine ch_iload_n (i := 2) d_l_changes_149 rfl rfl ?_
    refine ch_iload_n (i := 1) d_l_changes_150 rfl rfl ?_
    refine ch_bipush (v := 8) d_l_changes_151 (by decide) ?_
    refine ch_ishr d_l_changes_153 ?_
    refine ch_bipush (v := 7) d_l_changes_154 (by decide) ?_
    have b110 := h.1
    replace h := h.2
    refine ch_callS (as := [.inl (.int (p1 >>> (8 &&& (31 : Int32)))), .inl (.int 7)]) d_l_changes_156 lk_l_146 ms_l_some rfl rfl ⟨Nat.le_of_ble_eq_true rfl, Nat.le_of_ble_eq_true rfl⟩ (Nat.le_of_ble_eq_true rfl) (ch_rk (a := 1) (b := 0) hk (Nat.le_of_ble_eq_true rfl) (Nat.le_of_ble_eq_true rfl)) (ch_mono (ch_Ki (fun r107 m108 q109 => ?_)) (s_l_some g (fun (r_ : Int32) (m_ : ch_M) => ((l_sm (p1 >>> (8 &&& (31 : Int32))) 7) = r_ ∧ m4 = m_)) ((p1 >>> (8 &&& (31 : Int32)))) (7) m4 ⟨b110, ⟨rfl, rfl⟩⟩))
    obtain ⟨rfl, rfl⟩ := q109
    replace h := h
    refine ch_if_ne (tgt := 169) d_l_changes_159 (by decide) (fun c => ?_) (fun c => ?_)
    · replace h := h.1 c
      refine ch_iload_n (i := 1) d_l_changes_169 rfl rfl ?_
      refine ch_bipush (v := 8) d_l_changes_170 (by decide) ?_
      refine ch_ishr d_l_changes_172 ?_
      refine ch_callS (as := [.inl (.int (p1 >>> (8 &&& (31 : Int32))))]) d_l_changes_173 lk_l_158 ms_l_steps rfl rfl ⟨Nat.le_of_ble_eq_true rfl, Nat.le_of_ble_eq_true rfl⟩ (Nat.le_of_ble_eq_true rfl) (ch_rk (a := 1) (b := 0) hk (Nat.le_of_ble_eq_true rfl) (Nat.le_of_ble_eq_true rfl)) (ch_mono (ch_Ki (fun r112 m113 q114 => ?_)) (s_l_steps g (fun (r_ : Int32) (m_ : ch_M) => (∃ (R111 : Int32), R111 = r_ ∧ (l_gd R111 = true) ∧ m4 = m_)) ((p1 >>> (8 &&& (31 : Int32)))) m4 (fun R111 f0_ => ⟨R111, rfl, f0_, rfl⟩)))
      obtain ⟨R111, rfl, f0_, rfl⟩ := q114
      replace h := h R111 f0_
      obtain ⟨A_115, h⟩ := h
      have b121 := h.1
      replace h := h.2
      have b122 := h.1
      replace h := h.2
      have b123 := h.1
      replace h := h.2
      refine ch_callSX (as := [.inr (0, 0, 0), .inl (.int (l_sm (p1 >>> (4 &&& (31 : Int32))) ((x_acR (y_can (ch_ob m 1 0)) 0 0 0) + 1))), .inl (.int R111)]) d_l_changes_176 lk_l_161 ms_l_hop rfl rfl ⟨Nat.le_of_ble_eq_true rfl, Nat.le_of_ble_eq_true rfl⟩ (Nat.le_of_ble_eq_true rfl) (ch_rk (a := 1) (b := 1) hk (Nat.le_of_ble_eq_true rfl) (Nat.le_of_ble_eq_true rfl)) (ch_mono (ch_Ki (fun r118 m119 q120 => ?_)) (v_l_hop g (fun (r_ : Int32) (m_ : ch_M) => (∃ (R116 : Int32) (M117 : ch_M), R116 = r_ ∧ (a_R A_115 m4 R116 M117) ∧ m_ = M117)) (A_115) ((l_sm (p1 >>> (4 &&& (31 : Int32))) ((x_acR (y_can (ch_ob m 1 0)) 0 0 0) + 1))) (R111) m4 ⟨b121, b122, b123, (fun R116 M117 f0_ => ⟨R116, M117, rfl, f0_, rfl⟩)⟩))
      obtain ⟨R116, M117, rfl, f0_, hm_⟩ := q120
      replace h := h R116 M117 f0_ m119 hm_
      refine ch_if_lt (tgt := 186) d_l_changes_179 (by decide) (fun c => ?_) (fun c => ?_)
      · replace h := h.1 c
        refine ch_iconst (v := 0) d_l_changes_186 (by decide) ?_
        exact ch_iret (ty := .boolean) d_l_changes_187 rfl rfl (show (k + 2) ≤ 200 by omega) h
      · replace h := h.2 c
        refine ch_iconst (v := 1) d_l_changes_182 (by decide) ?_
        refine ch_goto (tgt := 187) d_l_changes_183 (by decide) ?_
        exact ch_iret (ty := .boolean) d_l_changes_187 rfl rfl (show (k + 2) ≤ 200 by omega) h
    · replace h := h.2 c
      refine ch_iload_n (i := 1) d_l_changes_162 rfl rfl ?_
      refine ch_bipush (v := 8) d_l_changes_163 (by decide) ?_
      refine ch_ishr d_l_changes_165 ?_
      refine ch_goto (tgt := 176) d_l_changes_166 (by decide) ?_
      obtain ⟨A_124, h⟩ := h
      have b130 := h.1
      replace h := h.2
      have b131 := h.1
      replace h := h.2
      have b132 := h.1
      replace h := h.2
      refine ch_callSX (as := [.inr (0, 0, 0), .inl (.int (l_sm (p1 >>> (4 &&& (31 : Int32))) ((x_acR (y_can (ch_ob m 1 0)) 0 0 0) + 1))), .inl (.int (p1 >>> (8 &&& (31 : Int32))))]) d_l_changes_176 lk_l_161 ms_l_hop rfl rfl ⟨Nat.le_of_ble_eq_true rfl, Nat.le_of_ble_eq_true rfl⟩ (Nat.le_of_ble_eq_true rfl) (ch_rk (a := 1) (b := 1) hk (Nat.le_of_ble_eq_true rfl) (Nat.le_of_ble_eq_true rfl)) (ch_mono (ch_Ki (fun r127 m128 q129 => ?_)) (v_l_hop g (fun (r_ : Int32) (m_ : ch_M) => (∃ (R125 : Int32) (M126 : ch_M), R125 = r_ ∧ (a_R A_124 m4 R125 M126) ∧ m_ = M126)) (A_124) ((l_sm (p1 >>> (4 &&& (31 : Int32))) ((x_acR (y_can (ch_ob m 1 0)) 0 0 0) + 1))) ((p1 >>> (8 &&& (31 : Int32)))) m4 ⟨b130, b131, b132, (fun R125 M126 f0_ => ⟨R125, M126, rfl, f0_, rfl⟩)⟩))
      obtain ⟨R125, M126, rfl, f0_, hm_⟩ := q129
      replace h := h R125 M126 f0_ m128 hm_
      refine ch_if_lt (tgt := 186) d_l_changes_179 (by decide) (fun c => ?_) (fun c => ?_)
      · replace h := h.1 c
        refine ch_iconst (v := 0) d_l_changes_186 (by decide) ?_
        exact ch_iret (ty := .boolean) d_l_changes_187 rfl rfl (show (k + 2) ≤ 200 by omega) h
      · replace h := h.2 c
        refine ch_iconst (v := 1) d_l_changes_182 (by decide) ?_
        refine ch_goto (tgt := 187) d_l_changes_183 (by decide) ?_
        exact ch_iret (ty := .boolean) d_l_changes_187 rfl rfl (show (k + 2) ≤ 200 by omega) h
  replace h := h.2
  by_cases e7 : (l_sm p1 22) = 7
  · replace h := h.1 e7
    refine ch_tswIn (tgt := 148) (off := 128) d_l_changes_20 (by rw [e7]; decide) (by rw [e7]; decide) (by rw [e7]; rfl) (by decide) ?_
    refine ch_aload_n (i := 0) d_l_changes_148 rfl rfl ?_
    refine ch_iload_n (i := 2) d_l_changes_149 rfl rfl ?_
    refine ch_iload_n (i := 1) d_l_changes_150 rfl rfl ?_
    refine ch_bipush (v := 8) d_l_changes_151 (by decide) ?_
    refine ch_ishr d_l_changes_153 ?_
    refine ch_bipush (v := 7) d_l_changes_154 (by decide) ?_
    have b136 := h.1
    replace h := h.2
    refine ch_callS (as := [.inl (.int (p1 >>> (8 &&& (31 : Int32)))), .inl (.int 7)]) d_l_changes_156 lk_l_146 ms_l_some rfl rfl ⟨Nat.le_of_ble_eq_true rfl, Nat.le_of_ble_eq_true rfl⟩ (Nat.le_of_ble_eq_true rfl) (ch_rk (a := 1) (b := 0) hk (Nat.le_of_ble_eq_true rfl) (Nat.le_of_ble_eq_true rfl)) (ch_mono (ch_Ki (fun r133 m134 q135 => ?_)) (s_l_some g (fun (r_ : Int32) (m_ : ch_M) => ((l_sm (p1 >>> (8 &&& (31 : Int32))) 7) = r_ ∧ m4 = m_)) ((p1 >>> (8 &&& (31 : Int32)))) (7) m4 ⟨b136, ⟨rfl, rfl⟩⟩))
    obtain ⟨rfl, rfl⟩ := q135
    replace h := h
    refine ch_if_ne (tgt := 169) d_l_changes_159 (by decide) (fun c => ?_) (fun c => ?_)
    · replace h := h.1 c
      refine ch_iload_n (i := 1) d_l_changes_169 rfl rfl ?_
      refine ch_bipush (v := 8) d_l_changes_170 (by decide) ?_
      refine ch_ishr d_l_changes_172 ?_
      refine ch_callS (as := [.inl (.int (p1 >>> (8 &&& (31 : Int32))))]) d_l_changes_173 lk_l_158 ms_l_steps rfl rfl ⟨Nat.le_of_ble_eq_true rfl, Nat.le_of_ble_eq_true rfl⟩ (Nat.le_of_ble_eq_true rfl) (ch_rk (a := 1) (b := 0) hk (Nat.le_of_ble_eq_true rfl) (Nat.le_of_ble_eq_true rfl)) (ch_mono (ch_Ki (fun r138 m139 q140 => ?_)) (s_l_steps g (fun (r_ : Int32) (m_ : ch_M) => (∃ (R137 : Int32), R137 = r_ ∧ (l_gd R137 = true) ∧ m4 = m_)) ((p1 >>> (8 &&& (31 : Int32)))) m4 (fun R137 f0_ => ⟨R137, rfl, f0_, rfl⟩)))
      obtain ⟨R137, rfl, f0_, rfl⟩ := q140
      replace h := h R137 f0_
      obtain ⟨A_141, h⟩ := h
      have b147 := h.1
      replace h := h.2
      have b148 := h.1
      replace h := h.2
      have b149 := h.1
      replace h := h.2
      refine ch_callSX (as := [.inr (0, 0, 0), .inl (.int (l_sm (p1 >>> (4 &&& (31 : Int32))) ((x_acR (y_can (ch_ob m 1 0)) 0 0 0) + 1))), .inl (.int R137)]) d_l_changes_176 lk_l_161 ms_l_hop rfl rfl ⟨Nat.le_of_ble_eq_true rfl, Nat.le_of_ble_eq_true rfl⟩ (Nat.le_of_ble_eq_true rfl) (ch_rk (a := 1) (b := 1) hk (Nat.le_of_ble_eq_true rfl) (Nat.le_of_ble_eq_true rfl)) (ch_mono (ch_Ki (fun r144 m145 q146 => ?_)) (v_l_hop g (fun (r_ : Int32) (m_ : ch_M) => (∃ (R142 : Int32) (M143 : ch_M), R142 = r_ ∧ (a_R A_141 m4 R142 M143) ∧ m_ = M143)) (A_141) ((l_sm (p1 >>> (4 &&& (31 : Int32))) ((x_acR (y_can (ch_ob m 1 0)) 0 0 0) + 1))) (R137) m4 ⟨b147, b148, b149, (fun R142 M143 f0_ => ⟨R142, M143, rfl, f0_, rfl⟩)⟩))
      obtain ⟨R142, M143, rfl, f0_, hm_⟩ := q146
      replace h := h R142 M143 f0_ m145 hm_
      refine ch_if_lt (tgt := 186) d_l_changes_179 (by decide) (fun c => ?_) (fun c => ?_)
      · replace h := h.1 c
        refine ch_iconst (v := 0) d_l_changes_186 (by decide) ?_
        exact ch_iret (ty := .boolean) d_l_changes_187 rfl rfl (show (k + 2) ≤ 200 by omega) h
      · replace h := h.2 c
        refine ch_iconst (v := 1) d_l_changes_182 (by decide) ?_
        refine ch_goto (tgt := 187) d_l_changes_183 (by decide) ?_
        exact ch_iret (ty := .boolean) d_l_changes_187 rfl rfl (show (k + 2) ≤ 200 by omega) h
    · replace h := h.2 c
      refine ch_iload_n (i := 1) d_l_changes_162 rfl rfl ?_
      refine ch_bipush (v := 8) d_l_changes_163 (by decide) ?_
      refine ch_ishr d_l_changes_165 ?_
      refine ch_goto (tgt := 176) d_l_changes_166 (by decide) ?_
      obtain ⟨A_150, h⟩ := h
      have b156 := h.1
      replace h := h.2
      have b157 := h.1
      replace h := h.2
      have b158 := h.1
      replace h := h.2
      refine ch_callSX (as := [.inr (0, 0, 0), .inl (.int (l_sm (p1 >>> (4 &&& (31 : Int32))) ((x_acR (y_can (ch_ob m 1 0)) 0 0 0) + 1))), .inl (.int (p1 >>> (8 &&& (31 : Int32))))]) d_l_changes_176 lk_l_161 ms_l_hop rfl rfl ⟨Nat.le_of_ble_eq_true rfl, Nat.le_of_ble_eq_true rfl⟩ (Nat.le_of_ble_eq_true rfl) (ch_rk (a := 1) (b := 1) hk (Nat.le_of_ble_eq_true rfl) (Nat.le_of_ble_eq_true rfl)) (ch_mono (ch_Ki (fun r153 m154 q155 => ?_)) (v_l_hop g (fun (r_ : Int32) (m_ : ch_M) => (∃ (R151 : Int32) (M152 : ch_M), R151 = r_ ∧ (a_R A_150 m4 R151 M152) ∧ m_ = M152)) (A_150) ((l_sm (p1 >>> (4 &&& (31 : Int32))) ((x_acR (y_can (ch_ob m 1 0)) 0 0 0) + 1))) ((p1 >>> (8 &&& (31 : Int32)))) m4 ⟨b156, b157, b158, (fun R151 M152 f0_ => ⟨R151, M152, rfl, f0_, rfl⟩)⟩))
      obtain ⟨R151, M152, rfl, f0_, hm_⟩ := q155
      replace h := h R151 M152 f0_ m154 hm_
      refine ch_if_lt (tgt := 186) d_l_changes_179 (by decide) (fun c => ?_) (fun c => ?_)
      · replace h := h.1 c
        refine ch_iconst (v := 0) d_l_changes_186 (by decide) ?_
        exact ch_iret (ty := .boolean) d_l_changes_187 rfl rfl (show (k + 2) ≤ 200 by omega) h
      · replace h := h.2 c
        refine ch_iconst (v := 1) d_l_changes_182 (by decide) ?_
        refine ch_goto (tgt := 187) d_l_changes_183 (by decide) ?_
        exact ch_iret (ty := .boolean) d_l_changes_187 rfl rfl (show (k + 2) ≤ 200 by omega) h
  replace h := h.2
  by_cases e8 : (l_sm p1 22) = 8
  · replace h := h.1 e8
    refine ch_tswIn (tgt := 148) (off := 128) d_l_changes_20 (by rw [e8]; decide) (by rw [e8]; decide) (by rw [e8]; rfl) (by decide) ?_
    refine ch_aload_n (i := 0) d_l_changes_148 rfl rfl ?_
    refine ch_iload_n (i := 2) d_l_changes_149 rfl rfl ?_
    refine ch_iload_n (i := 1) d_l_changes_150 rfl rfl ?_
    refine ch_bipush (v := 8) d_l_changes_151 (by decide) ?_
    refine ch_ishr d_l_changes_153 ?_
    refine ch_bipush (v := 7) d_l_changes_154 (by decide) ?_
    have b162 := h.1
    replace h := h.2
    refine ch_callS (as := [.inl (.int (p1 >>> (8 &&& (31 : Int32)))), .inl (.int 7)]) d_l_changes_156 lk_l_146 ms_l_some rfl rfl ⟨Nat.le_of_ble_eq_true rfl, Nat.le_of_ble_eq_true rfl⟩ (Nat.le_of_ble_eq_true rfl) (ch_rk (a := 1) (b := 0) hk (Nat.le_of_ble_eq_true rfl) (Nat.le_of_ble_eq_true rfl)) (ch_mono (ch_Ki (fun r159 m160 q161 => ?_)) (s_l_some g (fun (r_ : Int32) (m_ : ch_M) => ((l_sm (p1 >>> (8 &&& (31 : Int32))) 7) = r_ ∧ m4 = m_)) ((p1 >>> (8 &&& (31 : Int32)))) (7) m4 ⟨b162, ⟨rfl, rfl⟩⟩))
    obtain ⟨rfl, rfl⟩ := q161
    replace h := h
    refine ch_if_ne (tgt := 169) d_l_changes_159 (by decide) (fun c => ?_) (fun c => ?_)
    · replace h := h.1 c
      refine ch_iload_n (i := 1) d_l_changes_169 rfl rfl ?_
      refine ch_bipush (v := 8) d_l_changes_170 (by decide) ?_
      refine ch_ishr d_l_changes_172 ?_
      refine ch_callS (as := [.inl (.int (p1 >>> (8 &&& (31 : Int32))))]) d_l_changes_173 lk_l_158 ms_l_steps rfl rfl ⟨Nat.le_of_ble_eq_true rfl, Nat.le_of_ble_eq_true rfl⟩ (Nat.le_of_ble_eq_true rfl) (ch_rk (a := 1) (b := 0) hk (Nat.le_of_ble_eq_true rfl) (Nat.le_of_ble_eq_true rfl)) (ch_mono (ch_Ki (fun r164 m165 q166 => ?_)) (s_l_steps g (fun (r_ : Int32) (m_ : ch_M) => (∃ (R163 : Int32), R163 = r_ ∧ (l_gd R163 = true) ∧ m4 = m_)) ((p1 >>> (8 &&& (31 : Int32)))) m4 (fun R163 f0_ => ⟨R163, rfl, f0_, rfl⟩)))
      obtain ⟨R163, rfl, f0_, rfl⟩ := q166
      replace h := h R163 f0_
      obtain ⟨A_167, h⟩ := h
      have b173 := h.1
      replace h := h.2
      have b174 := h.1
      replace h := h.2
      have b175 := h.1
      replace h := h.2
      refine ch_callSX (as := [.inr (0, 0, 0), .inl (.int (l_sm (p1 >>> (4 &&& (31 : Int32))) ((x_acR (y_can (ch_ob m 1 0)) 0 0 0) + 1))), .inl (.int R163)]) d_l_changes_176 lk_l_161 ms_l_hop rfl rfl ⟨Nat.le_of_ble_eq_true rfl, Nat.le_of_ble_eq_true rfl⟩ (Nat.le_of_ble_eq_true rfl) (ch_rk (a := 1) (b := 1) hk (Nat.le_of_ble_eq_true rfl) (Nat.le_of_ble_eq_true rfl)) (ch_mono (ch_Ki (fun r170 m171 q172 => ?_)) (v_l_hop g (fun (r_ : Int32) (m_ : ch_M) => (∃ (R168 : Int32) (M169 : ch_M), R168 = r_ ∧ (a_R A_167 m4 R168 M169) ∧ m_ = M169)) (A_167) ((l_sm (p1 >>> (4 &&& (31 : Int32))) ((x_acR (y_can (ch_ob m 1 0)) 0 0 0) + 1))) (R163) m4 ⟨b173, b174, b175, (fun R168 M169 f0_ => ⟨R168, M169, rfl, f0_, rfl⟩)⟩))
      obtain ⟨R168, M169, rfl, f0_, hm_⟩ := q172
      replace h := h R168 M169 f0_ m171 hm_
      refine ch_if_lt (tgt := 186) d_l_changes_179 (by decide) (fun c => ?_) (fun c => ?_)
      · replace h := h.1 c
        refine ch_iconst (v := 0) d_l_changes_186 (by decide) ?_
        exact ch_iret (ty := .boolean) d_l_changes_187 rfl rfl (show (k + 2) ≤ 200 by omega) h
      · replace h := h.2 c
        refine ch_iconst (v := 1) d_l_changes_182 (by decide) ?_
        refine ch_goto (tgt := 187) d_l_changes_183 (by decide) ?_
        exact ch_iret (ty := .boolean) d_l_changes_187 rfl rfl (show (k + 2) ≤ 200 by omega) h
    · replace h := h.2 c
      refine ch_iload_n (i := 1) d_l_changes_162 rfl rfl ?_
      refine ch_bipush (v := 8) d_l_changes_163 (by decide) ?_
      refine ch_ishr d_l_changes_165 ?_
      refine ch_goto (tgt := 176) d_l_changes_166 (by decide) ?_
      obtain ⟨A_176, h⟩ := h
      have b182 := h.1
      replace h := h.2
      have b183 := h.1
      replace h := h.2
      have b184 := h.1
      replace h := h.2
      refine ch_callSX (as := [.inr (0, 0, 0), .inl (.int (l_sm (p1 >>> (4 &&& (31 : Int32))) ((x_acR (y_can (ch_ob m 1 0)) 0 0 0) + 1))), .inl (.int (p1 >>> (8 &&& (31 : Int32))))]) d_l_changes_176 lk_l_161 ms_l_hop rfl rfl ⟨Nat.le_of_ble_eq_true rfl, Nat.le_of_ble_eq_true rfl⟩ (Nat.le_of_ble_eq_true rfl) (ch_rk (a := 1) (b := 1) hk (Nat.le_of_ble_eq_true rfl) (Nat.le_of_ble_eq_true rfl)) (ch_mono (ch_Ki (fun r179 m180 q181 => ?_)) (v_l_hop g (fun (r_ : Int32) (m_ : ch_M) => (∃ (R177 : Int32) (M178 : ch_M), R177 = r_ ∧ (a_R A_176 m4 R177 M178) ∧ m_ = M178)) (A_176) ((l_sm (p1 >>> (4 &&& (31 : Int32))) ((x_acR (y_can (ch_ob m 1 0)) 0 0 0) + 1))) ((p1 >>> (8 &&& (31 : Int32)))) m4 ⟨b182, b183, b184, (fun R177 M178 f0_ => ⟨R177, M178, rfl, f0_, rfl⟩)⟩))
      obtain ⟨R177, M178, rfl, f0_, hm_⟩ := q181
      replace h := h R177 M178 f0_ m180 hm_
      refine ch_if_lt (tgt := 186) d_l_changes_179 (by decide) (fun c => ?_) (fun c => ?_)
      · replace h := h.1 c
        refine ch_iconst (v := 0) d_l_changes_186 (by decide) ?_
        exact ch_iret (ty := .boolean) d_l_changes_187 rfl rfl (show (k + 2) ≤ 200 by omega) h
      · replace h := h.2 c
        refine ch_iconst (v := 1) d_l_changes_182 (by decide) ?_
        refine ch_goto (tgt := 187) d_l_changes_183 (by decide) ?_
        exact ch_iret (ty := .boolean) d_l_changes_187 rfl rfl (show (k + 2) ≤ 200 by omega) h
  replace h := h.2
  by_cases e9 : (l_sm p1 22) = 9
  · replace h := h.1 e9
    refine ch_tswIn (tgt := 188) (off := 168) d_l_changes_20 (by rw [e9]; decide) (by rw [e9]; decide) (by rw [e9]; rfl) (by decide) ?_
    refine ch_aload_n (i := 0) d_l_changes_188 rfl rfl ?_
    refine ch_iload_n (i := 2) d_l_changes_189 rfl rfl ?_
    obtain ⟨A_185, h⟩ := h
    have b191 := h.1
    replace h := h.2
    have b192 := h.1
    replace h := h.2
    have b193 := h.1
    replace h := h.2
    refine ch_callSX (as := [.inr (0, 0, 0), .inl (.int (l_sm (p1 >>> (4 &&& (31 : Int32))) ((x_acR (y_can (ch_ob m 1 0)) 0 0 0) + 1)))]) d_l_changes_190 lk_l_163 ms_l_warrant rfl rfl ⟨Nat.le_of_ble_eq_true rfl, Nat.le_of_ble_eq_true rfl⟩ (Nat.le_of_ble_eq_true rfl) (ch_rk (a := 1) (b := 1) hk (Nat.le_of_ble_eq_true rfl) (Nat.le_of_ble_eq_true rfl)) (ch_mono (ch_Ki (fun r188 m189 q190 => ?_)) (v_l_warrant g (fun (r_ : Int32) (m_ : ch_M) => (∃ (R186 : Int32) (M187 : ch_M), R186 = r_ ∧ (a_R A_185 m4 R186 M187) ∧ m_ = M187)) (A_185) ((l_sm (p1 >>> (4 &&& (31 : Int32))) ((x_acR (y_can (ch_ob m 1 0)) 0 0 0) + 1))) m4 ⟨b191, b192, b193, (fun R186 M187 f0_ => ⟨R186, M187, rfl, f0_, rfl⟩)⟩))
    obtain ⟨R186, M187, rfl, f0_, hm_⟩ := q190
    replace h := h R186 M187 f0_ m189 hm_
    refine ch_if_lt (tgt := 200) d_l_changes_193 (by decide) (fun c => ?_) (fun c => ?_)
    · replace h := h.1 c
      refine ch_iconst (v := 0) d_l_changes_200 (by decide) ?_
      exact ch_iret (ty := .boolean) d_l_changes_201 rfl rfl (show (k + 2) ≤ 200 by omega) h
    · replace h := h.2 c
      refine ch_iconst (v := 1) d_l_changes_196 (by decide) ?_
      refine ch_goto (tgt := 201) d_l_changes_197 (by decide) ?_
      exact ch_iret (ty := .boolean) d_l_changes_201 rfl rfl (show (k + 2) ≤ 200 by omega) h
  replace h := h.2
  by_cases e10 : (l_sm p1 22) = 10
  · replace h := h.1 e10
    refine ch_tswIn (tgt := 188) (off := 168) d_l_changes_20 (by rw [e10]; decide) (by rw [e10]; decide) (by rw [e10]; rfl) (by decide) ?_
    refine ch_aload_n (i := 0) d_l_changes_188 rfl rfl ?_
    refine ch_iload_n (i := 2) d_l_changes_189 rfl rfl ?_
    obtain ⟨A_194, h⟩ := h
    have b200 := h.1
    replace h := h.2
    have b201 := h.1
    replace h := h.2
    have b202 := h.1
    replace h := h.2
    refine ch_callSX (as := [.inr (0, 0, 0), .inl (.int (l_sm (p1 >>> (4 &&& (31 : Int32))) ((x_acR (y_can (ch_ob m 1 0)) 0 0 0) + 1)))]) d_l_changes_190 lk_l_163 ms_l_warrant rfl rfl ⟨Nat.le_of_ble_eq_true rfl, Nat.le_of_ble_eq_true rfl⟩ (Nat.le_of_ble_eq_true rfl) (ch_rk (a := 1) (b := 1) hk (Nat.le_of_ble_eq_true rfl) (Nat.le_of_ble_eq_true rfl)) (ch_mono (ch_Ki (fun r197 m198 q199 => ?_)) (v_l_warrant g (fun (r_ : Int32) (m_ : ch_M) => (∃ (R195 : Int32) (M196 : ch_M), R195 = r_ ∧ (a_R A_194 m4 R195 M196) ∧ m_ = M196)) (A_194) ((l_sm (p1 >>> (4 &&& (31 : Int32))) ((x_acR (y_can (ch_ob m 1 0)) 0 0 0) + 1))) m4 ⟨b200, b201, b202, (fun R195 M196 f0_ => ⟨R195, M196, rfl, f0_, rfl⟩)⟩))
    obtain ⟨R195, M196, rfl, f0_, hm_⟩ := q199
    replace h := h R195 M196 f0_ m198 hm_
    refine ch_if_lt (tgt := 200) d_l_changes_193 (by decide) (fun c => ?_) (fun c => ?_)
    · replace h := h.1 c
      refine ch_iconst (v := 0) d_l_changes_200 (by decide) ?_
      exact ch_iret (ty := .boolean) d_l_changes_201 rfl rfl (show (k + 2) ≤ 200 by omega) h
    · replace h := h.2 c
      refine ch_iconst (v := 1) d_l_changes_196 (by decide) ?_
      refine ch_goto (tgt := 201) d_l_changes_197 (by decide) ?_
      exact ch_iret (ty := .boolean) d_l_changes_201 rfl rfl (show (k + 2) ≤ 200 by omega) h
  replace h := h.2
  by_cases e11 : (l_sm p1 22) = 11
  · replace h := h.1 e11
    refine ch_tswIn (tgt := 202) (off := 182) d_l_changes_20 (by rw [e11]; decide) (by rw [e11]; decide) (by rw [e11]; rfl) (by decide) ?_
    refine ch_aload_n (i := 0) d_l_changes_202 rfl rfl ?_
    refine ch_iload_n (i := 2) d_l_changes_203 rfl rfl ?_
    obtain ⟨A_203, h⟩ := h
    have b209 := h.1
    replace h := h.2
    have b210 := h.1
    replace h := h.2
    have b211 := h.1
    replace h := h.2
    refine ch_callSX (as := [.inr (0, 0, 0), .inl (.int (l_sm (p1 >>> (4 &&& (31 : Int32))) ((x_acR (y_can (ch_ob m 1 0)) 0 0 0) + 1)))]) d_l_changes_204 lk_l_222 ms_l_strike rfl rfl ⟨Nat.le_of_ble_eq_true rfl, Nat.le_of_ble_eq_true rfl⟩ (Nat.le_of_ble_eq_true rfl) (ch_rk (a := 1) (b := 1) hk (Nat.le_of_ble_eq_true rfl) (Nat.le_of_ble_eq_true rfl)) (ch_mono (ch_Ki (fun r206 m207 q208 => ?_)) (v_l_strike g (fun (r_ : Int32) (m_ : ch_M) => (∃ (R204 : Int32) (M205 : ch_M), R204 = r_ ∧ (a_R A_203 m4 R204 M205) ∧ m_ = M205)) (A_203) ((l_sm (p1 >>> (4 &&& (31 : Int32))) ((x_acR (y_can (ch_ob m 1 0)) 0 0 0) + 1))) m4 ⟨b209, b210, b211, (fun R204 M205 f0_ => ⟨R204, M205, rfl, f0_, rfl⟩)⟩))
    obtain ⟨R204, M205, rfl, f0_, hm_⟩ := q208
    replace h := h R204 M205 f0_ m207 hm_
    refine ch_if_lt (tgt := 214) d_l_changes_207 (by decide) (fun c => ?_) (fun c => ?_)
    · replace h := h.1 c
      refine ch_iconst (v := 0) d_l_changes_214 (by decide) ?_
      exact ch_iret (ty := .boolean) d_l_changes_215 rfl rfl (show (k + 2) ≤ 200 by omega) h
    · replace h := h.2 c
      refine ch_iconst (v := 1) d_l_changes_210 (by decide) ?_
      refine ch_goto (tgt := 215) d_l_changes_211 (by decide) ?_
      exact ch_iret (ty := .boolean) d_l_changes_215 rfl rfl (show (k + 2) ≤ 200 by omega) h
  replace h := h.2
  by_cases e12 : (l_sm p1 22) = 12
  · replace h := h.1 e12
    refine ch_tswIn (tgt := 216) (off := 196) d_l_changes_20 (by rw [e12]; decide) (by rw [e12]; decide) (by rw [e12]; rfl) (by decide) ?_
    refine ch_aload_n (i := 0) d_l_changes_216 rfl rfl ?_
    refine ch_iload_n (i := 1) d_l_changes_217 rfl rfl ?_
    refine ch_iconst (v := 4) d_l_changes_218 (by decide) ?_
    refine ch_ishr d_l_changes_219 ?_
    refine ch_iconst (v := 5) d_l_changes_220 (by decide) ?_
    have b215 := h.1
    replace h := h.2
    refine ch_callS (as := [.inl (.int (p1 >>> (4 &&& (31 : Int32)))), .inl (.int 5)]) d_l_changes_221 lk_l_146 ms_l_some rfl rfl ⟨Nat.le_of_ble_eq_true rfl, Nat.le_of_ble_eq_true rfl⟩ (Nat.le_of_ble_eq_true rfl) (ch_rk (a := 1) (b := 0) hk (Nat.le_of_ble_eq_true rfl) (Nat.le_of_ble_eq_true rfl)) (ch_mono (ch_Ki (fun r212 m213 q214 => ?_)) (s_l_some g (fun (r_ : Int32) (m_ : ch_M) => ((l_sm (p1 >>> (4 &&& (31 : Int32))) 5) = r_ ∧ m4 = m_)) ((p1 >>> (4 &&& (31 : Int32)))) (5) m4 ⟨b215, ⟨rfl, rfl⟩⟩))
    obtain ⟨rfl, rfl⟩ := q214
    replace h := h
    obtain ⟨A_216, h⟩ := h
    have b222 := h.1
    replace h := h.2
    have b223 := h.1
    replace h := h.2
    have b224 := h.1
    replace h := h.2
    refine ch_callSX (as := [.inr (0, 0, 0), .inl (.int (l_sm (p1 >>> (4 &&& (31 : Int32))) 5))]) d_l_changes_224 lk_l_224 ms_l_rain rfl rfl ⟨Nat.le_of_ble_eq_true rfl, Nat.le_of_ble_eq_true rfl⟩ (Nat.le_of_ble_eq_true rfl) (ch_rk (a := 1) (b := 1) hk (Nat.le_of_ble_eq_true rfl) (Nat.le_of_ble_eq_true rfl)) (ch_mono (ch_Ki (fun r219 m220 q221 => ?_)) (v_l_rain g (fun (r_ : Int32) (m_ : ch_M) => (∃ (R217 : Int32) (M218 : ch_M), R217 = r_ ∧ (a_R A_216 m4 R217 M218) ∧ m_ = M218)) (A_216) ((l_sm (p1 >>> (4 &&& (31 : Int32))) 5)) m4 ⟨b222, b223, b224, (fun R217 M218 f0_ => ⟨R217, M218, rfl, f0_, rfl⟩)⟩))
    obtain ⟨R217, M218, rfl, f0_, hm_⟩ := q221
    replace h := h R217 M218 f0_ m220 hm_
    refine ch_if_lt (tgt := 234) d_l_changes_227 (by decide) (fun c => ?_) (fun c => ?_)
    · replace h := h.1 c
      refine ch_iconst (v := 0) d_l_changes_234 (by decide) ?_
      exact ch_iret (ty := .boolean) d_l_changes_235 rfl rfl (show (k + 2) ≤ 200 by omega) h
    · replace h := h.2 c
      refine ch_iconst (v := 1) d_l_changes_230 (by decide) ?_
      refine ch_goto (tgt := 235) d_l_changes_231 (by decide) ?_
      exact ch_iret (ty := .boolean) d_l_changes_235 rfl rfl (show (k + 2) ≤ 200 by omega) h
  replace h := h.2
  by_cases e13 : (l_sm p1 22) = 13
  · replace h := h.1 e13
    refine ch_tswIn (tgt := 216) (off := 196) d_l_changes_20 (by rw [e13]; decide) (by rw [e13]; decide) (by rw [e13]; rfl) (by decide) ?_
    refine ch_aload_n (i := 0) d_l_changes_216 rfl rfl ?_
    refine ch_iload_n (i := 1) d_l_changes_217 rfl rfl ?_
    refine ch_iconst (v := 4) d_l_changes_218 (by decide) ?_
    refine ch_ishr d_l_changes_219 ?_
    refine ch_iconst (v := 5) d_l_changes_220 (by decide) ?_
    have b228 := h.1
    replace h := h.2
    refine ch_callS (as := [.inl (.int (p1 >>> (4 &&& (31 : Int32)))), .inl (.int 5)]) d_l_changes_221 lk_l_146 ms_l_some rfl rfl ⟨Nat.le_of_ble_eq_true rfl, Nat.le_of_ble_eq_true rfl⟩ (Nat.le_of_ble_eq_true rfl) (ch_rk (a := 1) (b := 0) hk (Nat.le_of_ble_eq_true rfl) (Nat.le_of_ble_eq_true rfl)) (ch_mono (ch_Ki (fun r225 m226 q227 => ?_)) (s_l_some g (fun (r_ : Int32) (m_ : ch_M) => ((l_sm (p1 >>> (4 &&& (31 : Int32))) 5) = r_ ∧ m4 = m_)) ((p1 >>> (4 &&& (31 : Int32)))) (5) m4 ⟨b228, ⟨rfl, rfl⟩⟩))
    obtain ⟨rfl, rfl⟩ := q227
    replace h := h
    obtain ⟨A_229, h⟩ := h
    have b235 := h.1
    replace h := h.2
    have b236 := h.1
    replace h := h.2
    have b237 := h.1
    replace h := h.2
    refine ch_callSX (as := [.inr (0, 0, 0), .inl (.int (l_sm (p1 >>> (4 &&& (31 : Int32))) 5))]) d_l_changes_224 lk_l_224 ms_l_rain rfl rfl ⟨Nat.le_of_ble_eq_true rfl, Nat.le_of_ble_eq_true rfl⟩ (Nat.le_of_ble_eq_true rfl) (ch_rk (a := 1) (b := 1) hk (Nat.le_of_ble_eq_true rfl) (Nat.le_of_ble_eq_true rfl)) (ch_mono (ch_Ki (fun r232 m233 q234 => ?_)) (v_l_rain g (fun (r_ : Int32) (m_ : ch_M) => (∃ (R230 : Int32) (M231 : ch_M), R230 = r_ ∧ (a_R A_229 m4 R230 M231) ∧ m_ = M231)) (A_229) ((l_sm (p1 >>> (4 &&& (31 : Int32))) 5)) m4 ⟨b235, b236, b237, (fun R230 M231 f0_ => ⟨R230, M231, rfl, f0_, rfl⟩)⟩))
    obtain ⟨R230, M231, rfl, f0_, hm_⟩ := q234
    replace h := h R230 M231 f0_ m233 hm_
    refine ch_if_lt (tgt := 234) d_l_changes_227 (by decide) (fun c => ?_) (fun c => ?_)
    · replace h := h.1 c
      refine ch_iconst (v := 0) d_l_changes_234 (by decide) ?_
      exact ch_iret (ty := .boolean) d_l_changes_235 rfl rfl (show (k + 2) ≤ 200 by omega) h
    · replace h := h.2 c
      refine ch_iconst (v := 1) d_l_changes_230 (by decide) ?_
      refine ch_goto (tgt := 235) d_l_changes_231 (by decide) ?_
      exact ch_iret (ty := .boolean) d_l_changes_235 rfl rfl (show (k + 2) ≤ 200 by omega) h
  replace h := h.2
  by_cases e14 : (l_sm p1 22) = 14
  · replace h := h.1 e14
    refine ch_tswIn (tgt := 236) (off := 216) d_l_changes_20 (by rw [e14]; decide) (by rw [e14]; decide) (by rw [e14]; rfl) (by decide) ?_
    refine ch_aload_n (i := 0) d_l_changes_236 rfl rfl ?_
    refine ch_iload_n (i := 2) d_l_changes_237 rfl rfl ?_
    refine ch_iload_n (i := 1) d_l_changes_238 rfl rfl ?_
    refine ch_bipush (v := 8) d_l_changes_239 (by decide) ?_
    refine ch_ishr d_l_changes_241 ?_
    refine ch_aload_n (i := 0) d_l_changes_242 rfl rfl ?_
    refine ch_iconst (v := 0) d_l_changes_243 (by decide) ?_
    obtain ⟨T_238, h⟩ := h
    have b243 := h.1
    replace h := h.2
    have b244 := h.1
    replace h := h.2
    refine ch_callSX (as := [.inr (0, 0, 0), .inl (.int 0)]) d_l_changes_244 lk_l_186 ms_l_account rfl rfl ⟨Nat.le_of_ble_eq_true rfl, Nat.le_of_ble_eq_true rfl⟩ (Nat.le_of_ble_eq_true rfl) (ch_rk (a := 1) (b := 1) hk (Nat.le_of_ble_eq_true rfl) (Nat.le_of_ble_eq_true rfl)) (ch_mono (ch_Ki (fun r240 m241 q242 => ?_)) (t_l_account g (fun (r_ : Int32) (m_ : ch_M) => (∃ (M239 : ch_M), (x_acR (y_can (ch_ob m4 1 0)) 0 0 0) = r_ ∧ (a_same m4 M239) ∧ (a_wr M239) ∧ m_ = M239)) (T_238) (0) m4 ⟨b243, b244, (fun M239 f0_ f1_ => ⟨M239, rfl, f0_, f1_, rfl⟩)⟩))
    obtain ⟨M239, rfl, f0_, f1_, hm_⟩ := q242
    replace h := h M239 f0_ f1_ m241 hm_
    refine ch_iconst (v := 1) d_l_changes_247 (by decide) ?_
    refine ch_iadd d_l_changes_248 ?_
    have b248 := h.1
    replace h := h.2
    refine ch_callS (as := [.inl (.int (p1 >>> (8 &&& (31 : Int32)))), .inl (.int ((x_acR (y_can (ch_ob m4 1 0)) 0 0 0) + 1))]) d_l_changes_249 lk_l_146 ms_l_some rfl rfl ⟨Nat.le_of_ble_eq_true rfl, Nat.le_of_ble_eq_true rfl⟩ (Nat.le_of_ble_eq_true rfl) (ch_rk (a := 2) (b := 0) hk (Nat.le_of_ble_eq_true rfl) (Nat.le_of_ble_eq_true rfl)) (ch_mono (ch_Ki (fun r245 m246 q247 => ?_)) (s_l_some g (fun (r_ : Int32) (m_ : ch_M) => ((l_sm (p1 >>> (8 &&& (31 : Int32))) ((x_acR (y_can (ch_ob m4 1 0)) 0 0 0) + 1)) = r_ ∧ m241 = m_)) ((p1 >>> (8 &&& (31 : Int32)))) (((x_acR (y_can (ch_ob m4 1 0)) 0 0 0) + 1)) m241 ⟨b248, ⟨rfl, rfl⟩⟩))
    obtain ⟨rfl, rfl⟩ := q247
    replace h := h
    refine ch_iload_n (i := 1) d_l_changes_252 rfl rfl ?_
    refine ch_bipush (v := 11) d_l_changes_253 (by decide) ?_
    refine ch_ishr d_l_changes_255 ?_
    refine ch_bipush (v := 9) d_l_changes_256 (by decide) ?_
    have b252 := h.1
    replace h := h.2
    refine ch_callS (as := [.inl (.int (p1 >>> (11 &&& (31 : Int32)))), .inl (.int 9)]) d_l_changes_258 lk_l_146 ms_l_some rfl rfl ⟨Nat.le_of_ble_eq_true rfl, Nat.le_of_ble_eq_true rfl⟩ (Nat.le_of_ble_eq_true rfl) (ch_rk (a := 2) (b := 0) hk (Nat.le_of_ble_eq_true rfl) (Nat.le_of_ble_eq_true rfl)) (ch_mono (ch_Ki (fun r249 m250 q251 => ?_)) (s_l_some g (fun (r_ : Int32) (m_ : ch_M) => ((l_sm (p1 >>> (11 &&& (31 : Int32))) 9) = r_ ∧ m241 = m_)) ((p1 >>> (11 &&& (31 : Int32)))) (9) m241 ⟨b252, ⟨rfl, rfl⟩⟩))
    obtain ⟨rfl, rfl⟩ := q251
    replace h := h
    obtain ⟨A_253, h⟩ := h
    have b259 := h.1
    replace h := h.2
    have b260 := h.1
    replace h := h.2
    have b261 := h.1
    replace h := h.2
    refine ch_callSX (as := [.inr (0, 0, 0), .inl (.int (l_sm (p1 >>> (4 &&& (31 : Int32))) ((x_acR (y_can (ch_ob m 1 0)) 0 0 0) + 1))), .inl (.int (l_sm (p1 >>> (8 &&& (31 : Int32))) ((x_acR (y_can (ch_ob m4 1 0)) 0 0 0) + 1))), .inl (.int (l_sm (p1 >>> (11 &&& (31 : Int32))) 9))]) d_l_changes_261 lk_l_226 ms_l_give rfl rfl ⟨Nat.le_of_ble_eq_true rfl, Nat.le_of_ble_eq_true rfl⟩ (Nat.le_of_ble_eq_true rfl) (ch_rk (a := 2) (b := 1) hk (Nat.le_of_ble_eq_true rfl) (Nat.le_of_ble_eq_true rfl)) (ch_mono (ch_Ki (fun r256 m257 q258 => ?_)) (v_l_give g (fun (r_ : Int32) (m_ : ch_M) => (∃ (R254 : Int32) (M255 : ch_M), R254 = r_ ∧ (a_R A_253 m241 R254 M255) ∧ m_ = M255)) (A_253) ((l_sm (p1 >>> (4 &&& (31 : Int32))) ((x_acR (y_can (ch_ob m 1 0)) 0 0 0) + 1))) ((l_sm (p1 >>> (8 &&& (31 : Int32))) ((x_acR (y_can (ch_ob m4 1 0)) 0 0 0) + 1))) ((l_sm (p1 >>> (11 &&& (31 : Int32))) 9)) m241 ⟨b259, b260, b261, (fun R254 M255 f0_ => ⟨R254, M255, rfl, f0_, rfl⟩)⟩))
    obtain ⟨R254, M255, rfl, f0_, hm_⟩ := q258
    replace h := h R254 M255 f0_ m257 hm_
    refine ch_if_lt (tgt := 271) d_l_changes_264 (by decide) (fun c => ?_) (fun c => ?_)
    · replace h := h.1 c
      refine ch_iconst (v := 0) d_l_changes_271 (by decide) ?_
      exact ch_iret (ty := .boolean) d_l_changes_272 rfl rfl (show (k + 3) ≤ 200 by omega) h
    · replace h := h.2 c
      refine ch_iconst (v := 1) d_l_changes_267 (by decide) ?_
      refine ch_goto (tgt := 272) d_l_changes_268 (by decide) ?_
      exact ch_iret (ty := .boolean) d_l_changes_272 rfl rfl (show (k + 3) ≤ 200 by omega) h
  replace h := h.2
  by_cases e15 : (l_sm p1 22) = 15
  · replace h := h.1 e15
    refine ch_tswIn (tgt := 273) (off := 253) d_l_changes_20 (by rw [e15]; decide) (by rw [e15]; decide) (by rw [e15]; rfl) (by decide) ?_
    exact h
  replace h := h.2
  by_cases e16 : (l_sm p1 22) = 16
  · replace h := h.1 e16
    refine ch_tswIn (tgt := 273) (off := 253) d_l_changes_20 (by rw [e16]; decide) (by rw [e16]; decide) (by rw [e16]; rfl) (by decide) ?_
    exact h
  replace h := h.2
  have hx : (Int32.toInt (l_sm p1 22) < 0 ∨ 16 < Int32.toInt (l_sm p1 22)) := by
    have f0 : Int32.toInt (l_sm p1 22) ≠ 0 := fun q => e0 (Int32.toInt_inj.mp (q.trans (by decide)))
    have f1 : Int32.toInt (l_sm p1 22) ≠ 1 := fun q => e1 (Int32.toInt_inj.mp (q.trans (by decide)))
    have f2 : Int32.toInt (l_sm p1 22) ≠ 2 := fun q => e2 (Int32.toInt_inj.mp (q.trans (by decide)))
    have f3 : Int32.toInt (l_sm p1 22) ≠ 3 := fun q => e3 (Int32.toInt_inj.mp (q.trans (by decide)))
    have f4 : Int32.toInt (l_sm p1 22) ≠ 4 := fun q => e4 (Int32.toInt_inj.mp (q.trans (by decide)))
    have f5 : Int32.toInt (l_sm p1 22) ≠ 5 := fun q => e5 (Int32.toInt_inj.mp (q.trans (by decide)))
    have f6 : Int32.toInt (l_sm p1 22) ≠ 6 := fun q => e6 (Int32.toInt_inj.mp (q.trans (by decide)))
    have f7 : Int32.toInt (l_sm p1 22) ≠ 7 := fun q => e7 (Int32.toInt_inj.mp (q.trans (by decide)))
    have f8 : Int32.toInt (l_sm p1 22) ≠ 8 := fun q => e8 (Int32.toInt_inj.mp (q.trans (by decide)))
    have f9 : Int32.toInt (l_sm p1 22) ≠ 9 := fun q => e9 (Int32.toInt_inj.mp (q.trans (by decide)))
    have f10 : Int32.toInt (l_sm p1 22) ≠ 10 := fun q => e10 (Int32.toInt_inj.mp (q.trans (by decide)))
    have f11 : Int32.toInt (l_sm p1 22) ≠ 11 := fun q => e11 (Int32.toInt_inj.mp (q.trans (by decide)))
    have f12 : Int32.toInt (l_sm p1 22) ≠ 12 := fun q => e12 (Int32.toInt_inj.mp (q.trans (by decide)))
    have f13 : Int32.toInt (l_sm p1 22) ≠ 13 := fun q => e13 (Int32.toInt_inj.mp (q.trans (by decide)))
    have f14 : Int32.toInt (l_sm p1 22) ≠ 14 := fun q => e14 (Int32.toInt_inj.mp (q.trans (by decide)))
    have f15 : Int32.toInt (l_sm p1 22) ≠ 15 := fun q => e15 (Int32.toInt_inj.mp (q.trans (by decide)))
    have f16 : Int32.toInt (l_sm p1 22) ≠ 16 := fun q => e16 (Int32.toInt_inj.mp (q.trans (by decide)))
    omega
  replace h := h hx
  refine ch_tswOut (tgt := 354) d_l_changes_20 hx (by decide) ?_
  refine ch_aload_n (i := 0) d_l_changes_354 rfl rfl ?_
  obtain ⟨A_262, h⟩ := h
  have b268 := h.1
  replace h := h.2
  have b269 := h.1
  replace h := h.2
  have b270 := h.1
  replace h := h.2
  refine ch_callSX (as := [.inr (0, 0, 0)]) d_l_changes_355 lk_l_252 ms_l_term rfl rfl ⟨Nat.le_of_ble_eq_true rfl, Nat.le_of_ble_eq_true rfl⟩ (Nat.le_of_ble_eq_true rfl) (ch_rk (a := 1) (b := 1) hk (Nat.le_of_ble_eq_true rfl) (Nat.le_of_ble_eq_true rfl)) (ch_mono (ch_Ki (fun r265 m266 q267 => ?_)) (v_l_term g (fun (r_ : Int32) (m_ : ch_M) => (∃ (R263 : Int32) (M264 : ch_M), R263 = r_ ∧ (a_R A_262 m4 R263 M264) ∧ m_ = M264)) (A_262) m4 ⟨b268, b269, b270, (fun R263 M264 f0_ => ⟨R263, M264, rfl, f0_, rfl⟩)⟩))
  obtain ⟨R263, M264, rfl, f0_, hm_⟩ := q267
  replace h := h R263 M264 f0_ m266 hm_
  refine ch_if_lt (tgt := 365) d_l_changes_358 (by decide) (fun c => ?_) (fun c => ?_)
  · replace h := h.1 c
    refine ch_iconst (v := 0) d_l_changes_365 (by decide) ?_
    exact ch_iret (ty := .boolean) d_l_changes_366 rfl rfl (show (k + 2) ≤ 200 by omega) h
  · replace h := h.2 c
    refine ch_iconst (v := 1) d_l_changes_361 (by decide) ?_
    refine ch_goto (tgt := 366) d_l_changes_362 (by decide) ?_
    exact ch_iret (ty := .boolean) d_l_changes_366 rfl rfl (show (k + 2) ≤ 200 by omega) h
