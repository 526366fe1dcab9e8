theorem e_y_copyFrom (g : ch_G) (Q : ch_O → ch_M → Prop) (j : Nat) (j1 : Nat) (m : ch_M) (h : ch_J g m_y_copyFrom (ch_rm m_y_copyFrom) (ch_E g m_y_copyFrom Q) 0 [some (.inr (1, j, 0)), some (.inr (1, j1, 0))] [] m 0) : ch_C g m_y_copyFrom [.inr (1, j, 0), .inr (1, j1, 0)] m Q :=
  ch_enter mf_y_copyFrom (by intro v hv; simp only [List.mem_cons, List.not_mem_nil, or_false] at hv; rcases hv with rfl | rfl <;> rfl) (Nat.le_of_ble_eq_true rfl) h
set_option maxHeartbeats 1600000 in
theorem g_y_copyFrom_0 (g : ch_G) (Q : ch_O → ch_M → Prop) (j : Nat) (j1 : Nat) (m : ch_M) (h : (∀ m1 : ch_M, m1 = ch_cpy m (1, j1, 1) (1, j, 1) 0 0 12 → (∀ m2 : ch_M, m2 = ch_cpy m1 (1, j1, 2) (1, j, 2) 0 0 12 → (∀ m3 : ch_M, m3 = ch_cpy m2 (1, j1, 3) (1, j, 3) 0 0 5 → (∀ m4 : ch_M, m4 = ch_cpy m3 (1, j1, 4) (1, j, 4) 0 0 5 → (∀ m5 : ch_M, m5 = ch_cpy m4 (1, j1, 5) (1, j, 5) 0 0 5 → (∀ m6 : ch_M, m6 = ch_cpy m5 (1, j1, 6) (1, j, 6) 0 0 5 → (∀ m7 : ch_M, m7 = ch_cpy m6 (1, j1, 7) (1, j, 7) 0 0 5 → (∀ m8 : ch_M, m8 = ch_cpy m7 (1, j1, 8) (1, j, 8) 0 0 5 → (∀ m9 : ch_M, m9 = ch_wr m8 (1, j, 0) 8 (m8 (1, j1, 0) 8) → (∀ m10 : ch_M, m10 = ch_wr m9 (1, j, 0) 9 (m9 (1, j1, 0) 9) → (∀ m11 : ch_M, m11 = ch_wr m10 (1, j, 0) 10 (m10 (1, j1, 0) 10) → (∀ m12 : ch_M, m12 = ch_wr m11 (1, j, 0) 11 (m11 (1, j1, 0) 11) → (∀ m13 : ch_M, m13 = ch_wr m12 (1, j, 0) 12 (m12 (1, j1, 0) 12) → (∀ m14 : ch_M, m14 = ch_wr m13 (1, j, 0) 13 (m13 (1, j1, 0) 13) → (∀ m15 : ch_M, m15 = ch_wr m14 (1, j, 0) 14 (m14 (1, j1, 0) 14) → (∀ m16 : ch_M, m16 = ch_wr m15 (1, j, 0) 15 (m15 (1, j1, 0) 15) → (∀ m17 : ch_M, m17 = ch_wr m16 (1, j, 0) 16 (m16 (1, j1, 0) 16) → Q (.inl none) m17)))))))))))))))))) : ch_J g m_y_copyFrom (ch_rm m_y_copyFrom) (ch_E g m_y_copyFrom Q) 0 [some (.inr (1, j, 0)), some (.inr (1, j1, 0))] [] m 0 := by
  refine ch_aload_n (i := 1) d_y_copyFrom_0 rfl rfl ?_
  refine ch_get (v := .inr (1, j1, 1)) d_y_copyFrom_1 fl_y_9 rfl ?_
  refine ch_iconst (v := 0) d_y_copyFrom_4 (by decide) ?_
  refine ch_aload_n (i := 0) d_y_copyFrom_5 rfl rfl ?_
  refine ch_get (v := .inr (1, j, 1)) d_y_copyFrom_6 fl_y_9 rfl ?_
  refine ch_iconst (v := 0) d_y_copyFrom_9 (by decide) ?_
  refine ch_bipush (v := 12) d_y_copyFrom_10 (by decide) ?_
  refine ch_copy (n1 := 12) (n2 := 12) d_y_copyFrom_12 lk_y_36 (by decide) (by decide) rfl rfl ⟨Nat.le_of_ble_eq_true rfl, Nat.le_of_ble_eq_true rfl⟩ (Nat.le_of_ble_eq_true rfl) (by decide) (by decide) (by decide) (by decide) (by decide) ?_
  show ch_J g _ _ _ _ _ _ (ch_cpy m (1, j1, 1) (1, j, 1) 0 0 12) _
  generalize hmm1 : ch_cpy m (1, j1, 1) (1, j, 1) 0 0 12 = m1
  replace h := h m1 hmm1.symm
  refine ch_aload_n (i := 1) d_y_copyFrom_15 rfl rfl ?_
  refine ch_get (v := .inr (1, j1, 2)) d_y_copyFrom_16 fl_y_15 rfl ?_
  refine ch_iconst (v := 0) d_y_copyFrom_19 (by decide) ?_
  refine ch_aload_n (i := 0) d_y_copyFrom_20 rfl rfl ?_
  refine ch_get (v := .inr (1, j, 2)) d_y_copyFrom_21 fl_y_15 rfl ?_
  refine ch_iconst (v := 0) d_y_copyFrom_24 (by decide) ?_
  refine ch_bipush (v := 12) d_y_copyFrom_25 (by decide) ?_
  refine ch_copy (n1 := 12) (n2 := 12) d_y_copyFrom_27 lk_y_36 (by decide) (by decide) rfl rfl ⟨Nat.le_of_ble_eq_true rfl, Nat.le_of_ble_eq_true rfl⟩ (Nat.le_of_ble_eq_true rfl) (by decide) (by decide) (by decide) (by decide) (by decide) ?_
  show ch_J g _ _ _ _ _ _ (ch_cpy m1 (1, j1, 2) (1, j, 2) 0 0 12) _
  generalize hmm2 : ch_cpy m1 (1, j1, 2) (1, j, 2) 0 0 12 = m2
  replace h := h m2 hmm2.symm
  refine ch_aload_n (i := 1) d_y_copyFrom_30 rfl rfl ?_
  refine ch_get (v := .inr (1, j1, 3)) d_y_copyFrom_31 fl_y_18 rfl ?_
  refine ch_iconst (v := 0) d_y_copyFrom_34 (by decide) ?_
  refine ch_aload_n (i := 0) d_y_copyFrom_35 rfl rfl ?_
  refine ch_get (v := .inr (1, j, 3)) d_y_copyFrom_36 fl_y_18 rfl ?_
  refine ch_iconst (v := 0) d_y_copyFrom_39 (by decide) ?_
  refine ch_iconst (v := 5) d_y_copyFrom_40 (by decide) ?_
  refine ch_copy (n1 := 5) (n2 := 5) d_y_copyFrom_41 lk_y_36 (by decide) (by decide) rfl rfl ⟨Nat.le_of_ble_eq_true rfl, Nat.le_of_ble_eq_true rfl⟩ (Nat.le_of_ble_eq_true rfl) (by decide) (by decide) (by decide) (by decide) (by decide) ?_
  show ch_J g _ _ _ _ _ _ (ch_cpy m2 (1, j1, 3) (1, j, 3) 0 0 5) _
  generalize hmm3 : ch_cpy m2 (1, j1, 3) (1, j, 3) 0 0 5 = m3
  replace h := h m3 hmm3.symm
  refine ch_aload_n (i := 1) d_y_copyFrom_44 rfl rfl ?_
  refine ch_get (v := .inr (1, j1, 4)) d_y_copyFrom_45 fl_y_21 rfl ?_
  refine ch_iconst (v := 0) d_y_copyFrom_48 (by decide) ?_
  refine ch_aload_n (i := 0) d_y_copyFrom_49 rfl rfl ?_
  refine ch_get (v := .inr (1, j, 4)) d_y_copyFrom_50 fl_y_21 rfl ?_
  refine ch_iconst (v := 0) d_y_copyFrom_53 (by decide) ?_
  refine ch_iconst (v := 5) d_y_copyFrom_54 (by decide) ?_
  refine ch_copy (n1 := 5) (n2 := 5) d_y_copyFrom_55 lk_y_36 (by decide) (by decide) rfl rfl ⟨Nat.le_of_ble_eq_true rfl, Nat.le_of_ble_eq_true rfl⟩ (Nat.le_of_ble_eq_true rfl) (by decide) (by decide) (by decide) (by decide) (by decide) ?_
  show ch_J g _ _ _ _ _ _ (ch_cpy m3 (1, j1, 4) (1, j, 4) 0 0 5) _
  generalize hmm4 : ch_cpy m3 (1, j1, 4) (1, j, 4) 0 0 5 = m4
  replace h := h m4 hmm4.symm
  refine ch_aload_n (i := 1) d_y_copyFrom_58 rfl rfl ?_
  refine ch_get (v := .inr (1, j1, 5)) d_y_copyFrom_59 fl_y_24 rfl ?_
  refine ch_iconst (v := 0) d_y_copyFrom_62 (by decide) ?_
  refine ch_aload_n (i := 0) d_y_copyFrom_63 rfl rfl ?_
  refine ch_get (v := .inr (1, j, 5)) d_y_copyFrom_64 fl_y_24 rfl ?_
  refine ch_iconst (v := 0) d_y_copyFrom_67 (by decide) ?_
  refine ch_iconst (v := 5) d_y_copyFrom_68 (by decide) ?_
  refine ch_copy (n1 := 5) (n2 := 5) d_y_copyFrom_69 lk_y_36 (by decide) (by decide) rfl rfl ⟨Nat.le_of_ble_eq_true rfl, Nat.le_of_ble_eq_true rfl⟩ (Nat.le_of_ble_eq_true rfl) (by decide) (by decide) (by decide) (by decide) (by decide) ?_
  show ch_J g _ _ _ _ _ _ (ch_cpy m4 (1, j1, 5) (1, j, 5) 0 0 5) _
  generalize hmm5 : ch_cpy m4 (1, j1, 5) (1, j, 5) 0 0 5 = m5
  replace h := h m5 hmm5.symm
  refine ch_aload_n (i := 1) d_y_copyFrom_72 rfl rfl ?_
  refine ch_get (v := .inr (1, j1, 6)) d_y_copyFrom_73 fl_y_27 rfl ?_
  refine ch_iconst (v := 0) d_y_copyFrom_76 (by decide) ?_
  refine ch_aload_n (i := 0) d_y_copyFrom_77 rfl rfl ?_
  refine ch_get (v := .inr (1, j, 6)) d_y_copyFrom_78 fl_y_27 rfl ?_
  refine ch_iconst (v := 0) d_y_copyFrom_81 (by decide) ?_
  refine ch_iconst (v := 5) d_y_copyFrom_82 (by decide) ?_
  refine ch_copy (n1 := 5) (n2 := 5) d_y_copyFrom_83 lk_y_36 (by decide) (by decide) rfl rfl ⟨Nat.le_of_ble_eq_true rfl, Nat.le_of_ble_eq_true rfl⟩ (Nat.le_of_ble_eq_true rfl) (by decide) (by decide) (by decide) (by decide) (by decide) ?_
  show ch_J g _ _ _ _ _ _ (ch_cpy m5 (1, j1, 6) (1, j, 6) 0 0 5) _
  generalize hmm6 : ch_cpy m5 (1, j1, 6) (1, j, 6) 0 0 5 = m6
  replace h := h m6 hmm6.symm
  refine ch_aload_n (i := 1) d_y_copyFrom_86 rfl rfl ?_
  refine ch_get (v := .inr (1, j1, 7)) d_y_copyFrom_87 fl_y_30 rfl ?_
  refine ch_iconst (v := 0) d_y_copyFrom_90 (by decide) ?_
  refine ch_aload_n (i := 0) d_y_copyFrom_91 rfl rfl ?_
  refine ch_get (v := .inr (1, j, 7)) d_y_copyFrom_92 fl_y_30 rfl ?_
  refine ch_iconst (v := 0) d_y_copyFrom_95 (by decide) ?_
  refine ch_iconst (v := 5) d_y_copyFrom_96 (by decide) ?_
  refine ch_copy (n1 := 5) (n2 := 5) d_y_copyFrom_97 lk_y_36 (by decide) (by decide) rfl rfl ⟨Nat.le_of_ble_eq_true rfl, Nat.le_of_ble_eq_true rfl⟩ (Nat.le_of_ble_eq_true rfl) (by decide) (by decide) (by decide) (by decide) (by decide) ?_
  show ch_J g _ _ _ _ _ _ (ch_cpy m6 (1, j1, 7) (1, j, 7) 0 0 5) _
  generalize hmm7 : ch_cpy m6 (1, j1, 7) (1, j, 7) 0 0 5 = m7
  replace h := h m7 hmm7.symm
  refine ch_aload_n (i := 1) d_y_copyFrom_100 rfl rfl ?_
  refine ch_get (v := .inr (1, j1, 8)) d_y_copyFrom_101 fl_y_33 rfl ?_
  refine ch_iconst (v := 0) d_y_copyFrom_104 (by decide) ?_
  refine ch_aload_n (i := 0) d_y_copyFrom_105 rfl rfl ?_
  refine ch_get (v := .inr (1, j, 8)) d_y_copyFrom_106 fl_y_33 rfl ?_
  refine ch_iconst (v := 0) d_y_copyFrom_109 (by decide) ?_
  refine ch_iconst (v := 5) d_y_copyFrom_110 (by decide) ?_
  refine ch_copy (n1 := 5) (n2 := 5) d_y_copyFrom_111 lk_y_36 (by decide) (by decide) rfl rfl ⟨Nat.le_of_ble_eq_true rfl, Nat.le_of_ble_eq_true rfl⟩ (Nat.le_of_ble_eq_true rfl) (by decide) (by decide) (by decide) (by decide) (by decide) ?_
  show ch_J g _ _ _ _ _ _ (ch_cpy m7 (1, j1, 8) (1, j, 8) 0 0 5) _
  generalize hmm8 : ch_cpy m7 (1, j1, 8) (1, j, 8) 0 0 5 = m8
  replace h := h m8 hmm8.symm
  refine ch_aload_n (i := 0) d_y_copyFrom_114 rfl rfl ?_
  refine ch_aload_n (i := 1) d_y_copyFrom_115 rfl rfl ?_
  refine ch_get (v := .inl (.int (m8 (1, j1, 0) 8))) d_y_copyFrom_116 fl_y_42 rfl ?_
  refine ch_put d_y_copyFrom_119 fp_y_42 rfl rfl rfl ?_
  generalize hmm9 : ch_wr m8 (1, j, 0) 8 (m8 (1, j1, 0) 8) = m9
  replace h := h m9 hmm9.symm
  refine ch_aload_n (i := 0) d_y_copyFrom_122 rfl rfl ?_
  refine ch_aload_n (i := 1) d_y_copyFrom_123 rfl rfl ?_
  refine ch_get (v := .inl (.int (m9 (1, j1, 0) 9))) d_y_copyFrom_124 fl_y_46 rfl ?_
  refine ch_put d_y_copyFrom_127 fp_y_46 rfl rfl rfl ?_
  generalize hmm10 : ch_wr m9 (1, j, 0) 9 (m9 (1, j1, 0) 9) = m10
  replace h := h m10 hmm10.symm
  refine ch_aload_n (i := 0) d_y_copyFrom_130 rfl rfl ?_
  refine ch_aload_n (i := 1) d_y_copyFrom_131 rfl rfl ?_
  refine ch_get (v := .inl (.int (m10 (1, j1, 0) 10))) d_y_copyFrom_132 fl_y_49 rfl ?_
  refine ch_put d_y_copyFrom_135 fp_y_49 rfl rfl rfl ?_
  generalize hmm11 : ch_wr m10 (1, j, 0) 10 (m10 (1, j1, 0) 10) = m11
  replace h := h m11 hmm11.symm
  refine ch_aload_n (i := 0) d_y_copyFrom_138 rfl rfl ?_
  refine ch_aload_n (i := 1) d_y_copyFrom_139 rfl rfl ?_
  refine ch_get (v := .inl (.int (m11 (1, j1, 0) 11))) d_y_copyFrom_140 fl_y_52 rfl ?_
  refine ch_put d_y_copyFrom_143 fp_y_52 rfl rfl rfl ?_
  generalize hmm12 : ch_wr m11 (1, j, 0) 11 (m11 (1, j1, 0) 11) = m12
  replace h := h m12 hmm12.symm
  refine ch_aload_n (i := 0) d_y_copyFrom_146 rfl rfl ?_
  refine ch_aload_n (i := 1) d_y_copyFrom_147 rfl rfl ?_
  refine ch_get (v := .inl (.int (m12 (1, j1, 0) 12))) d_y_copyFrom_148 fl_y_55 rfl ?_
  refine ch_put d_y_copyFrom_151 fp_y_55 rfl rfl rfl ?_
  generalize hmm13 : ch_wr m12 (1, j, 0) 12 (m12 (1, j1, 0) 12) = m13
  replace h := h m13 hmm13.symm
  refine ch_aload_n (i := 0) d_y_copyFrom_154 rfl rfl ?_
  refine ch_aload_n (i := 1) d_y_copyFrom_155 rfl rfl ?_
  refine ch_get (v := .inl (.int (m13 (1, j1, 0) 13))) d_y_copyFrom_156 fl_y_58 rfl ?_
  refine ch_put d_y_copyFrom_159 fp_y_58 rfl rfl rfl ?_
  generalize hmm14 : ch_wr m13 (1, j, 0) 13 (m13 (1, j1, 0) 13) = m14
  replace h := h m14 hmm14.symm
  refine ch_aload_n (i := 0) d_y_copyFrom_162 rfl rfl ?_
  refine ch_aload_n (i := 1) d_y_copyFrom_163 rfl rfl ?_
  refine ch_get (v := .inl (.int (m14 (1, j1, 0) 14))) d_y_copyFrom_164 fl_y_61 rfl ?_
  refine ch_put d_y_copyFrom_167 fp_y_61 rfl rfl rfl ?_
  generalize hmm15 : ch_wr m14 (1, j, 0) 14 (m14 (1, j1, 0) 14) = m15
  replace h := h m15 hmm15.symm
  refine ch_aload_n (i := 0) d_y_copyFrom_170 rfl rfl ?_
  refine ch_aload_n (i := 1) d_y_copyFrom_171 rfl rfl ?_
  refine ch_get (v := .inl (.int (m15 (1, j1, 0) 15))) d_y_copyFrom_172 fl_y_64 rfl ?_
  refine ch_put d_y_copyFrom_175 fp_y_64 rfl rfl rfl ?_
  generalize hmm16 : ch_wr m15 (1, j, 0) 15 (m15 (1, j1, 0) 15) = m16
  replace h := h m16 hmm16.symm
  refine ch_aload_n (i := 0) d_y_copyFrom_178 rfl rfl ?_
  refine ch_aload_n (i := 1) d_y_copyFrom_179 rfl rfl ?_
  refine ch_get (v := .inl (.int (m16 (1, j1, 0) 16))) d_y_copyFrom_180 fl_y_67 rfl ?_
  refine ch_put d_y_copyFrom_183 fp_y_67 rfl rfl rfl ?_
  generalize hmm17 : ch_wr m16 (1, j, 0) 16 (m16 (1, j1, 0) 16) = m17
  replace h := h m17 hmm17.symm
  exact ch_vret d_y_copyFrom_186 rfl (Nat.le_of_ble_eq_true rfl) h
theorem e_y_carryOut (g : ch_G) (Q : ch_O → ch_M → Prop) (j : Nat) (m : ch_M) (h : ch_J g m_y_carryOut (ch_rm m_y_carryOut) (ch_E g m_y_carryOut Q) 0 [some (.inr (1, j, 0)), some (.inr (4, 0, 0))] [] m 0) : ch_C g m_y_carryOut [.inr (1, j, 0), .inr (4, 0, 0)] m Q :=
  ch_enter mf_y_carryOut (by intro v hv; simp only [List.mem_cons, List.not_mem_nil, or_false] at hv; rcases hv with rfl | rfl <;> rfl) (Nat.le_of_ble_eq_true rfl) h
set_option maxHeartbeats 1600000 in
theorem g_y_carryOut_0 (g : ch_G) (Q : ch_O → ch_M → Prop) (j : Nat) (m : ch_M) (h : (((m (4, 0, 0) 1) = 99 → (ch_C g m_y_chalkOn [.inr (1, j, 0), .inl (.int (m (4, 0, 0) 2)), .inl (.int (m (4, 0, 0) 4))] m (ch_oi (fun (r1 : Int32) (m2 : ch_M) => Q (.inl (some (.inl (.int r1)))) m2)))) ∧ ((m (4, 0, 0) 1) = 100 → (ch_C g m_y_handOver [.inr (1, j, 0), .inl (.int (m (4, 0, 0) 2)), .inl (.int (m (4, 0, 0) 3)), .inl (.int (m (4, 0, 0) 4))] m (ch_oi (fun (r3 : Int32) (m4 : ch_M) => Q (.inl (some (.inl (.int r3)))) m4)))) ∧ ((m (4, 0, 0) 1) = 101 → (ch_C g m_y_handOver [.inr (1, j, 0), .inl (.int (m (4, 0, 0) 2)), .inl (.int (m (4, 0, 0) 3)), .inl (.int (m (4, 0, 0) 4))] m (ch_oi (fun (r5 : Int32) (m6 : ch_M) => Q (.inl (some (.inl (.int r5)))) m6)))) ∧ ((m (4, 0, 0) 1) = 102 → (ch_C g m_y_handOver [.inr (1, j, 0), .inl (.int (m (4, 0, 0) 2)), .inl (.int (m (4, 0, 0) 3)), .inl (.int (m (4, 0, 0) 4))] m (ch_oi (fun (r7 : Int32) (m8 : ch_M) => Q (.inl (some (.inl (.int r7)))) m8)))) ∧ ((m (4, 0, 0) 1) = 103 → (ch_C g m_y_handOver [.inr (1, j, 0), .inl (.int (m (4, 0, 0) 2)), .inl (.int (m (4, 0, 0) 3)), .inl (.int (m (4, 0, 0) 4))] m (ch_oi (fun (r9 : Int32) (m10 : ch_M) => Q (.inl (some (.inl (.int r9)))) m10)))) ∧ ((m (4, 0, 0) 1) = 104 → (ch_C g m_y_hopBy [.inr (1, j, 0), .inl (.int (m (4, 0, 0) 2)), .inr (5, 0, 0)] m (ch_oi (fun (r11 : Int32) (m12 : ch_M) => Q (.inl (some (.inl (.int r11)))) m12)))) ∧ ((m (4, 0, 0) 1) = 105 → (ch_C g m_y_handOver [.inr (1, j, 0), .inl (.int (m (4, 0, 0) 2)), .inl (.int (m (4, 0, 0) 3)), .inl (.int (m (4, 0, 0) 4))] m (ch_oi (fun (r13 : Int32) (m14 : ch_M) => Q (.inl (some (.inl (.int r13)))) m14)))) ∧ ((m (4, 0, 0) 1) = 106 → (ch_C g m_y_handOver [.inr (1, j, 0), .inl (.int (m (4, 0, 0) 2)), .inl (.int (m (4, 0, 0) 3)), .inl (.int (m (4, 0, 0) 4))] m (ch_oi (fun (r15 : Int32) (m16 : ch_M) => Q (.inl (some (.inl (.int r15)))) m16)))) ∧ ((m (4, 0, 0) 1) = 107 → (ch_C g m_y_handOver [.inr (1, j, 0), .inl (.int (m (4, 0, 0) 2)), .inl (.int (m (4, 0, 0) 3)), .inl (.int (m (4, 0, 0) 4))] m (ch_oi (fun (r17 : Int32) (m18 : ch_M) => Q (.inl (some (.inl (.int r17)))) m18)))) ∧ ((m (4, 0, 0) 1) = 108 → (ch_C g m_y_handOver [.inr (1, j, 0), .inl (.int (m (4, 0, 0) 2)), .inl (.int (m (4, 0, 0) 3)), .inl (.int (m (4, 0, 0) 4))] m (ch_oi (fun (r19 : Int32) (m20 : ch_M) => Q (.inl (some (.inl (.int r19)))) m20)))) ∧ ((m (4, 0, 0) 1) = 109 → (ch_C g m_y_handOver [.inr (1, j, 0), .inl (.int (m (4, 0, 0) 2)), .inl (.int (m (4, 0, 0) 3)), .inl (.int (m (4, 0, 0) 4))] m (ch_oi (fun (r21 : Int32) (m22 : ch_M) => Q (.inl (some (.inl (.int r21)))) m22)))) ∧ ((m (4, 0, 0) 1) = 110 → (ch_C g m_y_bring [.inr (1, j, 0), .inl (.int (m (4, 0, 0) 4))] m (ch_oi (fun (r23 : Int32) (m24 : ch_M) => Q (.inl (some (.inl (.int r23)))) m24)))) ∧ ((m (4, 0, 0) 1) = 111 → (ch_C g m_y_handOver [.inr (1, j, 0), .inl (.int (m (4, 0, 0) 2)), .inl (.int (m (4, 0, 0) 3)), .inl (.int (m (4, 0, 0) 4))] m (ch_oi (fun (r25 : Int32) (m26 : ch_M) => Q (.inl (some (.inl (.int r25)))) m26)))) ∧ ((m (4, 0, 0) 1) = 112 → (ch_C g m_y_handOver [.inr (1, j, 0), .inl (.int (m (4, 0, 0) 2)), .inl (.int (m (4, 0, 0) 3)), .inl (.int (m (4, 0, 0) 4))] m (ch_oi (fun (r27 : Int32) (m28 : ch_M) => Q (.inl (some (.inl (.int r27)))) m28)))) ∧ ((m (4, 0, 0) 1) = 113 → (ch_C g m_y_handOver [.inr (1, j, 0), .inl (.int (m (4, 0, 0) 2)), .inl (.int (m (4, 0, 0) 3)), .inl (.int (m (4, 0, 0) 4))] m (ch_oi (fun (r29 : Int32) (m30 : ch_M) => Q (.inl (some (.inl (.int r29)))) m30)))) ∧ ((m (4, 0, 0) 1) = 114 → (ch_C g m_y_wash [.inr (1, j, 0), .inl (.int (m (4, 0, 0) 4))] m (ch_oi (fun (r31 : Int32) (m32 : ch_M) => Q (.inl (some (.inl (.int r31)))) m32)))) ∧ ((m (4, 0, 0) 1) = 115 → (ch_C g m_y_strikeOut [.inr (1, j, 0), .inl (.int (m (4, 0, 0) 2))] m (ch_oi (fun (r33 : Int32) (m34 : ch_M) => Q (.inl (some (.inl (.int r33)))) m34)))) ∧ ((m (4, 0, 0) 1) = 116 → (ch_C g m_y_endTerm [.inr (1, j, 0)] m (ch_oi (fun (r35 : Int32) (m36 : ch_M) => Q (.inl (some (.inl (.int r35)))) m36)))) ∧ ((m (4, 0, 0) 1) = 117 → (ch_C g m_y_handOver [.inr (1, j, 0), .inl (.int (m (4, 0, 0) 2)), .inl (.int (m (4, 0, 0) 3)), .inl (.int (m (4, 0, 0) 4))] m (ch_oi (fun (r37 : Int32) (m38 : ch_M) => Q (.inl (some (.inl (.int r37)))) m38)))) ∧ ((m (4, 0, 0) 1) = 118 → (ch_C g m_y_handOver [.inr (1, j, 0), .inl (.int (m (4, 0, 0) 2)), .inl (.int (m (4, 0, 0) 3)), .inl (.int (m (4, 0, 0) 4))] m (ch_oi (fun (r39 : Int32) (m40 : ch_M) => Q (.inl (some (.inl (.int r39)))) m40)))) ∧ ((m (4, 0, 0) 1) = 119 → (ch_C g m_y_writeAgainst [.inr (1, j, 0), .inl (.int (m (4, 0, 0) 2))] m (ch_oi (fun (r41 : Int32) (m42 : ch_M) => Q (.inl (some (.inl (.int r41)))) m42)))) ∧ ((Int32.toInt (m (4, 0, 0) 1) < 99 ∨ 119 < Int32.toInt (m (4, 0, 0) 1)) → (ch_C g m_y_handOver [.inr (1, j, 0), .inl (.int (m (4, 0, 0) 2)), .inl (.int (m (4, 0, 0) 3)), .inl (.int (m (4, 0, 0) 4))] m (ch_oi (fun (r43 : Int32) (m44 : ch_M) => Q (.inl (some (.inl (.int r43)))) m44)))))) : ch_J g m_y_carryOut (ch_rm m_y_carryOut) (ch_E g m_y_carryOut Q) 0 [some (.inr (1, j, 0)), some (.inr (4, 0, 0))] [] m 0 := by
  refine ch_aload_n (i := 1) d_y_carryOut_0 rfl rfl ?_
  refine ch_get (v := .inl (.int (m (4, 0, 0) 1))) d_y_carryOut_1 fl_y_70 rfl ?_
  by_cases e99 : (m (4, 0, 0) 1) = 99
  · replace h := h.1 e99
    refine ch_tswIn (tgt := 113) (off := 109) d_y_carryOut_4 (by rw [e99]; decide) (by rw [e99]; decide) (by rw [e99]; rfl) (by decide) ?_
    refine ch_aload_n (i := 0) d_y_carryOut_113 rfl rfl ?_
    refine ch_aload_n (i := 1) d_y_carryOut_114 rfl rfl ?_
    refine ch_get (v := .inl (.int (m (4, 0, 0) 2))) d_y_carryOut_115 fl_y_82 rfl ?_
    refine ch_aload_n (i := 1) d_y_carryOut_118 rfl rfl ?_
    refine ch_get (v := .inl (.int (m (4, 0, 0) 4))) d_y_carryOut_119 fl_y_75 rfl ?_
    refine ch_callV (as := [.inl (.int (m (4, 0, 0) 2)), .inl (.int (m (4, 0, 0) 4))]) d_y_carryOut_122 lk_y_85 mi_y_chalkOn me_y_chalkOn rfl rfl rfl ⟨Nat.le_of_ble_eq_true rfl, Nat.le_of_ble_eq_true rfl⟩ (Nat.le_of_ble_eq_true rfl) ⟨Nat.le_of_ble_eq_true rfl, Nat.le_of_ble_eq_true rfl⟩ (ch_mono (ch_Ki (fun r1 m2 h => ?_)) h)
    exact ch_iret (ty := .int) d_y_carryOut_125 rfl rfl (Nat.le_of_ble_eq_true rfl) h
  replace h := h.2
  by_cases e100 : (m (4, 0, 0) 1) = 100
  · replace h := h.1 e100
    refine ch_tswIn (tgt := 171) (off := 167) d_y_carryOut_4 (by rw [e100]; decide) (by rw [e100]; decide) (by rw [e100]; rfl) (by decide) ?_
    refine ch_aload_n (i := 0) d_y_carryOut_171 rfl rfl ?_
    refine ch_aload_n (i := 1) d_y_carryOut_172 rfl rfl ?_
    refine ch_get (v := .inl (.int (m (4, 0, 0) 2))) d_y_carryOut_173 fl_y_82 rfl ?_
    refine ch_aload_n (i := 1) d_y_carryOut_176 rfl rfl ?_
    refine ch_get (v := .inl (.int (m (4, 0, 0) 3))) d_y_carryOut_177 fl_y_110 rfl ?_
    refine ch_aload_n (i := 1) d_y_carryOut_180 rfl rfl ?_
    refine ch_get (v := .inl (.int (m (4, 0, 0) 4))) d_y_carryOut_181 fl_y_75 rfl ?_
    refine ch_callV (as := [.inl (.int (m (4, 0, 0) 2)), .inl (.int (m (4, 0, 0) 3)), .inl (.int (m (4, 0, 0) 4))]) d_y_carryOut_184 lk_y_113 mi_y_handOver me_y_handOver rfl rfl rfl ⟨Nat.le_of_ble_eq_true rfl, Nat.le_of_ble_eq_true rfl⟩ (Nat.le_of_ble_eq_true rfl) ⟨Nat.le_of_ble_eq_true rfl, Nat.le_of_ble_eq_true rfl⟩ (ch_mono (ch_Ki (fun r3 m4 h => ?_)) h)
    exact ch_iret (ty := .int) d_y_carryOut_187 rfl rfl (Nat.le_of_ble_eq_true rfl) h
  replace h := h.2
  by_cases e101 : (m (4, 0, 0) 1) = 101
  · replace h := h.1 e101
    refine ch_tswIn (tgt := 171) (off := 167) d_y_carryOut_4 (by rw [e101]; decide) (by rw [e101]; decide) (by rw [e101]; rfl) (by decide) ?_
    refine ch_aload_n (i := 0) d_y_carryOut_171 rfl rfl ?_
    refine ch_aload_n (i := 1) d_y_carryOut_172 rfl rfl ?_
    refine ch_get (v := .inl (.int (m (4, 0, 0) 2))) d_y_carryOut_173 fl_y_82 rfl ?_
    refine ch_aload_n (i := 1) d_y_carryOut_176 rfl rfl ?_
    refine ch_get (v := .inl (.int (m (4, 0, 0) 3))) d_y_carryOut_177 fl_y_110 rfl ?_
    refine ch_aload_n (i := 1) d_y_carryOut_180 rfl rfl ?_
    refine ch_get (v := .inl (.int (m (4, 0, 0) 4))) d_y_carryOut_181 fl_y_75 rfl ?_
    refine ch_callV (as := [.inl (.int (m (4, 0, 0) 2)), .inl (.int (m (4, 0, 0) 3)), .inl (.int (m (4, 0, 0) 4))]) d_y_carryOut_184 lk_y_113 mi_y_handOver me_y_handOver rfl rfl rfl ⟨Nat.le_of_ble_eq_true rfl, Nat.le_of_ble_eq_true rfl⟩ (Nat.le_of_ble_eq_true rfl) ⟨Nat.le_of_ble_eq_true rfl, Nat.le_of_ble_eq_true rfl⟩ (ch_mono (ch_Ki (fun r5 m6 h => ?_)) h)
    exact ch_iret (ty := .int) d_y_carryOut_187 rfl rfl (Nat.le_of_ble_eq_true rfl) h
  replace h := h.2
  by_cases e102 : (m (4, 0, 0) 1) = 102
  · replace h := h.1 e102
    refine ch_tswIn (tgt := 171) (off := 167) d_y_carryOut_4 (by rw [e102]; decide) (by rw [e102]; decide) (by rw [e102]; rfl) (by decide) ?_
    refine ch_aload_n (i := 0) d_y_carryOut_171 rfl rfl ?_
    refine ch_aload_n (i := 1) d_y_carryOut_172 rfl rfl ?_
    refine ch_get (v := .inl (.int (m (4, 0, 0) 2))) d_y_carryOut_173 fl_y_82 rfl ?_
    refine ch_aload_n (i := 1) d_y_carryOut_176 rfl rfl ?_
    refine ch_get (v := .inl (.int (m (4, 0, 0) 3))) d_y_carryOut_177 fl_y_110 rfl ?_
    refine ch_aload_n (i := 1) d_y_carryOut_180 rfl rfl ?_
    refine ch_get (v := .inl (.int (m (4, 0, 0) 4))) d_y_carryOut_181 fl_y_75 rfl ?_
    refine ch_callV (as := [.inl (.int (m (4, 0, 0) 2)), .inl (.int (m (4, 0, 0) 3)), .inl (.int (m (4, 0, 0) 4))]) d_y_carryOut_184 lk_y_113 mi_y_handOver me_y_handOver rfl rfl rfl ⟨Nat.le_of_ble_eq_true rfl, Nat.le_of_ble_eq_true rfl⟩ (Nat.le_of_ble_eq_true rfl) ⟨Nat.le_of_ble_eq_true rfl, Nat.le_of_ble_eq_true rfl⟩ (ch_mono (ch_Ki (fun r7 m8 h => ?_)) h)
    exact ch_iret (ty := .int) d_y_carryOut_187 rfl rfl (Nat.le_of_ble_eq_true rfl) h
  replace h := h.2
  by_cases e103 : (m (4, 0, 0) 1) = 103
  · replace h := h.1 e103
    refine ch_tswIn (tgt := 171) (off := 167) d_y_carryOut_4 (by rw [e103]; decide) (by rw [e103]; decide) (by rw [e103]; rfl) (by decide) ?_
    refine ch_aload_n (i := 0) d_y_carryOut_171 rfl rfl ?_
    refine ch_aload_n (i := 1) d_y_carryOut_172 rfl rfl ?_
    refine ch_get (v := .inl (.int (m (4, 0, 0) 2))) d_y_carryOut_173 fl_y_82 rfl ?_
    refine ch_aload_n (i := 1) d_y_carryOut_176 rfl rfl ?_
    refine ch_get (v := .inl (.int (m (4, 0, 0) 3))) d_y_carryOut_177 fl_y_110 rfl ?_
    refine ch_aload_n (i := 1) d_y_carryOut_180 rfl rfl ?_
    refine ch_get (v := .inl (.int (m (4, 0, 0) 4))) d_y_carryOut_181 fl_y_75 rfl ?_
    refine ch_callV (as := [.inl (.int (m (4, 0, 0) 2)), .inl (.int (m (4, 0, 0) 3)), .inl (.int (m (4, 0, 0) 4))]) d_y_carryOut_184 lk_y_113 mi_y_handOver me_y_handOver rfl rfl rfl ⟨Nat.le_of_ble_eq_true rfl, Nat.le_of_ble_eq_true rfl⟩ (Nat.le_of_ble_eq_true rfl) ⟨Nat.le_of_ble_eq_true rfl, Nat.le_of_ble_eq_true rfl⟩ (ch_mono (ch_Ki (fun r9 m10 h => ?_)) h)
    exact ch_iret (ty := .int) d_y_carryOut_187 rfl rfl (Nat.le_of_ble_eq_true rfl) h
  replace h := h.2
  by_cases e104 : (m (4, 0, 0) 1) = 104
  · replace h := h.1 e104
    refine ch_tswIn (tgt := 126) (off := 122) d_y_carryOut_4 (by rw [e104]; decide) (by rw [e104]; decide) (by rw [e104]; rfl) (by decide) ?_
    refine ch_aload_n (i := 0) d_y_carryOut_126 rfl rfl ?_
    refine ch_aload_n (i := 1) d_y_carryOut_127 rfl rfl ?_
    refine ch_get (v := .inl (.int (m (4, 0, 0) 2))) d_y_carryOut_128 fl_y_82 rfl ?_
    refine ch_aload_n (i := 1) d_y_carryOut_131 rfl rfl ?_
    refine ch_get (v := .inr (5, 0, 0)) d_y_carryOut_132 fl_y_89 rfl ?_
    refine ch_callV (as := [.inl (.int (m (4, 0, 0) 2)), .inr (5, 0, 0)]) d_y_carryOut_135 lk_y_93 mi_y_hopBy me_y_hopBy rfl rfl rfl ⟨Nat.le_of_ble_eq_true rfl, Nat.le_of_ble_eq_true rfl⟩ (Nat.le_of_ble_eq_true rfl) ⟨Nat.le_of_ble_eq_true rfl, Nat.le_of_ble_eq_true rfl⟩ (ch_mono (ch_Ki (fun r11 m12 h => ?_)) h)
    exact ch_iret (ty := .int) d_y_carryOut_138 rfl rfl (Nat.le_of_ble_eq_true rfl) h
  replace h := h.2
  by_cases e105 : (m (4, 0, 0) 1) = 105
  · replace h := h.1 e105
    refine ch_tswIn (tgt := 171) (off := 167) d_y_carryOut_4 (by rw [e105]; decide) (by rw [e105]; decide) (by rw [e105]; rfl) (by decide) ?_
    refine ch_aload_n (i := 0) d_y_carryOut_171 rfl rfl ?_
    refine ch_aload_n (i := 1) d_y_carryOut_172 rfl rfl ?_
    refine ch_get (v := .inl (.int (m (4, 0, 0) 2))) d_y_carryOut_173 fl_y_82 rfl ?_
    refine ch_aload_n (i := 1) d_y_carryOut_176 rfl rfl ?_
    refine ch_get (v := .inl (.int (m (4, 0, 0) 3))) d_y_carryOut_177 fl_y_110 rfl ?_
    refine ch_aload_n (i := 1) d_y_carryOut_180 rfl rfl ?_
    refine ch_get (v := .inl (.int (m (4, 0, 0) 4))) d_y_carryOut_181 fl_y_75 rfl ?_
    refine ch_callV (as := [.inl (.int (m (4, 0, 0) 2)), .inl (.int (m (4, 0, 0) 3)), .inl (.int (m (4, 0, 0) 4))]) d_y_carryOut_184 lk_y_113 mi_y_handOver me_y_handOver rfl rfl rfl ⟨Nat.le_of_ble_eq_true rfl, Nat.le_of_ble_eq_true rfl⟩ (Nat.le_of_ble_eq_true rfl) ⟨Nat.le_of_ble_eq_true rfl, Nat.le_of_ble_eq_true rfl⟩ (ch_mono (ch_Ki (fun r13 m14 h => ?_)) h)
    exact ch_iret (ty := .int) d_y_carryOut_187 rfl rfl (Nat.le_of_ble_eq_true rfl) h
  replace h := h.2
  by_cases e106 : (m (4, 0, 0) 1) = 106
  · replace h := h.1 e106
    refine ch_tswIn (tgt := 171) (off := 167) d_y_carryOut_4 (by rw [e106]; decide) (by rw [e106]; decide) (by rw [e106]; rfl) (by decide) ?_
    refine ch_aload_n (i := 0) d_y_carryOut_171 rfl rfl ?_
    refine ch_aload_n (i := 1) d_y_carryOut_172 rfl rfl ?_
    refine ch_get (v := .inl (.int (m (4, 0, 0) 2))) d_y_carryOut_173 fl_y_82 rfl ?_
    refine ch_aload_n (i := 1) d_y_carryOut_176 rfl rfl ?_
    refine ch_get (v := .inl (.int (m (4, 0, 0) 3))) d_y_carryOut_177 fl_y_110 rfl ?_
    refine ch_aload_n (i := 1) d_y_carryOut_180 rfl rfl ?_
    refine ch_get (v := .inl (.int (m (4, 0, 0) 4))) d_y_carryOut_181 fl_y_75 rfl ?_
    refine ch_callV (as := [.inl (.int (m (4, 0, 0) 2)), .inl (.int (m (4, 0, 0) 3)), .inl (.int (m (4, 0, 0) 4))]) d_y_carryOut_184 lk_y_113 mi_y_handOver me_y_handOver rfl rfl rfl ⟨Nat.le_of_ble_eq_true rfl, Nat.le_of_ble_eq_true rfl⟩ (Nat.le_of_ble_eq_true rfl) ⟨Nat.le_of_ble_eq_true rfl, Nat.le_of_ble_eq_true rfl⟩ (ch_mono (ch_Ki (fun r15 m16 h => ?_)) h)
    exact ch_iret (ty := .int) d_y_carryOut_187 rfl rfl (Nat.le_of_ble_eq_true rfl) h
  replace h := h.2
  by_cases e107 : (m (4, 0, 0) 1) = 107
  · replace h := h.1 e107
    refine ch_tswIn (tgt := 171) (off := 167) d_y_carryOut_4 (by rw [e107]; decide) (by rw [e107]; decide) (by rw [e107]; rfl) (by decide) ?_
    refine ch_aload_n (i := 0) d_y_carryOut_171 rfl rfl ?_
    refine ch_aload_n (i := 1) d_y_carryOut_172 rfl rfl ?_
    refine ch_get (v := .inl (.int (m (4, 0, 0) 2))) d_y_carryOut_173 fl_y_82 rfl ?_
    refine ch_aload_n (i := 1) d_y_carryOut_176 rfl rfl ?_
    refine ch_get (v := .inl (.int (m (4, 0, 0) 3))) d_y_carryOut_177 fl_y_110 rfl ?_
    refine ch_aload_n (i := 1) d_y_carryOut_180 rfl rfl ?_
    refine ch_get (v := .inl (.int (m (4, 0, 0) 4))) d_y_carryOut_181 fl_y_75 rfl ?_
    refine ch_callV (as := [.inl (.int (m (4, 0, 0) 2)), .inl (.int (m (4, 0, 0) 3)), .inl (.int (m (4, 0, 0) 4))]) d_y_carryOut_184 lk_y_113 mi_y_handOver me_y_handOver rfl rfl rfl ⟨Nat.le_of_ble_eq_true rfl, Nat.le_of_ble_eq_true rfl⟩ (Nat.le_of_ble_eq_true rfl) ⟨Nat.le_of_ble_eq_true rfl, Nat.le_of_ble_eq_true rfl⟩ (ch_mono (ch_Ki (fun r17 m18 h => ?_)) h)
    exact ch_iret (ty := .int) d_y_carryOut_187 rfl rfl (Nat.le_of_ble_eq_true rfl) h
  replace h := h.2
  by_cases e108 : (m (4, 0, 0) 1) = 108
  · replace h := h.1 e108
    refine ch_tswIn (tgt := 171) (off := 167) d_y_carryOut_4 (by rw [e108]; decide) (by rw [e108]; decide) (by rw [e108]; rfl) (by decide) ?_
    refine ch_aload_n (i := 0) d_y_carryOut_171 rfl rfl ?_
    refine ch_aload_n (i := 1) d_y_carryOut_172 rfl rfl ?_
    refine ch_get (v := .inl (.int (m (4, 0, 0) 2))) d_y_carryOut_173 fl_y_82 rfl ?_
    refine ch_aload_n (i := 1) d_y_carryOut_176 rfl rfl ?_
    refine ch_get (v := .inl (.int (m (4, 0, 0) 3))) d_y_carryOut_177 fl_y_110 rfl ?_
    refine ch_aload_n (i := 1) d_y_carryOut_180 rfl rfl ?_
    refine ch_get (v := .inl (.int (m (4, 0, 0) 4))) d_y_carryOut_181 fl_y_75 rfl ?_
    refine ch_callV (as := [.inl (.int (m (4, 0, 0) 2)), .inl (.int (m (4, 0, 0) 3)), .inl (.int (m (4, 0, 0) 4))]) d_y_carryOut_184 lk_y_113 mi_y_handOver me_y_handOver rfl rfl rfl ⟨Nat.le_of_ble_eq_true rfl, Nat.le_of_ble_eq_true rfl⟩ (Nat.le_of_ble_eq_true rfl) ⟨Nat.le_of_ble_eq_true rfl, Nat.le_of_ble_eq_true rfl⟩ (ch_mono (ch_Ki (fun r19 m20 h => ?_)) h)
    exact ch_iret (ty := .int) d_y_carryOut_187 rfl rfl (Nat.le_of_ble_eq_true rfl) h
  replace h := h.2
  by_cases e109 : (m (4, 0, 0) 1) = 109
  · replace h := h.1 e109
    refine ch_tswIn (tgt := 171) (off := 167) d_y_carryOut_4 (by rw [e109]; decide) (by rw [e109]; decide) (by rw [e109]; rfl) (by decide) ?_
    refine ch_aload_n (i := 0) d_y_carryOut_171 rfl rfl ?_
    refine ch_aload_n (i := 1) d_y_carryOut_172 rfl rfl ?_
    refine ch_get (v := .inl (.int (m (4, 0, 0) 2))) d_y_carryOut_173 fl_y_82 rfl ?_
    refine ch_aload_n (i := 1) d_y_carryOut_176 rfl rfl ?_
    refine ch_get (v := .inl (.int (m (4, 0, 0) 3))) d_y_carryOut_177 fl_y_110 rfl ?_
    refine ch_aload_n (i := 1) d_y_carryOut_180 rfl rfl ?_
    refine ch_get (v := .inl (.int (m (4, 0, 0) 4))) d_y_carryOut_181 fl_y_75 rfl ?_
    refine ch_callV (as := [.inl (.int (m (4, 0, 0) 2)), .inl (.int (m (4, 0, 0) 3)), .inl (.int (m (4, 0, 0) 4))]) d_y_carryOut_184 lk_y_113 mi_y_handOver me_y_handOver rfl rfl rfl ⟨Nat.le_of_ble_eq_true rfl, Nat.le_of_ble_eq_true rfl⟩ (Nat.le_of_ble_eq_true rfl) ⟨Nat.le_of_ble_eq_true rfl, Nat.le_of_ble_eq_true rfl⟩ (ch_mono (ch_Ki (fun r21 m22 h => ?_)) h)
    exact ch_iret (ty := .int) d_y_carryOut_187 rfl rfl (Nat.le_of_ble_eq_true rfl) h
  replace h := h.2
  by_cases e110 : (m (4, 0, 0) 1) = 110
  · replace h := h.1 e110
    refine ch_tswIn (tgt := 104) (off := 100) d_y_carryOut_4 (by rw [e110]; decide) (by rw [e110]; decide) (by rw [e110]; rfl) (by decide) ?_
    refine ch_aload_n (i := 0) d_y_carryOut_104 rfl rfl ?_
    refine ch_aload_n (i := 1) d_y_carryOut_105 rfl rfl ?_
    refine ch_get (v := .inl (.int (m (4, 0, 0) 4))) d_y_carryOut_106 fl_y_75 rfl ?_
    refine ch_callV (as := [.inl (.int (m (4, 0, 0) 4))]) d_y_carryOut_109 lk_y_78 mi_y_bring me_y_bring rfl rfl rfl ⟨Nat.le_of_ble_eq_true rfl, Nat.le_of_ble_eq_true rfl⟩ (Nat.le_of_ble_eq_true rfl) ⟨Nat.le_of_ble_eq_true rfl, Nat.le_of_ble_eq_true rfl⟩ (ch_mono (ch_Ki (fun r23 m24 h => ?_)) h)
    exact ch_iret (ty := .int) d_y_carryOut_112 rfl rfl (Nat.le_of_ble_eq_true rfl) h
  replace h := h.2
  by_cases e111 : (m (4, 0, 0) 1) = 111
  · replace h := h.1 e111
    refine ch_tswIn (tgt := 171) (off := 167) d_y_carryOut_4 (by rw [e111]; decide) (by rw [e111]; decide) (by rw [e111]; rfl) (by decide) ?_
    refine ch_aload_n (i := 0) d_y_carryOut_171 rfl rfl ?_
    refine ch_aload_n (i := 1) d_y_carryOut_172 rfl rfl ?_
    refine ch_get (v := .inl (.int (m (4, 0, 0) 2))) d_y_carryOut_173 fl_y_82 rfl ?_
    refine ch_aload_n (i := 1) d_y_carryOut_176 rfl rfl ?_
    refine ch_get (v := .inl (.int (m (4, 0, 0) 3))) d_y_carryOut_177 fl_y_110 rfl ?_
    refine ch_aload_n (i := 1) d_y_carryOut_180 rfl rfl ?_
    refine ch_get (v := .inl (.int (m (4, 0, 0) 4))) d_y_carryOut_181 fl_y_75 rfl ?_
    refine ch_callV (as := [.inl (.int (m (4, 0, 0) 2)), .inl (.int (m (4, 0, 0) 3)), .inl (.int (m (4, 0, 0) 4))]) d_y_carryOut_184 lk_y_113 mi_y_handOver me_y_handOver rfl rfl rfl ⟨Nat.le_of_ble_eq_true rfl, Nat.le_of_ble_eq_true rfl⟩ (Nat.le_of_ble_eq_true rfl) ⟨Nat.le_of_ble_eq_true rfl, Nat.le_of_ble_eq_true rfl⟩ (ch_mono (ch_Ki (fun r25 m26 h => ?_)) h)
    exact ch_iret (ty := .int) d_y_carryOut_187 rfl rfl (Nat.le_of_ble_eq_true rfl) h
  replace h := h.2
  by_cases e112 : (m (4, 0, 0) 1) = 112
  · replace h := h.1 e112
    refine ch_tswIn (tgt := 171) (off := 167) d_y_carryOut_4 (by rw [e112]; decide) (by rw [e112]; decide) (by rw [e112]; rfl) (by decide) ?_
    refine ch_aload_n (i := 0) d_y_carryOut_171 rfl rfl ?_
    refine ch_aload_n (i := 1) d_y_carryOut_172 rfl rfl ?_
    refine ch_get (v := .inl (.int (m (4, 0, 0) 2))) d_y_carryOut_173 fl_y_82 rfl ?_
    refine ch_aload_n (i := 1) d_y_carryOut_176 rfl rfl ?_
    refine ch_get (v := .inl (.int (m (4, 0, 0) 3))) d_y_carryOut_177 fl_y_110 rfl ?_
    refine ch_aload_n (i := 1) d_y_carryOut_180 rfl rfl ?_
    refine ch_get (v := .inl (.int (m (4, 0, 0) 4))) d_y_carryOut_181 fl_y_75 rfl ?_
    refine ch_callV (as := [.inl (.int (m (4, 0, 0) 2)), .inl (.int (m (4, 0, 0) 3)), .inl (.int (m (4, 0, 0) 4))]) d_y_carryOut_184 lk_y_113 mi_y_handOver me_y_handOver rfl rfl rfl ⟨Nat.le_of_ble_eq_true rfl, Nat.le_of_ble_eq_true rfl⟩ (Nat.le_of_ble_eq_true rfl) ⟨Nat.le_of_ble_eq_true rfl, Nat.le_of_ble_eq_true rfl⟩ (ch_mono (ch_Ki (fun r27 m28 h => ?_)) h)
    exact ch_iret (ty := .int) d_y_carryOut_187 rfl rfl (Nat.le_of_ble_eq_true rfl) h
  replace h := h.2
  by_cases e113 : (m (4, 0, 0) 1) = 113
  · replace h := h.1 e113
    refine ch_tswIn (tgt := 171) (off := 167) d_y_carryOut_4 (by rw [e113]; decide) (by rw [e113]; decide) (by rw [e113]; rfl) (by decide) ?_
    refine ch_aload_n (i := 0) d_y_carryOut_171 rfl rfl ?_
    refine ch_aload_n (i := 1) d_y_carryOut_172 rfl rfl ?_
    refine ch_get (v := .inl (.int (m (4, 0, 0) 2))) d_y_carryOut_173 fl_y_82 rfl ?_
    refine ch_aload_n (i := 1) d_y_carryOut_176 rfl rfl ?_
    refine ch_get (v := .inl (.int (m (4, 0, 0) 3))) d_y_carryOut_177 fl_y_110 rfl ?_
    refine ch_aload_n (i := 1) d_y_carryOut_180 rfl rfl ?_
    refine ch_get (v := .inl (.int (m (4, 0, 0) 4))) d_y_carryOut_181 fl_y_75 rfl ?_
    refine ch_callV (as := [.inl (.int (m (4, 0, 0) 2)), .inl (.int (m (4, 0, 0) 3)), .inl (.int (m (4, 0, 0) 4))]) d_y_carryOut_184 lk_y_113 mi_y_handOver me_y_handOver rfl rfl rfl ⟨Nat.le_of_ble_eq_true rfl, Nat.le_of_ble_eq_true rfl⟩ (Nat.le_of_ble_eq_true rfl) ⟨Nat.le_of_ble_eq_true rfl, Nat.le_of_ble_eq_true rfl⟩ (ch_mono (ch_Ki (fun r29 m30 h => ?_)) h)
    exact ch_iret (ty := .int) d_y_carryOut_187 rfl rfl (Nat.le_of_ble_eq_true rfl) h
  replace h := h.2
  by_cases e114 : (m (4, 0, 0) 1) = 114
  · replace h := h.1 e114
    refine ch_tswIn (tgt := 157) (off := 153) d_y_carryOut_4 (by rw [e114]; decide) (by rw [e114]; decide) (by rw [e114]; rfl) (by decide) ?_
    refine ch_aload_n (i := 0) d_y_carryOut_157 rfl rfl ?_
    refine ch_aload_n (i := 1) d_y_carryOut_158 rfl rfl ?_
    refine ch_get (v := .inl (.int (m (4, 0, 0) 4))) d_y_carryOut_159 fl_y_75 rfl ?_
    refine ch_callV (as := [.inl (.int (m (4, 0, 0) 4))]) d_y_carryOut_162 lk_y_103 mi_y_wash me_y_wash rfl rfl rfl ⟨Nat.le_of_ble_eq_true rfl, Nat.le_of_ble_eq_true rfl⟩ (Nat.le_of_ble_eq_true rfl) ⟨Nat.le_of_ble_eq_true rfl, Nat.le_of_ble_eq_true rfl⟩ (ch_mono (ch_Ki (fun r31 m32 h => ?_)) h)
    exact ch_iret (ty := .int) d_y_carryOut_165 rfl rfl (Nat.le_of_ble_eq_true rfl) h
  replace h := h.2
  by_cases e115 : (m (4, 0, 0) 1) = 115
  · replace h := h.1 e115
    refine ch_tswIn (tgt := 148) (off := 144) d_y_carryOut_4 (by rw [e115]; decide) (by rw [e115]; decide) (by rw [e115]; rfl) (by decide) ?_
    refine ch_aload_n (i := 0) d_y_carryOut_148 rfl rfl ?_
    refine ch_aload_n (i := 1) d_y_carryOut_149 rfl rfl ?_
    refine ch_get (v := .inl (.int (m (4, 0, 0) 2))) d_y_carryOut_150 fl_y_82 rfl ?_
    refine ch_callV (as := [.inl (.int (m (4, 0, 0) 2))]) d_y_carryOut_153 lk_y_100 mi_y_strikeOut me_y_strikeOut rfl rfl rfl ⟨Nat.le_of_ble_eq_true rfl, Nat.le_of_ble_eq_true rfl⟩ (Nat.le_of_ble_eq_true rfl) ⟨Nat.le_of_ble_eq_true rfl, Nat.le_of_ble_eq_true rfl⟩ (ch_mono (ch_Ki (fun r33 m34 h => ?_)) h)
    exact ch_iret (ty := .int) d_y_carryOut_156 rfl rfl (Nat.le_of_ble_eq_true rfl) h
  replace h := h.2
  by_cases e116 : (m (4, 0, 0) 1) = 116
  · replace h := h.1 e116
    refine ch_tswIn (tgt := 166) (off := 162) d_y_carryOut_4 (by rw [e116]; decide) (by rw [e116]; decide) (by rw [e116]; rfl) (by decide) ?_
    refine ch_aload_n (i := 0) d_y_carryOut_166 rfl rfl ?_
    refine ch_callV (as := []) d_y_carryOut_167 lk_y_106 mi_y_endTerm me_y_endTerm rfl rfl rfl ⟨Nat.le_of_ble_eq_true rfl, Nat.le_of_ble_eq_true rfl⟩ (Nat.le_of_ble_eq_true rfl) ⟨Nat.le_of_ble_eq_true rfl, Nat.le_of_ble_eq_true rfl⟩ (ch_mono (ch_Ki (fun r35 m36 h => ?_)) h)
    exact ch_iret (ty := .int) d_y_carryOut_170 rfl rfl (Nat.le_of_ble_eq_true rfl) h
  replace h := h.2
  by_cases e117 : (m (4, 0, 0) 1) = 117
  · replace h := h.1 e117
    refine ch_tswIn (tgt := 171) (off := 167) d_y_carryOut_4 (by rw [e117]; decide) (by rw [e117]; decide) (by rw [e117]; rfl) (by decide) ?_
    refine ch_aload_n (i := 0) d_y_carryOut_171 rfl rfl ?_
    refine ch_aload_n (i := 1) d_y_carryOut_172 rfl rfl ?_
    refine ch_get (v := .inl (.int (m (4, 0, 0) 2))) d_y_carryOut_173 fl_y_82 rfl ?_
    refine ch_aload_n (i := 1) d_y_carryOut_176 rfl rfl ?_
    refine ch_get (v := .inl (.int (m (4, 0, 0) 3))) d_y_carryOut_177 fl_y_110 rfl ?_
    refine ch_aload_n (i := 1) d_y_carryOut_180 rfl rfl ?_
    refine ch_get (v := .inl (.int (m (4, 0, 0) 4))) d_y_carryOut_181 fl_y_75 rfl ?_
    refine ch_callV (as := [.inl (.int (m (4, 0, 0) 2)), .inl (.int (m (4, 0, 0) 3)), .inl (.int (m (4, 0, 0) 4))]) d_y_carryOut_184 lk_y_113 mi_y_handOver me_y_handOver rfl rfl rfl ⟨Nat.le_of_ble_eq_true rfl, Nat.le_of_ble_eq_true rfl⟩ (Nat.le_of_ble_eq_true rfl) ⟨Nat.le_of_ble_eq_true rfl, Nat.le_of_ble_eq_true rfl⟩ (ch_mono (ch_Ki (fun r37 m38 h => ?_)) h)
    exact ch_iret (ty := .int) d_y_carryOut_187 rfl rfl (Nat.le_of_ble_eq_true rfl) h
  replace h := h.2
  by_cases e118 : (m (4, 0, 0) 1) = 118
  · replace h := h.1 e118
    refine ch_tswIn (tgt := 171) (off := 167) d_y_carryOut_4 (by rw [e118]; decide) (by rw [e118]; decide) (by rw [e118]; rfl) (by decide) ?_
    refine ch_aload_n (i := 0) d_y_carryOut_171 rfl rfl ?_
    refine ch_aload_n (i := 1) d_y_carryOut_172 rfl rfl ?_
    refine ch_get (v := .inl (.int (m (4, 0, 0) 2))) d_y_carryOut_173 fl_y_82 rfl ?_
    refine ch_aload_n (i := 1) d_y_carryOut_176 rfl rfl ?_
    refine ch_get (v := .inl (.int (m (4, 0, 0) 3))) d_y_carryOut_177 fl_y_110 rfl ?_
    refine ch_aload_n (i := 1) d_y_carryOut_180 rfl rfl ?_
    refine ch_get (v := .inl (.int (m (4, 0, 0) 4))) d_y_carryOut_181 fl_y_75 rfl ?_
    refine ch_callV (as := [.inl (.int (m (4, 0, 0) 2)), .inl (.int (m (4, 0, 0) 3)), .inl (.int (m (4, 0, 0) 4))]) d_y_carryOut_184 lk_y_113 mi_y_handOver me_y_handOver rfl rfl rfl ⟨Nat.le_of_ble_eq_true rfl, Nat.le_of_ble_eq_true rfl⟩ (Nat.le_of_ble_eq_true rfl) ⟨Nat.le_of_ble_eq_true rfl, Nat.le_of_ble_eq_true rfl⟩ (ch_mono (ch_Ki (fun r39 m40 h => ?_)) h)
    exact ch_iret (ty := .int) d_y_carryOut_187 rfl rfl (Nat.le_of_ble_eq_true rfl) h
  replace h := h.2
  by_cases e119 : (m (4, 0, 0) 1) = 119
  · replace h := h.1 e119
    refine ch_tswIn (tgt := 139) (off := 135) d_y_carryOut_4 (by rw [e119]; decide) (by rw [e119]; decide) (by rw [e119]; rfl) (by decide) ?_
    refine ch_aload_n (i := 0) d_y_carryOut_139 rfl rfl ?_
    refine ch_aload_n (i := 1) d_y_carryOut_140 rfl rfl ?_
    refine ch_get (v := .inl (.int (m (4, 0, 0) 2))) d_y_carryOut_141 fl_y_82 rfl ?_
    refine ch_callV (as := [.inl (.int (m (4, 0, 0) 2))]) d_y_carryOut_144 lk_y_97 mi_y_writeAgainst me_y_writeAgainst rfl rfl rfl ⟨Nat.le_of_ble_eq_true rfl, Nat.le_of_ble_eq_true rfl⟩ (Nat.le_of_ble_eq_true rfl) ⟨Nat.le_of_ble_eq_true rfl, Nat.le_of_ble_eq_true rfl⟩ (ch_mono (ch_Ki (fun r41 m42 h => ?_)) h)
    exact ch_iret (ty := .int) d_y_carryOut_147 rfl rfl (Nat.le_of_ble_eq_true rfl) h
  replace h := h.2
  have hx : (Int32.toInt (m (4, 0, 0) 1) < 99 ∨ 119 < Int32.toInt (m (4, 0, 0) 1)) := by
    have f99 : Int32.toInt (m (4, 0, 0) 1) ≠ 99 := fun q => e99 (Int32.toInt_inj.mp (q.trans (by decide)))
    have f100 : Int32.toInt (m (4, 0, 0) 1) ≠ 100 := fun q => e100 (Int32.toInt_inj.mp (q.trans (by decide)))
    have f101 : Int32.toInt (m (4, 0, 0) 1) ≠ 101 := fun q => e101 (Int32.toInt_inj.mp (q.trans (by decide)))
    have f102 : Int32.toInt (m (4, 0, 0) 1) ≠ 102 := fun q => e102 (Int32.toInt_inj.mp (q.trans (by decide)))
    have f103 : Int32.toInt (m (4, 0, 0) 1) ≠ 103 := fun q => e103 (Int32.toInt_inj.mp (q.trans (by decide)))
    have f104 : Int32.toInt (m (4, 0, 0) 1) ≠ 104 := fun q => e104 (Int32.toInt_inj.mp (q.trans (by decide)))
    have f105 : Int32.toInt (m (4, 0, 0) 1) ≠ 105 := fun q => e105 (Int32.toInt_inj.mp (q.trans (by decide)))
    have f106 : Int32.toInt (m (4, 0, 0) 1) ≠ 106 := fun q => e106 (Int32.toInt_inj.mp (q.trans (by decide)))
    have f107 : Int32.toInt (m (4, 0, 0) 1) ≠ 107 := fun q => e107 (Int32.toInt_inj.mp (q.trans (by decide)))
    have f108 : Int32.toInt (m (4, 0, 0) 1) ≠ 108 := fun q => e108 (Int32.toInt_inj.mp (q.trans (by decide)))
    have f109 : Int32.toInt (m (4, 0, 0) 1) ≠ 109 := fun q => e109 (Int32.toInt_inj.mp (q.trans (by decide)))
    have f110 : Int32.toInt (m (4, 0, 0) 1) ≠ 110 := fun q => e110 (Int32.toInt_inj.mp (q.trans (by decide)))
    have f111 : Int32.toInt (m (4, 0, 0) 1) ≠ 111 := fun q => e111 (Int32.toInt_inj.mp (q.trans (by decide)))
    have f112 : Int32.toInt (m (4, 0, 0) 1) ≠ 112 := fun q => e112 (Int32.toInt_inj.mp (q.trans (by decide)))
    have f113 : Int32.toInt (m (4, 0, 0) 1) ≠ 113 := fun q => e113 (Int32.toInt_inj.mp (q.trans (by decide)))
    have f114 : Int32.toInt (m (4, 0, 0) 1) ≠ 114 := fun q => e114 (Int32.toInt_inj.mp (q.trans (by decide)))
    have f115 : Int32.toInt (m (4, 0, 0) 1) ≠ 115 := fun q => e115 (Int32.toInt_inj.mp (q.trans (by decide)))
    have f116 : Int32.toInt (m (4, 0, 0) 1) ≠ 116 := fun q => e116 (Int32.toInt_inj.mp (q.trans (by decide)))
    have f117 : Int32.toInt (m (4, 0, 0) 1) ≠ 117 := fun q => e117 (Int32.toInt_inj.mp (q.trans (by decide)))
    have f118 : Int32.toInt (m (4, 0, 0) 1) ≠ 118 := fun q => e118 (Int32.toInt_inj.mp (q.trans (by decide)))
    have f119 : Int32.toInt (m (4, 0, 0) 1) ≠ 119 := fun q => e119 (Int32.toInt_inj.mp (q.trans (by decide)))
    omega
  replace h := h hx
  refine ch_tswOut (tgt := 171) d_y_carryOut_4 hx (by decide) ?_
  refine ch_aload_n (i := 0) d_y_carryOut_171 rfl rfl ?_
  refine ch_aload_n (i := 1) d_y_carryOut_172 rfl rfl ?_
  refine ch_get (v := .inl (.int (m (4, 0, 0) 2))) d_y_carryOut_173 fl_y_82 rfl ?_
  refine ch_aload_n (i := 1) d_y_carryOut_176 rfl rfl ?_
  refine ch_get (v := .inl (.int (m (4, 0, 0) 3))) d_y_carryOut_177 fl_y_110 rfl ?_
  refine ch_aload_n (i := 1) d_y_carryOut_180 rfl rfl ?_
  refine ch_get (v := .inl (.int (m (4, 0, 0) 4))) d_y_carryOut_181 fl_y_75 rfl ?_
  refine ch_callV (as := [.inl (.int (m (4, 0, 0) 2)), .inl (.int (m (4, 0, 0) 3)), .inl (.int (m (4, 0, 0) 4))]) d_y_carryOut_184 lk_y_113 mi_y_handOver me_y_handOver rfl rfl rfl ⟨Nat.le_of_ble_eq_true rfl, Nat.le_of_ble_eq_true rfl⟩ (Nat.le_of_ble_eq_true rfl) ⟨Nat.le_of_ble_eq_true rfl, Nat.le_of_ble_eq_true rfl⟩ (ch_mono (ch_Ki (fun r43 m44 h => ?_)) h)
  exact ch_iret (ty := .int) d_y_carryOut_187 rfl rfl (Nat.le_of_ble_eq_true rfl) h
theorem e_y_bring (g : ch_G) (Q : ch_O → ch_M → Prop) (j : Nat) (p1 : Int32) (m : ch_M) (h : ch_J g m_y_bring (ch_rm m_y_bring) (ch_E g m_y_bring Q) 0 [some (.inr (1, j, 0)), some (.inl (.int p1))] [] m 0) : ch_C g m_y_bring [.inr (1, j, 0), .inl (.int p1)] m Q :=
  ch_enter mf_y_bring (by intro v hv; simp only [List.mem_cons, List.not_mem_nil, or_false] at hv; rcases hv with rfl | rfl <;> rfl) (Nat.le_of_ble_eq_true rfl) h
set_option maxHeartbeats 1600000 in
theorem g_y_bring_0 (g : ch_G) (Q : ch_O → ch_M → Prop) (j : Nat) (p1 : Int32) (m : ch_M) (h : (vp_in (m (1, j, 0) 8) 5) ∧ (∀ m2 : ch_M, m2 = ch_wr m (1, j, 3) (Int32.toNatClampNeg (m (1, j, 0) 8)) p1 → (∀ m3 : ch_M, m3 = ch_wr m2 (1, j, 0) 11 ((m2 (1, j, 0) 11) + p1) → (∀ m4 : ch_M, m4 = ch_wr m3 (1, j, 0) 8 ((m3 (1, j, 0) 8) + 1) → Q (.inl (some (.inl (.int ((m4 (1, j, 0) 8) - 1))))) m4)))) : ch_J g m_y_bring (ch_rm m_y_bring) (ch_E g m_y_bring Q) 0 [some (.inr (1, j, 0)), some (.inl (.int p1))] [] m 0 := by
  refine ch_aload_n (i := 0) d_y_bring_0 rfl rfl ?_
  refine ch_get (v := .inr (1, j, 3)) d_y_bring_1 fl_y_18 rfl ?_
  refine ch_aload_n (i := 0) d_y_bring_4 rfl rfl ?_
  refine ch_get (v := .inl (.int (m (1, j, 0) 8))) d_y_bring_5 fl_y_42 rfl ?_
  refine ch_iload_n (i := 1) d_y_bring_8 rfl rfl ?_
  have b1 := h.1
  replace h := h.2
  refine ch_iast (n := 5) d_y_bring_9 (by decide) rfl b1 ?_
  show ch_J g _ _ _ _ _ _ (ch_wr m (1, j, 3) (Int32.toNatClampNeg (m (1, j, 0) 8)) p1) _
  generalize hmm2 : ch_wr m (1, j, 3) (Int32.toNatClampNeg (m (1, j, 0) 8)) p1 = m2
  replace h := h m2 hmm2.symm
  refine ch_aload_n (i := 0) d_y_bring_10 rfl rfl ?_
  refine ch_dup d_y_bring_11 rfl ?_
  refine ch_get (v := .inl (.int (m2 (1, j, 0) 11))) d_y_bring_12 fl_y_52 rfl ?_
  refine ch_iload_n (i := 1) d_y_bring_15 rfl rfl ?_
  refine ch_iadd d_y_bring_16 ?_
  refine ch_put d_y_bring_17 fp_y_52 rfl rfl rfl ?_
  generalize hmm3 : ch_wr m2 (1, j, 0) 11 ((m2 (1, j, 0) 11) + p1) = m3
  replace h := h m3 hmm3.symm
  refine ch_aload_n (i := 0) d_y_bring_20 rfl rfl ?_
  refine ch_dup d_y_bring_21 rfl ?_
  refine ch_get (v := .inl (.int (m3 (1, j, 0) 8))) d_y_bring_22 fl_y_42 rfl ?_
  refine ch_iconst (v := 1) d_y_bring_25 (by decide) ?_
  refine ch_iadd d_y_bring_26 ?_
  refine ch_put d_y_bring_27 fp_y_42 rfl rfl rfl ?_
  generalize hmm4 : ch_wr m3 (1, j, 0) 8 ((m3 (1, j, 0) 8) + 1) = m4
  replace h := h m4 hmm4.symm
  refine ch_aload_n (i := 0) d_y_bring_30 rfl rfl ?_
  refine ch_get (v := .inl (.int (m4 (1, j, 0) 8))) d_y_bring_31 fl_y_42 rfl ?_
  refine ch_iconst (v := 1) d_y_bring_34 (by decide) ?_
  refine ch_isub d_y_bring_35 ?_
  exact ch_iret (ty := .int) d_y_bring_36 rfl rfl (Nat.le_of_ble_eq_true rfl) h
theorem e_y_chalkOn (g : ch_G) (Q : ch_O → ch_M → Prop) (j : Nat) (p1 : Int32) (p2 : Int32) (m : ch_M) (h : ch_J g m_y_chalkOn (ch_rm m_y_chalkOn) (ch_E g m_y_chalkOn Q) 0 [some (.inr (1, j, 0)), some (.inl (.int p1)), some (.inl (.int p2))] [] m 0) : ch_C g m_y_chalkOn [.inr (1, j, 0), .inl (.int p1), .inl (.int p2)] m Q :=
  ch_enter mf_y_chalkOn (by intro v hv; simp only [List.mem_cons, List.not_mem_nil, or_false] at hv; rcases hv with rfl | rfl | rfl <;> rfl) (Nat.le_of_ble_eq_true rfl) h
set_option maxHeartbeats 1600000 in
theorem g_y_chalkOn_0 (g : ch_G) (Q : ch_O → ch_M → Prop) (j : Nat) (p1 : Int32) (p2 : Int32) (m : ch_M) (h : (vp_in p1 5) ∧ (∀ m2 : ch_M, m2 = ch_wr m (1, j, 3) (Int32.toNatClampNeg p1) ((m (1, j, 3) (Int32.toNatClampNeg p1)) - 1) → (∀ m3 : ch_M, m3 = ch_wr m2 (1, j, 0) 10 ((m2 (1, j, 0) 10) + 1) → (vp_in p2 12) ∧ ((¬ (m3 (1, j, 1) (Int32.toNatClampNeg p2)) = (-1) → (∀ m5 : ch_M, m5 = ch_wr m3 (1, j, 2) (Int32.toNatClampNeg p2) (if 9 < ((m3 (1, j, 2) (Int32.toNatClampNeg p2)) + 2) then 9 else ((m3 (1, j, 2) (Int32.toNatClampNeg p2)) + 2)) → (∀ m6 : ch_M, m6 = ch_wr m5 (1, j, 1) (Int32.toNatClampNeg p2) p1 → Q (.inl (some (.inl (.int (m6 (1, j, 2) (Int32.toNatClampNeg p2)))))) m6))) ∧ ((m3 (1, j, 1) (Int32.toNatClampNeg p2)) = (-1) → (∀ m7 : ch_M, m7 = ch_wr m3 (1, j, 2) (Int32.toNatClampNeg p2) 5 → (∀ m8 : ch_M, m8 = ch_wr m7 (1, j, 1) (Int32.toNatClampNeg p2) p1 → Q (.inl (some (.inl (.int (m8 (1, j, 2) (Int32.toNatClampNeg p2)))))) m8))))))) : ch_J g m_y_chalkOn (ch_rm m_y_chalkOn) (ch_E g m_y_chalkOn Q) 0 [some (.inr (1, j, 0)), some (.inl (.int p1)), some (.inl (.int p2))] [] m 0 := by
  refine ch_aload_n (i := 0) d_y_chalkOn_0 rfl rfl ?_
  refine ch_get (v := .inr (1, j, 3)) d_y_chalkOn_1 fl_y_18 rfl ?_
  refine ch_iload_n (i := 1) d_y_chalkOn_4 rfl rfl ?_
  refine ch_dup2 d_y_chalkOn_5 rfl rfl ?_
  have b1 := h.1
  replace h := h.2
  refine ch_iald (n := 5) d_y_chalkOn_6 (by decide) rfl b1 ?_
  refine ch_iconst (v := 1) d_y_chalkOn_7 (by decide) ?_
  refine ch_isub d_y_chalkOn_8 ?_
  refine ch_iast (n := 5) d_y_chalkOn_9 (by decide) rfl b1 ?_
  show ch_J g _ _ _ _ _ _ (ch_wr m (1, j, 3) (Int32.toNatClampNeg p1) ((m (1, j, 3) (Int32.toNatClampNeg p1)) - 1)) _
  generalize hmm2 : ch_wr m (1, j, 3) (Int32.toNatClampNeg p1) ((m (1, j, 3) (Int32.toNatClampNeg p1)) - 1) = m2
  replace h := h m2 hmm2.symm
  refine ch_aload_n (i := 0) d_y_chalkOn_10 rfl rfl ?_
  refine ch_dup d_y_chalkOn_11 rfl ?_
  refine ch_get (v := .inl (.int (m2 (1, j, 0) 10))) d_y_chalkOn_12 fl_y_49 rfl ?_
  refine ch_iconst (v := 1) d_y_chalkOn_15 (by decide) ?_
  refine ch_iadd d_y_chalkOn_16 ?_
  refine ch_put d_y_chalkOn_17 fp_y_49 rfl rfl rfl ?_
  generalize hmm3 : ch_wr m2 (1, j, 0) 10 ((m2 (1, j, 0) 10) + 1) = m3
  replace h := h m3 hmm3.symm
  refine ch_aload_n (i := 0) d_y_chalkOn_20 rfl rfl ?_
  refine ch_get (v := .inr (1, j, 2)) d_y_chalkOn_21 fl_y_15 rfl ?_
  refine ch_iload_n (i := 2) d_y_chalkOn_24 rfl rfl ?_
  refine ch_aload_n (i := 0) d_y_chalkOn_25 rfl rfl ?_
  refine ch_get (v := .inr (1, j, 1)) d_y_chalkOn_26 fl_y_9 rfl ?_
  refine ch_iload_n (i := 2) d_y_chalkOn_29 rfl rfl ?_
  have b4 := h.1
  replace h := h.2
  refine ch_iald (n := 12) d_y_chalkOn_30 (by decide) rfl b4 ?_
  refine ch_iconst (v := (-1)) d_y_chalkOn_31 (by decide) ?_
  refine ch_icmp_ne (tgt := 39) d_y_chalkOn_32 (by decide) (fun c => ?_) (fun c => ?_)
  · replace h := h.1 c
    refine ch_aload_n (i := 0) d_y_chalkOn_39 rfl rfl ?_
    refine ch_get (v := .inr (1, j, 2)) d_y_chalkOn_40 fl_y_15 rfl ?_
    refine ch_iload_n (i := 2) d_y_chalkOn_43 rfl rfl ?_
    refine ch_iald (n := 12) d_y_chalkOn_44 (by decide) rfl b4 ?_
    refine ch_iconst (v := 2) d_y_chalkOn_45 (by decide) ?_
    refine ch_iadd d_y_chalkOn_46 ?_
    refine ch_bipush (v := 9) d_y_chalkOn_47 (by decide) ?_
    refine ch_min d_y_chalkOn_49 lk_y_117 ⟨Nat.le_of_ble_eq_true rfl, Nat.le_of_ble_eq_true rfl⟩ ⟨Nat.le_of_ble_eq_true rfl, Nat.le_of_ble_eq_true rfl⟩ (Nat.le_of_ble_eq_true rfl) ?_
    refine ch_iast (n := 12) d_y_chalkOn_52 (by decide) rfl b4 ?_
    show ch_J g _ _ _ _ _ _ (ch_wr m3 (1, j, 2) (Int32.toNatClampNeg p2) (if 9 < ((m3 (1, j, 2) (Int32.toNatClampNeg p2)) + 2) then 9 else ((m3 (1, j, 2) (Int32.toNatClampNeg p2)) + 2))) _
    generalize hmm5 : ch_wr m3 (1, j, 2) (Int32.toNatClampNeg p2) (if 9 < ((m3 (1, j, 2) (Int32.toNatClampNeg p2)) + 2) then 9 else ((m3 (1, j, 2) (Int32.toNatClampNeg p2)) + 2)) = m5
    replace h := h m5 hmm5.symm
    refine ch_aload_n (i := 0) d_y_chalkOn_53 rfl rfl ?_
    refine ch_get (v := .inr (1, j, 1)) d_y_chalkOn_54 fl_y_9 rfl ?_
    refine ch_iload_n (i := 2) d_y_chalkOn_57 rfl rfl ?_
    refine ch_iload_n (i := 1) d_y_chalkOn_58 rfl rfl ?_
    refine ch_iast (n := 12) d_y_chalkOn_59 (by decide) rfl b4 ?_
    show ch_J g _ _ _ _ _ _ (ch_wr m5 (1, j, 1) (Int32.toNatClampNeg p2) p1) _
    generalize hmm6 : ch_wr m5 (1, j, 1) (Int32.toNatClampNeg p2) p1 = m6
    replace h := h m6 hmm6.symm
    refine ch_aload_n (i := 0) d_y_chalkOn_60 rfl rfl ?_
    refine ch_get (v := .inr (1, j, 2)) d_y_chalkOn_61 fl_y_15 rfl ?_
    refine ch_iload_n (i := 2) d_y_chalkOn_64 rfl rfl ?_
    refine ch_iald (n := 12) d_y_chalkOn_65 (by decide) rfl b4 ?_
    exact ch_iret (ty := .int) d_y_chalkOn_66 rfl rfl (Nat.le_of_ble_eq_true rfl) h
  · replace h := h.2 c
    refine ch_iconst (v := 5) d_y_chalkOn_35 (by decide) ?_
    refine ch_goto (tgt := 52) d_y_chalkOn_36 (by decide) ?_
    refine ch_iast (n := 12) d_y_chalkOn_52 (by decide) rfl b4 ?_
    show ch_J g _ _ _ _ _ _ (ch_wr m3 (1, j, 2) (Int32.toNatClampNeg p2) 5) _
    generalize hmm7 : ch_wr m3 (1, j, 2) (Int32.toNatClampNeg p2) 5 = m7
    replace h := h m7 hmm7.symm
    refine ch_aload_n (i := 0) d_y_chalkOn_53 rfl rfl ?_
    refine ch_get (v := .inr (1, j, 1)) d_y_chalkOn_54 fl_y_9 rfl ?_
    refine ch_iload_n (i := 2) d_y_chalkOn_57 rfl rfl ?_
    refine ch_iload_n (i := 1) d_y_chalkOn_58 rfl rfl ?_
    refine ch_iast (n := 12) d_y_chalkOn_59 (by decide) rfl b4 ?_
    show ch_J g _ _ _ _ _ _ (ch_wr m7 (1, j, 1) (Int32.toNatClampNeg p2) p1) _
    generalize hmm8 : ch_wr m7 (1, j, 1) (Int32.toNatClampNeg p2) p1 = m8
    replace h := h m8 hmm8.symm
    refine ch_aload_n (i := 0) d_y_chalkOn_60 rfl rfl ?_
    refine ch_get (v := .inr (1, j, 2)) d_y_chalkOn_61 fl_y_15 rfl ?_
    refine ch_iload_n (i := 2) d_y_chalkOn_64 rfl rfl ?_
    refine ch_iald (n := 12) d_y_chalkOn_65 (by decide) rfl b4 ?_
    exact ch_iret (ty := .int) d_y_chalkOn_66 rfl rfl (Nat.le_of_ble_eq_true rfl) h
