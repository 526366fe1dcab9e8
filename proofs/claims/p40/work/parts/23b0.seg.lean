theorem e_y_copyFrom (g : ch_G) (Q : ch_O → ch_M → Prop) (j : Nat) (j1 : Nat) (m : ch_M) (h : ch_J g m_y_copyFrom (ch_rm m_y_copyFrom) (ch_E g m_y_copyFrom Q) 0 [some (.inr (1, j, 0)), some (.inr (1, j1, 0))] [] m 0) : ch_C g m_y_copyFrom [.inr (1, j, 0), .inr (1, j1, 0)] m Q :=
  ch_enter mf_y_copyFrom (by intro v hv; simp only [List.mem_cons, List.not_mem_nil, or_false] at hv; rcases hv with rfl | rfl <;> rfl) (Nat.le_of_ble_eq_true rfl) h
set_option maxHeartbeats 1600000 in
theorem g_y_copyFrom_0 (g : ch_G) (Q : ch_O → ch_M → Prop) (j : Nat) (j1 : Nat) (m : ch_M) (h : (∀ m1 : ch_M, m1 = ch_cpy m (1, j1, 1) (1, j, 1) 0 0 12 → (∀ m2 : ch_M, m2 = ch_cpy m1 (1, j1, 2) (1, j, 2) 0 0 12 → (∀ m3 : ch_M, m3 = ch_cpy m2 (1, j1, 3) (1, j, 3) 0 0 5 → (∀ m4 : ch_M, m4 = ch_cpy m3 (1, j1, 4) (1, j, 4) 0 0 5 → (∀ m5 : ch_M, m5 = ch_cpy m4 (1, j1, 5) (1, j, 5) 0 0 5 → (∀ m6 : ch_M, m6 = ch_cpy m5 (1, j1, 6) (1, j, 6) 0 0 5 → (∀ m7 : ch_M, m7 = ch_cpy m6 (1, j1, 7) (1, j, 7) 0 0 5 → (∀ m8 : ch_M, m8 = ch_cpy m7 (1, j1, 8) (1, j, 8) 0 0 5 → (∀ m9 : ch_M, m9 = ch_wr m8 (1, j, 0) 8 (m8 (1, j1, 0) 8) → (∀ m10 : ch_M, m10 = ch_wr m9 (1, j, 0) 9 (m9 (1, j1, 0) 9) → (∀ m11 : ch_M, m11 = ch_wr m10 (1, j, 0) 10 (m10 (1, j1, 0) 10) → (∀ m12 : ch_M, m12 = ch_wr m11 (1, j, 0) 11 (m11 (1, j1, 0) 11) → (∀ m13 : ch_M, m13 = ch_wr m12 (1, j, 0) 12 (m12 (1, j1, 0) 12) → (∀ m14 : ch_M, m14 = ch_wr m13 (1, j, 0) 13 (m13 (1, j1, 0) 13) → (∀ m15 : ch_M, m15 = ch_wr m14 (1, j, 0) 14 (m14 (1, j1, 0) 14) → (∀ m16 : ch_M, m16 = ch_wr m15 (1, j, 0) 15 (m15 (1, j1, 0) 15) → (∀ m17 : ch_M, m17 = ch_wr m16 (1, j, 0) 16 (m16 (1, j1, 0) 16) → Q (.inl none) m17)))))))))))))))))) : ch_J g m_y_copyFrom (ch_rm m_y_copyFrom) (ch_E g m_y_copyFrom Q) 0 [some (.inr (1, j, 0)), some (.inr (1, j1, 0))] [] m 0 := by
  refine ch_aload_n (i := 1) d_y_copyFrom_0 rfl rfl ?_
  refine ch_get (v := .inr (1, j1, 1)) d_y_copyFrom_1 fl_y_9 rfl ?_
  refine ch_iconst (v := 0) d_y_copyFrom_4 (by decide) ?_
  refine ch_aload_n (i := 0) d_y_copyFrom_5 rfl rfl ?_
  refine ch_get (v := .inr (1, j, 1)) d_y_copyFrom_6 fl_y_9 rfl ?_
  refine ch_iconst (v := 0) d_y_copyFrom_9 (by decide) ?_
  refine ch_bipush (v := 12) d_y_copyFrom_10 (by decide) ?_
  refine ch_copy (n1 := 12) (n2 := 12) d_y_copyFrom_12 lk_y_36 (by decide) (by decide) rfl rfl ⟨Nat.le_of_ble_eq_true rfl, Nat.le_of_ble_eq_true rfl⟩ (Nat.le_of_ble_eq_true rfl) (by decide) (by decide) (by decide) (by decide) (by decide) ?_
  show ch_J g _ _ _ _ _ _ (ch_cpy m (1, j1, 1) (1, j, 1) 0 0 12) _
  generalize hmm1 : ch_cpy m (1, j1, 1) (1, j, 1) 0 0 12 = m1
  replace h := h m1 hmm1.symm
  refine ch_aload_n (i := 1) d_y_copyFrom_15 rfl rfl ?_
  refine ch_get (v := .inr (1, j1, 2)) d_y_copyFrom_16 fl_y_15 rfl ?_
  refine ch_iconst (v := 0) d_y_copyFrom_19 (by decide) ?_
  refine ch_aload_n (i := 0) d_y_copyFrom_20 rfl rfl ?_
  refine ch_get (v := .inr (1, j, 2)) d_y_copyFrom_21 fl_y_15 rfl ?_
  refine ch_iconst (v := 0) d_y_copyFrom_24 (by decide) ?_
  refine ch_bipush (v := 12) d_y_copyFrom_25 (by decide) ?_
  refine ch_copy (n1 := 12) (n2 := 12) d_y_copyFrom_27 lk_y_36 (by decide) (by decide) rfl rfl ⟨Nat.le_of_ble_eq_true rfl, Nat.le_of_ble_eq_true rfl⟩ (Nat.le_of_ble_eq_true rfl) (by decide) (by decide) (by decide) (by decide) (by decide) ?_
  show ch_J g _ _ _ _ _ _ (ch_cpy m1 (1, j1, 2) (1, j, 2) 0 0 12) _
  generalize hmm2 : ch_cpy m1 (1, j1, 2) (1, j, 2) 0 0 12 = m2
  replace h := h m2 hmm2.symm
  refine ch_aload_n (i := 1) d_y_copyFrom_30 rfl rfl ?_
  refine ch_get (v := .inr (1, j1, 3)) d_y_copyFrom_31 fl_y_18 rfl ?_
  refine ch_iconst (v := 0) d_y_copyFrom_34 (by decide) ?_
  refine ch_aload_n (i := 0) d_y_copyFrom_35 rfl rfl ?_
  refine ch_get (v := .inr (1, j, 3)) d_y_copyFrom_36 fl_y_18 rfl ?_
  refine ch_iconst (v := 0) d_y_copyFrom_39 (by decide) ?_
  refine ch_iconst (v := 5) d_y_copyFrom_40 (by decide) ?_
  refine ch_copy (n1 := 5) (n2 := 5) d_y_copyFrom_41 lk_y_36 (by decide) (by decide) rfl rfl ⟨Nat.le_of_ble_eq_true rfl, Nat.le_of_ble_eq_true rfl⟩ (Nat.le_of_ble_eq_true rfl) (by decide) (by decide) (by decide) (by decide) (by decide) ?_
  show ch_J g _ _ _ _ _ _ (ch_cpy m2 (1, j1, 3) (1, j, 3) 0 0 5) _
  generalize hmm3 : ch_cpy m2 (1, j1, 3) (1, j, 3) 0 0 5 = m3
  replace h := h m3 hmm3.symm
  refine ch_aload_n (i := 1) d_y_copyFrom_44 rfl rfl ?_
  refine ch_get (v := .inr (1, j1, 4)) d_y_copyFrom_45 fl_y_21 rfl ?_
  refine ch_iconst (v := 0) d_y_copyFrom_48 (by decide) ?_
  refine ch_aload_n (i := 0) d_y_copyFrom_49 rfl rfl ?_
  refine ch_get (v := .inr (1, j, 4)) d_y_copyFrom_50 fl_y_21 rfl ?_
  refine ch_iconst (v := 0) d_y_copyFrom_53 (by decide) ?_
  refine ch_iconst (v := 5) d_y_copyFrom_54 (by decide) ?_
  refine ch_copy (n1 := 5) (n2 := 5) d_y_copyFrom_55 lk_y_36 (by decide) (by decide) rfl rfl ⟨Nat.le_of_ble_eq_true rfl, Nat.le_of_ble_eq_true rfl⟩ (Nat.le_of_ble_eq_true rfl) (by decide) (by decide) (by decide) (by decide) (by decide) ?_
  show ch_J g _ _ _ _ _ _ (ch_cpy m3 (1, j1, 4) (1, j, 4) 0 0 5) _
  generalize hmm4 : ch_cpy m3 (1, j1, 4) (1, j, 4) 0 0 5 = m4
  replace h := h m4 hmm4.symm
  refine ch_aload_n (i := 1) d_y_copyFrom_58 rfl rfl ?_
  refine ch_get (v := .inr (1, j1, 5)) d_y_copyFrom_59 fl_y_24 rfl ?_
  refine ch_iconst (v := 0) d_y_copyFrom_62 (by decide) ?_
  refine ch_aload_n (i := 0) d_y_copyFrom_63 rfl rfl ?_
  refine ch_get (v := .inr (1, j, 5)) d_y_copyFrom_64 fl_y_24 rfl ?_
  refine ch_iconst (v := 0) d_y_copyFrom_67 (by decide) ?_
  refine ch_iconst (v := 5) d_y_copyFrom_68 (by decide) ?_
  refine ch_copy (n1 := 5) (n2 := 5) d_y_copyFrom_69 lk_y_36 (by decide) (by decide) rfl rfl ⟨Nat.le_of_ble_eq_true rfl, Nat.le_of_ble_eq_true rfl⟩ (Nat.le_of_ble_eq_true rfl) (by decide) (by decide) (by decide) (by decide) (by decide) ?_
  show ch_J g _ _ _ _ _ _ (ch_cpy m4 (1, j1, 5) (1, j, 5) 0 0 5) _
  generalize hmm5 : ch_cpy m4 (1, j1, 5) (1, j, 5) 0 0 5 = m5
  replace h := h m5 hmm5.symm
  refine ch_aload_n (i := 1) d_y_copyFrom_72 rfl rfl ?_
  refine ch_get (v := .inr (1, j1, 6)) d_y_copyFrom_73 fl_y_27 rfl ?_
  refine ch_iconst (v := 0) d_y_copyFrom_76 (by decide) ?_
  refine ch_aload_n (i := 0) d_y_copyFrom_77 rfl rfl ?_
  refine ch_get (v := .inr (1, j, 6)) d_y_copyFrom_78 fl_y_27 rfl ?_
  refine ch_iconst (v := 0) d_y_copyFrom_81 (by decide) ?_
  refine ch_iconst (v := 5) d_y_copyFrom_82 (by decide) ?_
  refine ch_copy (n1 := 5) (n2 := 5) d_y_copyFrom_83 lk_y_36 (by decide) (by decide) rfl rfl ⟨Nat.le_of_ble_eq_true rfl, Nat.le_of_ble_eq_true rfl⟩ (Nat.le_of_ble_eq_true rfl) (by decide) (by decide) (by decide) (by decide) (by decide) ?_
  show ch_J g _ _ _ _ _ _ (ch_cpy m5 (1, j1, 6) (1, j, 6) 0 0 5) _
  generalize hmm6 : ch_cpy m5 (1, j1, 6) (1, j, 6) 0 0 5 = m6
  replace h := h m6 hmm6.symm
  refine ch_aload_n (i := 1) d_y_copyFrom_86 rfl rfl ?_
  refine ch_get (v := .inr (1, j1, 7)) d_y_copyFrom_87 fl_y_30 rfl ?_
  refine ch_iconst (v := 0) d_y_copyFrom_90 (by decide) ?_
  refine ch_aload_n (i := 0) d_y_copyFrom_91 rfl rfl ?_
  refine ch_get (v := .inr (1, j, 7)) d_y_copyFrom_92 fl_y_30 rfl ?_
  refine ch_iconst (v := 0) d_y_copyFrom_95 (by decide) ?_
  refine ch_iconst (v := 5) d_y_copyFrom_96 (by decide) ?_
  refine ch_copy (n1 := 5) (n2 := 5) d_y_copyFrom_97 lk_y_36 (by decide) (by decide) rfl rfl ⟨Nat.le_of_ble_eq_true rfl, Nat.le_of_ble_eq_true rfl⟩ (Nat.le_of_ble_eq_true rfl) (by decide) (by decide) (by decide) (by decide) (by decide) ?_
  show ch_J g _ _ _ _ _ _ (ch_cpy m6 (1, j1, 7) (1, j, 7) 0 0 5) _
  generalize hmm7 : ch_cpy m6 (1, j1, 7) (1, j, 7) 0 0 5 = m7
  replace h := h m7 hmm7.symm
  refine ch_aload_n (i := 1) d_y_copyFrom_100 rfl rfl ?_
  refine ch_get (v := .inr (1, j1, 8)) d_y_copyFrom_101 fl_y_33 rfl ?_
  refine ch_iconst (v := 0) d_y_copyFrom_104 (by decide) ?_
  refine ch_aload_n (i := 0) d_y_copyFrom_105 rfl rfl ?_
  refine ch_get (v := .inr (1, j, 8)) d_y_copyFrom_106 fl_y_33 rfl ?_
  refine ch_iconst (v := 0) d_y_copyFrom_109 (by decide) ?_
  refine ch_iconst (v := 5) d_y_copyFrom_110 (by decide) ?_
  refine ch_copy (n1 := 5) (n2 := 5) d_y_copyFrom_111 lk_y_36 (by decide) (by decide) rfl rfl ⟨Nat.le_of_ble_eq_true rfl, Nat.le_of_ble_eq_true rfl⟩ (Nat.le_of_ble_eq_true rfl) (by decide) (by decide) (by decide) (by decide) (by decide) ?_
  show ch_J g _ _ _ _ _ _ (ch_cpy m7 (1, j1, 8) (1, j, 8) 0 0 5) _
  generalize hmm8 : ch_cpy m7 (1, j1, 8) (1, j, 8) 0 0 5 = m8
  replace h := h m8 hmm8.symm
  refine ch_aload_n (i := 0) d_y_copyFrom_114 rfl rfl ?_
  refine ch_aload_n (i := 1) d_y_copyFrom_115 rfl rfl ?_
  refine ch_get (v := .inl (.int (m8 (1, j1, 0) 8))) d_y_copyFrom_116 fl_y_42 rfl ?_
  refine ch_put d_y_copyFrom_119 fp_y_42 rfl rfl rfl ?_
  generalize hmm9 : ch_wr m8 (1, j, 0) 8 (m8 (1, j1, 0) 8) = m9
  replace h := h m9 hmm9.symm
  refine ch_aload_n (i := 0) d_y_copyFrom_122 rfl rfl ?_
  refine ch_aload_n (i := 1) d_y_copyFrom_123 rfl rfl ?_
  refine ch_get (v := .inl (.int (m9 (1, j1, 0) 9))) d_y_copyFrom_124 fl_y_46 rfl ?_
  refine ch_put d_y_copyFrom_127 fp_y_46 rfl rfl rfl ?_
  generalize hmm10 : ch_wr m9 (1, j, 0) 9 (m9 (1, j1, 0) 9) = m10
  replace h := h m10 hmm10.symm
  refine ch_aload_n (i := 0) d_y_copyFrom_130 rfl rfl ?_
  refine ch_aload_n (i := 1) d_y_copyFrom_131 rfl rfl ?_
  refine ch_get (v := .inl (.int (m10 (1, j1, 0) 10))) d_y_copyFrom_132 fl_y_49 rfl ?_
  refine ch_put d_y_copyFrom_135 fp_y_49 rfl rfl rfl ?_
  generalize hmm11 : ch_wr m10 (1, j, 0) 10 (m10 (1, j1, 0) 10) = m11
  replace h := h m11 hmm11.symm
  refine ch_aload_n (i := 0) d_y_copyFrom_138 rfl rfl ?_
  refine ch_aload_n (i := 1) d_y_copyFrom_139 rfl rfl ?_
  refine ch_get (v := .inl (.int (m11 (1, j1, 0) 11))) d_y_copyFrom_140 fl_y_52 rfl ?_
  refine ch_put d_y_copyFrom_143 fp_y_52 rfl rfl rfl ?_
  generalize hmm12 : ch_wr m11 (1, j, 0) 11 (m11 (1, j1, 0) 11) = m12
  replace h := h m12 hmm12.symm
  refine ch_aload_n (i := 0) d_y_copyFrom_146 rfl rfl ?_
  refine ch_aload_n (i := 1) d_y_copyFrom_147 rfl rfl ?_
  refine ch_get (v := .inl (.int (m12 (1, j1, 0) 12))) d_y_copyFrom_148 fl_y_55 rfl ?_
  refine ch_put d_y_copyFrom_151 fp_y_55 rfl rfl rfl ?_
  generalize hmm13 : ch_wr m12 (1, j, 0) 12 (m12 (1, j1, 0) 12) = m13
  replace h := h m13 hmm13.symm
  refine ch_aload_n (i := 0) d_y_copyFrom_154 rfl rfl ?_
  refine ch_aload_n (i := 1) d_y_copyFrom_155 rfl rfl ?_
  refine ch_get (v := .inl (.int (m13 (1, j1, 0) 13))) d_y_copyFrom_156 fl_y_58 rfl ?_
  refine ch_put d_y_copyFrom_159 fp_y_58 rfl rfl rfl ?_
  generalize hmm14 : ch_wr m13 (1, j, 0) 13 (m13 (1, j1, 0) 13) = m14
  replace h := h m14 hmm14.symm
  refine ch_aload_n (i := 0) d_y_copyFrom_162 rfl rfl ?_
  refine ch_aload_n (i := 1) d_y_copyFrom_163 rfl rfl ?_
  refine ch_get (v := .inl (.int (m14 (1, j1, 0) 14))) d_y_copyFrom_164 fl_y_61 rfl ?_
  refine ch_put d_y_copyFrom_167 fp_y_61 rfl rfl rfl ?_
  generalize hmm15 : ch_wr m14 (1, j, 0) 14 (m14 (1, j1, 0) 14) = m15
  replace h := h m15 hmm15.symm
  refine ch_aload_n (i := 0) d_y_copyFrom_170 rfl rfl ?_
  refine ch_aload_n (i := 1) d_y_copyFrom_171 rfl rfl ?_
  refine ch_get (v := .inl (.int (m15 (1, j1, 0) 15))) d_y_copyFrom_172 fl_y_64 rfl ?_
  refine ch_put d_y_copyFrom_175 fp_y_64 rfl rfl rfl ?_
  generalize hmm16 : ch_wr m15 (1, j, 0) 15 (m15 (1, j1, 0) 15) = m16
  replace h := h m16 hmm16.symm
  refine ch_aload_n (i := 0) d_y_copyFrom_178 rfl rfl ?_
  refine ch_aload_n (i := 1) d_y_copyFrom_179 rfl rfl ?_
  refine ch_get (v := .inl (.int (m16 (1, j1, 0) 16))) d_y_copyFrom_180 fl_y_67 rfl ?_
  refine ch_put d_y_copyFrom_183 fp_y_67 rfl rfl rfl ?_
  generalize hmm17 : ch_wr m16 (1, j, 0) 16 (m16 (1, j1, 0) 16) = m17
  replace h := h m17 hmm17.symm
  exact ch_vret d_y_copyFrom_186 rfl (Nat.le_of_ble_eq_true rfl) h
