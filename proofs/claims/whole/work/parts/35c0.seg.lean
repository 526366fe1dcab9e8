theorem e_m_carries (g : ch_G) (Q : ch_O → ch_M → Prop)  (m : ch_M) (h : ch_J g m_m_carries (ch_rm m_m_carries) (ch_E g m_m_carries Q) 0 [some (.inr (9, 0, 0))] [] m 0) : ch_C g m_m_carries [.inr (9, 0, 0)] m Q :=
  ch_enter mf_m_carries (by intro v hv; simp only [List.mem_cons, List.not_mem_nil, or_false] at hv; rcases hv with rfl <;> rfl) (Nat.le_of_ble_eq_true rfl) h
set_option maxHeartbeats 1600000 in
theorem g_m_carries_0 (g : ch_G) (Q : ch_O → ch_M → Prop)  (m : ch_M) (h : (((m (9, 0, 0) 12) = 99 → (∃ T_1 : Nat, (∃ Y_2 : ch_B, (m_rel Y_2 (m (9, 0, 1))) ∧ (y_inv T_1 Y_2) ∧ ((((r_wc Y_2 (m (9, 0, 8) (0)) (m (9, 0, 8) (1))).1 = 0) → (∀ (B3 : ch_B), (m_did (ch_ob m 9 0) B3 (y_chaB Y_2 (m (9, 0, 8) (0)) (m (9, 0, 8) (1))) (y_chv Y_2 (m (9, 0, 8) (1)))) → (∀ m5 : ch_M, m5 = ch_os m 9 0 B3 → Q (.inl (some (.inl (.int 1)))) m5))) ∧ ((¬ (r_wc Y_2 (m (9, 0, 8) (0)) (m (9, 0, 8) (1))).1 = 0) → (∀ m5 : ch_M, m5 = ch_os m 9 0 (m_refB (ch_ob m 9 0) (r_wc Y_2 (m (9, 0, 8) (0)) (m (9, 0, 8) (1))).1 (r_wc Y_2 (m (9, 0, 8) (0)) (m (9, 0, 8) (1))).2) → Q (.inl (some (.inl (.int 0)))) m5)))))) ∧ ((m (9, 0, 0) 12) = 100 → (((m (9, 0, 1) (0)) ≤ 0 → ((∀ m10 : ch_M, m10 = ch_wr (ch_wr (ch_wr m (9, 0, 0) 15 13) (9, 0, 0) 16 0) (9, 0, 0) 17 0 → Q (.inl (some (.inl (.int 0)))) m10))) ∧ (¬ (m (9, 0, 1) (0)) ≤ 0 → (∃ T_12 : Nat, (∃ Y_13 : ch_B, (m_rel Y_13 (m (9, 0, 1))) ∧ (y_inv T_12 Y_13) ∧ ((∀ (B14 : ch_B), (m_rel (y_termB Y_13) (B14 1)) → (∀ a_ i_, a_ ≠ 1 → B14 a_ i_ = ch_ob m 9 0 a_ i_) → (∀ m16 : ch_M, m16 = ch_os m 9 0 B14 → ((∀ m21 : ch_M, m21 = ch_wr m16 (9, 0, 0) 18 (b_st (m_lb Y_13 (y_termB Y_13)) 12) → Q (.inl (some (.inl (.int 1)))) m21)))))))))) ∧ ((m (9, 0, 0) 12) = 101 → (((m (9, 0, 1) (0)) ≤ 0 → ((∀ m24 : ch_M, m24 = ch_wr (ch_wr (ch_wr m (9, 0, 0) 15 13) (9, 0, 0) 16 0) (9, 0, 0) 17 0 → Q (.inl (some (.inl (.int 0)))) m24))) ∧ (¬ (m (9, 0, 1) (0)) ≤ 0 → (∃ T_26 : Nat, (∃ Y_27 : ch_B, (m_rel Y_27 (m (9, 0, 1))) ∧ (y_inv T_26 Y_27) ∧ ((∀ (B28 : ch_B), (m_rel (y_termB Y_27) (B28 1)) → (∀ a_ i_, a_ ≠ 1 → B28 a_ i_ = ch_ob m 9 0 a_ i_) → (∀ m30 : ch_M, m30 = ch_os m 9 0 B28 → ((∀ m35 : ch_M, m35 = ch_wr m30 (9, 0, 0) 18 (b_st (m_lb Y_27 (y_termB Y_27)) 12) → Q (.inl (some (.inl (.int 1)))) m35)))))))))) ∧ ((m (9, 0, 0) 12) = 102 → (((m (9, 0, 1) (0)) ≤ 0 → ((∀ m38 : ch_M, m38 = ch_wr (ch_wr (ch_wr m (9, 0, 0) 15 13) (9, 0, 0) 16 0) (9, 0, 0) 17 0 → Q (.inl (some (.inl (.int 0)))) m38))) ∧ (¬ (m (9, 0, 1) (0)) ≤ 0 → (∃ T_40 : Nat, (∃ Y_41 : ch_B, (m_rel Y_41 (m (9, 0, 1))) ∧ (y_inv T_40 Y_41) ∧ ((∀ (B42 : ch_B), (m_rel (y_termB Y_41) (B42 1)) → (∀ a_ i_, a_ ≠ 1 → B42 a_ i_ = ch_ob m 9 0 a_ i_) → (∀ m44 : ch_M, m44 = ch_os m 9 0 B42 → ((∀ m49 : ch_M, m49 = ch_wr m44 (9, 0, 0) 18 (b_st (m_lb Y_41 (y_termB Y_41)) 12) → Q (.inl (some (.inl (.int 1)))) m49)))))))))) ∧ ((m (9, 0, 0) 12) = 103 → (∃ T_51 : Nat, (∃ Y_52 : ch_B, (m_rel Y_52 (m (9, 0, 1))) ∧ (y_inv T_51 Y_52) ∧ ((((r_wg Y_52 (m (9, 0, 8) (0)) (m (9, 0, 8) (1)) (m (9, 0, 8) (2))).1 = 0) → (∀ (B53 : ch_B), (m_did (ch_ob m 9 0) B53 (y_givB Y_52 (m (9, 0, 8) (0)) (m (9, 0, 8) (1)) (m (9, 0, 8) (2))) (y_givB Y_52 (m (9, 0, 8) (0)) (m (9, 0, 8) (1)) (m (9, 0, 8) (2)) 3 (Int32.toNatClampNeg (m (9, 0, 8) (0))))) → (∀ m55 : ch_M, m55 = ch_os m 9 0 B53 → Q (.inl (some (.inl (.int 1)))) m55))) ∧ ((¬ (r_wg Y_52 (m (9, 0, 8) (0)) (m (9, 0, 8) (1)) (m (9, 0, 8) (2))).1 = 0) → (∀ m55 : ch_M, m55 = ch_os m 9 0 (m_refB (ch_ob m 9 0) (r_wg Y_52 (m (9, 0, 8) (0)) (m (9, 0, 8) (1)) (m (9, 0, 8) (2))).1 (r_wg Y_52 (m (9, 0, 8) (0)) (m (9, 0, 8) (1)) (m (9, 0, 8) (2))).2) → Q (.inl (some (.inl (.int 0)))) m55)))))) ∧ ((m (9, 0, 0) 12) = 104 → (vp_in (m (9, 0, 1) 0) 6) ∧ ((((0 ≤ (m (9, 0, 8) (0)) ∧ (m (9, 0, 8) (0)) ≤ m (9, 0, 1) 0 - 1) ∧ m (9, 0, 1) (38 + 5 * Int32.toNatClampNeg (m (9, 0, 8) (0)) + 2) = 0) → (∃ T_63 : Nat, (∃ Y_64 : ch_B, (m_rel Y_64 (m (9, 0, 1))) ∧ (y_inv T_63 Y_64) ∧ (vp_in (m (9, 0, 8) (0)) 5) ∧ (vp_in (m (9, 0, 0) 21) 13) ∧ (∀ i_, i_ < (Int32.toNatClampNeg (m (9, 0, 0) 21)) → 1 ≤ m (9, 0, 9) i_ ∧ m (9, 0, 9) i_ ≤ 3) ∧ (((¬ y_mfO (m (9, 0, 9)) (Int32.toNatClampNeg (m (9, 0, 0) 21)) = true ∧ ¬ ch_ps (m (9, 0, 9)) (Int32.toNatClampNeg (m (9, 0, 0) 21)) < 11) → (∀ (B65 : ch_B), (m_did (ch_ob m 9 0) B65 (y_hopB Y_64 (m (9, 0, 8) (0)) (m (9, 0, 9)) (Int32.toNatClampNeg (m (9, 0, 0) 21))) (y_ct Y_64 (m (9, 0, 8) (0)) (m (9, 0, 9)) (Int32.toNatClampNeg (m (9, 0, 0) 21)))) → (∀ m67 : ch_M, m67 = ch_os m 9 0 B65 → Q (.inl (some (.inl (.int 1)))) m67))) ∧ ((¬ (¬ y_mfO (m (9, 0, 9)) (Int32.toNatClampNeg (m (9, 0, 0) 21)) = true ∧ ¬ ch_ps (m (9, 0, 9)) (Int32.toNatClampNeg (m (9, 0, 0) 21)) < 11)) → (∀ m67 : ch_M, m67 = ch_os m 9 0 (m_refB (ch_ob m 9 0) 8 (if y_mfO (m (9, 0, 9)) (Int32.toNatClampNeg (m (9, 0, 0) 21)) = true then 12 else ch_ps (m (9, 0, 9)) (Int32.toNatClampNeg (m (9, 0, 0) 21)))) → Q (.inl (some (.inl (.int 0)))) m67)))))) ∧ ((¬ (0 ≤ (m (9, 0, 8) (0)) ∧ (m (9, 0, 8) (0)) ≤ m (9, 0, 1) 0 - 1)) → (∀ m60 : ch_M, m60 = ch_os m 9 0 (m_refB (ch_ob m 9 0) 3 (m (9, 0, 1) 0)) → Q (.inl (some (.inl (.int 0)))) m60)) ∧ (((0 ≤ (m (9, 0, 8) (0)) ∧ (m (9, 0, 8) (0)) ≤ m (9, 0, 1) 0 - 1) ∧ ¬ m (9, 0, 1) (38 + 5 * Int32.toNatClampNeg (m (9, 0, 8) (0)) + 2) = 0) → (∀ m60 : ch_M, m60 = ch_os m 9 0 (m_refB (ch_ob m 9 0) 7 (m (9, 0, 1) (38 + 5 * Int32.toNatClampNeg (m (9, 0, 8) (0)) + 2))) → Q (.inl (some (.inl (.int 0)))) m60)))) ∧ ((m (9, 0, 0) 12) = 105 → (((m (9, 0, 1) (0)) ≤ 0 → ((∀ m75 : ch_M, m75 = ch_wr (ch_wr (ch_wr m (9, 0, 0) 15 13) (9, 0, 0) 16 0) (9, 0, 0) 17 0 → Q (.inl (some (.inl (.int 0)))) m75))) ∧ (¬ (m (9, 0, 1) (0)) ≤ 0 → (∃ T_77 : Nat, (∃ Y_78 : ch_B, (m_rel Y_78 (m (9, 0, 1))) ∧ (y_inv T_77 Y_78) ∧ ((∀ (B79 : ch_B), (m_rel (y_termB Y_78) (B79 1)) → (∀ a_ i_, a_ ≠ 1 → B79 a_ i_ = ch_ob m 9 0 a_ i_) → (∀ m81 : ch_M, m81 = ch_os m 9 0 B79 → ((∀ m86 : ch_M, m86 = ch_wr m81 (9, 0, 0) 18 (b_st (m_lb Y_78 (y_termB Y_78)) 12) → Q (.inl (some (.inl (.int 1)))) m86)))))))))) ∧ ((m (9, 0, 0) 12) = 106 → (((m (9, 0, 1) (0)) ≤ 0 → ((∀ m89 : ch_M, m89 = ch_wr (ch_wr (ch_wr m (9, 0, 0) 15 13) (9, 0, 0) 16 0) (9, 0, 0) 17 0 → Q (.inl (some (.inl (.int 0)))) m89))) ∧ (¬ (m (9, 0, 1) (0)) ≤ 0 → (∃ T_91 : Nat, (∃ Y_92 : ch_B, (m_rel Y_92 (m (9, 0, 1))) ∧ (y_inv T_91 Y_92) ∧ ((∀ (B93 : ch_B), (m_rel (y_termB Y_92) (B93 1)) → (∀ a_ i_, a_ ≠ 1 → B93 a_ i_ = ch_ob m 9 0 a_ i_) → (∀ m95 : ch_M, m95 = ch_os m 9 0 B93 → ((∀ m100 : ch_M, m100 = ch_wr m95 (9, 0, 0) 18 (b_st (m_lb Y_92 (y_termB Y_92)) 12) → Q (.inl (some (.inl (.int 1)))) m100)))))))))) ∧ ((m (9, 0, 0) 12) = 107 → (((m (9, 0, 1) (0)) ≤ 0 → ((∀ m103 : ch_M, m103 = ch_wr (ch_wr (ch_wr m (9, 0, 0) 15 13) (9, 0, 0) 16 0) (9, 0, 0) 17 0 → Q (.inl (some (.inl (.int 0)))) m103))) ∧ (¬ (m (9, 0, 1) (0)) ≤ 0 → (∃ T_105 : Nat, (∃ Y_106 : ch_B, (m_rel Y_106 (m (9, 0, 1))) ∧ (y_inv T_105 Y_106) ∧ ((∀ (B107 : ch_B), (m_rel (y_termB Y_106) (B107 1)) → (∀ a_ i_, a_ ≠ 1 → B107 a_ i_ = ch_ob m 9 0 a_ i_) → (∀ m109 : ch_M, m109 = ch_os m 9 0 B107 → ((∀ m114 : ch_M, m114 = ch_wr m109 (9, 0, 0) 18 (b_st (m_lb Y_106 (y_termB Y_106)) 12) → Q (.inl (some (.inl (.int 1)))) m114)))))))))) ∧ ((m (9, 0, 0) 12) = 108 → (((m (9, 0, 1) (0)) ≤ 0 → ((∀ m117 : ch_M, m117 = ch_wr (ch_wr (ch_wr m (9, 0, 0) 15 13) (9, 0, 0) 16 0) (9, 0, 0) 17 0 → Q (.inl (some (.inl (.int 0)))) m117))) ∧ (¬ (m (9, 0, 1) (0)) ≤ 0 → (∃ T_119 : Nat, (∃ Y_120 : ch_B, (m_rel Y_120 (m (9, 0, 1))) ∧ (y_inv T_119 Y_120) ∧ ((∀ (B121 : ch_B), (m_rel (y_termB Y_120) (B121 1)) → (∀ a_ i_, a_ ≠ 1 → B121 a_ i_ = ch_ob m 9 0 a_ i_) → (∀ m123 : ch_M, m123 = ch_os m 9 0 B121 → ((∀ m128 : ch_M, m128 = ch_wr m123 (9, 0, 0) 18 (b_st (m_lb Y_120 (y_termB Y_120)) 12) → Q (.inl (some (.inl (.int 1)))) m128)))))))))) ∧ ((m (9, 0, 0) 12) = 109 → (((m (9, 0, 1) (0)) ≤ 0 → ((∀ m131 : ch_M, m131 = ch_wr (ch_wr (ch_wr m (9, 0, 0) 15 13) (9, 0, 0) 16 0) (9, 0, 0) 17 0 → Q (.inl (some (.inl (.int 0)))) m131))) ∧ (¬ (m (9, 0, 1) (0)) ≤ 0 → (∃ T_133 : Nat, (∃ Y_134 : ch_B, (m_rel Y_134 (m (9, 0, 1))) ∧ (y_inv T_133 Y_134) ∧ ((∀ (B135 : ch_B), (m_rel (y_termB Y_134) (B135 1)) → (∀ a_ i_, a_ ≠ 1 → B135 a_ i_ = ch_ob m 9 0 a_ i_) → (∀ m137 : ch_M, m137 = ch_os m 9 0 B135 → ((∀ m142 : ch_M, m142 = ch_wr m137 (9, 0, 0) 18 (b_st (m_lb Y_134 (y_termB Y_134)) 12) → Q (.inl (some (.inl (.int 1)))) m142)))))))))) ∧ ((m (9, 0, 0) 12) = 110 → (∃ T_144 : Nat, (∃ Y_145 : ch_B, (m_rel Y_145 (m (9, 0, 1))) ∧ (y_inv T_144 Y_145) ∧ ((((r_wn Y_145 (m (9, 0, 8) (0))).1 = 0) → (∀ (B146 : ch_B), (m_did (ch_ob m 9 0) B146 (y_briB Y_145 (m (9, 0, 8) (0))) (Y_145 0 8)) → (∀ m148 : ch_M, m148 = ch_os m 9 0 B146 → Q (.inl (some (.inl (.int 1)))) m148))) ∧ ((¬ (r_wn Y_145 (m (9, 0, 8) (0))).1 = 0) → (∀ m148 : ch_M, m148 = ch_os m 9 0 (m_refB (ch_ob m 9 0) (r_wn Y_145 (m (9, 0, 8) (0))).1 (r_wn Y_145 (m (9, 0, 8) (0))).2) → Q (.inl (some (.inl (.int 0)))) m148)))))) ∧ ((m (9, 0, 0) 12) = 111 → (((m (9, 0, 1) (0)) ≤ 0 → ((∀ m153 : ch_M, m153 = ch_wr (ch_wr (ch_wr m (9, 0, 0) 15 13) (9, 0, 0) 16 0) (9, 0, 0) 17 0 → Q (.inl (some (.inl (.int 0)))) m153))) ∧ (¬ (m (9, 0, 1) (0)) ≤ 0 → (∃ T_155 : Nat, (∃ Y_156 : ch_B, (m_rel Y_156 (m (9, 0, 1))) ∧ (y_inv T_155 Y_156) ∧ ((∀ (B157 : ch_B), (m_rel (y_termB Y_156) (B157 1)) → (∀ a_ i_, a_ ≠ 1 → B157 a_ i_ = ch_ob m 9 0 a_ i_) → (∀ m159 : ch_M, m159 = ch_os m 9 0 B157 → ((∀ m164 : ch_M, m164 = ch_wr m159 (9, 0, 0) 18 (b_st (m_lb Y_156 (y_termB Y_156)) 12) → Q (.inl (some (.inl (.int 1)))) m164)))))))))) ∧ ((m (9, 0, 0) 12) = 112 → (((m (9, 0, 1) (0)) ≤ 0 → ((∀ m167 : ch_M, m167 = ch_wr (ch_wr (ch_wr m (9, 0, 0) 15 13) (9, 0, 0) 16 0) (9, 0, 0) 17 0 → Q (.inl (some (.inl (.int 0)))) m167))) ∧ (¬ (m (9, 0, 1) (0)) ≤ 0 → (∃ T_169 : Nat, (∃ Y_170 : ch_B, (m_rel Y_170 (m (9, 0, 1))) ∧ (y_inv T_169 Y_170) ∧ ((∀ (B171 : ch_B), (m_rel (y_termB Y_170) (B171 1)) → (∀ a_ i_, a_ ≠ 1 → B171 a_ i_ = ch_ob m 9 0 a_ i_) → (∀ m173 : ch_M, m173 = ch_os m 9 0 B171 → ((∀ m178 : ch_M, m178 = ch_wr m173 (9, 0, 0) 18 (b_st (m_lb Y_170 (y_termB Y_170)) 12) → Q (.inl (some (.inl (.int 1)))) m178)))))))))) ∧ ((m (9, 0, 0) 12) = 113 → (((m (9, 0, 1) (0)) ≤ 0 → ((∀ m181 : ch_M, m181 = ch_wr (ch_wr (ch_wr m (9, 0, 0) 15 13) (9, 0, 0) 16 0) (9, 0, 0) 17 0 → Q (.inl (some (.inl (.int 0)))) m181))) ∧ (¬ (m (9, 0, 1) (0)) ≤ 0 → (∃ T_183 : Nat, (∃ Y_184 : ch_B, (m_rel Y_184 (m (9, 0, 1))) ∧ (y_inv T_183 Y_184) ∧ ((∀ (B185 : ch_B), (m_rel (y_termB Y_184) (B185 1)) → (∀ a_ i_, a_ ≠ 1 → B185 a_ i_ = ch_ob m 9 0 a_ i_) → (∀ m187 : ch_M, m187 = ch_os m 9 0 B185 → ((∀ m192 : ch_M, m192 = ch_wr m187 (9, 0, 0) 18 (b_st (m_lb Y_184 (y_termB Y_184)) 12) → Q (.inl (some (.inl (.int 1)))) m192)))))))))) ∧ ((m (9, 0, 0) 12) = 114 → (∃ T_194 : Nat, (∃ Y_195 : ch_B, (m_rel Y_195 (m (9, 0, 1))) ∧ (y_inv T_194 Y_195) ∧ ((((r_wr Y_195 (m (9, 0, 8) (0))).1 = 0) → (∀ (B196 : ch_B), (m_did (ch_ob m 9 0) B196 (y_washB Y_195 (m (9, 0, 8) (0))) (y_washR Y_195 (m (9, 0, 8) (0)))) → (∀ m198 : ch_M, m198 = ch_os m 9 0 B196 → Q (.inl (some (.inl (.int 1)))) m198))) ∧ ((¬ (r_wr Y_195 (m (9, 0, 8) (0))).1 = 0) → (∀ m198 : ch_M, m198 = ch_os m 9 0 (m_refB (ch_ob m 9 0) (r_wr Y_195 (m (9, 0, 8) (0))).1 (r_wr Y_195 (m (9, 0, 8) (0))).2) → Q (.inl (some (.inl (.int 0)))) m198)))))) ∧ ((m (9, 0, 0) 12) = 115 → (∃ T_202 : Nat, (∃ Y_203 : ch_B, (m_rel Y_203 (m (9, 0, 1))) ∧ (y_inv T_202 Y_203) ∧ ((((r_ws Y_203 (m (9, 0, 8) (0))).1 = 0) → (∀ (B204 : ch_B), (m_did (ch_ob m 9 0) B204 (y_strB Y_203 (m (9, 0, 8) (0))) (Y_203 3 (Int32.toNatClampNeg (m (9, 0, 8) (0))) - Y_203 5 (Int32.toNatClampNeg (m (9, 0, 8) (0))))) → (∀ m206 : ch_M, m206 = ch_os m 9 0 B204 → Q (.inl (some (.inl (.int 1)))) m206))) ∧ ((¬ (r_ws Y_203 (m (9, 0, 8) (0))).1 = 0) → (∀ m206 : ch_M, m206 = ch_os m 9 0 (m_refB (ch_ob m 9 0) (r_ws Y_203 (m (9, 0, 8) (0))).1 (r_ws Y_203 (m (9, 0, 8) (0))).2) → Q (.inl (some (.inl (.int 0)))) m206)))))) ∧ ((m (9, 0, 0) 12) = 116 → (((m (9, 0, 1) (0)) ≤ 0 → ((∀ m211 : ch_M, m211 = ch_wr (ch_wr (ch_wr m (9, 0, 0) 15 13) (9, 0, 0) 16 0) (9, 0, 0) 17 0 → Q (.inl (some (.inl (.int 0)))) m211))) ∧ (¬ (m (9, 0, 1) (0)) ≤ 0 → (∃ T_213 : Nat, (∃ Y_214 : ch_B, (m_rel Y_214 (m (9, 0, 1))) ∧ (y_inv T_213 Y_214) ∧ ((∀ (B215 : ch_B), (m_rel (y_termB Y_214) (B215 1)) → (∀ a_ i_, a_ ≠ 1 → B215 a_ i_ = ch_ob m 9 0 a_ i_) → (∀ m217 : ch_M, m217 = ch_os m 9 0 B215 → ((∀ m222 : ch_M, m222 = ch_wr m217 (9, 0, 0) 18 (b_st (m_lb Y_214 (y_termB Y_214)) 12) → Q (.inl (some (.inl (.int 1)))) m222)))))))))) ∧ ((m (9, 0, 0) 12) = 117 → (((m (9, 0, 1) (0)) ≤ 0 → ((∀ m225 : ch_M, m225 = ch_wr (ch_wr (ch_wr m (9, 0, 0) 15 13) (9, 0, 0) 16 0) (9, 0, 0) 17 0 → Q (.inl (some (.inl (.int 0)))) m225))) ∧ (¬ (m (9, 0, 1) (0)) ≤ 0 → (∃ T_227 : Nat, (∃ Y_228 : ch_B, (m_rel Y_228 (m (9, 0, 1))) ∧ (y_inv T_227 Y_228) ∧ ((∀ (B229 : ch_B), (m_rel (y_termB Y_228) (B229 1)) → (∀ a_ i_, a_ ≠ 1 → B229 a_ i_ = ch_ob m 9 0 a_ i_) → (∀ m231 : ch_M, m231 = ch_os m 9 0 B229 → ((∀ m236 : ch_M, m236 = ch_wr m231 (9, 0, 0) 18 (b_st (m_lb Y_228 (y_termB Y_228)) 12) → Q (.inl (some (.inl (.int 1)))) m236)))))))))) ∧ ((m (9, 0, 0) 12) = 118 → (((m (9, 0, 1) (0)) ≤ 0 → ((∀ m239 : ch_M, m239 = ch_wr (ch_wr (ch_wr m (9, 0, 0) 15 13) (9, 0, 0) 16 0) (9, 0, 0) 17 0 → Q (.inl (some (.inl (.int 0)))) m239))) ∧ (¬ (m (9, 0, 1) (0)) ≤ 0 → (∃ T_241 : Nat, (∃ Y_242 : ch_B, (m_rel Y_242 (m (9, 0, 1))) ∧ (y_inv T_241 Y_242) ∧ ((∀ (B243 : ch_B), (m_rel (y_termB Y_242) (B243 1)) → (∀ a_ i_, a_ ≠ 1 → B243 a_ i_ = ch_ob m 9 0 a_ i_) → (∀ m245 : ch_M, m245 = ch_os m 9 0 B243 → ((∀ m250 : ch_M, m250 = ch_wr m245 (9, 0, 0) 18 (b_st (m_lb Y_242 (y_termB Y_242)) 12) → Q (.inl (some (.inl (.int 1)))) m250)))))))))) ∧ ((m (9, 0, 0) 12) = 119 → (∃ T_252 : Nat, (∃ Y_253 : ch_B, (m_rel Y_253 (m (9, 0, 1))) ∧ (y_inv T_252 Y_253) ∧ ((((r_ww Y_253 (m (9, 0, 8) (0))).1 = 0) → (∀ (B254 : ch_B), (m_did (ch_ob m 9 0) B254 (y_wriB Y_253 (m (9, 0, 8) (0))) ((if 9 < Y_253 4 (Int32.toNatClampNeg (m (9, 0, 8) (0))) then 9 else Y_253 4 (Int32.toNatClampNeg (m (9, 0, 8) (0)))))) → (∀ m256 : ch_M, m256 = ch_os m 9 0 B254 → Q (.inl (some (.inl (.int 1)))) m256))) ∧ ((¬ (r_ww Y_253 (m (9, 0, 8) (0))).1 = 0) → (∀ m256 : ch_M, m256 = ch_os m 9 0 (m_refB (ch_ob m 9 0) (r_ww Y_253 (m (9, 0, 8) (0))).1 (r_ww Y_253 (m (9, 0, 8) (0))).2) → Q (.inl (some (.inl (.int 0)))) m256)))))) ∧ ((Int32.toInt (m (9, 0, 0) 12) < 99 ∨ 119 < Int32.toInt (m (9, 0, 0) 12)) → (((m (9, 0, 1) (0)) ≤ 0 → ((∀ m261 : ch_M, m261 = ch_wr (ch_wr (ch_wr m (9, 0, 0) 15 13) (9, 0, 0) 16 0) (9, 0, 0) 17 0 → Q (.inl (some (.inl (.int 0)))) m261))) ∧ (¬ (m (9, 0, 1) (0)) ≤ 0 → (∃ T_263 : Nat, (∃ Y_264 : ch_B, (m_rel Y_264 (m (9, 0, 1))) ∧ (y_inv T_263 Y_264) ∧ ((∀ (B265 : ch_B), (m_rel (y_termB Y_264) (B265 1)) → (∀ a_ i_, a_ ≠ 1 → B265 a_ i_ = ch_ob m 9 0 a_ i_) → (∀ m267 : ch_M, m267 = ch_os m 9 0 B265 → ((∀ m272 : ch_M, m272 = ch_wr m267 (9, 0, 0) 18 (b_st (m_lb Y_264 (y_termB Y_264)) 12) → Q (.inl (some (.inl (.int 1)))) m272)))))))))))) : ch_J g m_m_carries (ch_rm m_m_carries) (ch_E g m_m_carries Q) 0 [some (.inr (9, 0, 0))] [] m 0 := by
  refine ch_aload_n (i := 0) d_m_carries_0 rfl rfl ?_
  refine ch_get (v := .inl (.int (m (9, 0, 0) 12))) d_m_carries_1 fl_m_219 rfl ?_
  by_cases e99 : (m (9, 0, 0) 12) = 99
  · replace h := h.1 e99
    refine ch_tswIn (tgt := 115) (off := 111) d_m_carries_4 (by rw [e99]; decide) (by rw [e99]; decide) (by rw [e99]; rfl) (by decide) ?_
    refine ch_aload_n (i := 0) d_m_carries_115 rfl rfl ?_
    refine ch_aload_n (i := 0) d_m_carries_116 rfl rfl ?_
    refine ch_get (v := .inr (9, 0, 8)) d_m_carries_117 fl_m_32 rfl ?_
    refine ch_iconst (v := 0) d_m_carries_120 (by decide) ?_
    refine ch_iald (n := 3) d_m_carries_121 (by decide) rfl (vp_in_nI (n := 0) (by decide) (by decide)) ?_
    refine ch_aload_n (i := 0) d_m_carries_122 rfl rfl ?_
    refine ch_get (v := .inr (9, 0, 8)) d_m_carries_123 fl_m_32 rfl ?_
    refine ch_iconst (v := 1) d_m_carries_126 (by decide) ?_
    refine ch_iald (n := 3) d_m_carries_127 (by decide) rfl (vp_in_nI (n := 1) (by decide) (by decide)) ?_
    obtain ⟨T_1, h⟩ := h
    obtain ⟨Y_2, h⟩ := h
    have b7 := h.1
    replace h := h.2
    have b8 := h.1
    replace h := h.2
    refine ch_callV (as := [.inl (.int (m (9, 0, 8) (0))), .inl (.int (m (9, 0, 8) (1)))]) d_m_carries_128 lk_m_123 mi_m_chalks me_m_chalks rfl rfl rfl ⟨Nat.le_of_ble_eq_true rfl, Nat.le_of_ble_eq_true rfl⟩ (Nat.le_of_ble_eq_true rfl) ⟨Nat.le_of_ble_eq_true rfl, Nat.le_of_ble_eq_true rfl⟩ (ch_mono (ch_Ki (fun r4 m5 q6 => ?_)) (s_m_chalks g (fun (r_ : Int32) (m_ : ch_M) => (∃ (B3 : ch_B), ((r_wc Y_2 (m (9, 0, 8) (0)) (m (9, 0, 8) (1))).1 = 0) ∧ 1 = r_ ∧ (m_did (ch_ob m 9 0) B3 (y_chaB Y_2 (m (9, 0, 8) (0)) (m (9, 0, 8) (1))) (y_chv Y_2 (m (9, 0, 8) (1)))) ∧ m_ = ch_os m 9 0 B3) ∨ ((¬ (r_wc Y_2 (m (9, 0, 8) (0)) (m (9, 0, 8) (1))).1 = 0) ∧ 0 = r_ ∧ m_ = ch_os m 9 0 (m_refB (ch_ob m 9 0) (r_wc Y_2 (m (9, 0, 8) (0)) (m (9, 0, 8) (1))).1 (r_wc Y_2 (m (9, 0, 8) (0)) (m (9, 0, 8) (1))).2))) (T_1) (Y_2) ((m (9, 0, 8) (0))) ((m (9, 0, 8) (1))) m ⟨b7, b8, (fun c_ B3 f0_ => (Or.inl ⟨B3, c_, rfl, f0_, rfl⟩)), (fun c_ => (Or.inr ⟨c_, rfl, rfl⟩))⟩))
    rcases q6 with ⟨B3, c_, rfl, f0_, hm_⟩ | ⟨c_, rfl, hm_⟩
    · replace h := h.1 c_ B3 f0_ m5 hm_
      exact ch_iret (ty := .boolean) d_m_carries_131 rfl rfl (Nat.le_of_ble_eq_true rfl) h
    · replace h := h.2 c_ m5 hm_
      exact ch_iret (ty := .boolean) d_m_carries_131 rfl rfl (Nat.le_of_ble_eq_true rfl) h
  replace h := h.2
  by_cases e100 : (m (9, 0, 0) 12) = 100
  · replace h := h.1 e100
    refine ch_tswIn (tgt := 220) (off := 216) d_m_carries_4 (by rw [e100]; decide) (by rw [e100]; decide) (by rw [e100]; rfl) (by decide) ?_
    refine ch_aload_n (i := 0) d_m_carries_220 rfl rfl ?_
    refine ch_get (v := .inr (9, 0, 1)) d_m_carries_221 fl_m_9 rfl ?_
    refine ch_iconst (v := 0) d_m_carries_224 (by decide) ?_
    refine ch_iald (n := 63) d_m_carries_225 (by decide) rfl (vp_in_nI (n := 0) (by decide) (by decide)) ?_
    refine ch_if_le (tgt := 240) d_m_carries_226 (by decide) (fun c => ?_) (fun c => ?_)
    · replace h := h.1 c
      refine ch_aload_n (i := 0) d_m_carries_240 rfl rfl ?_
      refine ch_bipush (v := 13) d_m_carries_241 (by decide) ?_
      refine ch_iconst (v := 0) d_m_carries_243 (by decide) ?_
      refine ch_callV (as := [.inl (.int 13), .inl (.int 0)]) d_m_carries_244 lk_m_81 mi_m_refuses me_m_refuses rfl rfl rfl ⟨Nat.le_of_ble_eq_true rfl, Nat.le_of_ble_eq_true rfl⟩ (Nat.le_of_ble_eq_true rfl) ⟨Nat.le_of_ble_eq_true rfl, Nat.le_of_ble_eq_true rfl⟩ (ch_mono (ch_Ki (fun r9 m10 q11 => ?_)) (s_m_refuses g (fun (r_ : Int32) (m_ : ch_M) => (0 = r_ ∧ m_ = ch_wr (ch_wr (ch_wr m (9, 0, 0) 15 13) (9, 0, 0) 16 0) (9, 0, 0) 17 0)) (13) (0) m ⟨rfl, rfl⟩))
      obtain ⟨rfl, hm_⟩ := q11
      replace h := h m10 hm_
      exact ch_iret (ty := .boolean) d_m_carries_247 rfl rfl (Nat.le_of_ble_eq_true rfl) h
    · replace h := h.2 c
      refine ch_aload_n (i := 0) d_m_carries_229 rfl rfl ?_
      refine ch_aload_n (i := 0) d_m_carries_230 rfl rfl ?_
      obtain ⟨T_12, h⟩ := h
      obtain ⟨Y_13, h⟩ := h
      have b18 := h.1
      replace h := h.2
      have b19 := h.1
      replace h := h.2
      refine ch_callV (as := []) d_m_carries_231 lk_m_176 mi_m_goesBy me_m_goesBy rfl rfl rfl ⟨Nat.le_of_ble_eq_true rfl, Nat.le_of_ble_eq_true rfl⟩ (Nat.le_of_ble_eq_true rfl) ⟨Nat.le_of_ble_eq_true rfl, Nat.le_of_ble_eq_true rfl⟩ (ch_mono (ch_Ki (fun r15 m16 q17 => ?_)) (s_m_goesBy g (fun (r_ : Int32) (m_ : ch_M) => (∃ (B14 : ch_B), (b_st (m_lb Y_13 (y_termB Y_13)) 12) = r_ ∧ (m_rel (y_termB Y_13) (B14 1)) ∧ (∀ a_ i_, a_ ≠ 1 → B14 a_ i_ = ch_ob m 9 0 a_ i_) ∧ m_ = ch_os m 9 0 B14)) (T_12) (Y_13) m ⟨b18, b19, (fun B14 f0_ f1_ => ⟨B14, rfl, f0_, f1_, rfl⟩)⟩))
      obtain ⟨B14, rfl, f0_, f1_, hm_⟩ := q17
      replace h := h B14 f0_ f1_ m16 hm_
      refine ch_callV (as := [.inl (.int (b_st (m_lb Y_13 (y_termB Y_13)) 12))]) d_m_carries_234 lk_m_93 mi_m_does me_m_does rfl rfl rfl ⟨Nat.le_of_ble_eq_true rfl, Nat.le_of_ble_eq_true rfl⟩ (Nat.le_of_ble_eq_true rfl) ⟨Nat.le_of_ble_eq_true rfl, Nat.le_of_ble_eq_true rfl⟩ (ch_mono (ch_Ki (fun r20 m21 q22 => ?_)) (s_m_does g (fun (r_ : Int32) (m_ : ch_M) => (1 = r_ ∧ m_ = ch_wr m16 (9, 0, 0) 18 (b_st (m_lb Y_13 (y_termB Y_13)) 12))) ((b_st (m_lb Y_13 (y_termB Y_13)) 12)) m16 ⟨rfl, rfl⟩))
      obtain ⟨rfl, hm_⟩ := q22
      replace h := h m21 hm_
      refine ch_goto (tgt := 247) d_m_carries_237 (by decide) ?_
      exact ch_iret (ty := .boolean) d_m_carries_247 rfl rfl (Nat.le_of_ble_eq_true rfl) h
  replace h := h.2
  by_cases e101 : (m (9, 0, 0) 12) = 101
  · replace h := h.1 e101
    refine ch_tswIn (tgt := 220) (off := 216) d_m_carries_4 (by rw [e101]; decide) (by rw [e101]; decide) (by rw [e101]; rfl) (by decide) ?_
    refine ch_aload_n (i := 0) d_m_carries_220 rfl rfl ?_
    refine ch_get (v := .inr (9, 0, 1)) d_m_carries_221 fl_m_9 rfl ?_
    refine ch_iconst (v := 0) d_m_carries_224 (by decide) ?_
    refine ch_iald (n := 63) d_m_carries_225 (by decide) rfl (vp_in_nI (n := 0) (by decide) (by decide)) ?_
    refine ch_if_le (tgt := 240) d_m_carries_226 (by decide) (fun c => ?_) (fun c => ?_)
    · replace h := h.1 c
      refine ch_aload_n (i := 0) d_m_carries_240 rfl rfl ?_
      refine ch_bipush (v := 13) d_m_carries_241 (by decide) ?_
      refine ch_iconst (v := 0) d_m_carries_243 (by decide) ?_
      refine ch_callV (as := [.inl (.int 13), .inl (.int 0)]) d_m_carries_244 lk_m_81 mi_m_refuses me_m_refuses rfl rfl rfl ⟨Nat.le_of_ble_eq_true rfl, Nat.le_of_ble_eq_true rfl⟩ (Nat.le_of_ble_eq_true rfl) ⟨Nat.le_of_ble_eq_true rfl, Nat.le_of_ble_eq_true rfl⟩ (ch_mono (ch_Ki (fun r23 m24 q25 => ?_)) (s_m_refuses g (fun (r_ : Int32) (m_ : ch_M) => (0 = r_ ∧ m_ = ch_wr (ch_wr (ch_wr m (9, 0, 0) 15 13) (9, 0, 0) 16 0) (9, 0, 0) 17 0)) (13) (0) m ⟨rfl, rfl⟩))
      obtain ⟨rfl, hm_⟩ := q25
      replace h := h m24 hm_
      exact ch_iret (ty := .boolean) d_m_carries_247 rfl rfl (Nat.le_of_ble_eq_true rfl) h
    · replace h := h.2 c
      refine ch_aload_n (i := 0) d_m_carries_229 rfl rfl ?_
      refine ch_aload_n (i := 0) d_m_carries_230 rfl rfl ?_
      obtain ⟨T_26, h⟩ := h
      obtain ⟨Y_27, h⟩ := h
      have b32 := h.1
      replace h := h.2
      have b33 := h.1
      replace h := h.2
      refine ch_callV (as := []) d_m_carries_231 lk_m_176 mi_m_goesBy me_m_goesBy rfl rfl rfl ⟨Nat.le_of_ble_eq_true rfl, Nat.le_of_ble_eq_true rfl⟩ (Nat.le_of_ble_eq_true rfl) ⟨Nat.le_of_ble_eq_true rfl, Nat.le_of_ble_eq_true rfl⟩ (ch_mono (ch_Ki (fun r29 m30 q31 => ?_)) (s_m_goesBy g (fun (r_ : Int32) (m_ : ch_M) => (∃ (B28 : ch_B), (b_st (m_lb Y_27 (y_termB Y_27)) 12) = r_ ∧ (m_rel (y_termB Y_27) (B28 1)) ∧ (∀ a_ i_, a_ ≠ 1 → B28 a_ i_ = ch_ob m 9 0 a_ i_) ∧ m_ = ch_os m 9 0 B28)) (T_26) (Y_27) m ⟨b32, b33, (fun B28 f0_ f1_ => ⟨B28, rfl, f0_, f1_, rfl⟩)⟩))
      obtain ⟨B28, rfl, f0_, f1_, hm_⟩ := q31
      replace h := h B28 f0_ f1_ m30 hm_
      refine ch_callV (as := [.inl (.int (b_st (m_lb Y_27 (y_termB Y_27)) 12))]) d_m_carries_234 lk_m_93 mi_m_does me_m_does rfl rfl rfl ⟨Nat.le_of_ble_eq_true rfl, Nat.le_of_ble_eq_true rfl⟩ (Nat.le_of_ble_eq_true rfl) ⟨Nat.le_of_ble_eq_true rfl, Nat.le_of_ble_eq_true rfl⟩ (ch_mono (ch_Ki (fun r34 m35 q36 => ?_)) (s_m_does g (fun (r_ : Int32) (m_ : ch_M) => (1 = r_ ∧ m_ = ch_wr m30 (9, 0, 0) 18 (b_st (m_lb Y_27 (y_termB Y_27)) 12))) ((b_st (m_lb Y_27 (y_termB Y_27)) 12)) m30 ⟨rfl, rfl⟩))
      obtain ⟨rfl, hm_⟩ := q36
      replace h := h m35 hm_
      refine ch_goto (tgt := 247) d_m_carries_237 (by decide) ?_
      exact ch_iret (ty := .boolean) d_m_carries_247 rfl rfl (Nat.le_of_ble_eq_true rfl) h
  replace h := h.2
  by_cases e102 : (m (9, 0, 0) 12) = 102
  · replace h := h.1 e102
    refine ch_tswIn (tgt := 220) (off := 216) d_m_carries_4 (by rw [e102]; decide) (by rw [e102]; decide) (by rw [e102]; rfl) (by decide) ?_
    refine ch_aload_n (i := 0) d_m_carries_220 rfl rfl ?_
    refine ch_get (v := .inr (9, 0, 1)) d_m_carries_221 fl_m_9 rfl ?_
    refine ch_iconst (v := 0) d_m_carries_224 (by decide) ?_
    refine ch_iald (n := 63) d_m_carries_225 (by decide) rfl (vp_in_nI (n := 0) (by decide) (by decide)) ?_
    refine ch_if_le (tgt := 240) d_m_carries_226 (by decide) (fun c => ?_) (fun c => ?_)
    · replace h := h.1 c
      refine ch_aload_n (i := 0) d_m_carries_240 rfl rfl ?_
      refine ch_bipush (v := 13) d_m_carries_241 (by decide) ?_
      refine ch_iconst (v := 0) d_m_carries_243 (by decide) ?_
      refine ch_callV (as := [.inl (.int 13), .inl (.int 0)]) d_m_carries_244 lk_m_81 mi_m_refuses me_m_refuses rfl rfl rfl ⟨Nat.le_of_ble_eq_true rfl, Nat.le_of_ble_eq_true rfl⟩ (Nat.le_of_ble_eq_true rfl) ⟨Nat.le_of_ble_eq_true rfl, Nat.le_of_ble_eq_true rfl⟩ (ch_mono (ch_Ki (fun r37 m38 q39 => ?_)) (s_m_refuses g (fun (r_ : Int32) (m_ : ch_M) => (0 = r_ ∧ m_ = ch_wr (ch_wr (ch_wr m (9, 0, 0) 15 13) (9, 0, 0) 16 0) (9, 0, 0) 17 0)) (13) (0) m ⟨rfl, rfl⟩))
      obtain ⟨rfl, hm_⟩ := q39
      replace h := h m38 hm_
      exact ch_iret (ty := .boolean) d_m_carries_247 rfl rfl (Nat.le_of_ble_eq_true rfl) h
    · replace h := h.2 c
      refine ch_aload_n (i := 0) d_m_carries_229 rfl rfl ?_
      refine ch_aload_n (i := 0) d_m_carries_230 rfl rfl ?_
      obtain ⟨T_40, h⟩ := h
      obtain ⟨Y_41, h⟩ := h
      have b46 := h.1
      replace h := h.2
      have b47 := h.1
      replace h := h.2
      refine ch_callV (as := []) d_m_carries_231 lk_m_176 mi_m_goesBy me_m_goesBy rfl rfl rfl ⟨Nat.le_of_ble_eq_true rfl, Nat.le_of_ble_eq_true rfl⟩ (Nat.le_of_ble_eq_true rfl) ⟨Nat.le_of_ble_eq_true rfl, Nat.le_of_ble_eq_true rfl⟩ (ch_mono (ch_Ki (fun r43 m44 q45 => ?_)) (s_m_goesBy g (fun (r_ : Int32) (m_ : ch_M) => (∃ (B42 : ch_B), (b_st (m_lb Y_41 (y_termB Y_41)) 12) = r_ ∧ (m_rel (y_termB Y_41) (B42 1)) ∧ (∀ a_ i_, a_ ≠ 1 → B42 a_ i_ = ch_ob m 9 0 a_ i_) ∧ m_ = ch_os m 9 0 B42)) (T_40) (Y_41) m ⟨b46, b47, (fun B42 f0_ f1_ => ⟨B42, rfl, f0_, f1_, rfl⟩)⟩))
      obtain ⟨B42, rfl, f0_, f1_, hm_⟩ := q45
      replace h := h B42 f0_ f1_ m44 hm_
      refine ch_callV (as := [.inl (.int (b_st (m_lb Y_41 (y_termB Y_41)) 12))]) d_m_carries_234 lk_m_93 mi_m_does me_m_does rfl rfl rfl ⟨Nat.le_of_ble_eq_true rfl, Nat.le_of_ble_eq_true rfl⟩ (Nat.le_of_ble_eq_true rfl) ⟨Nat.le_of_ble_eq_true rfl, Nat.le_of_ble_eq_true rfl⟩ (ch_mono (ch_Ki (fun r48 m49 q50 => ?_)) (s_m_does g (fun (r_ : Int32) (m_ : ch_M) => (1 = r_ ∧ m_ = ch_wr m44 (9, 0, 0) 18 (b_st (m_lb Y_41 (y_termB Y_41)) 12))) ((b_st (m_lb Y_41 (y_termB Y_41)) 12)) m44 ⟨rfl, rfl⟩))
      obtain ⟨rfl, hm_⟩ := q50
      replace h := h m49 hm_
      refine ch_goto (tgt := 247) d_m_carries_237 (by decide) ?_
      exact ch_iret (ty := .boolean) d_m_carries_247 rfl rfl (Nat.le_of_ble_eq_true rfl) h
  replace h := h.2
  by_cases e103 : (m (9, 0, 0) 12) = 103
  · replace h := h.1 e103
    refine ch_tswIn (tgt := 197) (off := 193) d_m_carries_4 (by rw [e103]; decide) (by rw [e103]; decide) (by rw [e103]; rfl) (by decide) ?_
    refine ch_aload_n (i := 0) d_m_carries_197 rfl rfl ?_
    refine ch_aload_n (i := 0) d_m_carries_198 rfl rfl ?_
    refine ch_get (v := .inr (9, 0, 8)) d_m_carries_199 fl_m_32 rfl ?_
    refine ch_iconst (v := 0) d_m_carries_202 (by decide) ?_
    refine ch_iald (n := 3) d_m_carries_203 (by decide) rfl (vp_in_nI (n := 0) (by decide) (by decide)) ?_
    refine ch_aload_n (i := 0) d_m_carries_204 rfl rfl ?_
    refine ch_get (v := .inr (9, 0, 8)) d_m_carries_205 fl_m_32 rfl ?_
    refine ch_iconst (v := 1) d_m_carries_208 (by decide) ?_
    refine ch_iald (n := 3) d_m_carries_209 (by decide) rfl (vp_in_nI (n := 1) (by decide) (by decide)) ?_
    refine ch_aload_n (i := 0) d_m_carries_210 rfl rfl ?_
    refine ch_get (v := .inr (9, 0, 8)) d_m_carries_211 fl_m_32 rfl ?_
    refine ch_iconst (v := 2) d_m_carries_214 (by decide) ?_
    refine ch_iald (n := 3) d_m_carries_215 (by decide) rfl (vp_in_nI (n := 2) (by decide) (by decide)) ?_
    obtain ⟨T_51, h⟩ := h
    obtain ⟨Y_52, h⟩ := h
    have b57 := h.1
    replace h := h.2
    have b58 := h.1
    replace h := h.2
    refine ch_callV (as := [.inl (.int (m (9, 0, 8) (0))), .inl (.int (m (9, 0, 8) (1))), .inl (.int (m (9, 0, 8) (2)))]) d_m_carries_216 lk_m_179 mi_m_gives me_m_gives rfl rfl rfl ⟨Nat.le_of_ble_eq_true rfl, Nat.le_of_ble_eq_true rfl⟩ (Nat.le_of_ble_eq_true rfl) ⟨Nat.le_of_ble_eq_true rfl, Nat.le_of_ble_eq_true rfl⟩ (ch_mono (ch_Ki (fun r54 m55 q56 => ?_)) (s_m_gives g (fun (r_ : Int32) (m_ : ch_M) => (∃ (B53 : ch_B), ((r_wg Y_52 (m (9, 0, 8) (0)) (m (9, 0, 8) (1)) (m (9, 0, 8) (2))).1 = 0) ∧ 1 = r_ ∧ (m_did (ch_ob m 9 0) B53 (y_givB Y_52 (m (9, 0, 8) (0)) (m (9, 0, 8) (1)) (m (9, 0, 8) (2))) (y_givB Y_52 (m (9, 0, 8) (0)) (m (9, 0, 8) (1)) (m (9, 0, 8) (2)) 3 (Int32.toNatClampNeg (m (9, 0, 8) (0))))) ∧ m_ = ch_os m 9 0 B53) ∨ ((¬ (r_wg Y_52 (m (9, 0, 8) (0)) (m (9, 0, 8) (1)) (m (9, 0, 8) (2))).1 = 0) ∧ 0 = r_ ∧ m_ = ch_os m 9 0 (m_refB (ch_ob m 9 0) (r_wg Y_52 (m (9, 0, 8) (0)) (m (9, 0, 8) (1)) (m (9, 0, 8) (2))).1 (r_wg Y_52 (m (9, 0, 8) (0)) (m (9, 0, 8) (1)) (m (9, 0, 8) (2))).2))) (T_51) (Y_52) ((m (9, 0, 8) (0))) ((m (9, 0, 8) (1))) ((m (9, 0, 8) (2))) m ⟨b57, b58, (fun c_ B53 f0_ => (Or.inl ⟨B53, c_, rfl, f0_, rfl⟩)), (fun c_ => (Or.inr ⟨c_, rfl, rfl⟩))⟩))
    rcases q56 with ⟨B53, c_, rfl, f0_, hm_⟩ | ⟨c_, rfl, hm_⟩
    · replace h := h.1 c_ B53 f0_ m55 hm_
      exact ch_iret (ty := .boolean) d_m_carries_219 rfl rfl (Nat.le_of_ble_eq_true rfl) h
    · replace h := h.2 c_ m55 hm_
      exact ch_iret (ty := .boolean) d_m_carries_219 rfl rfl (Nat.le_of_ble_eq_true rfl) h
  replace h := h.2
  by_cases e104 : (m (9, 0, 0) 12) = 104
  · replace h := h.1 e104
    refine ch_tswIn (tgt := 132) (off := 128) d_m_carries_4 (by rw [e104]; decide) (by rw [e104]; decide) (by rw [e104]; rfl) (by decide) ?_
    refine ch_aload_n (i := 0) d_m_carries_132 rfl rfl ?_
    refine ch_aload_n (i := 0) d_m_carries_133 rfl rfl ?_
    refine ch_get (v := .inr (9, 0, 8)) d_m_carries_134 fl_m_32 rfl ?_
    refine ch_iconst (v := 0) d_m_carries_137 (by decide) ?_
    refine ch_iald (n := 3) d_m_carries_138 (by decide) rfl (vp_in_nI (n := 0) (by decide) (by decide)) ?_
    have b62 := h.1
    replace h := h.2
    refine ch_callV (as := [.inl (.int (m (9, 0, 8) (0)))]) d_m_carries_139 lk_m_144 mi_m_canHop me_m_canHop rfl rfl rfl ⟨Nat.le_of_ble_eq_true rfl, Nat.le_of_ble_eq_true rfl⟩ (Nat.le_of_ble_eq_true rfl) ⟨Nat.le_of_ble_eq_true rfl, Nat.le_of_ble_eq_true rfl⟩ (ch_mono (ch_Ki (fun r59 m60 q61 => ?_)) (s_m_canHop g (fun (r_ : Int32) (m_ : ch_M) => (((0 ≤ (m (9, 0, 8) (0)) ∧ (m (9, 0, 8) (0)) ≤ m (9, 0, 1) 0 - 1) ∧ m (9, 0, 1) (38 + 5 * Int32.toNatClampNeg (m (9, 0, 8) (0)) + 2) = 0) ∧ 1 = r_ ∧ m = m_) ∨ ((¬ (0 ≤ (m (9, 0, 8) (0)) ∧ (m (9, 0, 8) (0)) ≤ m (9, 0, 1) 0 - 1)) ∧ 0 = r_ ∧ m_ = ch_os m 9 0 (m_refB (ch_ob m 9 0) 3 (m (9, 0, 1) 0))) ∨ (((0 ≤ (m (9, 0, 8) (0)) ∧ (m (9, 0, 8) (0)) ≤ m (9, 0, 1) 0 - 1) ∧ ¬ m (9, 0, 1) (38 + 5 * Int32.toNatClampNeg (m (9, 0, 8) (0)) + 2) = 0) ∧ 0 = r_ ∧ m_ = ch_os m 9 0 (m_refB (ch_ob m 9 0) 7 (m (9, 0, 1) (38 + 5 * Int32.toNatClampNeg (m (9, 0, 8) (0)) + 2))))) ((m (9, 0, 8) (0))) m ⟨b62, (fun c_ => (Or.inl ⟨c_, rfl, rfl⟩)), (fun c_ => (Or.inr (Or.inl ⟨c_, rfl, rfl⟩))), (fun c_ => (Or.inr (Or.inr ⟨c_, rfl, rfl⟩)))⟩))
    rcases q61 with ⟨c_, rfl, rfl⟩ | ⟨c_, rfl, hm_⟩ | ⟨c_, rfl, hm_⟩
    · replace h := h.1 c_
      refine ch_if_eq (tgt := 162) d_m_carries_142 (by decide) (fun c => absurd c (by decide)) (fun _ => ?_)
      refine ch_aload_n (i := 0) d_m_carries_145 rfl rfl ?_
      refine ch_aload_n (i := 0) d_m_carries_146 rfl rfl ?_
      refine ch_get (v := .inr (9, 0, 8)) d_m_carries_147 fl_m_32 rfl ?_
      refine ch_iconst (v := 0) d_m_carries_150 (by decide) ?_
      refine ch_iald (n := 3) d_m_carries_151 (by decide) rfl (vp_in_nI (n := 0) (by decide) (by decide)) ?_
      obtain ⟨T_63, h⟩ := h
      obtain ⟨Y_64, h⟩ := h
      have b69 := h.1
      replace h := h.2
      have b70 := h.1
      replace h := h.2
      have b71 := h.1
      replace h := h.2
      have b72 := h.1
      replace h := h.2
      have b73 := h.1
      replace h := h.2
      refine ch_callV (as := [.inl (.int (m (9, 0, 8) (0)))]) d_m_carries_152 lk_m_150 mi_m_hops me_m_hops rfl rfl rfl ⟨Nat.le_of_ble_eq_true rfl, Nat.le_of_ble_eq_true rfl⟩ (Nat.le_of_ble_eq_true rfl) ⟨Nat.le_of_ble_eq_true rfl, Nat.le_of_ble_eq_true rfl⟩ (ch_mono (ch_Ki (fun r66 m67 q68 => ?_)) (s_m_hops g (fun (r_ : Int32) (m_ : ch_M) => (∃ (B65 : ch_B), (¬ y_mfO (m (9, 0, 9)) (Int32.toNatClampNeg (m (9, 0, 0) 21)) = true ∧ ¬ ch_ps (m (9, 0, 9)) (Int32.toNatClampNeg (m (9, 0, 0) 21)) < 11) ∧ 1 = r_ ∧ (m_did (ch_ob m 9 0) B65 (y_hopB Y_64 (m (9, 0, 8) (0)) (m (9, 0, 9)) (Int32.toNatClampNeg (m (9, 0, 0) 21))) (y_ct Y_64 (m (9, 0, 8) (0)) (m (9, 0, 9)) (Int32.toNatClampNeg (m (9, 0, 0) 21)))) ∧ m_ = ch_os m 9 0 B65) ∨ ((¬ (¬ y_mfO (m (9, 0, 9)) (Int32.toNatClampNeg (m (9, 0, 0) 21)) = true ∧ ¬ ch_ps (m (9, 0, 9)) (Int32.toNatClampNeg (m (9, 0, 0) 21)) < 11)) ∧ 0 = r_ ∧ m_ = ch_os m 9 0 (m_refB (ch_ob m 9 0) 8 (if y_mfO (m (9, 0, 9)) (Int32.toNatClampNeg (m (9, 0, 0) 21)) = true then 12 else ch_ps (m (9, 0, 9)) (Int32.toNatClampNeg (m (9, 0, 0) 21)))))) (T_63) (Y_64) ((m (9, 0, 8) (0))) m ⟨b69, b70, b71, b72, b73, (fun c_ B65 f0_ => (Or.inl ⟨B65, c_, rfl, f0_, rfl⟩)), (fun c_ => (Or.inr ⟨c_, rfl, rfl⟩))⟩))
      rcases q68 with ⟨B65, c_, rfl, f0_, hm_⟩ | ⟨c_, rfl, hm_⟩
      · replace h := h.1 c_ B65 f0_ m67 hm_
        refine ch_if_eq (tgt := 162) d_m_carries_155 (by decide) (fun c => absurd c (by decide)) (fun _ => ?_)
        refine ch_iconst (v := 1) d_m_carries_158 (by decide) ?_
        refine ch_goto (tgt := 163) d_m_carries_159 (by decide) ?_
        exact ch_iret (ty := .boolean) d_m_carries_163 rfl rfl (Nat.le_of_ble_eq_true rfl) h
      · replace h := h.2 c_ m67 hm_
        refine ch_if_eq (tgt := 162) d_m_carries_155 (by decide) (fun _ => ?_) (fun c => absurd c (by decide))
        refine ch_iconst (v := 0) d_m_carries_162 (by decide) ?_
        exact ch_iret (ty := .boolean) d_m_carries_163 rfl rfl (Nat.le_of_ble_eq_true rfl) h
    · replace h := h.2.1 c_ m60 hm_
      refine ch_if_eq (tgt := 162) d_m_carries_142 (by decide) (fun _ => ?_) (fun c => absurd c (by decide))
      refine ch_iconst (v := 0) d_m_carries_162 (by decide) ?_
      exact ch_iret (ty := .boolean) d_m_carries_163 rfl rfl (Nat.le_of_ble_eq_true rfl) h
    · replace h := h.2.2 c_ m60 hm_
      refine ch_if_eq (tgt := 162) d_m_carries_142 (by decide) (fun _ => ?_) (fun c => absurd c (by decide))
      refine ch_iconst (v := 0) d_m_carries_162 (by decide) ?_
      exact ch_iret (ty := .boolean) d_m_carries_163 rfl rfl (Nat.le_of_ble_eq_true rfl) h
  replace h := h.2
  by_cases e105 : (m (9, 0, 0) 12) = 105
  · replace h := h.1 e105
    refine ch_tswIn (tgt := 220) (off := 216) d_m_carries_4 (by rw [e105]; decide) (by rw [e105]; decide) (by rw [e105]; rfl) (by decide) ?_
    refine ch_aload_n (i := 0) d_m_carries_220 rfl rfl ?_
    refine ch_get (v := .inr (9, 0, 1)) d_m_carries_221 fl_m_9 rfl ?_
    refine ch_iconst (v := 0) d_m_carries_224 (by decide) ?_
    refine ch_iald (n := 63) d_m_carries_225 (by decide) rfl (vp_in_nI (n := 0) (by decide) (by decide)) ?_
    refine ch_if_le (tgt := 240) d_m_carries_226 (by decide) (fun c => ?_) (fun c => ?_)
    · replace h := h.1 c
      refine ch_aload_n (i := 0) d_m_carries_240 rfl rfl ?_
      refine ch_bipush (v := 13) d_m_carries_241 (by decide) ?_
      refine ch_iconst (v := 0) d_m_carries_243 (by decide) ?_
      refine ch_callV (as := [.inl (.int 13), .inl (.int 0)]) d_m_carries_244 lk_m_81 mi_m_refuses me_m_refuses rfl rfl rfl ⟨Nat.le_of_ble_eq_true rfl, Nat.le_of_ble_eq_true rfl⟩ (Nat.le_of_ble_eq_true rfl) ⟨Nat.le_of_ble_eq_true rfl, Nat.le_of_ble_eq_true rfl⟩ (ch_mono (ch_Ki (fun r74 m75 q76 => ?_)) (s_m_refuses g (fun (r_ : Int32) (m_ : ch_M) => (0 = r_ ∧ m_ = ch_wr (ch_wr (ch_wr m (9, 0, 0) 15 13) (9, 0, 0) 16 0) (9, 0, 0) 17 0)) (13) (0) m ⟨rfl, rfl⟩))
      obtain ⟨rfl, hm_⟩ := q76
      replace h := h m75 hm_
      exact ch_iret (ty := .boolean) d_m_carries_247 rfl rfl (Nat.le_of_ble_eq_true rfl) h
    · replace h := h.2 c
      refine ch_aload_n (i := 0) d_m_carries_229 rfl rfl ?_
      refine ch_aload_n (i := 0) d_m_carries_230 rfl rfl ?_
      obtain ⟨T_77, h⟩ := h
      obtain ⟨Y_78, h⟩ := h
      have b83 := h.1
      replace h := h.2
      have b84 := h.1
      replace h := h.2
      refine ch_callV (as := []) d_m_carries_231 lk_m_176 mi_m_goesBy me_m_goesBy rfl rfl rfl ⟨Nat.le_of_ble_eq_true rfl, Nat.le_of_ble_eq_true rfl⟩ (Nat.le_of_ble_eq_true rfl) ⟨Nat.le_of_ble_eq_true rfl, Nat.le_of_ble_eq_true rfl⟩ (ch_mono (ch_Ki (fun r80 m81 q82 => ?_)) (s_m_goesBy g (fun (r_ : Int32) (m_ : ch_M) => (∃ (B79 : ch_B), (b_st (m_lb Y_78 (y_termB Y_78)) 12) = r_ ∧ (m_rel (y_termB Y_78) (B79 1)) ∧ (∀ a_ i_, a_ ≠ 1 → B79 a_ i_ = ch_ob m 9 0 a_ i_) ∧ m_ = ch_os m 9 0 B79)) (T_77) (Y_78) m ⟨b83, b84, (fun B79 f0_ f1_ => ⟨B79, rfl, f0_, f1_, rfl⟩)⟩))
      obtain ⟨B79, rfl, f0_, f1_, hm_⟩ := q82
      replace h := h B79 f0_ f1_ m81 hm_
      refine ch_callV (as := [.inl (.int (b_st (m_lb Y_78 (y_termB Y_78)) 12))]) d_m_carries_234 lk_m_93 mi_m_does me_m_does rfl rfl rfl ⟨Nat.le_of_ble_eq_true rfl, Nat.le_of_ble_eq_true rfl⟩ (Nat.le_of_ble_eq_true rfl) ⟨Nat.le_of_ble_eq_true rfl, Nat.le_of_ble_eq_true rfl⟩ (ch_mono (ch_Ki (fun r85 m86 q87 => ?_)) (s_m_does g (fun (r_ : Int32) (m_ : ch_M) => (1 = r_ ∧ m_ = ch_wr m81 (9, 0, 0) 18 (b_st (m_lb Y_78 (y_termB Y_78)) 12))) ((b_st (m_lb Y_78 (y_termB Y_78)) 12)) m81 ⟨rfl, rfl⟩))
      obtain ⟨rfl, hm_⟩ := q87
      replace h := h m86 hm_
      refine ch_goto (tgt := 247) d_m_carries_237 (by decide) ?_
      exact ch_iret (ty := .boolean) d_m_carries_247 rfl rfl (Nat.le_of_ble_eq_true rfl) h
  replace h := h.2
  by_cases e106 : (m (9, 0, 0) 12) = 106
  · replace h := h.1 e106
    refine ch_tswIn (tgt := 220) (off := 216) d_m_carries_4 (by rw [e106]; decide) (by rw [e106]; decide) (by rw [e106]; rfl) (by decide) ?_
    refine ch_aload_n (i := 0) d_m_carries_220 rfl rfl ?_
    refine ch_get (v := .inr (9, 0, 1)) d_m_carries_221 fl_m_9 rfl ?_
    refine ch_iconst (v := 0) d_m_carries_224 (by decide) ?_
    refine ch_iald (n := 63) d_m_carries_225 (by decide) rfl (vp_in_nI (n := 0) (by decide) (by decide)) ?_
    refine ch_if_le (tgt := 240) d_m_carries_226 (by decide) (fun c => ?_) (fun c => ?_)
    · replace h := h.1 c
      refine ch_aload_n (i := 0) d_m_carries_240 rfl rfl ?_
      refine ch_bipush (v := 13) d_m_carries_241 (by decide) ?_
      refine ch_iconst (v := 0) d_m_carries_243 (by decide) ?_
      refine ch_callV (as := [.inl (.int 13), .inl (.int 0)]) d_m_carries_244 lk_m_81 mi_m_refuses me_m_refuses rfl rfl rfl ⟨Nat.le_of_ble_eq_true rfl, Nat.le_of_ble_eq_true rfl⟩ (Nat.le_of_ble_eq_true rfl) ⟨Nat.le_of_ble_eq_true rfl, Nat.le_of_ble_eq_true rfl⟩ (ch_mono (ch_Ki (fun r88 m89 q90 => ?_)) (s_m_refuses g (fun (r_ : Int32) (m_ : ch_M) => (0 = r_ ∧ m_ = ch_wr (ch_wr (ch_wr m (9, 0, 0) 15 13) (9, 0, 0) 16 0) (9, 0, 0) 17 0)) (13) (0) m ⟨rfl, rfl⟩))
      obtain ⟨rfl, hm_⟩ := q90
      replace h := h m89 hm_
      exact ch_iret (ty := .boolean) d_m_carries_247 rfl rfl (Nat.le_of_ble_eq_true rfl) h
    · replace h := h.2 c
      refine ch_aload_n (i := 0) d_m_carries_229 rfl rfl ?_
      refine ch_aload_n (i := 0) d_m_carries_230 rfl rfl ?_
      obtain ⟨T_91, h⟩ := h
      obtain ⟨Y_92, h⟩ := h
      have b97 := h.1
      replace h := h.2
      have b98 := h.1
      replace h := h.2
      refine ch_callV (as := []) d_m_carries_231 lk_m_176 mi_m_goesBy me_m_goesBy rfl rfl rfl ⟨Nat.le_of_ble_eq_true rfl, Nat.le_of_ble_eq_true rfl⟩ (Nat.le_of_ble_eq_true rfl) ⟨Nat.le_of_ble_eq_true rfl, Nat.le_of_ble_eq_true rfl⟩ (ch_mono (ch_Ki (fun r94 m95 q96 => ?_)) (s_m_goesBy g (fun (r_ : Int32) (m_ : ch_M) => (∃ (B93 : ch_B), (b_st (m_lb Y_92 (y_termB Y_92)) 12) = r_ ∧ (m_rel (y_termB Y_92) (B93 1)) ∧ (∀ a_ i_, a_ ≠ 1 → B93 a_ i_ = ch_ob m 9 0 a_ i_) ∧ m_ = ch_os m 9 0 B93)) (T_91) (Y_92) m ⟨b97, b98, (fun B93 f0_ f1_ => ⟨B93, rfl, f0_, f1_, rfl⟩)⟩))
      obtain ⟨B93, rfl, f0_, f1_, hm_⟩ := q96
      replace h := h B93 f0_ f1_ m95 hm_
      refine ch_callV (as := [.inl (.int (b_st (m_lb Y_92 (y_termB Y_92)) 12))]) d_m_carries_234 lk_m_93 mi_m_does me_m_does rfl rfl rfl ⟨Nat.le_of_ble_eq_true rfl, Nat.le_of_ble_eq_true rfl⟩ (Nat.le_of_ble_eq_true rfl) ⟨Nat.le_of_ble_eq_true rfl, Nat.le_of_ble_eq_true rfl⟩ (ch_mono (ch_Ki (fun r99 m100 q101 => ?_)) (s_m_does g (fun (r_ : Int32) (m_ : ch_M) => (1 = r_ ∧ m_ = ch_wr m95 (9, 0, 0) 18 (b_st (m_lb Y_92 (y_termB Y_92)) 12))) ((b_st (m_lb Y_92 (y_termB Y_92)) 12)) m95 ⟨rfl, rfl⟩))
      obtain ⟨rfl, hm_⟩ := q101
      replace h := h m100 hm_
      refine ch_goto (tgt := 247) d_m_carries_237 (by decide) ?_
      exact ch_iret (ty := .boolean) d_m_carries_247 rfl rfl (Nat.le_of_ble_eq_true rfl) h
  replace h := h.2
  by_cases e107 : (m (9, 0, 0) 12) = 107
  · replace h := h.1 e107
    refine ch_tswIn (tgt := 220) (off := 216) d_m_carries_4 (by rw [e107]; decide) (by rw [e107]; decide) (by rw [e107]; rfl) (by decide) ?_
    refine ch_aload_n (i := 0) d_m_carries_220 rfl rfl ?_
    refine ch_get (v := .inr (9, 0, 1)) d_m_carries_221 fl_m_9 rfl ?_
    refine ch_iconst (v := 0) d_m_carries_224 (by decide) ?_
    refine ch_iald (n := 63) d_m_carries_225 (by decide) rfl (vp_in_nI (n := 0) (by decide) (by decide)) ?_
    refine ch_if_le (tgt := 240) d_m_carries_226 (by decide) (fun c => ?_) (fun c => ?_)
    · replace h := h.1 c
      refine ch_aload_n (i := 0) d_m_carries_240 rfl rfl ?_
      refine ch_bipush (v := 13) d_m_carries_241 (by decide) ?_
      refine ch_iconst (v := 0) d_m_carries_243 (by decide) ?_
      refine ch_callV (as := [.inl (.int 13), .inl (.int 0)]) d_m_carries_244 lk_m_81 mi_m_refuses me_m_refuses rfl rfl rfl ⟨Nat.le_of_ble_eq_true rfl, Nat.le_of_ble_eq_true rfl⟩ (Nat.le_of_ble_eq_true rfl) ⟨Nat.le_of_ble_eq_true rfl, Nat.le_of_ble_eq_true rfl⟩ (ch_mono (ch_Ki (fun r102 m103 q104 => ?_)) (s_m_refuses g (fun (r_ : Int32) (m_ : ch_M) => (0 = r_ ∧ m_ = ch_wr (ch_wr (ch_wr m (9, 0, 0) 15 13) (9, 0, 0) 16 0) (9, 0, 0) 17 0)) (13) (0) m ⟨rfl, rfl⟩))
      obtain ⟨rfl, hm_⟩ := q104
      replace h := h m103 hm_
      exact ch_iret (ty := .boolean) d_m_carries_247 rfl rfl (Nat.le_of_ble_eq_true rfl) h
    · replace h := h.2 c
      refine ch_aload_n (i := 0) d_m_carries_229 rfl rfl ?_
      refine ch_aload_n (i := 0) d_m_carries_230 rfl rfl ?_
      obtain ⟨T_105, h⟩ := h
      obtain ⟨Y_106, h⟩ := h
      have b111 := h.1
      replace h := h.2
      have b112 := h.1
      replace h := h.2
      refine ch_callV (as := []) d_m_carries_231 lk_m_176 mi_m_goesBy me_m_goesBy rfl rfl rfl ⟨Nat.le_of_ble_eq_true rfl, Nat.le_of_ble_eq_true rfl⟩ (Nat.le_of_ble_eq_true rfl) ⟨Nat.le_of_ble_eq_true rfl, Nat.le_of_ble_eq_true rfl⟩ (ch_mono (ch_Ki (fun r108 m109 q110 => ?_)) (s_m_goesBy g (fun (r_ : Int32) (m_ : ch_M) => (∃ (B107 : ch_B), (b_st (m_lb Y_106 (y_termB Y_106)) 12) = r_ ∧ (m_rel (y_termB Y_106) (B107 1)) ∧ (∀ a_ i_, a_ ≠ 1 → B107 a_ i_ = ch_ob m 9 0 a_ i_) ∧ m_ = ch_os m 9 0 B107)) (T_105) (Y_106) m ⟨b111, b112, (fun B107 f0_ f1_ => ⟨B107, rfl, f0_, f1_, rfl⟩)⟩))
      obtain ⟨B107, rfl, f0_, f1_, hm_⟩ := q110
      replace h := h B107 f0_ f1_ m109 hm_
      refine ch_callV (as := [.inl (.int (b_st (m_lb Y_106 (y_termB Y_106)) 12))]) d_m_carries_234 lk_m_93 mi_m_does me_m_does rfl rfl rfl ⟨Nat.le_of_ble_eq_true rfl, Nat.le_of_ble_eq_true rfl⟩ (Nat.le_of_ble_eq_true rfl) ⟨Nat.le_of_ble_eq_true rfl, Nat.le_of_ble_eq_true rfl⟩ (ch_mono (ch_Ki (fun r113 m114 q115 => ?_)) (s_m_does g (fun (r_ : Int32) (m_ : ch_M) => (1 = r_ ∧ m_ = ch_wr m109 (9, 0, 0) 18 (b_st (m_lb Y_106 (y_termB Y_106)) 12))) ((b_st (m_lb Y_106 (y_termB Y_106)) 12)) m109 ⟨rfl, rfl⟩))
      obtain ⟨rfl, hm_⟩ := q115
      replace h := h m114 hm_
      refine ch_goto (tgt := 247) d_m_carries_237 (by decide) ?_
      exact ch_iret (ty := .boolean) d_m_carries_247 rfl rfl (Nat.le_of_ble_eq_true rfl) h
  replace h := h.2
  by_cases e108 : (m (9, 0, 0) 12) = 108
  · replace h := h.1 e108
    refine ch_tswIn (tgt := 220) (off := 216) d_m_carries_4 (by rw [e108]; decide) (by rw [e108]; decide) (by rw [e108]; rfl) (by decide) ?_
    refine ch_aload_n (i := 0) d_m_carries_220 rfl rfl ?_
    refine ch_get (v := .inr (9, 0, 1)) d_m_carries_221 fl_m_9 rfl ?_
    refine ch_iconst (v := 0) d_m_carries_224 (by decide) ?_
    refine ch_iald (n := 63) d_m_carries_225 (by decide) rfl (vp_in_nI (n := 0) (by decide) (by decide)) ?_
    refine ch_if_le (tgt := 240) d_m_carries_226 (by decide) (fun c => ?_) (fun c => ?_)
    · replace h := h.1 c
      refine ch_aload_n (i := 0) d_m_carries_240 rfl rfl ?_
      refine ch_bipush (v := 13) d_m_carries_241 (by decide) ?_
      refine ch_iconst (v := 0) d_m_carries_243 (by decide) ?_
      refine ch_callV (as := [.inl (.int 13), .inl (.int 0)]) d_m_carries_244 lk_m_81 mi_m_refuses me_m_refuses rfl rfl rfl ⟨Nat.le_of_ble_eq_true rfl, Nat.le_of_ble_eq_true rfl⟩ (Nat.le_of_ble_eq_true rfl) ⟨Nat.le_of_ble_eq_true rfl, Nat.le_of_ble_eq_true rfl⟩ (ch_mono (ch_Ki (fun r116 m117 q118 => ?_)) (s_m_refuses g (fun (r_ : Int32) (m_ : ch_M) => (0 = r_ ∧ m_ = ch_wr (ch_wr (ch_wr m (9, 0, 0) 15 13) (9, 0, 0) 16 0) (9, 0, 0) 17 0)) (13) (0) m ⟨rfl, rfl⟩))
      obtain ⟨rfl, hm_⟩ := q118
      replace h := h m117 hm_
      exact ch_iret (ty := .boolean) d_m_carries_247 rfl rfl (Nat.le_of_ble_eq_true rfl) h
    · replace h := h.2 c
      refine ch_aload_n (i := 0) d_m_carries_229 rfl rfl ?_
      refine ch_aload_n (i := 0) d_m_carries_230 rfl rfl ?_
      obtain ⟨T_119, h⟩ := h
      obtain ⟨Y_120, h⟩ := h
      have b125 := h.1
      replace h := h.2
      have b126 := h.1
      replace h := h.2
      refine ch_callV (as := []) d_m_carries_231 lk_m_176 mi_m_goesBy me_m_goesBy rfl rfl rfl ⟨Nat.le_of_ble_eq_true rfl, Nat.le_of_ble_eq_true rfl⟩ (Nat.le_of_ble_eq_true rfl) ⟨Nat.le_of_ble_eq_true rfl, Nat.le_of_ble_eq_true rfl⟩ (ch_mono (ch_Ki (fun r122 m123 q124 => ?_)) (s_m_goesBy g (fun (r_ : Int32) (m_ : ch_M) => (∃ (B121 : ch_B), (b_st (m_lb Y_120 (y_termB Y_120)) 12) = r_ ∧ (m_rel (y_termB Y_120) (B121 1)) ∧ (∀ a_ i_, a_ ≠ 1 → B121 a_ i_ = ch_ob m 9 0 a_ i_) ∧ m_ = ch_os m 9 0 B121)) (T_119) (Y_120) m ⟨b125, b126, (fun B121 f0_ f1_ => ⟨B121, rfl, f0_, f1_, rfl⟩)⟩))
      obtain ⟨B121, rfl, f0_, f1_, hm_⟩ := q124
      replace h := h B121 f0_ f1_ m123 hm_
      refine ch_callV (as := [.inl (.int (b_st (m_lb Y_120 (y_termB Y_120)) 12))]) d_m_carries_234 lk_m_93 mi_m_does me_m_does rfl rfl rfl ⟨Nat.le_of_ble_eq_true rfl, Nat.le_of_ble_eq_true rfl⟩ (Nat.le_of_ble_eq_true rfl) ⟨Nat.le_of_ble_eq_true rfl, Nat.le_of_ble_eq_true rfl⟩ (ch_mono (ch_Ki (fun r127 m128 q129 => ?_)) (s_m_does g (fun (r_ : Int32) (m_ : ch_M) => (1 = r_ ∧ m_ = ch_wr m123 (9, 0, 0) 18 (b_st (m_lb Y_120 (y_termB Y_120)) 12))) ((b_st (m_lb Y_120 (y_termB Y_120)) 12)) m123 ⟨rfl, rfl⟩))
      obtain ⟨rfl, hm_⟩ := q129
      replace h := h m128 hm_
      refine ch_goto (tgt := 247) d_m_carries_237 (by decide) ?_
      exact ch_iret (ty := .boolean) d_m_carries_247 rfl rfl (Nat.le_of_ble_eq_true rfl) h
  replace h := h.2
  by_cases e109 : (m (9, 0, 0) 12) = 109
  · replace h := h.1 e109
    refine ch_tswIn (tgt := 220) (off := 216) d_m_carries_4 (by rw [e109]; decide) (by rw [e109]; decide) (by rw [e109]; rfl) (by decide) ?_
    refine ch_aload_n (i := 0) d_m_carries_220 rfl rfl ?_
    refine ch_get (v := .inr (9, 0, 1)) d_m_carries_221 fl_m_9 rfl ?_
    refine ch_iconst (v := 0) d_m_carries_224 (by decide) ?_
    refine ch_iald (n := 63) d_m_carries_225 (by decide) rfl (vp_in_nI (n := 0) (by decide) (by decide)) ?_
    refine ch_if_le (tgt := 240) d_m_carries_226 (by decide) (fun c => ?_) (fun c => ?_)
    · replace h := h.1 c
      refine ch_aload_n (i := 0) d_m_carries_240 rfl rfl ?_
      refine ch_bipush (v := 13) d_m_carries_241 (by decide) ?_
      refine ch_iconst (v := 0) d_m_carries_243 (by decide) ?_
      refine ch_callV (as := [.inl (.int 13), .inl (.int 0)]) d_m_carries_244 lk_m_81 mi_m_refuses me_m_refuses rfl rfl rfl ⟨Nat.le_of_ble_eq_true rfl, Nat.le_of_ble_eq_true rfl⟩ (Nat.le_of_ble_eq_true rfl) ⟨Nat.le_of_ble_eq_true rfl, Nat.le_of_ble_eq_true rfl⟩ (ch_mono (ch_Ki (fun r130 m131 q132 => ?_)) (s_m_refuses g (fun (r_ : Int32) (m_ : ch_M) => (0 = r_ ∧ m_ = ch_wr (ch_wr (ch_wr m (9, 0, 0) 15 13) (9, 0, 0) 16 0) (9, 0, 0) 17 0)) (13) (0) m ⟨rfl, rfl⟩))
      obtain ⟨rfl, hm_⟩ := q132
      replace h := h m131 hm_
      exact ch_iret (ty := .boolean) d_m_carries_247 rfl rfl (Nat.le_of_ble_eq_true rfl) h
    · replace h := h.2 c
      refine ch_aload_n (i := 0) d_m_carries_229 rfl rfl ?_
      refine ch_aload_n (i := 0) d_m_carries_230 rfl rfl ?_
      obtain ⟨T_133, h⟩ := h
      obtain ⟨Y_134, h⟩ := h
      have b139 := h.1
      replace h := h.2
      have b140 := h.1
      replace h := h.2
      refine ch_callV (as := []) d_m_carries_231 lk_m_176 mi_m_goesBy me_m_goesBy rfl rfl rfl ⟨Nat.le_of_ble_eq_true rfl, Nat.le_of_ble_eq_true rfl⟩ (Nat.le_of_ble_eq_true rfl) ⟨Nat.le_of_ble_eq_true rfl, Nat.le_of_ble_eq_true rfl⟩ (ch_mono (ch_Ki (fun r136 m137 q138 => ?_)) (s_m_goesBy g (fun (r_ : Int32) (m_ : ch_M) => (∃ (B135 : ch_B), (b_st (m_lb Y_134 (y_termB Y_134)) 12) = r_ ∧ (m_rel (y_termB Y_134) (B135 1)) ∧ (∀ a_ i_, a_ ≠ 1 → B135 a_ i_ = ch_ob m 9 0 a_ i_) ∧ m_ = ch_os m 9 0 B135)) (T_133) (Y_134) m ⟨b139, b140, (fun B135 f0_ f1_ => ⟨B135, rfl, f0_, f1_, rfl⟩)⟩))
      obtain ⟨B135, rfl, f0_, f1_, hm_⟩ := q138
      replace h := h B135 f0_ f1_ m137 hm_
      refine ch_callV (as := [.inl (.int (b_st (m_lb Y_134 (y_termB Y_134)) 12))]) d_m_carries_234 lk_m_93 mi_m_does me_m_does rfl rfl rfl ⟨Nat.le_of_ble_eq_true rfl, Nat.le_of_ble_eq_true rfl⟩ (Nat.le_of_ble_eq_true rfl) ⟨Nat.le_of_ble_eq_true rfl, Nat.le_of_ble_eq_true rfl⟩ (ch_mono (ch_Ki (fun r141 m142 q143 => ?_)) (s_m_does g (fun (r_ : Int32) (m_ : ch_M) => (1 = r_ ∧ m_ = ch_wr m137 (9, 0, 0) 18 (b_st (m_lb Y_134 (y_termB Y_134)) 12))) ((b_st (m_lb Y_134 (y_termB Y_134)) 12)) m137 ⟨rfl, rfl⟩))
      obtain ⟨rfl, hm_⟩ := q143
      replace h := h m142 hm_
      refine ch_goto (tgt := 247) d_m_carries_237 (by decide) ?_
      exact ch_iret (ty := .boolean) d_m_carries_247 rfl rfl (Nat.le_of_ble_eq_true rfl) h
  replace h := h.2
  by_cases e110 : (m (9, 0, 0) 12) = 110
  · replace h := h.1 e110
    refine ch_tswIn (tgt := 104) (off := 100) d_m_carries_4 (by rw [e110]; decide) (by rw [e110]; decide) (by rw [e110]; rfl) (by decide) ?_
    refine ch_aload_n (i := 0) d_m_carries_104 rfl rfl ?_
    refine ch_aload_n (i := 0) d_m_carries_105 rfl rfl ?_
    refine ch_get (v := .inr (9, 0, 8)) d_m_carries_106 fl_m_32 rfl ?_
    refine ch_iconst (v := 0) d_m_carries_109 (by decide) ?_
    refine ch_iald (n := 3) d_m_carries_110 (by decide) rfl (vp_in_nI (n := 0) (by decide) (by decide)) ?_
    obtain ⟨T_144, h⟩ := h
    obtain ⟨Y_145, h⟩ := h
    have b150 := h.1
    replace h := h.2
    have b151 := h.1
    replace h := h.2
    refine ch_callV (as := [.inl (.int (m (9, 0, 8) (0)))]) d_m_carries_111 lk_m_99 mi_m_comes me_m_comes rfl rfl rfl ⟨Nat.le_of_ble_eq_true rfl, Nat.le_of_ble_eq_true rfl⟩ (Nat.le_of_ble_eq_true rfl) ⟨Nat.le_of_ble_eq_true rfl, Nat.le_of_ble_eq_true rfl⟩ (ch_mono (ch_Ki (fun r147 m148 q149 => ?_)) (c_m_comes g (fun (r_ : Int32) (m_ : ch_M) => (∃ (B146 : ch_B), ((r_wn Y_145 (m (9, 0, 8) (0))).1 = 0) ∧ 1 = r_ ∧ (m_did (ch_ob m 9 0) B146 (y_briB Y_145 (m (9, 0, 8) (0))) (Y_145 0 8)) ∧ m_ = ch_os m 9 0 B146) ∨ ((¬ (r_wn Y_145 (m (9, 0, 8) (0))).1 = 0) ∧ 0 = r_ ∧ m_ = ch_os m 9 0 (m_refB (ch_ob m 9 0) (r_wn Y_145 (m (9, 0, 8) (0))).1 (r_wn Y_145 (m (9, 0, 8) (0))).2))) (T_144) (Y_145) ((m (9, 0, 8) (0))) m ⟨b150, b151, (fun c_ B146 f0_ => (Or.inl ⟨B146, c_, rfl, f0_, rfl⟩)), (fun c_ => (Or.inr ⟨c_, rfl, rfl⟩))⟩))
    rcases q149 with ⟨B146, c_, rfl, f0_, hm_⟩ | ⟨c_, rfl, hm_⟩
    · replace h := h.1 c_ B146 f0_ m148 hm_
      exact ch_iret (ty := .boolean) d_m_carries_114 rfl rfl (Nat.le_of_ble_eq_true rfl) h
    · replace h := h.2 c_ m148 hm_
      exact ch_iret (ty := .boolean) d_m_carries_114 rfl rfl (Nat.le_of_ble_eq_true rfl) h
  replace h := h.2
  by_cases e111 : (m (9, 0, 0) 12) = 111
  · replace h := h.1 e111
    refine ch_tswIn (tgt := 220) (off := 216) d_m_carries_4 (by rw [e111]; decide) (by rw [e111]; decide) (by rw [e111]; rfl) (by decide) ?_
    refine ch_aload_n (i := 0) d_m_carries_220 rfl rfl ?_
    refine ch_get (v := .inr (9, 0, 1)) d_m_carries_221 fl_m_9 rfl ?_
    refine ch_iconst (v := 0) d_m_carries_224 (by decide) ?_
    refine ch_iald (n := 63) d_m_carries_225 (by decide) rfl (vp_in_nI (n := 0) (by decide) (by decide)) ?_
    refine ch_if_le (tgt := 240) d_m_carries_226 (by decide) (fun c => ?_) (fun c => ?_)
    · replace h := h.1 c
      refine ch_aload_n (i := 0) d_m_carries_240 rfl rfl ?_
      refine ch_bipush (v := 13) d_m_carries_241 (by decide) ?_
      refine ch_iconst (v := 0) d_m_carries_243 (by decide) ?_
      refine ch_callV (as := [.inl (.int 13), .inl (.int 0)]) d_m_carries_244 lk_m_81 mi_m_refuses me_m_refuses rfl rfl rfl ⟨Nat.le_of_ble_eq_true rfl, Nat.le_of_ble_eq_true rfl⟩ (Nat.le_of_ble_eq_true rfl) ⟨Nat.le_of_ble_eq_true rfl, Nat.le_of_ble_eq_true rfl⟩ (ch_mono (ch_Ki (fun r152 m153 q154 => ?_)) (s_m_refuses g (fun (r_ : Int32) (m_ : ch_M) => (0 = r_ ∧ m_ = ch_wr (ch_wr (ch_wr m (9, 0, 0) 15 13) (9, 0, 0) 16 0) (9, 0, 0) 17 0)) (13) (0) m ⟨rfl, rfl⟩))
      obtain ⟨rfl, hm_⟩ := q154
      replace h := h m153 hm_
      exact ch_iret (ty := .boolean) d_m_carries_247 rfl rfl (Nat.le_of_ble_eq_true rfl) h
    · replace h := h.2 c
      refine ch_aload_n (i := 0) d_m_carries_229 rfl rfl ?_
      refine ch_aload_n (i := 0) d_m_carries_230 rfl rfl ?_
      obtain ⟨T_155, h⟩ := h
      obtain ⟨Y_156, h⟩ := h
      have b161 := h.1
      replace h := h.2
      have b162 := h.1
      replace h := h.2
      refine ch_callV (as := []) d_m_carries_231 lk_m_176 mi_m_goesBy me_m_goesBy rfl rfl rfl ⟨Nat.le_of_ble_eq_true rfl, Nat.le_of_ble_eq_true rfl⟩ (Nat.le_of_ble_eq_true rfl) ⟨Nat.le_of_ble_eq_true rfl, Nat.le_of_ble_eq_true rfl⟩ (ch_mono (ch_Ki (fun r158 m159 q160 => ?_)) (s_m_goesBy g (fun (r_ : Int32) (m_ : ch_M) => (∃ (B157 : ch_B), (b_st (m_lb Y_156 (y_termB Y_156)) 12) = r_ ∧ (m_rel (y_termB Y_156) (B157 1)) ∧ (∀ a_ i_, a_ ≠ 1 → B157 a_ i_ = ch_ob m 9 0 a_ i_) ∧ m_ = ch_os m 9 0 B157)) (T_155) (Y_156) m ⟨b161, b162, (fun B157 f0_ f1_ => ⟨B157, rfl, f0_, f1_, rfl⟩)⟩))
      obtain ⟨B157, rfl, f0_, f1_, hm_⟩ := q160
      replace h := h B157 f0_ f1_ m159 hm_
      refine ch_callV (as := [.inl (.int (b_st (m_lb Y_156 (y_termB Y_156)) 12))]) d_m_carries_234 lk_m_93 mi_m_does me_m_does rfl rfl rfl ⟨Nat.le_of_ble_eq_true rfl, Nat.le_of_ble_eq_true rfl⟩ (Nat.le_of_ble_eq_true rfl) ⟨Nat.le_of_ble_eq_true rfl, Nat.le_of_ble_eq_true rfl⟩ (ch_mono (ch_Ki (fun r163 m164 q165 => ?_)) (s_m_does g (fun (r_ : Int32) (m_ : ch_M) => (1 = r_ ∧ m_ = ch_wr m159 (9, 0, 0) 18 (b_st (m_lb Y_156 (y_termB Y_156)) 12))) ((b_st (m_lb Y_156 (y_termB Y_156)) 12)) m159 ⟨rfl, rfl⟩))
      obtain ⟨rfl, hm_⟩ := q165
      replace h := h m164 hm_
      refine ch_goto (tgt := 247) d_m_carries_237 (by decide) ?_
      exact ch_iret (ty := .boolean) d_m_carries_247 rfl rfl (Nat.le_of_ble_eq_true rfl) h
  replace h := h.2
  by_cases e112 : (m (9, 0, 0) 12) = 112
  · replace h := h.1 e112
    refine ch_tswIn (tgt := 220) (off := 216) d_m_carries_4 (by rw [e112]; decide) (by rw [e112]; decide) (by rw [e112]; rfl) (by decide) ?_
    refine ch_aload_n (i := 0) d_m_carries_220 rfl rfl ?_
    refine ch_get (v := .inr (9, 0, 1)) d_m_carries_221 fl_m_9 rfl ?_
    refine ch_iconst (v := 0) d_m_carries_224 (by decide) ?_
    refine ch_iald (n := 63) d_m_carries_225 (by decide) rfl (vp_in_nI (n := 0) (by decide) (by decide)) ?_
    refine ch_if_le (tgt := 240) d_m_carries_226 (by decide) (fun c => ?_) (fun c => ?_)
    · replace h := h.1 c
      refine ch_aload_n (i := 0) d_m_carries_240 rfl rfl ?_
      refine ch_bipush (v := 13) d_m_carries_241 (by decide) ?_
      refine ch_iconst (v := 0) d_m_carries_243 (by decide) ?_
      refine ch_callV (as := [.inl (.int 13), .inl (.int 0)]) d_m_carries_244 lk_m_81 mi_m_refuses me_m_refuses rfl rfl rfl ⟨Nat.le_of_ble_eq_true rfl, Nat.le_of_ble_eq_true rfl⟩ (Nat.le_of_ble_eq_true rfl) ⟨Nat.le_of_ble_eq_true rfl, Nat.le_of_ble_eq_true rfl⟩ (ch_mono (ch_Ki (fun r166 m167 q168 => ?_)) (s_m_refuses g (fun (r_ : Int32) (m_ : ch_M) => (0 = r_ ∧ m_ = ch_wr (ch_wr (ch_wr m (9, 0, 0) 15 13) (9, 0, 0) 16 0) (9, 0, 0) 17 0)) (13) (0) m ⟨rfl, rfl⟩))
      obtain ⟨rfl, hm_⟩ := q168
      replace h := h m167 hm_
      exact ch_iret (ty := .boolean) d_m_carries_247 rfl rfl (Nat.le_of_ble_eq_true rfl) h
    · replace h := h.2 c
      refine ch_aload_n (i := 0) d_m_carries_229 rfl rfl ?_
      refine ch_aload_n (i := 0) d_m_carries_230 rfl rfl ?_
      obtain ⟨T_169, h⟩ := h
      obtain ⟨Y_170, h⟩ := h
      have b175 := h.1
      replace h := h.2
      have b176 := h.1
      replace h := h.2
      refine ch_callV (as := []) d_m_carries_231 lk_m_176 mi_m_goesBy me_m_goesBy rfl rfl rfl ⟨Nat.le_of_ble_eq_true rfl, Nat.le_of_ble_eq_true rfl⟩ (Nat.le_of_ble_eq_true rfl) ⟨Nat.le_of_ble_eq_true rfl, Nat.le_of_ble_eq_true rfl⟩ (ch_mono (ch_Ki (fun r172 m173 q174 => ?_)) (s_m_goesBy g (fun (r_ : Int32) (m_ : ch_M) => (∃ (B171 : ch_B), (b_st (m_lb Y_170 (y_termB Y_170)) 12) = r_ ∧ (m_rel (y_termB Y_170) (B171 1)) ∧ (∀ a_ i_, a_ ≠ 1 → B171 a_ i_ = ch_ob m 9 0 a_ i_) ∧ m_ = ch_os m 9 0 B171)) (T_169) (Y_170) m ⟨b175, b176, (fun B171 f0_ f1_ => ⟨B171, rfl, f0_, f1_, rfl⟩)⟩))
      obtain ⟨B171, rfl, f0_, f1_, hm_⟩ := q174
      replace h := h B171 f0_ f1_ m173 hm_
      refine ch_callV (as := [.inl (.int (b_st (m_lb Y_170 (y_termB Y_170)) 12))]) d_m_carries_234 lk_m_93 mi_m_does me_m_does rfl rfl rfl ⟨Nat.le_of_ble_eq_true rfl, Nat.le_of_ble_eq_true rfl⟩ (Nat.le_of_ble_eq_true rfl) ⟨Nat.le_of_ble_eq_true rfl, Nat.le_of_ble_eq_true rfl⟩ (ch_mono (ch_Ki (fun r177 m178 q179 => ?_)) (s_m_does g (fun (r_ : Int32) (m_ : ch_M) => (1 = r_ ∧ m_ = ch_wr m173 (9, 0, 0) 18 (b_st (m_lb Y_170 (y_termB Y_170)) 12))) ((b_st (m_lb Y_170 (y_termB Y_170)) 12)) m173 ⟨rfl, rfl⟩))
      obtain ⟨rfl, hm_⟩ := q179
      replace h := h m178 hm_
      refine ch_goto (tgt := 247) d_m_carries_237 (by decide) ?_
      exact ch_iret (ty := .boolean) d_m_carries_247 rfl rfl (Nat.le_of_ble_eq_true rfl) h
  replace h := h.2
  by_cases e113 : (m (9, 0, 0) 12) = 113
  · replace h := h.1 e113
    refine ch_tswIn (tgt := 220) (off := 216) d_m_carries_4 (by rw [e113]; decide) (by rw [e113]; decide) (by rw [e113]; rfl) (by decide) ?_
    refine ch_aload_n (i := 0) d_m_carries_220 rfl rfl ?_
    refine ch_get (v := .inr (9, 0, 1)) d_m_carries_221 fl_m_9 rfl ?_
    refine ch_iconst (v := 0) d_m_carries_224 (by decide) ?_
    refine ch_iald (n := 63) d_m_carries_225 (by decide) rfl (vp_in_nI (n := 0) (by decide) (by decide)) ?_
    refine ch_if_le (tgt := 240) d_m_carries_226 (by decide) (fun c => ?_) (fun c => ?_)
    · replace h := h.1 c
      refine ch_aload_n (i := 0) d_m_carries_240 rfl rfl ?_
      refine ch_bipush (v := 13) d_m_carries_241 (by decide) ?_
      refine ch_iconst (v := 0) d_m_carries_243 (by decide) ?_
      refine ch_callV (as := [.inl (.int 13), .inl (.int 0)]) d_m_carries_244 lk_m_81 mi_m_refuses me_m_refuses rfl rfl rfl ⟨Nat.le_of_ble_eq_true rfl, Nat.le_of_ble_eq_true rfl⟩ (Nat.le_of_ble_eq_true rfl) ⟨Nat.le_of_ble_eq_true rfl, Nat.le_of_ble_eq_true rfl⟩ (ch_mono (ch_Ki (fun r180 m181 q182 => ?_)) (s_m_refuses g (fun (r_ : Int32) (m_ : ch_M) => (0 = r_ ∧ m_ = ch_wr (ch_wr (ch_wr m (9, 0, 0) 15 13) (9, 0, 0) 16 0) (9, 0, 0) 17 0)) (13) (0) m ⟨rfl, rfl⟩))
      obtain ⟨rfl, hm_⟩ := q182
      replace h := h m181 hm_
      exact ch_iret (ty := .boolean) d_m_carries_247 rfl rfl (Nat.le_of_ble_eq_true rfl) h
    · replace h := h.2 c
      refine ch_aload_n (i := 0) d_m_carries_229 rfl rfl ?_
      refine ch_aload_n (i := 0) d_m_carries_230 rfl rfl ?_
      obtain ⟨T_183, h⟩ := h
      obtain ⟨Y_184, h⟩ := h
      have b189 := h.1
      replace h := h.2
      have b190 := h.1
      replace h := h.2
      refine ch_callV (as := []) d_m_carries_231 lk_m_176 mi_m_goesBy me_m_goesBy rfl rfl rfl ⟨Nat.le_of_ble_eq_true rfl, Nat.le_of_ble_eq_true rfl⟩ (Nat.le_of_ble_eq_true rfl) ⟨Nat.le_of_ble_eq_true rfl, Nat.le_of_ble_eq_true rfl⟩ (ch_mono (ch_Ki (fun r186 m187 q188 => ?_)) (s_m_goesBy g (fun (r_ : Int32) (m_ : ch_M) => (∃ (B185 : ch_B), (b_st (m_lb Y_184 (y_termB Y_184)) 12) = r_ ∧ (m_rel (y_termB Y_184) (B185 1)) ∧ (∀ a_ i_, a_ ≠ 1 → B185 a_ i_ = ch_ob m 9 0 a_ i_) ∧ m_ = ch_os m 9 0 B185)) (T_183) (Y_184) m ⟨b189, b190, (fun B185 f0_ f1_ => ⟨B185, rfl, f0_, f1_, rfl⟩)⟩))
      obtain ⟨B185, rfl, f0_, f1_, hm_⟩ := q188
      replace h := h B185 f0_ f1_ m187 hm_
      refine ch_callV (as := [.inl (.int (b_st (m_lb Y_184 (y_termB Y_184)) 12))]) d_m_carries_234 lk_m_93 mi_m_does me_m_does rfl rfl rfl ⟨Nat.le_of_ble_eq_true rfl, Nat.le_of_ble_eq_true rfl⟩ (Nat.le_of_ble_eq_true rfl) ⟨Nat.le_of_ble_eq_true rfl, Nat.le_of_ble_eq_true rfl⟩ (ch_mono (ch_Ki (fun r191 m192 q193 => ?_)) (s_m_does g (fun (r_ : Int32) (m_ : ch_M) => (1 = r_ ∧ m_ = ch_wr m187 (9, 0, 0) 18 (b_st (m_lb Y_184 (y_termB Y_184)) 12))) ((b_st (m_lb Y_184 (y_termB Y_184)) 12)) m187 ⟨rfl, rfl⟩))
      obtain ⟨rfl, hm_⟩ := q193
      replace h := h m192 hm_
      refine ch_goto (tgt := 247) d_m_carries_237 (by decide) ?_
      exact ch_iret (ty := .boolean) d_m_carries_247 rfl rfl (Nat.le_of_ble_eq_true rfl) h
  replace h := h.2
  by_cases e114 : (m (9, 0, 0) 12) = 114
  · replace h := h.1 e114
    refine ch_tswIn (tgt := 186) (off := 182) d_m_carries_4 (by rw [e114]; decide) (by rw [e114]; decide) (by rw [e114]; rfl) (by decide) ?_
    refine ch_aload_n (i := 0) d_m_carries_186 rfl rfl ?_
    refine ch_aload_n (i := 0) d_m_carries_187 rfl rfl ?_
    refine ch_get (v := .inr (9, 0, 8)) d_m_carries_188 fl_m_32 rfl ?_
    refine ch_iconst (v := 0) d_m_carries_191 (by decide) ?_
    refine ch_iald (n := 3) d_m_carries_192 (by decide) rfl (vp_in_nI (n := 0) (by decide) (by decide)) ?_
    obtain ⟨T_194, h⟩ := h
    obtain ⟨Y_195, h⟩ := h
    have b200 := h.1
    replace h := h.2
    have b201 := h.1
    replace h := h.2
    refine ch_callV (as := [.inl (.int (m (9, 0, 8) (0)))]) d_m_carries_193 lk_m_168 mi_m_rains me_m_rains rfl rfl rfl ⟨Nat.le_of_ble_eq_true rfl, Nat.le_of_ble_eq_true rfl⟩ (Nat.le_of_ble_eq_true rfl) ⟨Nat.le_of_ble_eq_true rfl, Nat.le_of_ble_eq_true rfl⟩ (ch_mono (ch_Ki (fun r197 m198 q199 => ?_)) (s_m_rains g (fun (r_ : Int32) (m_ : ch_M) => (∃ (B196 : ch_B), ((r_wr Y_195 (m (9, 0, 8) (0))).1 = 0) ∧ 1 = r_ ∧ (m_did (ch_ob m 9 0) B196 (y_washB Y_195 (m (9, 0, 8) (0))) (y_washR Y_195 (m (9, 0, 8) (0)))) ∧ m_ = ch_os m 9 0 B196) ∨ ((¬ (r_wr Y_195 (m (9, 0, 8) (0))).1 = 0) ∧ 0 = r_ ∧ m_ = ch_os m 9 0 (m_refB (ch_ob m 9 0) (r_wr Y_195 (m (9, 0, 8) (0))).1 (r_wr Y_195 (m (9, 0, 8) (0))).2))) (T_194) (Y_195) ((m (9, 0, 8) (0))) m ⟨b200, b201, (fun c_ B196 f0_ => (Or.inl ⟨B196, c_, rfl, f0_, rfl⟩)), (fun c_ => (Or.inr ⟨c_, rfl, rfl⟩))⟩))
    rcases q199 with ⟨B196, c_, rfl, f0_, hm_⟩ | ⟨c_, rfl, hm_⟩
    · replace h := h.1 c_ B196 f0_ m198 hm_
      exact ch_iret (ty := .boolean) d_m_carries_196 rfl rfl (Nat.le_of_ble_eq_true rfl) h
    · replace h := h.2 c_ m198 hm_
      exact ch_iret (ty := .boolean) d_m_carries_196 rfl rfl (Nat.le_of_ble_eq_true rfl) h
  replace h := h.2
  by_cases e115 : (m (9, 0, 0) 12) = 115
  · replace h := h.1 e115
    refine ch_tswIn (tgt := 175) (off := 171) d_m_carries_4 (by rw [e115]; decide) (by rw [e115]; decide) (by rw [e115]; rfl) (by decide) ?_
    refine ch_aload_n (i := 0) d_m_carries_175 rfl rfl ?_
    refine ch_aload_n (i := 0) d_m_carries_176 rfl rfl ?_
    refine ch_get (v := .inr (9, 0, 8)) d_m_carries_177 fl_m_32 rfl ?_
    refine ch_iconst (v := 0) d_m_carries_180 (by decide) ?_
    refine ch_iald (n := 3) d_m_carries_181 (by decide) rfl (vp_in_nI (n := 0) (by decide) (by decide)) ?_
    obtain ⟨T_202, h⟩ := h
    obtain ⟨Y_203, h⟩ := h
    have b208 := h.1
    replace h := h.2
    have b209 := h.1
    replace h := h.2
    refine ch_callV (as := [.inl (.int (m (9, 0, 8) (0)))]) d_m_carries_182 lk_m_159 mi_m_strikes me_m_strikes rfl rfl rfl ⟨Nat.le_of_ble_eq_true rfl, Nat.le_of_ble_eq_true rfl⟩ (Nat.le_of_ble_eq_true rfl) ⟨Nat.le_of_ble_eq_true rfl, Nat.le_of_ble_eq_true rfl⟩ (ch_mono (ch_Ki (fun r205 m206 q207 => ?_)) (s_m_strikes g (fun (r_ : Int32) (m_ : ch_M) => (∃ (B204 : ch_B), ((r_ws Y_203 (m (9, 0, 8) (0))).1 = 0) ∧ 1 = r_ ∧ (m_did (ch_ob m 9 0) B204 (y_strB Y_203 (m (9, 0, 8) (0))) (Y_203 3 (Int32.toNatClampNeg (m (9, 0, 8) (0))) - Y_203 5 (Int32.toNatClampNeg (m (9, 0, 8) (0))))) ∧ m_ = ch_os m 9 0 B204) ∨ ((¬ (r_ws Y_203 (m (9, 0, 8) (0))).1 = 0) ∧ 0 = r_ ∧ m_ = ch_os m 9 0 (m_refB (ch_ob m 9 0) (r_ws Y_203 (m (9, 0, 8) (0))).1 (r_ws Y_203 (m (9, 0, 8) (0))).2))) (T_202) (Y_203) ((m (9, 0, 8) (0))) m ⟨b208, b209, (fun c_ B204 f0_ => (Or.inl ⟨B204, c_, rfl, f0_, rfl⟩)), (fun c_ => (Or.inr ⟨c_, rfl, rfl⟩))⟩))
    rcases q207 with ⟨B204, c_, rfl, f0_, hm_⟩ | ⟨c_, rfl, hm_⟩
    · replace h := h.1 c_ B204 f0_ m206 hm_
      exact ch_iret (ty := .boolean) d_m_carries_185 rfl rfl (Nat.le_of_ble_eq_true rfl) h
    · replace h := h.2 c_ m206 hm_
      exact ch_iret (ty := .boolean) d_m_carries_185 rfl rfl (Nat.le_of_ble_eq_true rfl) h
  replace h := h.2
  by_cases e116 : (m (9, 0, 0) 12) = 116
  · replace h := h.1 e116
    refine ch_tswIn (tgt := 220) (off := 216) d_m_carries_4 (by rw [e116]; decide) (by rw [e116]; decide) (by rw [e116]; rfl) (by decide) ?_
    refine ch_aload_n (i := 0) d_m_carries_220 rfl rfl ?_
    refine ch_get (v := .inr (9, 0, 1)) d_m_carries_221 fl_m_9 rfl ?_
    refine ch_iconst (v := 0) d_m_carries_224 (by decide) ?_
    refine ch_iald (n := 63) d_m_carries_225 (by decide) rfl (vp_in_nI (n := 0) (by decide) (by decide)) ?_
    refine ch_if_le (tgt := 240) d_m_carries_226 (by decide) (fun c => ?_) (fun c => ?_)
    · replace h := h.1 c
      refine ch_aload_n (i := 0) d_m_carries_240 rfl rfl ?_
      refine ch_bipush (v := 13) d_m_carries_241 (by decide) ?_
      refine ch_iconst (v := 0) d_m_carries_243 (by decide) ?_
      refine ch_callV (as := [.inl (.int 13), .inl (.int 0)]) d_m_carries_244 lk_m_81 mi_m_refuses me_m_refuses rfl rfl rfl ⟨Nat.le_of_ble_eq_true rfl, Nat.le_of_ble_eq_true rfl⟩ (Nat.le_of_ble_eq_true rfl) ⟨Nat.le_of_ble_eq_true rfl, Nat.le_of_ble_eq_true rfl⟩ (ch_mono (ch_Ki (fun r210 m211 q212 => ?_)) (s_m_refuses g (fun (r_ : Int32) (m_ : ch_M) => (0 = r_ ∧ m_ = ch_wr (ch_wr (ch_wr m (9, 0, 0) 15 13) (9, 0, 0) 16 0) (9, 0, 0) 17 0)) (13) (0) m ⟨rfl, rfl⟩))
      obtain ⟨rfl, hm_⟩ := q212
      replace h := h m211 hm_
      exact ch_iret (ty := .boolean) d_m_carries_247 rfl rfl (Nat.le_of_ble_eq_true rfl) h
    · replace h := h.2 c
      refine ch_aload_n (i := 0) d_m_carries_229 rfl rfl ?_
      refine ch_aload_n (i := 0) d_m_carries_230 rfl rfl ?_
      obtain ⟨T_213, h⟩ := h
      obtain ⟨Y_214, h⟩ := h
      have b219 := h.1
      replace h := h.2
      have b220 := h.1
      replace h := h.2
      refine ch_callV (as := []) d_m_carries_231 lk_m_176 mi_m_goesBy me_m_goesBy rfl rfl rfl ⟨Nat.le_of_ble_eq_true rfl, Nat.le_of_ble_eq_true rfl⟩ (Nat.le_of_ble_eq_true rfl) ⟨Nat.le_of_ble_eq_true rfl, Nat.le_of_ble_eq_true rfl⟩ (ch_mono (ch_Ki (fun r216 m217 q218 => ?_)) (s_m_goesBy g (fun (r_ : Int32) (m_ : ch_M) => (∃ (B215 : ch_B), (b_st (m_lb Y_214 (y_termB Y_214)) 12) = r_ ∧ (m_rel (y_termB Y_214) (B215 1)) ∧ (∀ a_ i_, a_ ≠ 1 → B215 a_ i_ = ch_ob m 9 0 a_ i_) ∧ m_ = ch_os m 9 0 B215)) (T_213) (Y_214) m ⟨b219, b220, (fun B215 f0_ f1_ => ⟨B215, rfl, f0_, f1_, rfl⟩)⟩))
      obtain ⟨B215, rfl, f0_, f1_, hm_⟩ := q218
      replace h := h B215 f0_ f1_ m217 hm_
      refine ch_callV (as := [.inl (.int (b_st (m_lb Y_214 (y_termB Y_214)) 12))]) d_m_carries_234 lk_m_93 mi_m_does me_m_does rfl rfl rfl ⟨Nat.le_of_ble_eq_true rfl, Nat.le_of_ble_eq_true rfl⟩ (Nat.le_of_ble_eq_true rfl) ⟨Nat.le_of_ble_eq_true rfl, Nat.le_of_ble_eq_true rfl⟩ (ch_mono (ch_Ki (fun r221 m222 q223 => ?_)) (s_m_does g (fun (r_ : Int32) (m_ : ch_M) => (1 = r_ ∧ m_ = ch_wr m217 (9, 0, 0) 18 (b_st (m_lb Y_214 (y_termB Y_214)) 12))) ((b_st (m_lb Y_214 (y_termB Y_214)) 12)) m217 ⟨rfl, rfl⟩))
      obtain ⟨rfl, hm_⟩ := q223
      replace h := h m222 hm_
      refine ch_goto (tgt := 247) d_m_carries_237 (by decide) ?_
      exact ch_iret (ty := .boolean) d_m_carries_247 rfl rfl (Nat.le_of_ble_eq_true rfl) h
  replace h := h.2
  by_cases e117 : (m (9, 0, 0) 12) = 117
  · replace h := h.1 e117
    refine ch_tswIn (tgt := 220) (off := 216) d_m_carries_4 (by rw [e117]; decide) (by rw [e117]; decide) (by rw [e117]; rfl) (by decide) ?_
    refine ch_aload_n (i := 0) d_m_carries_220 rfl rfl ?_
    refine ch_get (v := .inr (9, 0, 1)) d_m_carries_221 fl_m_9 rfl ?_
    refine ch_iconst (v := 0) d_m_carries_224 (by decide) ?_
    refine ch_iald (n := 63) d_m_carries_225 (by decide) rfl (vp_in_nI (n := 0) (by decide) (by decide)) ?_
    refine ch_if_le (tgt := 240) d_m_carries_226 (by decide) (fun c => ?_) (fun c => ?_)
    · replace h := h.1 c
      refine ch_aload_n (i := 0) d_m_carries_240 rfl rfl ?_
      refine ch_bipush (v := 13) d_m_carries_241 (by decide) ?_
      refine ch_iconst (v := 0) d_m_carries_243 (by decide) ?_
      refine ch_callV (as := [.inl (.int 13), .inl (.int 0)]) d_m_carries_244 lk_m_81 mi_m_refuses me_m_refuses rfl rfl rfl ⟨Nat.le_of_ble_eq_true rfl, Nat.le_of_ble_eq_true rfl⟩ (Nat.le_of_ble_eq_true rfl) ⟨Nat.le_of_ble_eq_true rfl, Nat.le_of_ble_eq_true rfl⟩ (ch_mono (ch_Ki (fun r224 m225 q226 => ?_)) (s_m_refuses g (fun (r_ : Int32) (m_ : ch_M) => (0 = r_ ∧ m_ = ch_wr (ch_wr (ch_wr m (9, 0, 0) 15 13) (9, 0, 0) 16 0) (9, 0, 0) 17 0)) (13) (0) m ⟨rfl, rfl⟩))
      obtain ⟨rfl, hm_⟩ := q226
      replace h := h m225 hm_
      exact ch_iret (ty := .boolean) d_m_carries_247 rfl rfl (Nat.le_of_ble_eq_true rfl) h
    · replace h := h.2 c
      refine ch_aload_n (i := 0) d_m_carries_229 rfl rfl ?_
      refine ch_aload_n (i := 0) d_m_carries_230 rfl rfl ?_
      obtain ⟨T_227, h⟩ := h
      obtain ⟨Y_228, h⟩ := h
      have b233 := h.1
      replace h := h.2
      have b234 := h.1
      replace h := h.2
      refine ch_callV (as := []) d_m_carries_231 lk_m_176 mi_m_goesBy me_m_goesBy rfl rfl rfl ⟨Nat.le_of_ble_eq_true rfl, Nat.le_of_ble_eq_true rfl⟩ (Nat.le_of_ble_eq_true rfl) ⟨Nat.le_of_ble_eq_true rfl, Nat.le_of_ble_eq_true rfl⟩ (ch_mono (ch_Ki (fun r230 m231 q232 => ?_)) (s_m_goesBy g (fun (r_ : Int32) (m_ : ch_M) => (∃ (B229 : ch_B), (b_st (m_lb Y_228 (y_termB Y_228)) 12) = r_ ∧ (m_rel (y_termB Y_228) (B229 1)) ∧ (∀ a_ i_, a_ ≠ 1 → B229 a_ i_ = ch_ob m 9 0 a_ i_) ∧ m_ = ch_os m 9 0 B229)) (T_227) (Y_228) m ⟨b233, b234, (fun B229 f0_ f1_ => ⟨B229, rfl, f0_, f1_, rfl⟩)⟩))
      obtain ⟨B229, rfl, f0_, f1_, hm_⟩ := q232
      replace h := h B229 f0_ f1_ m231 hm_
      refine ch_callV (as := [.inl (.int (b_st (m_lb Y_228 (y_termB Y_228)) 12))]) d_m_carries_234 lk_m_93 mi_m_does me_m_does rfl rfl rfl ⟨Nat.le_of_ble_eq_true rfl, Nat.le_of_ble_eq_true rfl⟩ (Nat.le_of_ble_eq_true rfl) ⟨Nat.le_of_ble_eq_true rfl, Nat.le_of_ble_eq_true rfl⟩ (ch_mono (ch_Ki (fun r235 m236 q237 => ?_)) (s_m_does g (fun (r_ : Int32) (m_ : ch_M) => (1 = r_ ∧ m_ = ch_wr m231 (9, 0, 0) 18 (b_st (m_lb Y_228 (y_termB Y_228)) 12))) ((b_st (m_lb Y_228 (y_termB Y_228)) 12)) m231 ⟨rfl, rfl⟩))
      obtain ⟨rfl, hm_⟩ := q237
      replace h := h m236 hm_
      refine ch_goto (tgt := 247) d_m_carries_237 (by decide) ?_
      exact ch_iret (ty := .boolean) d_m_carries_247 rfl rfl (Nat.le_of_ble_eq_true rfl) h
  replace h := h.2
  by_cases e118 : (m (9, 0, 0) 12) = 118
  · replace h := h.1 e118
    refine ch_tswIn (tgt := 220) (off := 216) d_m_carries_4 (by rw [e118]; decide) (by rw [e118]; decide) (by rw [e118]; rfl) (by decide) ?_
    refine ch_aload_n (i := 0) d_m_carries_220 rfl rfl ?_
    refine ch_get (v := .inr (9, 0, 1)) d_m_carries_221 fl_m_9 rfl ?_
    refine ch_iconst (v := 0) d_m_carries_224 (by decide) ?_
    refine ch_iald (n := 63) d_m_carries_225 (by decide) rfl (vp_in_nI (n := 0) (by decide) (by decide)) ?_
    refine ch_if_le (tgt := 240) d_m_carries_226 (by decide) (fun c => ?_) (fun c => ?_)
    · replace h := h.1 c
      refine ch_aload_n (i := 0) d_m_carries_240 rfl rfl ?_
      refine ch_bipush (v := 13) d_m_carries_241 (by decide) ?_
      refine ch_iconst (v := 0) d_m_carries_243 (by decide) ?_
      refine ch_callV (as := [.inl (.int 13), .inl (.int 0)]) d_m_carries_244 lk_m_81 mi_m_refuses me_m_refuses rfl rfl rfl ⟨Nat.le_of_ble_eq_true rfl, Nat.le_of_ble_eq_true rfl⟩ (Nat.le_of_ble_eq_true rfl) ⟨Nat.le_of_ble_eq_true rfl, Nat.le_of_ble_eq_true rfl⟩ (ch_mono (ch_Ki (fun r238 m239 q240 => ?_)) (s_m_refuses g (fun (r_ : Int32) (m_ : ch_M) => (0 = r_ ∧ m_ = ch_wr (ch_wr (ch_wr m (9, 0, 0) 15 13) (9, 0, 0) 16 0) (9, 0, 0) 17 0)) (13) (0) m ⟨rfl, rfl⟩))
      obtain ⟨rfl, hm_⟩ := q240
      replace h := h m239 hm_
      exact ch_iret (ty := .boolean) d_m_carries_247 rfl rfl (Nat.le_of_ble_eq_true rfl) h
    · replace h := h.2 c
      refine ch_aload_n (i := 0) d_m_carries_229 rfl rfl ?_
      refine ch_aload_n (i := 0) d_m_carries_230 rfl rfl ?_
      obtain ⟨T_241, h⟩ := h
      obtain ⟨Y_242, h⟩ := h
      have b247 := h.1
      replace h := h.2
      have b248 := h.1
      replace h := h.2
      refine ch_callV (as := []) d_m_carries_231 lk_m_176 mi_m_goesBy me_m_goesBy rfl rfl rfl ⟨Nat.le_of_ble_eq_true rfl, Nat.le_of_ble_eq_true rfl⟩ (Nat.le_of_ble_eq_true rfl) ⟨Nat.le_of_ble_eq_true rfl, Nat.le_of_ble_eq_true rfl⟩ (ch_mono (ch_Ki (fun r244 m245 q246 => ?_)) (s_m_goesBy g (fun (r_ : Int32) (m_ : ch_M) => (∃ (B243 : ch_B), (b_st (m_lb Y_242 (y_termB Y_242)) 12) = r_ ∧ (m_rel (y_termB Y_242) (B243 1)) ∧ (∀ a_ i_, a_ ≠ 1 → B243 a_ i_ = ch_ob m 9 0 a_ i_) ∧ m_ = ch_os m 9 0 B243)) (T_241) (Y_242) m ⟨b247, b248, (fun B243 f0_ f1_ => ⟨B243, rfl, f0_, f1_, rfl⟩)⟩))
      obtain ⟨B243, rfl, f0_, f1_, hm_⟩ := q246
      replace h := h B243 f0_ f1_ m245 hm_
      refine ch_callV (as := [.inl (.int (b_st (m_lb Y_242 (y_termB Y_242)) 12))]) d_m_carries_234 lk_m_93 mi_m_does me_m_does rfl rfl rfl ⟨Nat.le_of_ble_eq_true rfl, Nat.le_of_ble_eq_true rfl⟩ (Nat.le_of_ble_eq_true rfl) ⟨Nat.le_of_ble_eq_true rfl, Nat.le_of_ble_eq_true rfl⟩ (ch_mono (ch_Ki (fun r249 m250 q251 => ?_)) (s_m_does g (fun (r_ : Int32) (m_ : ch_M) => (1 = r_ ∧ m_ = ch_wr m245 (9, 0, 0) 18 (b_st (m_lb Y_242 (y_termB Y_242)) 12))) ((b_st (m_lb Y_242 (y_termB Y_242)) 12)) m245 ⟨rfl, rfl⟩))
      obtain ⟨rfl, hm_⟩ := q251
      replace h := h m250 hm_
      refine ch_goto (tgt := 247) d_m_carries_237 (by decide) ?_
      exact ch_iret (ty := .boolean) d_m_carries_247 rfl rfl (Nat.le_of_ble_eq_true rfl) h
  replace h := h.2
  by_cases e119 : (m (9, 0, 0) 12) = 119
  · replace h := h.1 e119
    refine ch_tswIn (tgt := 164) (off := 160) d_m_carries_4 (by rw [e119]; decide) (by rw [e119]; decide) (by rw [e119]; rfl) (by decide) ?_
    refine ch_aload_n (i := 0) d_m_carries_164 rfl rfl ?_
    refine ch_aload_n (i := 0) d_m_carries_165 rfl rfl ?_
    refine ch_get (v := .inr (9, 0, 8)) d_m_carries_166 fl_m_32 rfl ?_
    refine ch_iconst (v := 0) d_m_carries_169 (by decide) ?_
    refine ch_iald (n := 3) d_m_carries_170 (by decide) rfl (vp_in_nI (n := 0) (by decide) (by decide)) ?_
    obtain ⟨T_252, h⟩ := h
    obtain ⟨Y_253, h⟩ := h
    have b258 := h.1
    replace h := h.2
    have b259 := h.1
    replace h := h.2
    refine ch_callV (as := [.inl (.int (m (9, 0, 8) (0)))]) d_m_carries_171 lk_m_153 mi_m_writes me_m_writes rfl rfl rfl ⟨Nat.le_of_ble_eq_true rfl, Nat.le_of_ble_eq_true rfl⟩ (Nat.le_of_ble_eq_true rfl) ⟨Nat.le_of_ble_eq_true rfl, Nat.le_of_ble_eq_true rfl⟩ (ch_mono (ch_Ki (fun r255 m256 q257 => ?_)) (s_m_writes g (fun (r_ : Int32) (m_ : ch_M) => (∃ (B254 : ch_B), ((r_ww Y_253 (m (9, 0, 8) (0))).1 = 0) ∧ 1 = r_ ∧ (m_did (ch_ob m 9 0) B254 (y_wriB Y_253 (m (9, 0, 8) (0))) ((if 9 < Y_253 4 (Int32.toNatClampNeg (m (9, 0, 8) (0))) then 9 else Y_253 4 (Int32.toNatClampNeg (m (9, 0, 8) (0)))))) ∧ m_ = ch_os m 9 0 B254) ∨ ((¬ (r_ww Y_253 (m (9, 0, 8) (0))).1 = 0) ∧ 0 = r_ ∧ m_ = ch_os m 9 0 (m_refB (ch_ob m 9 0) (r_ww Y_253 (m (9, 0, 8) (0))).1 (r_ww Y_253 (m (9, 0, 8) (0))).2))) (T_252) (Y_253) ((m (9, 0, 8) (0))) m ⟨b258, b259, (fun c_ B254 f0_ => (Or.inl ⟨B254, c_, rfl, f0_, rfl⟩)), (fun c_ => (Or.inr ⟨c_, rfl, rfl⟩))⟩))
    rcases q257 with ⟨B254, c_, rfl, f0_, hm_⟩ | ⟨c_, rfl, hm_⟩
    · replace h := h.1 c_ B254 f0_ m256 hm_
      exact ch_iret (ty := .boolean) d_m_carries_174 rfl rfl (Nat.le_of_ble_eq_true rfl) h
    · replace h := h.2 c_ m256 hm_
      exact ch_iret (ty := .boolean) d_m_carries_174 rfl rfl (Nat.le_of_ble_eq_true rfl) h
  replace h := h.2
  have hx : (Int32.toInt (m (9, 0, 0) 12) < 99 ∨ 119 < Int32.toInt (m (9, 0, 0) 12)) := by
    have f99 : Int32.toInt (m (9, 0, 0) 12) ≠ 99 := fun q => e99 (Int32.toInt_inj.mp (q.trans (by decide)))
    have f100 : Int32.toInt (m (9, 0, 0) 12) ≠ 100 := fun q => e100 (Int32.toInt_inj.mp (q.trans (by decide)))
    have f101 : Int32.toInt (m (9, 0, 0) 12) ≠ 101 := fun q => e101 (Int32.toInt_inj.mp (q.trans (by decide)))
    have f102 : Int32.toInt (m (9, 0, 0) 12) ≠ 102 := fun q => e102 (Int32.toInt_inj.mp (q.trans (by decide)))
    have f103 : Int32.toInt (m (9, 0, 0) 12) ≠ 103 := fun q => e103 (Int32.toInt_inj.mp (q.trans (by decide)))
    have f104 : Int32.toInt (m (9, 0, 0) 12) ≠ 104 := fun q => e104 (Int32.toInt_inj.mp (q.trans (by decide)))
    have f105 : Int32.toInt (m (9, 0, 0) 12) ≠ 105 := fun q => e105 (Int32.toInt_inj.mp (q.trans (by decide)))
    have f106 : Int32.toInt (m (9, 0, 0) 12) ≠ 106 := fun q => e106 (Int32.toInt_inj.mp (q.trans (by decide)))
    have f107 : Int32.toInt (m (9, 0, 0) 12) ≠ 107 := fun q => e107 (Int32.toInt_inj.mp (q.trans (by decide)))
    have f108 : Int32.toInt (m (9, 0, 0) 12) ≠ 108 := fun q => e108 (Int32.toInt_inj.mp (q.trans (by decide)))
    have f109 : Int32.toInt (m (9, 0, 0) 12) ≠ 109 := fun q => e109 (Int32.toInt_inj.mp (q.trans (by decide)))
    have f110 : Int32.toInt (m (9, 0, 0) 12) ≠ 110 := fun q => e110 (Int32.toInt_inj.mp (q.trans (by decide)))
    have f111 : Int32.toInt (m (9, 0, 0) 12) ≠ 111 := fun q => e111 (Int32.toInt_inj.mp (q.trans (by decide)))
    have f112 : Int32.toInt (m (9, 0, 0) 12) ≠ 112 := fun q => e112 (Int32.toInt_inj.mp (q.trans (by decide)))
    have f113 : Int32.toInt (m (9, 0, 0) 12) ≠ 113 := fun q => e113 (Int32.toInt_inj.mp (q.trans (by decide)))
    have f114 : Int32.toInt (m (9, 0, 0) 12) ≠ 114 := fun q => e114 (Int32.toInt_inj.mp (q.trans (by decide)))
    have f115 : Int32.toInt (m (9, 0, 0) 12) ≠ 115 := fun q => e115 (Int32.toInt_inj.mp (q.trans (by decide)))
    have f116 : Int32.toInt (m (9, 0, 0) 12) ≠ 116 := fun q => e116 (Int32.toInt_inj.mp (q.trans (by decide)))
    have f117 : Int32.toInt (m (9, 0, 0) 12) ≠ 117 := fun q => e117 (Int32.toInt_inj.mp (q.trans (by decide)))
    have f118 : Int32.toInt (m (9, 0, 0) 12) ≠ 118 := fun q => e118 (Int32.toInt_inj.mp (q.trans (by decide)))
    have f119 : Int32.toInt (m (9, 0, 0) 12) ≠ 119 := fun q => e119 (Int32.toInt_inj.mp (q.trans (by decide)))
    omega
  replace h := h hx
  refine ch_tswOut (tgt := 220) d_m_carries_4 hx (by decide) ?_
  refine ch_aload_n (i := 0) d_m_carries_220 rfl rfl ?_
  refine ch_get (v := .inr (9, 0, 1)) d_m_carries_221 fl_m_9 rfl ?_
  refine ch_iconst (v := 0) d_m_carries_224 (by decide) ?_
  refine ch_iald (n := 63) d_m_carries_225 (by decide) rfl (vp_in_nI (n := 0) (by decide) (by decide)) ?_
  refine ch_if_le (tgt := 240) d_m_carries_226 (by decide) (fun c => ?_) (fun c => ?_)
  · replace h := h.1 c
    refine ch_aload_n (i := 0) d_m_carries_240 rfl rfl ?_
    refine ch_bipush (v := 13) d_m_carries_241 (by decide) ?_
    refine ch_iconst (v := 0) d_m_carries_243 (by decide) ?_
    refine ch_callV (as := [.inl (.int 13), .inl (.int 0)]) d_m_carries_244 lk_m_81 mi_m_refuses me_m_refuses rfl rfl rfl ⟨Nat.le_of_ble_eq_true rfl, Nat.le_of_ble_eq_true rfl⟩ (Nat.le_of_ble_eq_true rfl) ⟨Nat.le_of_ble_eq_true rfl, Nat.le_of_ble_eq_true rfl⟩ (ch_mono (ch_Ki (fun r260 m261 q262 => ?_)) (s_m_refuses g (fun (r_ : Int32) (m_ : ch_M) => (0 = r_ ∧ m_ = ch_wr (ch_wr (ch_wr m (9, 0, 0) 15 13) (9, 0, 0) 16 0) (9, 0, 0) 17 0)) (13) (0) m ⟨rfl, rfl⟩))
    obtain ⟨rfl, hm_⟩ := q262
    replace h := h m261 hm_
    exact ch_iret (ty := .boolean) d_m_carries_247 rfl rfl (Nat.le_of_ble_eq_true rfl) h
  · replace h := h.2 c
    refine ch_aload_n (i := 0) d_m_carries_229 rfl rfl ?_
    refine ch_aload_n (i := 0) d_m_carries_230 rfl rfl ?_
    obtain ⟨T_263, h⟩ := h
    obtain ⟨Y_264, h⟩ := h
    have b269 := h.1
    replace h := h.2
    have b270 := h.1
    replace h := h.2
    refine ch_callV (as := []) d_m_carries_231 lk_m_176 mi_m_goesBy me_m_goesBy rfl rfl rfl ⟨Nat.le_of_ble_eq_true rfl, Nat.le_of_ble_eq_true rfl⟩ (Nat.le_of_ble_eq_true rfl) ⟨Nat.le_of_ble_eq_true rfl, Nat.le_of_ble_eq_true rfl⟩ (ch_mono (ch_Ki (fun r266 m267 q268 => ?_)) (s_m_goesBy g (fun (r_ : Int32) (m_ : ch_M) => (∃ (B265 : ch_B), (b_st (m_lb Y_264 (y_termB Y_264)) 12) = r_ ∧ (m_rel (y_termB Y_264) (B265 1)) ∧ (∀ a_ i_, a_ ≠ 1 → B265 a_ i_ = ch_ob m 9 0 a_ i_) ∧ m_ = ch_os m 9 0 B265)) (T_263) (Y_264) m ⟨b269, b270, (fun B265 f0_ f1_ => ⟨B265, rfl, f0_, f1_, rfl⟩)⟩))
    obtain ⟨B265, rfl, f0_, f1_, hm_⟩ := q268
    replace h := h B265 f0_ f1_ m267 hm_
    refine ch_callV (as := [.inl (.int (b_st (m_lb Y_264 (y_termB Y_264)) 12))]) d_m_carries_234 lk_m_93 mi_m_does me_m_does rfl rfl rfl ⟨Nat.le_of_ble_eq_true rfl, Nat.le_of_ble_eq_true rfl⟩ (Nat.le_of_ble_eq_true rfl) ⟨Nat.le_of_ble_eq_true rfl, Nat.le_of_ble_eq_true rfl⟩ (ch_mono (ch_Ki (fun r271 m272 q273 => ?_)) (s_m_does g (fun (r_ : Int32) (m_ : ch_M) => (1 = r_ ∧ m_ = ch_wr m267 (9, 0, 0) 18 (b_st (m_lb Y_264 (y_termB Y_264)) 12))) ((b_st (m_lb Y_264 (y_termB Y_264)) 12)) m267 ⟨rfl, rfl⟩))
    obtain ⟨rfl, hm_⟩ := q273
    replace h := h m272 hm_
    refine ch_goto (tgt := 247) d_m_carries_237 (by decide) ?_
    exact ch_iret (ty := .boolean) d_m_carries_247 rfl rfl (Nat.le_of_ble_eq_true rfl) h
