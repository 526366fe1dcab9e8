theorem e_y_carryOut (g : ch_G) (Q : ch_O → ch_M → Prop) (j : Nat) (m : ch_M) (h : ch_J g m_y_carryOut (ch_rm m_y_carryOut) (ch_E g m_y_carryOut Q) 0 [some (.inr (1, j, 0)), some (.inr (4, 0, 0))] [] m 0) : ch_C g m_y_carryOut [.inr (1, j, 0), .inr (4, 0, 0)] m Q :=
  ch_enter mf_y_carryOut (by intro v hv; simp only [List.mem_cons, List.not_mem_nil, or_false] at hv; rcases hv with rfl | rfl <;> rfl) (Nat.le_of_ble_eq_true rfl) h
set_option maxHeartbeats 1600000 in
theorem g_y_carryOut_0 (g : ch_G) (Q : ch_O → ch_M → Prop) (j : Nat) (m : ch_M) (h : (((m (4, 0, 0) 1) = 99 → (vp_in (m (4, 0, 0) 2) 5) ∧ (vp_in (m (4, 0, 0) 4) 12) ∧ ((∀ m2 : ch_M, m2 = ch_os m 1 j (y_chaB (ch_ob m 1 j) (m (4, 0, 0) 2) (m (4, 0, 0) 4)) → Q (.inl (some (.inl (.int (y_chv (ch_ob m 1 j) (m (4, 0, 0) 4)))))) m2))) ∧ ((m (4, 0, 0) 1) = 100 → (vp_in (m (4, 0, 0) 2) 5) ∧ (vp_in (m (4, 0, 0) 3) 5) ∧ ((∀ m7 : ch_M, m7 = ch_os m 1 j (y_givB (ch_ob m 1 j) (m (4, 0, 0) 2) (m (4, 0, 0) 3) (m (4, 0, 0) 4)) → Q (.inl (some (.inl (.int (y_givB (ch_ob m 1 j) (m (4, 0, 0) 2) (m (4, 0, 0) 3) (m (4, 0, 0) 4) 3 (Int32.toNatClampNeg (m (4, 0, 0) 2))))))) m7))) ∧ ((m (4, 0, 0) 1) = 101 → (vp_in (m (4, 0, 0) 2) 5) ∧ (vp_in (m (4, 0, 0) 3) 5) ∧ ((∀ m12 : ch_M, m12 = ch_os m 1 j (y_givB (ch_ob m 1 j) (m (4, 0, 0) 2) (m (4, 0, 0) 3) (m (4, 0, 0) 4)) → Q (.inl (some (.inl (.int (y_givB (ch_ob m 1 j) (m (4, 0, 0) 2) (m (4, 0, 0) 3) (m (4, 0, 0) 4) 3 (Int32.toNatClampNeg (m (4, 0, 0) 2))))))) m12))) ∧ ((m (4, 0, 0) 1) = 102 → (vp_in (m (4, 0, 0) 2) 5) ∧ (vp_in (m (4, 0, 0) 3) 5) ∧ ((∀ m17 : ch_M, m17 = ch_os m 1 j (y_givB (ch_ob m 1 j) (m (4, 0, 0) 2) (m (4, 0, 0) 3) (m (4, 0, 0) 4)) → Q (.inl (some (.inl (.int (y_givB (ch_ob m 1 j) (m (4, 0, 0) 2) (m (4, 0, 0) 3) (m (4, 0, 0) 4) 3 (Int32.toNatClampNeg (m (4, 0, 0) 2))))))) m17))) ∧ ((m (4, 0, 0) 1) = 103 → (vp_in (m (4, 0, 0) 2) 5) ∧ (vp_in (m (4, 0, 0) 3) 5) ∧ ((∀ m22 : ch_M, m22 = ch_os m 1 j (y_givB (ch_ob m 1 j) (m (4, 0, 0) 2) (m (4, 0, 0) 3) (m (4, 0, 0) 4)) → Q (.inl (some (.inl (.int (y_givB (ch_ob m 1 j) (m (4, 0, 0) 2) (m (4, 0, 0) 3) (m (4, 0, 0) 4) 3 (Int32.toNatClampNeg (m (4, 0, 0) 2))))))) m22))) ∧ ((m (4, 0, 0) 1) = 104 → (vp_in (m (4, 0, 0) 2) 5) ∧ (vp_in (m (5, 0, 0) 1) 13) ∧ (∀ i_, i_ < 12 → m (1, j, 1) i_ = -1 ∨ vp_in (m (1, j, 1) i_) 5) ∧ ((∀ m27 : ch_M, m27 = ch_os m 1 j (y_hopB (ch_ob m 1 j) (m (4, 0, 0) 2) (m (5, 0, 1)) (Int32.toNatClampNeg (m (5, 0, 0) 1))) → Q (.inl (some (.inl (.int (y_ct (ch_ob m 1 j) (m (4, 0, 0) 2) (m (5, 0, 1)) (Int32.toNatClampNeg (m (5, 0, 0) 1))))))) m27))) ∧ ((m (4, 0, 0) 1) = 105 → (vp_in (m (4, 0, 0) 2) 5) ∧ (vp_in (m (4, 0, 0) 3) 5) ∧ ((∀ m33 : ch_M, m33 = ch_os m 1 j (y_givB (ch_ob m 1 j) (m (4, 0, 0) 2) (m (4, 0, 0) 3) (m (4, 0, 0) 4)) → Q (.inl (some (.inl (.int (y_givB (ch_ob m 1 j) (m (4, 0, 0) 2) (m (4, 0, 0) 3) (m (4, 0, 0) 4) 3 (Int32.toNatClampNeg (m (4, 0, 0) 2))))))) m33))) ∧ ((m (4, 0, 0) 1) = 106 → (vp_in (m (4, 0, 0) 2) 5) ∧ (vp_in (m (4, 0, 0) 3) 5) ∧ ((∀ m38 : ch_M, m38 = ch_os m 1 j (y_givB (ch_ob m 1 j) (m (4, 0, 0) 2) (m (4, 0, 0) 3) (m (4, 0, 0) 4)) → Q (.inl (some (.inl (.int (y_givB (ch_ob m 1 j) (m (4, 0, 0) 2) (m (4, 0, 0) 3) (m (4, 0, 0) 4) 3 (Int32.toNatClampNeg (m (4, 0, 0) 2))))))) m38))) ∧ ((m (4, 0, 0) 1) = 107 → (vp_in (m (4, 0, 0) 2) 5) ∧ (vp_in (m (4, 0, 0) 3) 5) ∧ ((∀ m43 : ch_M, m43 = ch_os m 1 j (y_givB (ch_ob m 1 j) (m (4, 0, 0) 2) (m (4, 0, 0) 3) (m (4, 0, 0) 4)) → Q (.inl (some (.inl (.int (y_givB (ch_ob m 1 j) (m (4, 0, 0) 2) (m (4, 0, 0) 3) (m (4, 0, 0) 4) 3 (Int32.toNatClampNeg (m (4, 0, 0) 2))))))) m43))) ∧ ((m (4, 0, 0) 1) = 108 → (vp_in (m (4, 0, 0) 2) 5) ∧ (vp_in (m (4, 0, 0) 3) 5) ∧ ((∀ m48 : ch_M, m48 = ch_os m 1 j (y_givB (ch_ob m 1 j) (m (4, 0, 0) 2) (m (4, 0, 0) 3) (m (4, 0, 0) 4)) → Q (.inl (some (.inl (.int (y_givB (ch_ob m 1 j) (m (4, 0, 0) 2) (m (4, 0, 0) 3) (m (4, 0, 0) 4) 3 (Int32.toNatClampNeg (m (4, 0, 0) 2))))))) m48))) ∧ ((m (4, 0, 0) 1) = 109 → (vp_in (m (4, 0, 0) 2) 5) ∧ (vp_in (m (4, 0, 0) 3) 5) ∧ ((∀ m53 : ch_M, m53 = ch_os m 1 j (y_givB (ch_ob m 1 j) (m (4, 0, 0) 2) (m (4, 0, 0) 3) (m (4, 0, 0) 4)) → Q (.inl (some (.inl (.int (y_givB (ch_ob m 1 j) (m (4, 0, 0) 2) (m (4, 0, 0) 3) (m (4, 0, 0) 4) 3 (Int32.toNatClampNeg (m (4, 0, 0) 2))))))) m53))) ∧ ((m (4, 0, 0) 1) = 110 → (vp_in (m (1, j, 0) 8) 5) ∧ ((∀ m58 : ch_M, m58 = ch_os m 1 j (y_briB (ch_ob m 1 j) (m (4, 0, 0) 4)) → Q (.inl (some (.inl (.int (m (1, j, 0) 8 + 1 - 1))))) m58))) ∧ ((m (4, 0, 0) 1) = 111 → (vp_in (m (4, 0, 0) 2) 5) ∧ (vp_in (m (4, 0, 0) 3) 5) ∧ ((∀ m62 : ch_M, m62 = ch_os m 1 j (y_givB (ch_ob m 1 j) (m (4, 0, 0) 2) (m (4, 0, 0) 3) (m (4, 0, 0) 4)) → Q (.inl (some (.inl (.int (y_givB (ch_ob m 1 j) (m (4, 0, 0) 2) (m (4, 0, 0) 3) (m (4, 0, 0) 4) 3 (Int32.toNatClampNeg (m (4, 0, 0) 2))))))) m62))) ∧ ((m (4, 0, 0) 1) = 112 → (vp_in (m (4, 0, 0) 2) 5) ∧ (vp_in (m (4, 0, 0) 3) 5) ∧ ((∀ m67 : ch_M, m67 = ch_os m 1 j (y_givB (ch_ob m 1 j) (m (4, 0, 0) 2) (m (4, 0, 0) 3) (m (4, 0, 0) 4)) → Q (.inl (some (.inl (.int (y_givB (ch_ob m 1 j) (m (4, 0, 0) 2) (m (4, 0, 0) 3) (m (4, 0, 0) 4) 3 (Int32.toNatClampNeg (m (4, 0, 0) 2))))))) m67))) ∧ ((m (4, 0, 0) 1) = 113 → (vp_in (m (4, 0, 0) 2) 5) ∧ (vp_in (m (4, 0, 0) 3) 5) ∧ ((∀ m72 : ch_M, m72 = ch_os m 1 j (y_givB (ch_ob m 1 j) (m (4, 0, 0) 2) (m (4, 0, 0) 3) (m (4, 0, 0) 4)) → Q (.inl (some (.inl (.int (y_givB (ch_ob m 1 j) (m (4, 0, 0) 2) (m (4, 0, 0) 3) (m (4, 0, 0) 4) 3 (Int32.toNatClampNeg (m (4, 0, 0) 2))))))) m72))) ∧ ((m (4, 0, 0) 1) = 114 → (vp_in (m (1, j, 0) 9) 6) ∧ (∀ i_, i_ < 5 → vp_in (m (1, j, 8) i_) 5) ∧ ((∀ m77 : ch_M, m77 = ch_os m 1 j (y_washB (ch_ob m 1 j) (m (4, 0, 0) 4)) → Q (.inl (some (.inl (.int (y_washR (ch_ob m 1 j) (m (4, 0, 0) 4)))))) m77))) ∧ ((m (4, 0, 0) 1) = 115 → (vp_in (m (4, 0, 0) 2) 5) ∧ (vp_in (m (1, j, 0) 9) 6) ∧ (∀ i_, i_ < 5 → vp_in (m (1, j, 8) i_) 5) ∧ ((∀ m82 : ch_M, m82 = ch_os m 1 j (y_strB (ch_ob m 1 j) (m (4, 0, 0) 2)) → Q (.inl (some (.inl (.int (m (1, j, 3) (Int32.toNatClampNeg (m (4, 0, 0) 2)) - m (1, j, 5) (Int32.toNatClampNeg (m (4, 0, 0) 2))))))) m82))) ∧ ((m (4, 0, 0) 1) = 116 → (vp_in (m (1, j, 0) 8) 6) ∧ ((∀ m88 : ch_M, m88 = ch_os m 1 j (y_termB (ch_ob m 1 j)) → Q (.inl (some (.inl (.int (y_termR (ch_ob m 1 j)))))) m88))) ∧ ((m (4, 0, 0) 1) = 117 → (vp_in (m (4, 0, 0) 2) 5) ∧ (vp_in (m (4, 0, 0) 3) 5) ∧ ((∀ m92 : ch_M, m92 = ch_os m 1 j (y_givB (ch_ob m 1 j) (m (4, 0, 0) 2) (m (4, 0, 0) 3) (m (4, 0, 0) 4)) → Q (.inl (some (.inl (.int (y_givB (ch_ob m 1 j) (m (4, 0, 0) 2) (m (4, 0, 0) 3) (m (4, 0, 0) 4) 3 (Int32.toNatClampNeg (m (4, 0, 0) 2))))))) m92))) ∧ ((m (4, 0, 0) 1) = 118 → (vp_in (m (4, 0, 0) 2) 5) ∧ (vp_in (m (4, 0, 0) 3) 5) ∧ ((∀ m97 : ch_M, m97 = ch_os m 1 j (y_givB (ch_ob m 1 j) (m (4, 0, 0) 2) (m (4, 0, 0) 3) (m (4, 0, 0) 4)) → Q (.inl (some (.inl (.int (y_givB (ch_ob m 1 j) (m (4, 0, 0) 2) (m (4, 0, 0) 3) (m (4, 0, 0) 4) 3 (Int32.toNatClampNeg (m (4, 0, 0) 2))))))) m97))) ∧ ((m (4, 0, 0) 1) = 119 → (vp_in (m (4, 0, 0) 2) 5) ∧ (vp_in (m (1, j, 0) 9) 5) ∧ ((∀ m102 : ch_M, m102 = ch_os m 1 j (y_wriB (ch_ob m 1 j) (m (4, 0, 0) 2)) → Q (.inl (some (.inl (.int (if 9 < m (1, j, 4) (Int32.toNatClampNeg (m (4, 0, 0) 2)) then 9 else m (1, j, 4) (Int32.toNatClampNeg (m (4, 0, 0) 2))))))) m102))) ∧ ((Int32.toInt (m (4, 0, 0) 1) < 99 ∨ 119 < Int32.toInt (m (4, 0, 0) 1)) → (vp_in (m (4, 0, 0) 2) 5) ∧ (vp_in (m (4, 0, 0) 3) 5) ∧ ((∀ m107 : ch_M, m107 = ch_os m 1 j (y_givB (ch_ob m 1 j) (m (4, 0, 0) 2) (m (4, 0, 0) 3) (m (4, 0, 0) 4)) → Q (.inl (some (.inl (.int (y_givB (ch_ob m 1 j) (m (4, 0, 0) 2) (m (4, 0, 0) 3) (m (4, 0, 0) 4) 3 (Int32.toNatClampNeg (m (4, 0, 0) 2))))))) m107))))) : ch_J g m_y_carryOut (ch_rm m_y_carryOut) (ch_E g m_y_carryOut Q) 0 [some (.inr (1, j, 0)), some (.inr (4, 0, 0))] [] m 0 := by
  refine ch_aload_n (i := 1) d_y_carryOut_0 rfl rfl ?_
  refine ch_get (v := .inl (.int (m (4, 0, 0) 1))) d_y_carryOut_1 fl_y_70 rfl ?_
  by_cases e99 : (m (4, 0, 0) 1) = 99
  · replace h := h.1 e99
    refine ch_tswIn (tgt := 113) (off := 109) d_y_carryOut_4 (by rw [e99]; decide) (by rw [e99]; decide) (by rw [e99]; rfl) (by decide) ?_
    refine ch_aload_n (i := 0) d_y_carryOut_113 rfl rfl ?_
    refine ch_aload_n (i := 1) d_y_carryOut_114 rfl rfl ?_
    refine ch_get (v := .inl (.int (m (4, 0, 0) 2))) d_y_carryOut_115 fl_y_82 rfl ?_
    refine ch_aload_n (i := 1) d_y_carryOut_118 rfl rfl ?_
    refine ch_get (v := .inl (.int (m (4, 0, 0) 4))) d_y_carryOut_119 fl_y_75 rfl ?_
    have b4 := h.1
    replace h := h.2
    have b5 := h.1
    replace h := h.2
    refine ch_callV (as := [.inl (.int (m (4, 0, 0) 2)), .inl (.int (m (4, 0, 0) 4))]) d_y_carryOut_122 lk_y_85 mi_y_chalkOn me_y_chalkOn rfl rfl rfl ⟨Nat.le_of_ble_eq_true rfl, Nat.le_of_ble_eq_true rfl⟩ (Nat.le_of_ble_eq_true rfl) ⟨Nat.le_of_ble_eq_true rfl, Nat.le_of_ble_eq_true rfl⟩ (ch_mono (ch_Ki (fun r1 m2 q3 => ?_)) (s_y_chalkOn g (fun (r_ : Int32) (m_ : ch_M) => ((y_chv (ch_ob m 1 j) (m (4, 0, 0) 4)) = r_ ∧ m_ = ch_os m 1 j (y_chaB (ch_ob m 1 j) (m (4, 0, 0) 2) (m (4, 0, 0) 4)))) (j) ((m (4, 0, 0) 2)) ((m (4, 0, 0) 4)) m ⟨b4, b5, ⟨rfl, rfl⟩⟩))
    obtain ⟨rfl, hm_⟩ := q3
    replace h := h m2 hm_
    exact ch_iret (ty := .int) d_y_carryOut_125 rfl rfl (Nat.le_of_ble_eq_true rfl) h
  replace h := h.2
  by_cases e100 : (m (4, 0, 0) 1) = 100
  · replace h := h.1 e100
    refine ch_tswIn (tgt := 171) (off := 167) d_y_carryOut_4 (by rw [e100]; decide) (by rw [e100]; decide) (by rw [e100]; rfl) (by decide) ?_
    refine ch_aload_n (i := 0) d_y_carryOut_171 rfl rfl ?_
    refine ch_aload_n (i := 1) d_y_carryOut_172 rfl rfl ?_
    refine ch_get (v := .inl (.int (m (4, 0, 0) 2))) d_y_carryOut_173 fl_y_82 rfl ?_
    refine ch_aload_n (i := 1) d_y_carryOut_176 rfl rfl ?_
    refine ch_get (v := .inl (.int (m (4, 0, 0) 3))) d_y_carryOut_177 fl_y_110 rfl ?_
    refine ch_aload_n (i := 1) d_y_carryOut_180 rfl rfl ?_
    refine ch_get (v := .inl (.int (m (4, 0, 0) 4))) d_y_carryOut_181 fl_y_75 rfl ?_
    have b9 := h.1
    replace h := h.2
    have b10 := h.1
    replace h := h.2
    refine ch_callV (as := [.inl (.int (m (4, 0, 0) 2)), .inl (.int (m (4, 0, 0) 3)), .inl (.int (m (4, 0, 0) 4))]) d_y_carryOut_184 lk_y_113 mi_y_handOver me_y_handOver rfl rfl rfl ⟨Nat.le_of_ble_eq_true rfl, Nat.le_of_ble_eq_true rfl⟩ (Nat.le_of_ble_eq_true rfl) ⟨Nat.le_of_ble_eq_true rfl, Nat.le_of_ble_eq_true rfl⟩ (ch_mono (ch_Ki (fun r6 m7 q8 => ?_)) (s_y_handOver g (fun (r_ : Int32) (m_ : ch_M) => ((y_givB (ch_ob m 1 j) (m (4, 0, 0) 2) (m (4, 0, 0) 3) (m (4, 0, 0) 4) 3 (Int32.toNatClampNeg (m (4, 0, 0) 2))) = r_ ∧ m_ = ch_os m 1 j (y_givB (ch_ob m 1 j) (m (4, 0, 0) 2) (m (4, 0, 0) 3) (m (4, 0, 0) 4)))) (j) ((m (4, 0, 0) 2)) ((m (4, 0, 0) 3)) ((m (4, 0, 0) 4)) m ⟨b9, b10, ⟨rfl, rfl⟩⟩))
    obtain ⟨rfl, hm_⟩ := q8
    replace h := h m7 hm_
    exact ch_iret (ty := .int) d_y_carryOut_187 rfl rfl (Nat.le_of_ble_eq_true rfl) h
  replace h := h.2
  by_cases e101 : (m (4, 0, 0) 1) = 101
  · replace h := h.1 e101
    refine ch_tswIn (tgt := 171) (off := 167) d_y_carryOut_4 (by rw [e101]; decide) (by rw [e101]; decide) (by rw [e101]; rfl) (by decide) ?_
    refine ch_aload_n (i := 0) d_y_carryOut_171 rfl rfl ?_
    refine ch_aload_n (i := 1) d_y_carryOut_172 rfl rfl ?_
    refine ch_get (v := .inl (.int (m (4, 0, 0) 2))) d_y_carryOut_173 fl_y_82 rfl ?_
    refine ch_aload_n (i := 1) d_y_carryOut_176 rfl rfl ?_
    refine ch_get (v := .inl (.int (m (4, 0, 0) 3))) d_y_carryOut_177 fl_y_110 rfl ?_
    refine ch_aload_n (i := 1) d_y_carryOut_180 rfl rfl ?_
    refine ch_get (v := .inl (.int (m (4, 0, 0) 4))) d_y_carryOut_181 fl_y_75 rfl ?_
    have b14 := h.1
    replace h := h.2
    have b15 := h.1
    replace h := h.2
    refine ch_callV (as := [.inl (.int (m (4, 0, 0) 2)), .inl (.int (m (4, 0, 0) 3)), .inl (.int (m (4, 0, 0) 4))]) d_y_carryOut_184 lk_y_113 mi_y_handOver me_y_handOver rfl rfl rfl ⟨Nat.le_of_ble_eq_true rfl, Nat.le_of_ble_eq_true rfl⟩ (Nat.le_of_ble_eq_true rfl) ⟨Nat.le_of_ble_eq_true rfl, Nat.le_of_ble_eq_true rfl⟩ (ch_mono (ch_Ki (fun r11 m12 q13 => ?_)) (s_y_handOver g (fun (r_ : Int32) (m_ : ch_M) => ((y_givB (ch_ob m 1 j) (m (4, 0, 0) 2) (m (4, 0, 0) 3) (m (4, 0, 0) 4) 3 (Int32.toNatClampNeg (m (4, 0, 0) 2))) = r_ ∧ m_ = ch_os m 1 j (y_givB (ch_ob m 1 j) (m (4, 0, 0) 2) (m (4, 0, 0) 3) (m (4, 0, 0) 4)))) (j) ((m (4, 0, 0) 2)) ((m (4, 0, 0) 3)) ((m (4, 0, 0) 4)) m ⟨b14, b15, ⟨rfl, rfl⟩⟩))
    obtain ⟨rfl, hm_⟩ := q13
    replace h := h m12 hm_
    exact ch_iret (ty := .int) d_y_carryOut_187 rfl rfl (Nat.le_of_ble_eq_true rfl) h
  replace h := h.2
  by_cases e102 : (m (4, 0, 0) 1) = 102
  · replace h := h.1 e102
    refine ch_tswIn (tgt := 171) (off := 167) d_y_carryOut_4 (by rw [e102]; decide) (by rw [e102]; decide) (by rw [e102]; rfl) (by decide) ?_
    refine ch_aload_n (i := 0) d_y_carryOut_171 rfl rfl ?_
    refine ch_aload_n (i := 1) d_y_carryOut_172 rfl rfl ?_
    refine ch_get (v := .inl (.int (m (4, 0, 0) 2))) d_y_carryOut_173 fl_y_82 rfl ?_
    refine ch_aload_n (i := 1) d_y_carryOut_176 rfl rfl ?_
    refine ch_get (v := .inl (.int (m (4, 0, 0) 3))) d_y_carryOut_177 fl_y_110 rfl ?_
    refine ch_aload_n (i := 1) d_y_carryOut_180 rfl rfl ?_
    refine ch_get (v := .inl (.int (m (4, 0, 0) 4))) d_y_carryOut_181 fl_y_75 rfl ?_
    have b19 := h.1
    replace h := h.2
    have b20 := h.1
    replace h := h.2
    refine ch_callV (as := [.inl (.int (m (4, 0, 0) 2)), .inl (.int (m (4, 0, 0) 3)), .inl (.int (m (4, 0, 0) 4))]) d_y_carryOut_184 lk_y_113 mi_y_handOver me_y_handOver rfl rfl rfl ⟨Nat.le_of_ble_eq_true rfl, Nat.le_of_ble_eq_true rfl⟩ (Nat.le_of_ble_eq_true rfl) ⟨Nat.le_of_ble_eq_true rfl, Nat.le_of_ble_eq_true rfl⟩ (ch_mono (ch_Ki (fun r16 m17 q18 => ?_)) (s_y_handOver g (fun (r_ : Int32) (m_ : ch_M) => ((y_givB (ch_ob m 1 j) (m (4, 0, 0) 2) (m (4, 0, 0) 3) (m (4, 0, 0) 4) 3 (Int32.toNatClampNeg (m (4, 0, 0) 2))) = r_ ∧ m_ = ch_os m 1 j (y_givB (ch_ob m 1 j) (m (4, 0, 0) 2) (m (4, 0, 0) 3) (m (4, 0, 0) 4)))) (j) ((m (4, 0, 0) 2)) ((m (4, 0, 0) 3)) ((m (4, 0, 0) 4)) m ⟨b19, b20, ⟨rfl, rfl⟩⟩))
    obtain ⟨rfl, hm_⟩ := q18
    replace h := h m17 hm_
    exact ch_iret (ty := .int) d_y_carryOut_187 rfl rfl (Nat.le_of_ble_eq_true rfl) h
  replace h := h.2
  by_cases e103 : (m (4, 0, 0) 1) = 103
  · replace h := h.1 e103
    refine ch_tswIn (tgt := 171) (off := 167) d_y_carryOut_4 (by rw [e103]; decide) (by rw [e103]; decide) (by rw [e103]; rfl) (by decide) ?_
    refine ch_aload_n (i := 0) d_y_carryOut_171 rfl rfl ?_
    refine ch_aload_n (i := 1) d_y_carryOut_172 rfl rfl ?_
    refine ch_get (v := .inl (.int (m (4, 0, 0) 2))) d_y_carryOut_173 fl_y_82 rfl ?_
    refine ch_aload_n (i := 1) d_y_carryOut_176 rfl rfl ?_
    refine ch_get (v := .inl (.int (m (4, 0, 0) 3))) d_y_carryOut_177 fl_y_110 rfl ?_
    refine ch_aload_n (i := 1) d_y_carryOut_180 rfl rfl ?_
    refine ch_get (v := .inl (.int (m (4, 0, 0) 4))) d_y_carryOut_181 fl_y_75 rfl ?_
    have b24 := h.1
    replace h := h.2
    have b25 := h.1
    replace h := h.2
    refine ch_callV (as := [.inl (.int (m (4, 0, 0) 2)), .inl (.int (m (4, 0, 0) 3)), .inl (.int (m (4, 0, 0) 4))]) d_y_carryOut_184 lk_y_113 mi_y_handOver me_y_handOver rfl rfl rfl ⟨Nat.le_of_ble_eq_true rfl, Nat.le_of_ble_eq_true rfl⟩ (Nat.le_of_ble_eq_true rfl) ⟨Nat.le_of_ble_eq_true rfl, Nat.le_of_ble_eq_true rfl⟩ (ch_mono (ch_Ki (fun r21 m22 q23 => ?_)) (s_y_handOver g (fun (r_ : Int32) (m_ : ch_M) => ((y_givB (ch_ob m 1 j) (m (4, 0, 0) 2) (m (4, 0, 0) 3) (m (4, 0, 0) 4) 3 (Int32.toNatClampNeg (m (4, 0, 0) 2))) = r_ ∧ m_ = ch_os m 1 j (y_givB (ch_ob m 1 j) (m (4, 0, 0) 2) (m (4, 0, 0) 3) (m (4, 0, 0) 4)))) (j) ((m (4, 0, 0) 2)) ((m (4, 0, 0) 3)) ((m (4, 0, 0) 4)) m ⟨b24, b25, ⟨rfl, rfl⟩⟩))
    obtain ⟨rfl, hm_⟩ := q23
    replace h := h m22 hm_
    exact ch_iret (ty := .int) d_y_carryOut_187 rfl rfl (Nat.le_of_ble_eq_true rfl) h
  replace h := h.2
  by_cases e104 : (m (4, 0, 0) 1) = 104
  · replace h := h.1 e104
    refine ch_tswIn (tgt := 126) (off := 122) d_y_carryOut_4 (by rw [e104]; decide) (by rw [e104]; decide) (by rw [e104]; rfl) (by decide) ?_
    refine ch_aload_n (i := 0) d_y_carryOut_126 rfl rfl ?_
    refine ch_aload_n (i := 1) d_y_carryOut_127 rfl rfl ?_
    refine ch_get (v := .inl (.int (m (4, 0, 0) 2))) d_y_carryOut_128 fl_y_82 rfl ?_
    refine ch_aload_n (i := 1) d_y_carryOut_131 rfl rfl ?_
    refine ch_get (v := .inr (5, 0, 0)) d_y_carryOut_132 fl_y_89 rfl ?_
    have b29 := h.1
    replace h := h.2
    have b30 := h.1
    replace h := h.2
    have b31 := h.1
    replace h := h.2
    refine ch_callV (as := [.inl (.int (m (4, 0, 0) 2)), .inr (5, 0, 0)]) d_y_carryOut_135 lk_y_93 mi_y_hopBy me_y_hopBy rfl rfl rfl ⟨Nat.le_of_ble_eq_true rfl, Nat.le_of_ble_eq_true rfl⟩ (Nat.le_of_ble_eq_true rfl) ⟨Nat.le_of_ble_eq_true rfl, Nat.le_of_ble_eq_true rfl⟩ (ch_mono (ch_Ki (fun r26 m27 q28 => ?_)) (s_y_hopBy g (fun (r_ : Int32) (m_ : ch_M) => ((y_ct (ch_ob m 1 j) (m (4, 0, 0) 2) (m (5, 0, 1)) (Int32.toNatClampNeg (m (5, 0, 0) 1))) = r_ ∧ m_ = ch_os m 1 j (y_hopB (ch_ob m 1 j) (m (4, 0, 0) 2) (m (5, 0, 1)) (Int32.toNatClampNeg (m (5, 0, 0) 1))))) (j) ((m (4, 0, 0) 2)) (0) m ⟨b29, b30, b31, ⟨rfl, rfl⟩⟩))
    obtain ⟨rfl, hm_⟩ := q28
    replace h := h m27 hm_
    exact ch_iret (ty := .int) d_y_carryOut_138 rfl rfl (Nat.le_of_ble_eq_true rfl) h
  replace h := h.2
  by_cases e105 : (m (4, 0, 0) 1) = 105
  · replace h := h.1 e105
    refine ch_tswIn (tgt := 171) (off := 167) d_y_carryOut_4 (by rw [e105]; decide) (by rw [e105]; decide) (by rw [e105]; rfl) (by decide) ?_
    refine ch_aload_n (i := 0) d_y_carryOut_171 rfl rfl ?_
    refine ch_aload_n (i := 1) d_y_carryOut_172 rfl rfl ?_
    refine ch_get (v := .inl (.int (m (4, 0, 0) 2))) d_y_carryOut_173 fl_y_82 rfl ?_
    refine ch_aload_n (i := 1) d_y_carryOut_176 rfl rfl ?_
    refine ch_get (v := .inl (.int (m (4, 0, 0) 3))) d_y_carryOut_177 fl_y_110 rfl ?_
    refine ch_aload_n (i := 1) d_y_carryOut_180 rfl rfl ?_
    refine ch_get (v := .inl (.int (m (4, 0, 0) 4))) d_y_carryOut_181 fl_y_75 rfl ?_
    have b35 := h.1
    replace h := h.2
    have b36 := h.1
    replace h := h.2
    refine ch_callV (as := [.inl (.int (m (4, 0, 0) 2)), .inl (.int (m (4, 0, 0) 3)), .inl (.int (m (4, 0, 0) 4))]) d_y_carryOut_184 lk_y_113 mi_y_handOver me_y_handOver rfl rfl rfl ⟨Nat.le_of_ble_eq_true rfl, Nat.le_of_ble_eq_true rfl⟩ (Nat.le_of_ble_eq_true rfl) ⟨Nat.le_of_ble_eq_true rfl, Nat.le_of_ble_eq_true rfl⟩ (ch_mono (ch_Ki (fun r32 m33 q34 => ?_)) (s_y_handOver g (fun (r_ : Int32) (m_ : ch_M) => ((y_givB (ch_ob m 1 j) (m (4, 0, 0) 2) (m (4, 0, 0) 3) (m (4, 0, 0) 4) 3 (Int32.toNatClampNeg (m (4, 0, 0) 2))) = r_ ∧ m_ = ch_os m 1 j (y_givB (ch_ob m 1 j) (m (4, 0, 0) 2) (m (4, 0, 0) 3) (m (4, 0, 0) 4)))) (j) ((m (4, 0, 0) 2)) ((m (4, 0, 0) 3)) ((m (4, 0, 0) 4)) m ⟨b35, b36, ⟨rfl, rfl⟩⟩))
    obtain ⟨rfl, hm_⟩ := q34
    replace h := h m33 hm_
    exact ch_iret (ty := .int) d_y_carryOut_187 rfl rfl (Nat.le_of_ble_eq_true rfl) h
  replace h := h.2
  by_cases e106 : (m (4, 0, 0) 1) = 106
  · replace h := h.1 e106
    refine ch_tswIn (tgt := 171) (off := 167) d_y_carryOut_4 (by rw [e106]; decide) (by rw [e106]; decide) (by rw [e106]; rfl) (by decide) ?_
    refine ch_aload_n (i := 0) d_y_carryOut_171 rfl rfl ?_
    refine ch_aload_n (i := 1) d_y_carryOut_172 rfl rfl ?_
    refine ch_get (v := .inl (.int (m (4, 0, 0) 2))) d_y_carryOut_173 fl_y_82 rfl ?_
    refine ch_aload_n (i := 1) d_y_carryOut_176 rfl rfl ?_
    refine ch_get (v := .inl (.int (m (4, 0, 0) 3))) d_y_carryOut_177 fl_y_110 rfl ?_
    refine ch_aload_n (i := 1) d_y_carryOut_180 rfl rfl ?_
    refine ch_get (v := .inl (.int (m (4, 0, 0) 4))) d_y_carryOut_181 fl_y_75 rfl ?_
    have b40 := h.1
    replace h := h.2
    have b41 := h.1
    replace h := h.2
    refine ch_callV (as := [.inl (.int (m (4, 0, 0) 2)), .inl (.int (m (4, 0, 0) 3)), .inl (.int (m (4, 0, 0) 4))]) d_y_carryOut_184 lk_y_113 mi_y_handOver me_y_handOver rfl rfl rfl ⟨Nat.le_of_ble_eq_true rfl, Nat.le_of_ble_eq_true rfl⟩ (Nat.le_of_ble_eq_true rfl) ⟨Nat.le_of_ble_eq_true rfl, Nat.le_of_ble_eq_true rfl⟩ (ch_mono (ch_Ki (fun r37 m38 q39 => ?_)) (s_y_handOver g (fun (r_ : Int32) (m_ : ch_M) => ((y_givB (ch_ob m 1 j) (m (4, 0, 0) 2) (m (4, 0, 0) 3) (m (4, 0, 0) 4) 3 (Int32.toNatClampNeg (m (4, 0, 0) 2))) = r_ ∧ m_ = ch_os m 1 j (y_givB (ch_ob m 1 j) (m (4, 0, 0) 2) (m (4, 0, 0) 3) (m (4, 0, 0) 4)))) (j) ((m (4, 0, 0) 2)) ((m (4, 0, 0) 3)) ((m (4, 0, 0) 4)) m ⟨b40, b41, ⟨rfl, rfl⟩⟩))
    obtain ⟨rfl, hm_⟩ := q39
    replace h := h m38 hm_
    exact ch_iret (ty := .int) d_y_carryOut_187 rfl rfl (Nat.le_of_ble_eq_true rfl) h
  replace h := h.2
  by_cases e107 : (m (4, 0, 0) 1) = 107
  · replace h := h.1 e107
    refine ch_tswIn (tgt := 171) (off := 167) d_y_carryOut_4 (by rw [e107]; decide) (by rw [e107]; decide) (by rw [e107]; rfl) (by decide) ?_
    refine ch_aload_n (i := 0) d_y_carryOut_171 rfl rfl ?_
    refine ch_aload_n (i := 1) d_y_carryOut_172 rfl rfl ?_
    refine ch_get (v := .inl (.int (m (4, 0, 0) 2))) d_y_carryOut_173 fl_y_82 rfl ?_
    refine ch_aload_n (i := 1) d_y_carryOut_176 rfl rfl ?_
    refine ch_get (v := .inl (.int (m (4, 0, 0) 3))) d_y_carryOut_177 fl_y_110 rfl ?_
    refine ch_aload_n (i := 1) d_y_carryOut_180 rfl rfl ?_
    refine ch_get (v := .inl (.int (m (4, 0, 0) 4))) d_y_carryOut_181 fl_y_75 rfl ?_
    have b45 := h.1
    replace h := h.2
    have b46 := h.1
    replace h := h.2
    refine ch_callV (as := [.inl (.int (m (4, 0, 0) 2)), .inl (.int (m (4, 0, 0) 3)), .inl (.int (m (4, 0, 0) 4))]) d_y_carryOut_184 lk_y_113 mi_y_handOver me_y_handOver rfl rfl rfl ⟨Nat.le_of_ble_eq_true rfl, Nat.le_of_ble_eq_true rfl⟩ (Nat.le_of_ble_eq_true rfl) ⟨Nat.le_of_ble_eq_true rfl, Nat.le_of_ble_eq_true rfl⟩ (ch_mono (ch_Ki (fun r42 m43 q44 => ?_)) (s_y_handOver g (fun (r_ : Int32) (m_ : ch_M) => ((y_givB (ch_ob m 1 j) (m (4, 0, 0) 2) (m (4, 0, 0) 3) (m (4, 0, 0) 4) 3 (Int32.toNatClampNeg (m (4, 0, 0) 2))) = r_ ∧ m_ = ch_os m 1 j (y_givB (ch_ob m 1 j) (m (4, 0, 0) 2) (m (4, 0, 0) 3) (m (4, 0, 0) 4)))) (j) ((m (4, 0, 0) 2)) ((m (4, 0, 0) 3)) ((m (4, 0, 0) 4)) m ⟨b45, b46, ⟨rfl, rfl⟩⟩))
    obtain ⟨rfl, hm_⟩ := q44
    replace h := h m43 hm_
    exact ch_iret (ty := .int) d_y_carryOut_187 rfl rfl (Nat.le_of_ble_eq_true rfl) h
  replace h := h.2
  by_cases e108 : (m (4, 0, 0) 1) = 108
  · replace h := h.1 e108
    refine ch_tswIn (tgt := 171) (off := 167) d_y_carryOut_4 (by rw [e108]; decide) (by rw [e108]; decide) (by rw [e108]; rfl) (by decide) ?_
    refine ch_aload_n (i := 0) d_y_carryOut_171 rfl rfl ?_
    refine ch_aload_n (i := 1) d_y_carryOut_172 rfl rfl ?_
    refine ch_get (v := .inl (.int (m (4, 0, 0) 2))) d_y_carryOut_173 fl_y_82 rfl ?_
    refine ch_aload_n (i := 1) d_y_carryOut_176 rfl rfl ?_
    refine ch_get (v := .inl (.int (m (4, 0, 0) 3))) d_y_carryOut_177 fl_y_110 rfl ?_
    refine ch_aload_n (i := 1) d_y_carryOut_180 rfl rfl ?_
    refine ch_get (v := .inl (.int (m (4, 0, 0) 4))) d_y_carryOut_181 fl_y_75 rfl ?_
    have b50 := h.1
    replace h := h.2
    have b51 := h.1
    replace h := h.2
    refine ch_callV (as := [.inl (.int (m (4, 0, 0) 2)), .inl (.int (m (4, 0, 0) 3)), .inl (.int (m (4, 0, 0) 4))]) d_y_carryOut_184 lk_y_113 mi_y_handOver me_y_handOver rfl rfl rfl ⟨Nat.le_of_ble_eq_true rfl, Nat.le_of_ble_eq_true rfl⟩ (Nat.le_of_ble_eq_true rfl) ⟨Nat.le_of_ble_eq_true rfl, Nat.le_of_ble_eq_true rfl⟩ (ch_mono (ch_Ki (fun r47 m48 q49 => ?_)) (s_y_handOver g (fun (r_ : Int32) (m_ : ch_M) => ((y_givB (ch_ob m 1 j) (m (4, 0, 0) 2) (m (4, 0, 0) 3) (m (4, 0, 0) 4) 3 (Int32.toNatClampNeg (m (4, 0, 0) 2))) = r_ ∧ m_ = ch_os m 1 j (y_givB (ch_ob m 1 j) (m (4, 0, 0) 2) (m (4, 0, 0) 3) (m (4, 0, 0) 4)))) (j) ((m (4, 0, 0) 2)) ((m (4, 0, 0) 3)) ((m (4, 0, 0) 4)) m ⟨b50, b51, ⟨rfl, rfl⟩⟩))
    obtain ⟨rfl, hm_⟩ := q49
    replace h := h m48 hm_
    exact ch_iret (ty := .int) d_y_carryOut_187 rfl rfl (Nat.le_of_ble_eq_true rfl) h
  replace h := h.2
  by_cases e109 : (m (4, 0, 0) 1) = 109
  · replace h := h.1 e109
    refine ch_tswIn (tgt := 171) (off := 167) d_y_carryOut_4 (by rw [e109]; decide) (by rw [e109]; decide) (by rw [e109]; rfl) (by decide) ?_
    refine ch_aload_n (i := 0) d_y_carryOut_171 rfl rfl ?_
    refine ch_aload_n (i := 1) d_y_carryOut_172 rfl rfl ?_
    refine ch_get (v := .inl (.int (m (4, 0, 0) 2))) d_y_carryOut_173 fl_y_82 rfl ?_
    refine ch_aload_n (i := 1) d_y_carryOut_176 rfl rfl ?_
    refine ch_get (v := .inl (.int (m (4, 0, 0) 3))) d_y_carryOut_177 fl_y_110 rfl ?_
    refine ch_aload_n (i := 1) d_y_carryOut_180 rfl rfl ?_
    refine ch_get (v := .inl (.int (m (4, 0, 0) 4))) d_y_carryOut_181 fl_y_75 rfl ?_
    have b55 := h.1
    replace h := h.2
    have b56 := h.1
    replace h := h.2
    refine ch_callV (as := [.inl (.int (m (4, 0, 0) 2)), .inl (.int (m (4, 0, 0) 3)), .inl (.int (m (4, 0, 0) 4))]) d_y_carryOut_184 lk_y_113 mi_y_handOver me_y_handOver rfl rfl rfl ⟨Nat.le_of_ble_eq_true rfl, Nat.le_of_ble_eq_true rfl⟩ (Nat.le_of_ble_eq_true rfl) ⟨Nat.le_of_ble_eq_true rfl, Nat.le_of_ble_eq_true rfl⟩ (ch_mono (ch_Ki (fun r52 m53 q54 => ?_)) (s_y_handOver g (fun (r_ : Int32) (m_ : ch_M) => ((y_givB (ch_ob m 1 j) (m (4, 0, 0) 2) (m (4, 0, 0) 3) (m (4, 0, 0) 4) 3 (Int32.toNatClampNeg (m (4, 0, 0) 2))) = r_ ∧ m_ = ch_os m 1 j (y_givB (ch_ob m 1 j) (m (4, 0, 0) 2) (m (4, 0, 0) 3) (m (4, 0, 0) 4)))) (j) ((m (4, 0, 0) 2)) ((m (4, 0, 0) 3)) ((m (4, 0, 0) 4)) m ⟨b55, b56, ⟨rfl, rfl⟩⟩))
    obtain ⟨rfl, hm_⟩ := q54
    replace h := h m53 hm_
    exact ch_iret (ty := .int) d_y_carryOut_187 rfl rfl (Nat.le_of_ble_eq_true rfl) h
  replace h := h.2
  by_cases e110 : (m (4, 0, 0) 1) = 110
  · replace h := h.1 e110
    refine ch_tswIn (tgt := 104) (off := 100) d_y_carryOut_4 (by rw [e110]; decide) (by rw [e110]; decide) (by rw [e110]; rfl) (by decide) ?_
    refine ch_aload_n (i := 0) d_y_carryOut_104 rfl rfl ?_
    refine ch_aload_n (i := 1) d_y_carryOut_105 rfl rfl ?_
    refine ch_get (v := .inl (.int (m (4, 0, 0) 4))) d_y_carryOut_106 fl_y_75 rfl ?_
    have b60 := h.1
    replace h := h.2
    refine ch_callV (as := [.inl (.int (m (4, 0, 0) 4))]) d_y_carryOut_109 lk_y_78 mi_y_bring me_y_bring rfl rfl rfl ⟨Nat.le_of_ble_eq_true rfl, Nat.le_of_ble_eq_true rfl⟩ (Nat.le_of_ble_eq_true rfl) ⟨Nat.le_of_ble_eq_true rfl, Nat.le_of_ble_eq_true rfl⟩ (ch_mono (ch_Ki (fun r57 m58 q59 => ?_)) (s_y_bring g (fun (r_ : Int32) (m_ : ch_M) => ((m (1, j, 0) 8 + 1 - 1) = r_ ∧ m_ = ch_os m 1 j (y_briB (ch_ob m 1 j) (m (4, 0, 0) 4)))) (j) ((m (4, 0, 0) 4)) m ⟨b60, ⟨rfl, rfl⟩⟩))
    obtain ⟨rfl, hm_⟩ := q59
    replace h := h m58 hm_
    exact ch_iret (ty := .int) d_y_carryOut_112 rfl rfl (Nat.le_of_ble_eq_true rfl) h
  replace h := h.2
  by_cases e111 : (m (4, 0, 0) 1) = 111
  · replace h := h.1 e111
    refine ch_tswIn (tgt := 171) (off := 167) d_y_carryOut_4 (by rw [e111]; decide) (by rw [e111]; decide) (by rw [e111]; rfl) (by decide) ?_
    refine ch_aload_n (i := 0) d_y_carryOut_171 rfl rfl ?_
    refine ch_aload_n (i := 1) d_y_carryOut_172 rfl rfl ?_
    refine ch_get (v := .inl (.int (m (4, 0, 0) 2))) d_y_carryOut_173 fl_y_82 rfl ?_
    refine ch_aload_n (i := 1) d_y_carryOut_176 rfl rfl ?_
    refine ch_get (v := .inl (.int (m (4, 0, 0) 3))) d_y_carryOut_177 fl_y_110 rfl ?_
    refine ch_aload_n (i := 1) d_y_carryOut_180 rfl rfl ?_
    refine ch_get (v := .inl (.int (m (4, 0, 0) 4))) d_y_carryOut_181 fl_y_75 rfl ?_
    have b64 := h.1
    replace h := h.2
    have b65 := h.1
    replace h := h.2
    refine ch_callV (as := [.inl (.int (m (4, 0, 0) 2)), .inl (.int (m (4, 0, 0) 3)), .inl (.int (m (4, 0, 0) 4))]) d_y_carryOut_184 lk_y_113 mi_y_handOver me_y_handOver rfl rfl rfl ⟨Nat.le_of_ble_eq_true rfl, Nat.le_of_ble_eq_true rfl⟩ (Nat.le_of_ble_eq_true rfl) ⟨Nat.le_of_ble_eq_true rfl, Nat.le_of_ble_eq_true rfl⟩ (ch_mono (ch_Ki (fun r61 m62 q63 => ?_)) (s_y_handOver g (fun (r_ : Int32) (m_ : ch_M) => ((y_givB (ch_ob m 1 j) (m (4, 0, 0) 2) (m (4, 0, 0) 3) (m (4, 0, 0) 4) 3 (Int32.toNatClampNeg (m (4, 0, 0) 2))) = r_ ∧ m_ = ch_os m 1 j (y_givB (ch_ob m 1 j) (m (4, 0, 0) 2) (m (4, 0, 0) 3) (m (4, 0, 0) 4)))) (j) ((m (4, 0, 0) 2)) ((m (4, 0, 0) 3)) ((m (4, 0, 0) 4)) m ⟨b64, b65, ⟨rfl, rfl⟩⟩))
    obtain ⟨rfl, hm_⟩ := q63
    replace h := h m62 hm_
    exact ch_iret (ty := .int) d_y_carryOut_187 rfl rfl (Nat.le_of_ble_eq_true rfl) h
  replace h := h.2
  by_cases e112 : (m (4, 0, 0) 1) = 112
  · replace h := h.1 e112
    refine ch_tswIn (tgt := 171) (off := 167) d_y_carryOut_4 (by rw [e112]; decide) (by rw [e112]; decide) (by rw [e112]; rfl) (by decide) ?_
    refine ch_aload_n (i := 0) d_y_carryOut_171 rfl rfl ?_
    refine ch_aload_n (i := 1) d_y_carryOut_172 rfl rfl ?_
    refine ch_get (v := .inl (.int (m (4, 0, 0) 2))) d_y_carryOut_173 fl_y_82 rfl ?_
    refine ch_aload_n (i := 1) d_y_carryOut_176 rfl rfl ?_
    refine ch_get (v := .inl (.int (m (4, 0, 0) 3))) d_y_carryOut_177 fl_y_110 rfl ?_
    refine ch_aload_n (i := 1) d_y_carryOut_180 rfl rfl ?_
    refine ch_get (v := .inl (.int (m (4, 0, 0) 4))) d_y_carryOut_181 fl_y_75 rfl ?_
    have b69 := h.1
    replace h := h.2
    have b70 := h.1
    replace h := h.2
    refine ch_callV (as := [.inl (.int (m (4, 0, 0) 2)), .inl (.int (m (4, 0, 0) 3)), .inl (.int (m (4, 0, 0) 4))]) d_y_carryOut_184 lk_y_113 mi_y_handOver me_y_handOver rfl rfl rfl ⟨Nat.le_of_ble_eq_true rfl, Nat.le_of_ble_eq_true rfl⟩ (Nat.le_of_ble_eq_true rfl) ⟨Nat.le_of_ble_eq_true rfl, Nat.le_of_ble_eq_true rfl⟩ (ch_mono (ch_Ki (fun r66 m67 q68 => ?_)) (s_y_handOver g (fun (r_ : Int32) (m_ : ch_M) => ((y_givB (ch_ob m 1 j) (m (4, 0, 0) 2) (m (4, 0, 0) 3) (m (4, 0, 0) 4) 3 (Int32.toNatClampNeg (m (4, 0, 0) 2))) = r_ ∧ m_ = ch_os m 1 j (y_givB (ch_ob m 1 j) (m (4, 0, 0) 2) (m (4, 0, 0) 3) (m (4, 0, 0) 4)))) (j) ((m (4, 0, 0) 2)) ((m (4, 0, 0) 3)) ((m (4, 0, 0) 4)) m ⟨b69, b70, ⟨rfl, rfl⟩⟩))
    obtain ⟨rfl, hm_⟩ := q68
    replace h := h m67 hm_
    exact ch_iret (ty := .int) d_y_carryOut_187 rfl rfl (Nat.le_of_ble_eq_true rfl) h
  replace h := h.2
  by_cases e113 : (m (4, 0, 0) 1) = 113
  · replace h := h.1 e113
    refine ch_tswIn (tgt := 171) (off := 167) d_y_carryOut_4 (by rw [e113]; decide) (by rw [e113]; decide) (by rw [e113]; rfl) (by decide) ?_
    refine ch_aload_n (i := 0) d_y_carryOut_171 rfl rfl ?_
    refine ch_aload_n (i := 1) d_y_carryOut_172 rfl rfl ?_
    refine ch_get (v := .inl (.int (m (4, 0, 0) 2))) d_y_carryOut_173 fl_y_82 rfl ?_
    refine ch_aload_n (i := 1) d_y_carryOut_176 rfl rfl ?_
    refine ch_get (v := .inl (.int (m (4, 0, 0) 3))) d_y_carryOut_177 fl_y_110 rfl ?_
    refine ch_aload_n (i := 1) d_y_carryOut_180 rfl rfl ?_
    refine ch_get (v := .inl (.int (m (4, 0, 0) 4))) d_y_carryOut_181 fl_y_75 rfl ?_
    have b74 := h.1
    replace h := h.2
    have b75 := h.1
    replace h := h.2
    refine ch_callV (as := [.inl (.int (m (4, 0, 0) 2)), .inl (.int (m (4, 0, 0) 3)), .inl (.int (m (4, 0, 0) 4))]) d_y_carryOut_184 lk_y_113 mi_y_handOver me_y_handOver rfl rfl rfl ⟨Nat.le_of_ble_eq_true rfl, Nat.le_of_ble_eq_true rfl⟩ (Nat.le_of_ble_eq_true rfl) ⟨Nat.le_of_ble_eq_true rfl, Nat.le_of_ble_eq_true rfl⟩ (ch_mono (ch_Ki (fun r71 m72 q73 => ?_)) (s_y_handOver g (fun (r_ : Int32) (m_ : ch_M) => ((y_givB (ch_ob m 1 j) (m (4, 0, 0) 2) (m (4, 0, 0) 3) (m (4, 0, 0) 4) 3 (Int32.toNatClampNeg (m (4, 0, 0) 2))) = r_ ∧ m_ = ch_os m 1 j (y_givB (ch_ob m 1 j) (m (4, 0, 0) 2) (m (4, 0, 0) 3) (m (4, 0, 0) 4)))) (j) ((m (4, 0, 0) 2)) ((m (4, 0, 0) 3)) ((m (4, 0, 0) 4)) m ⟨b74, b75, ⟨rfl, rfl⟩⟩))
    obtain ⟨rfl, hm_⟩ := q73
    replace h := h m72 hm_
    exact ch_iret (ty := .int) d_y_carryOut_187 rfl rfl (Nat.le_of_ble_eq_true rfl) h
  replace h := h.2
  by_cases e114 : (m (4, 0, 0) 1) = 114
  · replace h := h.1 e114
    refine ch_tswIn (tgt := 157) (off := 153) d_y_carryOut_4 (by rw [e114]; decide) (by rw [e114]; decide) (by rw [e114]; rfl) (by decide) ?_
    refine ch_aload_n (i := 0) d_y_carryOut_157 rfl rfl ?_
    refine ch_aload_n (i := 1) d_y_carryOut_158 rfl rfl ?_
    refine ch_get (v := .inl (.int (m (4, 0, 0) 4))) d_y_carryOut_159 fl_y_75 rfl ?_
    have b79 := h.1
    replace h := h.2
    have b80 := h.1
    replace h := h.2
    refine ch_callV (as := [.inl (.int (m (4, 0, 0) 4))]) d_y_carryOut_162 lk_y_103 mi_y_wash me_y_wash rfl rfl rfl ⟨Nat.le_of_ble_eq_true rfl, Nat.le_of_ble_eq_true rfl⟩ (Nat.le_of_ble_eq_true rfl) ⟨Nat.le_of_ble_eq_true rfl, Nat.le_of_ble_eq_true rfl⟩ (ch_mono (ch_Ki (fun r76 m77 q78 => ?_)) (s_y_wash g (fun (r_ : Int32) (m_ : ch_M) => ((y_washR (ch_ob m 1 j) (m (4, 0, 0) 4)) = r_ ∧ m_ = ch_os m 1 j (y_washB (ch_ob m 1 j) (m (4, 0, 0) 4)))) (j) ((m (4, 0, 0) 4)) m ⟨b79, b80, ⟨rfl, rfl⟩⟩))
    obtain ⟨rfl, hm_⟩ := q78
    replace h := h m77 hm_
    exact ch_iret (ty := .int) d_y_carryOut_165 rfl rfl (Nat.le_of_ble_eq_true rfl) h
  replace h := h.2
  by_cases e115 : (m (4, 0, 0) 1) = 115
  · replace h := h.1 e115
    refine ch_tswIn (tgt := 148) (off := 144) d_y_carryOut_4 (by rw [e115]; decide) (by rw [e115]; decide) (by rw [e115]; rfl) (by decide) ?_
    refine ch_aload_n (i := 0) d_y_carryOut_148 rfl rfl ?_
    refine ch_aload_n (i := 1) d_y_carryOut_149 rfl rfl ?_
    refine ch_get (v := .inl (.int (m (4, 0, 0) 2))) d_y_carryOut_150 fl_y_82 rfl ?_
    have b84 := h.1
    replace h := h.2
    have b85 := h.1
    replace h := h.2
    have b86 := h.1
    replace h := h.2
    refine ch_callV (as := [.inl (.int (m (4, 0, 0) 2))]) d_y_carryOut_153 lk_y_100 mi_y_strikeOut me_y_strikeOut rfl rfl rfl ⟨Nat.le_of_ble_eq_true rfl, Nat.le_of_ble_eq_true rfl⟩ (Nat.le_of_ble_eq_true rfl) ⟨Nat.le_of_ble_eq_true rfl, Nat.le_of_ble_eq_true rfl⟩ (ch_mono (ch_Ki (fun r81 m82 q83 => ?_)) (s_y_strikeOut g (fun (r_ : Int32) (m_ : ch_M) => ((m (1, j, 3) (Int32.toNatClampNeg (m (4, 0, 0) 2)) - m (1, j, 5) (Int32.toNatClampNeg (m (4, 0, 0) 2))) = r_ ∧ m_ = ch_os m 1 j (y_strB (ch_ob m 1 j) (m (4, 0, 0) 2)))) (j) ((m (4, 0, 0) 2)) m ⟨b84, b85, b86, ⟨rfl, rfl⟩⟩))
    obtain ⟨rfl, hm_⟩ := q83
    replace h := h m82 hm_
    exact ch_iret (ty := .int) d_y_carryOut_156 rfl rfl (Nat.le_of_ble_eq_true rfl) h
  replace h := h.2
  by_cases e116 : (m (4, 0, 0) 1) = 116
  · replace h := h.1 e116
    refine ch_tswIn (tgt := 166) (off := 162) d_y_carryOut_4 (by rw [e116]; decide) (by rw [e116]; decide) (by rw [e116]; rfl) (by decide) ?_
    refine ch_aload_n (i := 0) d_y_carryOut_166 rfl rfl ?_
    have b90 := h.1
    replace h := h.2
    refine ch_callV (as := []) d_y_carryOut_167 lk_y_106 mi_y_endTerm me_y_endTerm rfl rfl rfl ⟨Nat.le_of_ble_eq_true rfl, Nat.le_of_ble_eq_true rfl⟩ (Nat.le_of_ble_eq_true rfl) ⟨Nat.le_of_ble_eq_true rfl, Nat.le_of_ble_eq_true rfl⟩ (ch_mono (ch_Ki (fun r87 m88 q89 => ?_)) (s_y_endTerm g (fun (r_ : Int32) (m_ : ch_M) => ((y_termR (ch_ob m 1 j)) = r_ ∧ m_ = ch_os m 1 j (y_termB (ch_ob m 1 j)))) (j) m ⟨b90, ⟨rfl, rfl⟩⟩))
    obtain ⟨rfl, hm_⟩ := q89
    replace h := h m88 hm_
    exact ch_iret (ty := .int) d_y_carryOut_170 rfl rfl (Nat.le_of_ble_eq_true rfl) h
  replace h := h.2
  by_cases e117 : (m (4, 0, 0) 1) = 117
  · replace h := h.1 e117
    refine ch_tswIn (tgt := 171) (off := 167) d_y_carryOut_4 (by rw [e117]; decide) (by rw [e117]; decide) (by rw [e117]; rfl) (by decide) ?_
    refine ch_aload_n (i := 0) d_y_carryOut_171 rfl rfl ?_
    refine ch_aload_n (i := 1) d_y_carryOut_172 rfl rfl ?_
    refine ch_get (v := .inl (.int (m (4, 0, 0) 2))) d_y_carryOut_173 fl_y_82 rfl ?_
    refine ch_aload_n (i := 1) d_y_carryOut_176 rfl rfl ?_
    refine ch_get (v := .inl (.int (m (4, 0, 0) 3))) d_y_carryOut_177 fl_y_110 rfl ?_
    refine ch_aload_n (i := 1) d_y_carryOut_180 rfl rfl ?_
    refine ch_get (v := .inl (.int (m (4, 0, 0) 4))) d_y_carryOut_181 fl_y_75 rfl ?_
    have b94 := h.1
    replace h := h.2
    have b95 := h.1
    replace h := h.2
    refine ch_callV (as := [.inl (.int (m (4, 0, 0) 2)), .inl (.int (m (4, 0, 0) 3)), .inl (.int (m (4, 0, 0) 4))]) d_y_carryOut_184 lk_y_113 mi_y_handOver me_y_handOver rfl rfl rfl ⟨Nat.le_of_ble_eq_true rfl, Nat.le_of_ble_eq_true rfl⟩ (Nat.le_of_ble_eq_true rfl) ⟨Nat.le_of_ble_eq_true rfl, Nat.le_of_ble_eq_true rfl⟩ (ch_mono (ch_Ki (fun r91 m92 q93 => ?_)) (s_y_handOver g (fun (r_ : Int32) (m_ : ch_M) => ((y_givB (ch_ob m 1 j) (m (4, 0, 0) 2) (m (4, 0, 0) 3) (m (4, 0, 0) 4) 3 (Int32.toNatClampNeg (m (4, 0, 0) 2))) = r_ ∧ m_ = ch_os m 1 j (y_givB (ch_ob m 1 j) (m (4, 0, 0) 2) (m (4, 0, 0) 3) (m (4, 0, 0) 4)))) (j) ((m (4, 0, 0) 2)) ((m (4, 0, 0) 3)) ((m (4, 0, 0) 4)) m ⟨b94, b95, ⟨rfl, rfl⟩⟩))
    obtain ⟨rfl, hm_⟩ := q93
    replace h := h m92 hm_
    exact ch_iret (ty := .int) d_y_carryOut_187 rfl rfl (Nat.le_of_ble_eq_true rfl) h
  replace h := h.2
  by_cases e118 : (m (4, 0, 0) 1) = 118
  · replace h := h.1 e118
    refine ch_tswIn (tgt := 171) (off := 167) d_y_carryOut_4 (by rw [e118]; decide) (by rw [e118]; decide) (by rw [e118]; rfl) (by decide) ?_
    refine ch_aload_n (i := 0) d_y_carryOut_171 rfl rfl ?_
    refine ch_aload_n (i := 1) d_y_carryOut_172 rfl rfl ?_
    refine ch_get (v := .inl (.int (m (4, 0, 0) 2))) d_y_carryOut_173 fl_y_82 rfl ?_
    refine ch_aload_n (i := 1) d_y_carryOut_176 rfl rfl ?_
    refine ch_get (v := .inl (.int (m (4, 0, 0) 3))) d_y_carryOut_177 fl_y_110 rfl ?_
    refine ch_aload_n (i := 1) d_y_carryOut_180 rfl rfl ?_
    refine ch_get (v := .inl (.int (m (4, 0, 0) 4))) d_y_carryOut_181 fl_y_75 rfl ?_
    have b99 := h.1
    replace h := h.2
    have b100 := h.1
    replace h := h.2
    refine ch_callV (as := [.inl (.int (m (4, 0, 0) 2)), .inl (.int (m (4, 0, 0) 3)), .inl (.int (m (4, 0, 0) 4))]) d_y_carryOut_184 lk_y_113 mi_y_handOver me_y_handOver rfl rfl rfl ⟨Nat.le_of_ble_eq_true rfl, Nat.le_of_ble_eq_true rfl⟩ (Nat.le_of_ble_eq_true rfl) ⟨Nat.le_of_ble_eq_true rfl, Nat.le_of_ble_eq_true rfl⟩ (ch_mono (ch_Ki (fun r96 m97 q98 => ?_)) (s_y_handOver g (fun (r_ : Int32) (m_ : ch_M) => ((y_givB (ch_ob m 1 j) (m (4, 0, 0) 2) (m (4, 0, 0) 3) (m (4, 0, 0) 4) 3 (Int32.toNatClampNeg (m (4, 0, 0) 2))) = r_ ∧ m_ = ch_os m 1 j (y_givB (ch_ob m 1 j) (m (4, 0, 0) 2) (m (4, 0, 0) 3) (m (4, 0, 0) 4)))) (j) ((m (4, 0, 0) 2)) ((m (4, 0, 0) 3)) ((m (4, 0, 0) 4)) m ⟨b99, b100, ⟨rfl, rfl⟩⟩))
    obtain ⟨rfl, hm_⟩ := q98
    replace h := h m97 hm_
    exact ch_iret (ty := .int) d_y_carryOut_187 rfl rfl (Nat.le_of_ble_eq_true rfl) h
  replace h := h.2
  by_cases e119 : (m (4, 0, 0) 1) = 119
  · replace h := h.1 e119
    refine ch_tswIn (tgt := 139) (off := 135) d_y_carryOut_4 (by rw [e119]; decide) (by rw [e119]; decide) (by rw [e119]; rfl) (by decide) ?_
    refine ch_aload_n (i := 0) d_y_carryOut_139 rfl rfl ?_
    refine ch_aload_n (i := 1) d_y_carryOut_140 rfl rfl ?_
    refine ch_get (v := .inl (.int (m (4, 0, 0) 2))) d_y_carryOut_141 fl_y_82 rfl ?_
    have b104 := h.1
    replace h := h.2
    have b105 := h.1
    replace h := h.2
    refine ch_callV (as := [.inl (.int (m (4, 0, 0) 2))]) d_y_carryOut_144 lk_y_97 mi_y_writeAgainst me_y_writeAgainst rfl rfl rfl ⟨Nat.le_of_ble_eq_true rfl, Nat.le_of_ble_eq_true rfl⟩ (Nat.le_of_ble_eq_true rfl) ⟨Nat.le_of_ble_eq_true rfl, Nat.le_of_ble_eq_true rfl⟩ (ch_mono (ch_Ki (fun r101 m102 q103 => ?_)) (s_y_writeAgainst g (fun (r_ : Int32) (m_ : ch_M) => ((if 9 < m (1, j, 4) (Int32.toNatClampNeg (m (4, 0, 0) 2)) then 9 else m (1, j, 4) (Int32.toNatClampNeg (m (4, 0, 0) 2))) = r_ ∧ m_ = ch_os m 1 j (y_wriB (ch_ob m 1 j) (m (4, 0, 0) 2)))) (j) ((m (4, 0, 0) 2)) m ⟨b104, b105, ⟨rfl, rfl⟩⟩))
    obtain ⟨rfl, hm_⟩ := q103
    replace h := h m102 hm_
    exact ch_iret (ty := .int) d_y_carryOut_147 rfl rfl (Nat.le_of_ble_eq_true rfl) h
  replace h := h.2
  have hx : (Int32.toInt (m (4, 0, 0) 1) < 99 ∨ 119 < Int32.toInt (m (4, 0, 0) 1)) := by
    have f99 : Int32.toInt (m (4, 0, 0) 1) ≠ 99 := fun q => e99 (Int32.toInt_inj.mp (q.trans (by decide)))
    have f100 : Int32.toInt (m (4, 0, 0) 1) ≠ 100 := fun q => e100 (Int32.toInt_inj.mp (q.trans (by decide)))
    have f101 : Int32.toInt (m (4, 0, 0) 1) ≠ 101 := fun q => e101 (Int32.toInt_inj.mp (q.trans (by decide)))
    have f102 : Int32.toInt (m (4, 0, 0) 1) ≠ 102 := fun q => e102 (Int32.toInt_inj.mp (q.trans (by decide)))
    have f103 : Int32.toInt (m (4, 0, 0) 1) ≠ 103 := fun q => e103 (Int32.toInt_inj.mp (q.trans (by decide)))
    have f104 : Int32.toInt (m (4, 0, 0) 1) ≠ 104 := fun q => e104 (Int32.toInt_inj.mp (q.trans (by decide)))
    have f105 : Int32.toInt (m (4, 0, 0) 1) ≠ 105 := fun q => e105 (Int32.toInt_inj.mp (q.trans (by decide)))
    have f106 : Int32.toInt (m (4, 0, 0) 1) ≠ 106 := fun q => e106 (Int32.toInt_inj.mp (q.trans (by decide)))
    have f107 : Int32.toInt (m (4, 0, 0) 1) ≠ 107 := fun q => e107 (Int32.toInt_inj.mp (q.trans (by decide)))
    have f108 : Int32.toInt (m (4, 0, 0) 1) ≠ 108 := fun q => e108 (Int32.toInt_inj.mp (q.trans (by decide)))
    have f109 : Int32.toInt (m (4, 0, 0) 1) ≠ 109 := fun q => e109 (Int32.toInt_inj.mp (q.trans (by decide)))
    have f110 : Int32.toInt (m (4, 0, 0) 1) ≠ 110 := fun q => e110 (Int32.toInt_inj.mp (q.trans (by decide)))
    have f111 : Int32.toInt (m (4, 0, 0) 1) ≠ 111 := fun q => e111 (Int32.toInt_inj.mp (q.trans (by decide)))
    have f112 : Int32.toInt (m (4, 0, 0) 1) ≠ 112 := fun q => e112 (Int32.toInt_inj.mp (q.trans (by decide)))
    have f113 : Int32.toInt (m (4, 0, 0) 1) ≠ 113 := fun q => e113 (Int32.toInt_inj.mp (q.trans (by decide)))
    have f114 : Int32.toInt (m (4, 0, 0) 1) ≠ 114 := fun q => e114 (Int32.toInt_inj.mp (q.trans (by decide)))
    have f115 : Int32.toInt (m (4, 0, 0) 1) ≠ 115 := fun q => e115 (Int32.toInt_inj.mp (q.trans (by decide)))
    have f116 : Int32.toInt (m (4, 0, 0) 1) ≠ 116 := fun q => e116 (Int32.toInt_inj.mp (q.trans (by decide)))
    have f117 : Int32.toInt (m (4, 0, 0) 1) ≠ 117 := fun q => e117 (Int32.toInt_inj.mp (q.trans (by decide)))
    have f118 : Int32.toInt (m (4, 0, 0) 1) ≠ 118 := fun q => e118 (Int32.toInt_inj.mp (q.trans (by decide)))
    have f119 : Int32.toInt (m (4, 0, 0) 1) ≠ 119 := fun q => e119 (Int32.toInt_inj.mp (q.trans (by decide)))
    omega
  replace h := h hx
  refine ch_tswOut (tgt := 171) d_y_carryOut_4 hx (by decide) ?_
  refine ch_aload_n (i := 0) d_y_carryOut_171 rfl rfl ?_
  refine ch_aload_n (i := 1) d_y_carryOut_172 rfl rfl ?_
  refine ch_get (v := .inl (.int (m (4, 0, 0) 2))) d_y_carryOut_173 fl_y_82 rfl ?_
  refine ch_aload_n (i := 1) d_y_carryOut_176 rfl rfl ?_
  refine ch_get (v := .inl (.int (m (4, 0, 0) 3))) d_y_carryOut_177 fl_y_110 rfl ?_
  refine ch_aload_n (i := 1) d_y_carryOut_180 rfl rfl ?_
  refine ch_get (v := .inl (.int (m (4, 0, 0) 4))) d_y_carryOut_181 fl_y_75 rfl ?_
  have b109 := h.1
  replace h := h.2
  have b110 := h.1
  replace h := h.2
  refine ch_callV (as := [.inl (.int (m (4, 0, 0) 2)), .inl (.int (m (4, 0, 0) 3)), .inl (.int (m (4, 0, 0) 4))]) d_y_carryOut_184 lk_y_113 mi_y_handOver me_y_handOver rfl rfl rfl ⟨Nat.le_of_ble_eq_true rfl, Nat.le_of_ble_eq_true rfl⟩ (Nat.le_of_ble_eq_true rfl) ⟨Nat.le_of_ble_eq_true rfl, Nat.le_of_ble_eq_true rfl⟩ (ch_mono (ch_Ki (fun r106 m107 q108 => ?_)) (s_y_handOver g (fun (r_ : Int32) (m_ : ch_M) => ((y_givB (ch_ob m 1 j) (m (4, 0, 0) 2) (m (4, 0, 0) 3) (m (4, 0, 0) 4) 3 (Int32.toNatClampNeg (m (4, 0, 0) 2))) = r_ ∧ m_ = ch_os m 1 j (y_givB (ch_ob m 1 j) (m (4, 0, 0) 2) (m (4, 0, 0) 3) (m (4, 0, 0) 4)))) (j) ((m (4, 0, 0) 2)) ((m (4, 0, 0) 3)) ((m (4, 0, 0) 4)) m ⟨b109, b110, ⟨rfl, rfl⟩⟩))
  obtain ⟨rfl, hm_⟩ := q108
  replace h := h m107 hm_
  exact ch_iret (ty := .int) d_y_carryOut_187 rfl rfl (Nat.le_of_ble_eq_true rfl) h
theorem e_t_put (g : ch_G) (Q : ch_O → ch_M → Prop) (j : Nat) (p1 : Int32) (m : ch_M) (h : ch_J g m_t_put (ch_rm m_t_put) (ch_E g m_t_put Q) 0 [some (.inr (6, j, 0)), some (.inl (.int p1))] [] m 0) : ch_C g m_t_put [.inr (6, j, 0), .inl (.int p1)] m Q :=
  ch_enter mf_t_put (by intro v hv; simp only [List.mem_cons, List.not_mem_nil, or_false] at hv; rcases hv with rfl | rfl <;> rfl) (Nat.le_of_ble_eq_true rfl) h
set_option maxHeartbeats 1600000 in
theorem g_t_put_0 (g : ch_G) (Q : ch_O → ch_M → Prop) (j : Nat) (p1 : Int32) (m : ch_M) (h : ((60 ≤ (m (6, j, 0) 1) → Q (.inl none) m) ∧ (¬ 60 ≤ (m (6, j, 0) 1) → (vp_in (m (6, j, 0) 1) 60) ∧ (∀ m2 : ch_M, m2 = ch_wr m (6, j, 1) (Int32.toNatClampNeg (m (6, j, 0) 1)) (vp_nar .char p1) → (∀ m3 : ch_M, m3 = ch_wr m2 (6, j, 0) 1 ((m2 (6, j, 0) 1) + 1) → Q (.inl none) m3))))) : ch_J g m_t_put (ch_rm m_t_put) (ch_E g m_t_put Q) 0 [some (.inr (6, j, 0)), some (.inl (.int p1))] [] m 0 := by
  refine ch_aload_n (i := 0) d_t_put_0 rfl rfl ?_
  refine ch_get (v := .inl (.int (m (6, j, 0) 1))) d_t_put_1 fl_t_15 rfl ?_
  refine ch_aload_n (i := 0) d_t_put_4 rfl rfl ?_
  refine ch_get (v := .inr (6, j, 1)) d_t_put_5 fl_t_9 rfl ?_
  refine ch_alen (v := 60) d_t_put_8 (by decide) (t := 1) (by decide) rfl rfl ?_
  refine ch_icmp_ge (tgt := 32) d_t_put_9 (by decide) (fun c => ?_) (fun c => ?_)
  · replace h := h.1 c
    exact ch_vret d_t_put_32 rfl (Nat.le_of_ble_eq_true rfl) h
  · replace h := h.2 c
    refine ch_aload_n (i := 0) d_t_put_12 rfl rfl ?_
    refine ch_get (v := .inr (6, j, 1)) d_t_put_13 fl_t_9 rfl ?_
    refine ch_aload_n (i := 0) d_t_put_16 rfl rfl ?_
    refine ch_get (v := .inl (.int (m (6, j, 0) 1))) d_t_put_17 fl_t_15 rfl ?_
    refine ch_iload_n (i := 1) d_t_put_20 rfl rfl ?_
    have b1 := h.1
    replace h := h.2
    refine ch_cast (n := 60) d_t_put_21 (by decide) rfl b1 ?_
    show ch_J g _ _ _ _ _ _ (ch_wr m (6, j, 1) (Int32.toNatClampNeg (m (6, j, 0) 1)) (vp_nar .char p1)) _
    generalize hmm2 : ch_wr m (6, j, 1) (Int32.toNatClampNeg (m (6, j, 0) 1)) (vp_nar .char p1) = m2
    replace h := h m2 hmm2.symm
    refine ch_aload_n (i := 0) d_t_put_22 rfl rfl ?_
    refine ch_dup d_t_put_23 rfl ?_
    refine ch_get (v := .inl (.int (m2 (6, j, 0) 1))) d_t_put_24 fl_t_15 rfl ?_
    refine ch_iconst (v := 1) d_t_put_27 (by decide) ?_
    refine ch_iadd d_t_put_28 ?_
    refine ch_put d_t_put_29 fp_t_15 rfl rfl rfl ?_
    generalize hmm3 : ch_wr m2 (6, j, 0) 1 ((m2 (6, j, 0) 1) + 1) = m3
    replace h := h m3 hmm3.symm
    exact ch_vret d_t_put_32 rfl (Nat.le_of_ble_eq_true rfl) h
theorem e_s_add (g : ch_G) (Q : ch_O → ch_M → Prop) (j : Nat) (p1 : Int32) (m : ch_M) (h : ch_J g m_s_add (ch_rm m_s_add) (ch_E g m_s_add Q) 0 [some (.inr (5, j, 0)), some (.inl (.int p1))] [] m 0) : ch_C g m_s_add [.inr (5, j, 0), .inl (.int p1)] m Q :=
  ch_enter mf_s_add (by intro v hv; simp only [List.mem_cons, List.not_mem_nil, or_false] at hv; rcases hv with rfl | rfl <;> rfl) (Nat.le_of_ble_eq_true rfl) h
set_option maxHeartbeats 1600000 in
theorem g_s_add_0 (g : ch_G) (Q : ch_O → ch_M → Prop) (j : Nat) (p1 : Int32) (m : ch_M) (h : ((12 ≤ (m (5, j, 0) 1) → Q (.inl none) m) ∧ (¬ 12 ≤ (m (5, j, 0) 1) → (vp_in (m (5, j, 0) 1) 12) ∧ (∀ m2 : ch_M, m2 = ch_wr m (5, j, 1) (Int32.toNatClampNeg (m (5, j, 0) 1)) p1 → (∀ m3 : ch_M, m3 = ch_wr m2 (5, j, 0) 1 ((m2 (5, j, 0) 1) + 1) → Q (.inl none) m3))))) : ch_J g m_s_add (ch_rm m_s_add) (ch_E g m_s_add Q) 0 [some (.inr (5, j, 0)), some (.inl (.int p1))] [] m 0 := by
  refine ch_aload_n (i := 0) d_s_add_0 rfl rfl ?_
  refine ch_get (v := .inl (.int (m (5, j, 0) 1))) d_s_add_1 fl_s_15 rfl ?_
  refine ch_aload_n (i := 0) d_s_add_4 rfl rfl ?_
  refine ch_get (v := .inr (5, j, 1)) d_s_add_5 fl_s_9 rfl ?_
  refine ch_alen (v := 12) d_s_add_8 (by decide) (t := 0) (by decide) rfl rfl ?_
  refine ch_icmp_ge (tgt := 32) d_s_add_9 (by decide) (fun c => ?_) (fun c => ?_)
  · replace h := h.1 c
    exact ch_vret d_s_add_32 rfl (Nat.le_of_ble_eq_true rfl) h
  · replace h := h.2 c
    refine ch_aload_n (i := 0) d_s_add_12 rfl rfl ?_
    refine ch_get (v := .inr (5, j, 1)) d_s_add_13 fl_s_9 rfl ?_
    refine ch_aload_n (i := 0) d_s_add_16 rfl rfl ?_
    refine ch_get (v := .inl (.int (m (5, j, 0) 1))) d_s_add_17 fl_s_15 rfl ?_
    refine ch_iload_n (i := 1) d_s_add_20 rfl rfl ?_
    have b1 := h.1
    replace h := h.2
    refine ch_iast (n := 12) d_s_add_21 (by decide) rfl b1 ?_
    show ch_J g _ _ _ _ _ _ (ch_wr m (5, j, 1) (Int32.toNatClampNeg (m (5, j, 0) 1)) p1) _
    generalize hmm2 : ch_wr m (5, j, 1) (Int32.toNatClampNeg (m (5, j, 0) 1)) p1 = m2
    replace h := h m2 hmm2.symm
    refine ch_aload_n (i := 0) d_s_add_22 rfl rfl ?_
    refine ch_dup d_s_add_23 rfl ?_
    refine ch_get (v := .inl (.int (m2 (5, j, 0) 1))) d_s_add_24 fl_s_15 rfl ?_
    refine ch_iconst (v := 1) d_s_add_27 (by decide) ?_
    refine ch_iadd d_s_add_28 ?_
    refine ch_put d_s_add_29 fp_s_15 rfl rfl rfl ?_
    generalize hmm3 : ch_wr m2 (5, j, 0) 1 ((m2 (5, j, 0) 1) + 1) = m3
    replace h := h m3 hmm3.symm
    exact ch_vret d_s_add_32 rfl (Nat.le_of_ble_eq_true rfl) h
theorem e_c_set (g : ch_G) (Q : ch_O → ch_M → Prop) (p1 : Int32) (p2 : Int32) (p3 : Int32) (p4 : Int32) (m : ch_M) (h : ch_J g m_c_set (ch_rm m_c_set) (ch_E g m_c_set Q) 0 [some (.inr (4, 0, 0)), some (.inl (.int p1)), some (.inl (.int p2)), some (.inl (.int p3)), some (.inl (.int p4))] [] m 0) : ch_C g m_c_set [.inr (4, 0, 0), .inl (.int p1), .inl (.int p2), .inl (.int p3), .inl (.int p4)] m Q :=
  ch_enter mf_c_set (by intro v hv; simp only [List.mem_cons, List.not_mem_nil, or_false] at hv; rcases hv with rfl | rfl | rfl | rfl | rfl <;> rfl) (Nat.le_of_ble_eq_true rfl) h
set_option maxHeartbeats 1600000 in
theorem g_c_set_0 (g : ch_G) (Q : ch_O → ch_M → Prop) (p1 : Int32) (p2 : Int32) (p3 : Int32) (p4 : Int32) (m : ch_M) (h : (∀ m1 : ch_M, m1 = ch_wr m (4, 0, 0) 1 p1 → (∀ m2 : ch_M, m2 = ch_wr m1 (4, 0, 0) 2 p2 → (∀ m3 : ch_M, m3 = ch_wr m2 (4, 0, 0) 3 p3 → (∀ m4 : ch_M, m4 = ch_wr m3 (4, 0, 0) 4 p4 → Q (.inl none) m4))))) : ch_J g m_c_set (ch_rm m_c_set) (ch_E g m_c_set Q) 0 [some (.inr (4, 0, 0)), some (.inl (.int p1)), some (.inl (.int p2)), some (.inl (.int p3)), some (.inl (.int p4))] [] m 0 := by
  refine ch_aload_n (i := 0) d_c_set_0 rfl rfl ?_
  refine ch_iload_n (i := 1) d_c_set_1 rfl rfl ?_
  refine ch_put d_c_set_2 fp_c_16 rfl rfl rfl ?_
  generalize hmm1 : ch_wr m (4, 0, 0) 1 p1 = m1
  replace h := h m1 hmm1.symm
  refine ch_aload_n (i := 0) d_c_set_5 rfl rfl ?_
  refine ch_iload_n (i := 2) d_c_set_6 rfl rfl ?_
  refine ch_put d_c_set_7 fp_c_20 rfl rfl rfl ?_
  generalize hmm2 : ch_wr m1 (4, 0, 0) 2 p2 = m2
  replace h := h m2 hmm2.symm
  refine ch_aload_n (i := 0) d_c_set_10 rfl rfl ?_
  refine ch_iload_n (i := 3) d_c_set_11 rfl rfl ?_
  refine ch_put d_c_set_12 fp_c_23 rfl rfl rfl ?_
  generalize hmm3 : ch_wr m2 (4, 0, 0) 3 p3 = m3
  replace h := h m3 hmm3.symm
  refine ch_aload_n (i := 0) d_c_set_15 rfl rfl ?_
  refine ch_iload d_c_set_16 rfl ?_
  refine ch_put d_c_set_18 fp_c_26 rfl rfl rfl ?_
  generalize hmm4 : ch_wr m3 (4, 0, 0) 4 p4 = m4
  replace h := h m4 hmm4.symm
  exact ch_vret d_c_set_21 rfl (Nat.le_of_ble_eq_true rfl) h
