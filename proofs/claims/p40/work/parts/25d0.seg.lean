theorem e_r_refuse (g : ch_G) (Q : ch_O → ch_M → Prop) (j1 : Nat) (m : ch_M) (h : ch_J g m_r_refuse (ch_rm m_r_refuse) (ch_E g m_r_refuse Q) 0 [some (.inr (3, 0, 0)), some (.inr (1, j1, 0)), some (.inr (4, 0, 0))] [] m 0) : ch_C g m_r_refuse [.inr (3, 0, 0), .inr (1, j1, 0), .inr (4, 0, 0)] m Q :=
  ch_enter mf_r_refuse (by intro v hv; simp only [List.mem_cons, List.not_mem_nil, or_false] at hv; rcases hv with rfl | rfl | rfl <;> rfl) (Nat.le_of_ble_eq_true rfl) h
set_option maxHeartbeats 1600000 in
theorem g_r_refuse_0 (g : ch_G) (Q : ch_O → ch_M → Prop) (j1 : Nat) (m : ch_M) (h : (((m (4, 0, 0) 1) = 99 → (vp_in (m (1, j1, 0) 8) 6) ∧ ((((r_wc (ch_ob m 1 j1) (m (4, 0, 0) 2) (m (4, 0, 0) 4)).1 = 0) → Q (.inl (some (.inl (.int 0)))) m) ∧ ((¬ (r_wc (ch_ob m 1 j1) (m (4, 0, 0) 2) (m (4, 0, 0) 4)).1 = 0) → (∀ m2 : ch_M, m2 = r_kp m (r_wc (ch_ob m 1 j1) (m (4, 0, 0) 2) (m (4, 0, 0) 4)).1 (r_wc (ch_ob m 1 j1) (m (4, 0, 0) 2) (m (4, 0, 0) 4)).2 → Q (.inl (some (.inl (.int 1)))) m2)))) ∧ ((m (4, 0, 0) 1) = 100 → (vp_in (m (1, j1, 0) 8) 6) ∧ ((((r_wg (ch_ob m 1 j1) (m (4, 0, 0) 2) (m (4, 0, 0) 3) (m (4, 0, 0) 4)).1 = 0) → Q (.inl (some (.inl (.int 0)))) m) ∧ ((¬ (r_wg (ch_ob m 1 j1) (m (4, 0, 0) 2) (m (4, 0, 0) 3) (m (4, 0, 0) 4)).1 = 0) → (∀ m6 : ch_M, m6 = r_kp m (r_wg (ch_ob m 1 j1) (m (4, 0, 0) 2) (m (4, 0, 0) 3) (m (4, 0, 0) 4)).1 (r_wg (ch_ob m 1 j1) (m (4, 0, 0) 2) (m (4, 0, 0) 3) (m (4, 0, 0) 4)).2 → Q (.inl (some (.inl (.int 1)))) m6)))) ∧ ((m (4, 0, 0) 1) = 101 → (vp_in (m (1, j1, 0) 8) 6) ∧ ((((r_wg (ch_ob m 1 j1) (m (4, 0, 0) 2) (m (4, 0, 0) 3) (m (4, 0, 0) 4)).1 = 0) → Q (.inl (some (.inl (.int 0)))) m) ∧ ((¬ (r_wg (ch_ob m 1 j1) (m (4, 0, 0) 2) (m (4, 0, 0) 3) (m (4, 0, 0) 4)).1 = 0) → (∀ m10 : ch_M, m10 = r_kp m (r_wg (ch_ob m 1 j1) (m (4, 0, 0) 2) (m (4, 0, 0) 3) (m (4, 0, 0) 4)).1 (r_wg (ch_ob m 1 j1) (m (4, 0, 0) 2) (m (4, 0, 0) 3) (m (4, 0, 0) 4)).2 → Q (.inl (some (.inl (.int 1)))) m10)))) ∧ ((m (4, 0, 0) 1) = 102 → (vp_in (m (1, j1, 0) 8) 6) ∧ ((((r_wg (ch_ob m 1 j1) (m (4, 0, 0) 2) (m (4, 0, 0) 3) (m (4, 0, 0) 4)).1 = 0) → Q (.inl (some (.inl (.int 0)))) m) ∧ ((¬ (r_wg (ch_ob m 1 j1) (m (4, 0, 0) 2) (m (4, 0, 0) 3) (m (4, 0, 0) 4)).1 = 0) → (∀ m14 : ch_M, m14 = r_kp m (r_wg (ch_ob m 1 j1) (m (4, 0, 0) 2) (m (4, 0, 0) 3) (m (4, 0, 0) 4)).1 (r_wg (ch_ob m 1 j1) (m (4, 0, 0) 2) (m (4, 0, 0) 3) (m (4, 0, 0) 4)).2 → Q (.inl (some (.inl (.int 1)))) m14)))) ∧ ((m (4, 0, 0) 1) = 103 → (vp_in (m (1, j1, 0) 8) 6) ∧ ((((r_wg (ch_ob m 1 j1) (m (4, 0, 0) 2) (m (4, 0, 0) 3) (m (4, 0, 0) 4)).1 = 0) → Q (.inl (some (.inl (.int 0)))) m) ∧ ((¬ (r_wg (ch_ob m 1 j1) (m (4, 0, 0) 2) (m (4, 0, 0) 3) (m (4, 0, 0) 4)).1 = 0) → (∀ m18 : ch_M, m18 = r_kp m (r_wg (ch_ob m 1 j1) (m (4, 0, 0) 2) (m (4, 0, 0) 3) (m (4, 0, 0) 4)).1 (r_wg (ch_ob m 1 j1) (m (4, 0, 0) 2) (m (4, 0, 0) 3) (m (4, 0, 0) 4)).2 → Q (.inl (some (.inl (.int 1)))) m18)))) ∧ ((m (4, 0, 0) 1) = 104 → (vp_in (m (1, j1, 0) 8) 6) ∧ (vp_in (m (5, 0, 0) 1) 13) ∧ ((((r_wh (ch_ob m 1 j1) (m (4, 0, 0) 2) (m (5, 0, 1)) (m (5, 0, 0) 1)).1 = 0) → Q (.inl (some (.inl (.int 0)))) m) ∧ ((¬ (r_wh (ch_ob m 1 j1) (m (4, 0, 0) 2) (m (5, 0, 1)) (m (5, 0, 0) 1)).1 = 0) → (∀ m22 : ch_M, m22 = r_kp m (r_wh (ch_ob m 1 j1) (m (4, 0, 0) 2) (m (5, 0, 1)) (m (5, 0, 0) 1)).1 (r_wh (ch_ob m 1 j1) (m (4, 0, 0) 2) (m (5, 0, 1)) (m (5, 0, 0) 1)).2 → Q (.inl (some (.inl (.int 1)))) m22)))) ∧ ((m (4, 0, 0) 1) = 105 → (vp_in (m (1, j1, 0) 8) 6) ∧ ((((r_wg (ch_ob m 1 j1) (m (4, 0, 0) 2) (m (4, 0, 0) 3) (m (4, 0, 0) 4)).1 = 0) → Q (.inl (some (.inl (.int 0)))) m) ∧ ((¬ (r_wg (ch_ob m 1 j1) (m (4, 0, 0) 2) (m (4, 0, 0) 3) (m (4, 0, 0) 4)).1 = 0) → (∀ m27 : ch_M, m27 = r_kp m (r_wg (ch_ob m 1 j1) (m (4, 0, 0) 2) (m (4, 0, 0) 3) (m (4, 0, 0) 4)).1 (r_wg (ch_ob m 1 j1) (m (4, 0, 0) 2) (m (4, 0, 0) 3) (m (4, 0, 0) 4)).2 → Q (.inl (some (.inl (.int 1)))) m27)))) ∧ ((m (4, 0, 0) 1) = 106 → (vp_in (m (1, j1, 0) 8) 6) ∧ ((((r_wg (ch_ob m 1 j1) (m (4, 0, 0) 2) (m (4, 0, 0) 3) (m (4, 0, 0) 4)).1 = 0) → Q (.inl (some (.inl (.int 0)))) m) ∧ ((¬ (r_wg (ch_ob m 1 j1) (m (4, 0, 0) 2) (m (4, 0, 0) 3) (m (4, 0, 0) 4)).1 = 0) → (∀ m31 : ch_M, m31 = r_kp m (r_wg (ch_ob m 1 j1) (m (4, 0, 0) 2) (m (4, 0, 0) 3) (m (4, 0, 0) 4)).1 (r_wg (ch_ob m 1 j1) (m (4, 0, 0) 2) (m (4, 0, 0) 3) (m (4, 0, 0) 4)).2 → Q (.inl (some (.inl (.int 1)))) m31)))) ∧ ((m (4, 0, 0) 1) = 107 → (vp_in (m (1, j1, 0) 8) 6) ∧ ((((r_wg (ch_ob m 1 j1) (m (4, 0, 0) 2) (m (4, 0, 0) 3) (m (4, 0, 0) 4)).1 = 0) → Q (.inl (some (.inl (.int 0)))) m) ∧ ((¬ (r_wg (ch_ob m 1 j1) (m (4, 0, 0) 2) (m (4, 0, 0) 3) (m (4, 0, 0) 4)).1 = 0) → (∀ m35 : ch_M, m35 = r_kp m (r_wg (ch_ob m 1 j1) (m (4, 0, 0) 2) (m (4, 0, 0) 3) (m (4, 0, 0) 4)).1 (r_wg (ch_ob m 1 j1) (m (4, 0, 0) 2) (m (4, 0, 0) 3) (m (4, 0, 0) 4)).2 → Q (.inl (some (.inl (.int 1)))) m35)))) ∧ ((m (4, 0, 0) 1) = 108 → (vp_in (m (1, j1, 0) 8) 6) ∧ ((((r_wg (ch_ob m 1 j1) (m (4, 0, 0) 2) (m (4, 0, 0) 3) (m (4, 0, 0) 4)).1 = 0) → Q (.inl (some (.inl (.int 0)))) m) ∧ ((¬ (r_wg (ch_ob m 1 j1) (m (4, 0, 0) 2) (m (4, 0, 0) 3) (m (4, 0, 0) 4)).1 = 0) → (∀ m39 : ch_M, m39 = r_kp m (r_wg (ch_ob m 1 j1) (m (4, 0, 0) 2) (m (4, 0, 0) 3) (m (4, 0, 0) 4)).1 (r_wg (ch_ob m 1 j1) (m (4, 0, 0) 2) (m (4, 0, 0) 3) (m (4, 0, 0) 4)).2 → Q (.inl (some (.inl (.int 1)))) m39)))) ∧ ((m (4, 0, 0) 1) = 109 → (vp_in (m (1, j1, 0) 8) 6) ∧ ((((r_wg (ch_ob m 1 j1) (m (4, 0, 0) 2) (m (4, 0, 0) 3) (m (4, 0, 0) 4)).1 = 0) → Q (.inl (some (.inl (.int 0)))) m) ∧ ((¬ (r_wg (ch_ob m 1 j1) (m (4, 0, 0) 2) (m (4, 0, 0) 3) (m (4, 0, 0) 4)).1 = 0) → (∀ m43 : ch_M, m43 = r_kp m (r_wg (ch_ob m 1 j1) (m (4, 0, 0) 2) (m (4, 0, 0) 3) (m (4, 0, 0) 4)).1 (r_wg (ch_ob m 1 j1) (m (4, 0, 0) 2) (m (4, 0, 0) 3) (m (4, 0, 0) 4)).2 → Q (.inl (some (.inl (.int 1)))) m43)))) ∧ ((m (4, 0, 0) 1) = 110 → ((((r_wn (ch_ob m 1 j1) (m (4, 0, 0) 4)).1 = 0) → Q (.inl (some (.inl (.int 0)))) m) ∧ ((¬ (r_wn (ch_ob m 1 j1) (m (4, 0, 0) 4)).1 = 0) → (∀ m47 : ch_M, m47 = r_kp m (r_wn (ch_ob m 1 j1) (m (4, 0, 0) 4)).1 (r_wn (ch_ob m 1 j1) (m (4, 0, 0) 4)).2 → Q (.inl (some (.inl (.int 1)))) m47)))) ∧ ((m (4, 0, 0) 1) = 111 → (vp_in (m (1, j1, 0) 8) 6) ∧ ((((r_wg (ch_ob m 1 j1) (m (4, 0, 0) 2) (m (4, 0, 0) 3) (m (4, 0, 0) 4)).1 = 0) → Q (.inl (some (.inl (.int 0)))) m) ∧ ((¬ (r_wg (ch_ob m 1 j1) (m (4, 0, 0) 2) (m (4, 0, 0) 3) (m (4, 0, 0) 4)).1 = 0) → (∀ m50 : ch_M, m50 = r_kp m (r_wg (ch_ob m 1 j1) (m (4, 0, 0) 2) (m (4, 0, 0) 3) (m (4, 0, 0) 4)).1 (r_wg (ch_ob m 1 j1) (m (4, 0, 0) 2) (m (4, 0, 0) 3) (m (4, 0, 0) 4)).2 → Q (.inl (some (.inl (.int 1)))) m50)))) ∧ ((m (4, 0, 0) 1) = 112 → (vp_in (m (1, j1, 0) 8) 6) ∧ ((((r_wg (ch_ob m 1 j1) (m (4, 0, 0) 2) (m (4, 0, 0) 3) (m (4, 0, 0) 4)).1 = 0) → Q (.inl (some (.inl (.int 0)))) m) ∧ ((¬ (r_wg (ch_ob m 1 j1) (m (4, 0, 0) 2) (m (4, 0, 0) 3) (m (4, 0, 0) 4)).1 = 0) → (∀ m54 : ch_M, m54 = r_kp m (r_wg (ch_ob m 1 j1) (m (4, 0, 0) 2) (m (4, 0, 0) 3) (m (4, 0, 0) 4)).1 (r_wg (ch_ob m 1 j1) (m (4, 0, 0) 2) (m (4, 0, 0) 3) (m (4, 0, 0) 4)).2 → Q (.inl (some (.inl (.int 1)))) m54)))) ∧ ((m (4, 0, 0) 1) = 113 → (vp_in (m (1, j1, 0) 8) 6) ∧ ((((r_wg (ch_ob m 1 j1) (m (4, 0, 0) 2) (m (4, 0, 0) 3) (m (4, 0, 0) 4)).1 = 0) → Q (.inl (some (.inl (.int 0)))) m) ∧ ((¬ (r_wg (ch_ob m 1 j1) (m (4, 0, 0) 2) (m (4, 0, 0) 3) (m (4, 0, 0) 4)).1 = 0) → (∀ m58 : ch_M, m58 = r_kp m (r_wg (ch_ob m 1 j1) (m (4, 0, 0) 2) (m (4, 0, 0) 3) (m (4, 0, 0) 4)).1 (r_wg (ch_ob m 1 j1) (m (4, 0, 0) 2) (m (4, 0, 0) 3) (m (4, 0, 0) 4)).2 → Q (.inl (some (.inl (.int 1)))) m58)))) ∧ ((m (4, 0, 0) 1) = 114 → ((((r_wr (ch_ob m 1 j1) (m (4, 0, 0) 4)).1 = 0) → Q (.inl (some (.inl (.int 0)))) m) ∧ ((¬ (r_wr (ch_ob m 1 j1) (m (4, 0, 0) 4)).1 = 0) → (∀ m62 : ch_M, m62 = r_kp m (r_wr (ch_ob m 1 j1) (m (4, 0, 0) 4)).1 (r_wr (ch_ob m 1 j1) (m (4, 0, 0) 4)).2 → Q (.inl (some (.inl (.int 1)))) m62)))) ∧ ((m (4, 0, 0) 1) = 115 → (vp_in (m (1, j1, 0) 8) 6) ∧ ((((r_ws (ch_ob m 1 j1) (m (4, 0, 0) 2)).1 = 0) → Q (.inl (some (.inl (.int 0)))) m) ∧ ((¬ (r_ws (ch_ob m 1 j1) (m (4, 0, 0) 2)).1 = 0) → (∀ m65 : ch_M, m65 = r_kp m (r_ws (ch_ob m 1 j1) (m (4, 0, 0) 2)).1 (r_ws (ch_ob m 1 j1) (m (4, 0, 0) 2)).2 → Q (.inl (some (.inl (.int 1)))) m65)))) ∧ ((m (4, 0, 0) 1) = 116 → ((((r_wt (ch_ob m 1 j1)).1 = 0) → Q (.inl (some (.inl (.int 0)))) m) ∧ ((¬ (r_wt (ch_ob m 1 j1)).1 = 0) → (∀ m69 : ch_M, m69 = r_kp m (r_wt (ch_ob m 1 j1)).1 (r_wt (ch_ob m 1 j1)).2 → Q (.inl (some (.inl (.int 1)))) m69)))) ∧ ((m (4, 0, 0) 1) = 117 → (vp_in (m (1, j1, 0) 8) 6) ∧ ((((r_wg (ch_ob m 1 j1) (m (4, 0, 0) 2) (m (4, 0, 0) 3) (m (4, 0, 0) 4)).1 = 0) → Q (.inl (some (.inl (.int 0)))) m) ∧ ((¬ (r_wg (ch_ob m 1 j1) (m (4, 0, 0) 2) (m (4, 0, 0) 3) (m (4, 0, 0) 4)).1 = 0) → (∀ m72 : ch_M, m72 = r_kp m (r_wg (ch_ob m 1 j1) (m (4, 0, 0) 2) (m (4, 0, 0) 3) (m (4, 0, 0) 4)).1 (r_wg (ch_ob m 1 j1) (m (4, 0, 0) 2) (m (4, 0, 0) 3) (m (4, 0, 0) 4)).2 → Q (.inl (some (.inl (.int 1)))) m72)))) ∧ ((m (4, 0, 0) 1) = 118 → (vp_in (m (1, j1, 0) 8) 6) ∧ ((((r_wg (ch_ob m 1 j1) (m (4, 0, 0) 2) (m (4, 0, 0) 3) (m (4, 0, 0) 4)).1 = 0) → Q (.inl (some (.inl (.int 0)))) m) ∧ ((¬ (r_wg (ch_ob m 1 j1) (m (4, 0, 0) 2) (m (4, 0, 0) 3) (m (4, 0, 0) 4)).1 = 0) → (∀ m76 : ch_M, m76 = r_kp m (r_wg (ch_ob m 1 j1) (m (4, 0, 0) 2) (m (4, 0, 0) 3) (m (4, 0, 0) 4)).1 (r_wg (ch_ob m 1 j1) (m (4, 0, 0) 2) (m (4, 0, 0) 3) (m (4, 0, 0) 4)).2 → Q (.inl (some (.inl (.int 1)))) m76)))) ∧ ((m (4, 0, 0) 1) = 119 → (vp_in (m (1, j1, 0) 8) 6) ∧ ((((r_ww (ch_ob m 1 j1) (m (4, 0, 0) 2)).1 = 0) → Q (.inl (some (.inl (.int 0)))) m) ∧ ((¬ (r_ww (ch_ob m 1 j1) (m (4, 0, 0) 2)).1 = 0) → (∀ m80 : ch_M, m80 = r_kp m (r_ww (ch_ob m 1 j1) (m (4, 0, 0) 2)).1 (r_ww (ch_ob m 1 j1) (m (4, 0, 0) 2)).2 → Q (.inl (some (.inl (.int 1)))) m80)))) ∧ ((Int32.toInt (m (4, 0, 0) 1) < 99 ∨ 119 < Int32.toInt (m (4, 0, 0) 1)) → (vp_in (m (1, j1, 0) 8) 6) ∧ ((((r_wg (ch_ob m 1 j1) (m (4, 0, 0) 2) (m (4, 0, 0) 3) (m (4, 0, 0) 4)).1 = 0) → Q (.inl (some (.inl (.int 0)))) m) ∧ ((¬ (r_wg (ch_ob m 1 j1) (m (4, 0, 0) 2) (m (4, 0, 0) 3) (m (4, 0, 0) 4)).1 = 0) → (∀ m84 : ch_M, m84 = r_kp m (r_wg (ch_ob m 1 j1) (m (4, 0, 0) 2) (m (4, 0, 0) 3) (m (4, 0, 0) 4)).1 (r_wg (ch_ob m 1 j1) (m (4, 0, 0) 2) (m (4, 0, 0) 3) (m (4, 0, 0) 4)).2 → Q (.inl (some (.inl (.int 1)))) m84)))))) : ch_J g m_r_refuse (ch_rm m_r_refuse) (ch_E g m_r_refuse Q) 0 [some (.inr (3, 0, 0)), some (.inr (1, j1, 0)), some (.inr (4, 0, 0))] [] m 0 := by
  refine ch_aload_n (i := 2) d_r_refuse_0 rfl rfl ?_
  refine ch_get (v := .inl (.int (m (4, 0, 0) 1))) d_r_refuse_1 fl_r_9 rfl ?_
  by_cases e99 : (m (4, 0, 0) 1) = 99
  · replace h := h.1 e99
    refine ch_tswIn (tgt := 114) (off := 110) d_r_refuse_4 (by rw [e99]; decide) (by rw [e99]; decide) (by rw [e99]; rfl) (by decide) ?_
    refine ch_aload_n (i := 0) d_r_refuse_114 rfl rfl ?_
    refine ch_aload_n (i := 1) d_r_refuse_115 rfl rfl ?_
    refine ch_aload_n (i := 2) d_r_refuse_116 rfl rfl ?_
    refine ch_get (v := .inl (.int (m (4, 0, 0) 2))) d_r_refuse_117 fl_r_24 rfl ?_
    refine ch_aload_n (i := 2) d_r_refuse_120 rfl rfl ?_
    refine ch_get (v := .inl (.int (m (4, 0, 0) 4))) d_r_refuse_121 fl_r_15 rfl ?_
    have b4 := h.1
    replace h := h.2
    refine ch_callV (as := [.inr (1, j1, 0), .inl (.int (m (4, 0, 0) 2)), .inl (.int (m (4, 0, 0) 4))]) d_r_refuse_124 lk_r_27 mi_r_refuseChalk me_r_refuseChalk rfl rfl rfl ⟨Nat.le_of_ble_eq_true rfl, Nat.le_of_ble_eq_true rfl⟩ (Nat.le_of_ble_eq_true rfl) ⟨Nat.le_of_ble_eq_true rfl, Nat.le_of_ble_eq_true rfl⟩ (ch_mono (ch_Ki (fun r1 m2 q3 => ?_)) (s_r_refuseChalk g (fun (r_ : Int32) (m_ : ch_M) => (((r_wc (ch_ob m 1 j1) (m (4, 0, 0) 2) (m (4, 0, 0) 4)).1 = 0) ∧ 0 = r_ ∧ m = m_) ∨ ((¬ (r_wc (ch_ob m 1 j1) (m (4, 0, 0) 2) (m (4, 0, 0) 4)).1 = 0) ∧ 1 = r_ ∧ m_ = r_kp m (r_wc (ch_ob m 1 j1) (m (4, 0, 0) 2) (m (4, 0, 0) 4)).1 (r_wc (ch_ob m 1 j1) (m (4, 0, 0) 2) (m (4, 0, 0) 4)).2)) (j1) ((m (4, 0, 0) 2)) ((m (4, 0, 0) 4)) m ⟨b4, (fun c_ => (Or.inl ⟨c_, rfl, rfl⟩)), (fun c_ => (Or.inr ⟨c_, rfl, rfl⟩))⟩))
    rcases q3 with ⟨c_, rfl, rfl⟩ | ⟨c_, rfl, hm_⟩
    · replace h := h.1 c_
      exact ch_iret (ty := .boolean) d_r_refuse_127 rfl rfl (Nat.le_of_ble_eq_true rfl) h
    · replace h := h.2 c_ m2 hm_
      exact ch_iret (ty := .boolean) d_r_refuse_127 rfl rfl (Nat.le_of_ble_eq_true rfl) h
  replace h := h.2
  by_cases e100 : (m (4, 0, 0) 1) = 100
  · replace h := h.1 e100
    refine ch_tswIn (tgt := 178) (off := 174) d_r_refuse_4 (by rw [e100]; decide) (by rw [e100]; decide) (by rw [e100]; rfl) (by decide) ?_
    refine ch_aload_n (i := 0) d_r_refuse_178 rfl rfl ?_
    refine ch_aload_n (i := 1) d_r_refuse_179 rfl rfl ?_
    refine ch_aload_n (i := 2) d_r_refuse_180 rfl rfl ?_
    refine ch_get (v := .inl (.int (m (4, 0, 0) 2))) d_r_refuse_181 fl_r_24 rfl ?_
    refine ch_aload_n (i := 2) d_r_refuse_184 rfl rfl ?_
    refine ch_get (v := .inl (.int (m (4, 0, 0) 3))) d_r_refuse_185 fl_r_52 rfl ?_
    refine ch_aload_n (i := 2) d_r_refuse_188 rfl rfl ?_
    refine ch_get (v := .inl (.int (m (4, 0, 0) 4))) d_r_refuse_189 fl_r_15 rfl ?_
    have b8 := h.1
    replace h := h.2
    refine ch_callV (as := [.inr (1, j1, 0), .inl (.int (m (4, 0, 0) 2)), .inl (.int (m (4, 0, 0) 3)), .inl (.int (m (4, 0, 0) 4))]) d_r_refuse_192 lk_r_55 mi_r_refuseGift me_r_refuseGift rfl rfl rfl ⟨Nat.le_of_ble_eq_true rfl, Nat.le_of_ble_eq_true rfl⟩ (Nat.le_of_ble_eq_true rfl) ⟨Nat.le_of_ble_eq_true rfl, Nat.le_of_ble_eq_true rfl⟩ (ch_mono (ch_Ki (fun r5 m6 q7 => ?_)) (s_r_refuseGift g (fun (r_ : Int32) (m_ : ch_M) => (((r_wg (ch_ob m 1 j1) (m (4, 0, 0) 2) (m (4, 0, 0) 3) (m (4, 0, 0) 4)).1 = 0) ∧ 0 = r_ ∧ m = m_) ∨ ((¬ (r_wg (ch_ob m 1 j1) (m (4, 0, 0) 2) (m (4, 0, 0) 3) (m (4, 0, 0) 4)).1 = 0) ∧ 1 = r_ ∧ m_ = r_kp m (r_wg (ch_ob m 1 j1) (m (4, 0, 0) 2) (m (4, 0, 0) 3) (m (4, 0, 0) 4)).1 (r_wg (ch_ob m 1 j1) (m (4, 0, 0) 2) (m (4, 0, 0) 3) (m (4, 0, 0) 4)).2)) (j1) ((m (4, 0, 0) 2)) ((m (4, 0, 0) 3)) ((m (4, 0, 0) 4)) m ⟨b8, (fun c_ => (Or.inl ⟨c_, rfl, rfl⟩)), (fun c_ => (Or.inr ⟨c_, rfl, rfl⟩))⟩))
    rcases q7 with ⟨c_, rfl, rfl⟩ | ⟨c_, rfl, hm_⟩
    · replace h := h.1 c_
      exact ch_iret (ty := .boolean) d_r_refuse_195 rfl rfl (Nat.le_of_ble_eq_true rfl) h
    · replace h := h.2 c_ m6 hm_
      exact ch_iret (ty := .boolean) d_r_refuse_195 rfl rfl (Nat.le_of_ble_eq_true rfl) h
  replace h := h.2
  by_cases e101 : (m (4, 0, 0) 1) = 101
  · replace h := h.1 e101
    refine ch_tswIn (tgt := 178) (off := 174) d_r_refuse_4 (by rw [e101]; decide) (by rw [e101]; decide) (by rw [e101]; rfl) (by decide) ?_
    refine ch_aload_n (i := 0) d_r_refuse_178 rfl rfl ?_
    refine ch_aload_n (i := 1) d_r_refuse_179 rfl rfl ?_
    refine ch_aload_n (i := 2) d_r_refuse_180 rfl rfl ?_
    refine ch_get (v := .inl (.int (m (4, 0, 0) 2))) d_r_refuse_181 fl_r_24 rfl ?_
    refine ch_aload_n (i := 2) d_r_refuse_184 rfl rfl ?_
    refine ch_get (v := .inl (.int (m (4, 0, 0) 3))) d_r_refuse_185 fl_r_52 rfl ?_
    refine ch_aload_n (i := 2) d_r_refuse_188 rfl rfl ?_
    refine ch_get (v := .inl (.int (m (4, 0, 0) 4))) d_r_refuse_189 fl_r_15 rfl ?_
    have b12 := h.1
    replace h := h.2
    refine ch_callV (as := [.inr (1, j1, 0), .inl (.int (m (4, 0, 0) 2)), .inl (.int (m (4, 0, 0) 3)), .inl (.int (m (4, 0, 0) 4))]) d_r_refuse_192 lk_r_55 mi_r_refuseGift me_r_refuseGift rfl rfl rfl ⟨Nat.le_of_ble_eq_true rfl, Nat.le_of_ble_eq_true rfl⟩ (Nat.le_of_ble_eq_true rfl) ⟨Nat.le_of_ble_eq_true rfl, Nat.le_of_ble_eq_true rfl⟩ (ch_mono (ch_Ki (fun r9 m10 q11 => ?_)) (s_r_refuseGift g (fun (r_ : Int32) (m_ : ch_M) => (((r_wg (ch_ob m 1 j1) (m (4, 0, 0) 2) (m (4, 0, 0) 3) (m (4, 0, 0) 4)).1 = 0) ∧ 0 = r_ ∧ m = m_) ∨ ((¬ (r_wg (ch_ob m 1 j1) (m (4, 0, 0) 2) (m (4, 0, 0) 3) (m (4, 0, 0) 4)).1 = 0) ∧ 1 = r_ ∧ m_ = r_kp m (r_wg (ch_ob m 1 j1) (m (4, 0, 0) 2) (m (4, 0, 0) 3) (m (4, 0, 0) 4)).1 (r_wg (ch_ob m 1 j1) (m (4, 0, 0) 2) (m (4, 0, 0) 3) (m (4, 0, 0) 4)).2)) (j1) ((m (4, 0, 0) 2)) ((m (4, 0, 0) 3)) ((m (4, 0, 0) 4)) m ⟨b12, (fun c_ => (Or.inl ⟨c_, rfl, rfl⟩)), (fun c_ => (Or.inr ⟨c_, rfl, rfl⟩))⟩))
    rcases q11 with ⟨c_, rfl, rfl⟩ | ⟨c_, rfl, hm_⟩
    · replace h := h.1 c_
      exact ch_iret (ty := .boolean) d_r_refuse_195 rfl rfl (Nat.le_of_ble_eq_true rfl) h
    · replace h := h.2 c_ m10 hm_
      exact ch_iret (ty := .boolean) d_r_refuse_195 rfl rfl (Nat.le_of_ble_eq_true rfl) h
  replace h := h.2
  by_cases e102 : (m (4, 0, 0) 1) = 102
  · replace h := h.1 e102
    refine ch_tswIn (tgt := 178) (off := 174) d_r_refuse_4 (by rw [e102]; decide) (by rw [e102]; decide) (by rw [e102]; rfl) (by decide) ?_
    refine ch_aload_n (i := 0) d_r_refuse_178 rfl rfl ?_
    refine ch_aload_n (i := 1) d_r_refuse_179 rfl rfl ?_
    refine ch_aload_n (i := 2) d_r_refuse_180 rfl rfl ?_
    refine ch_get (v := .inl (.int (m (4, 0, 0) 2))) d_r_refuse_181 fl_r_24 rfl ?_
    refine ch_aload_n (i := 2) d_r_refuse_184 rfl rfl ?_
    refine ch_get (v := .inl (.int (m (4, 0, 0) 3))) d_r_refuse_185 fl_r_52 rfl ?_
    refine ch_aload_n (i := 2) d_r_refuse_188 rfl rfl ?_
    refine ch_get (v := .inl (.int (m (4, 0, 0) 4))) d_r_refuse_189 fl_r_15 rfl ?_
    have b16 := h.1
    replace h := h.2
    refine ch_callV (as := [.inr (1, j1, 0), .inl (.int (m (4, 0, 0) 2)), .inl (.int (m (4, 0, 0) 3)), .inl (.int (m (4, 0, 0) 4))]) d_r_refuse_192 lk_r_55 mi_r_refuseGift me_r_refuseGift rfl rfl rfl ⟨Nat.le_of_ble_eq_true rfl, Nat.le_of_ble_eq_true rfl⟩ (Nat.le_of_ble_eq_true rfl) ⟨Nat.le_of_ble_eq_true rfl, Nat.le_of_ble_eq_true rfl⟩ (ch_mono (ch_Ki (fun r13 m14 q15 => ?_)) (s_r_refuseGift g (fun (r_ : Int32) (m_ : ch_M) => (((r_wg (ch_ob m 1 j1) (m (4, 0, 0) 2) (m (4, 0, 0) 3) (m (4, 0, 0) 4)).1 = 0) ∧ 0 = r_ ∧ m = m_) ∨ ((¬ (r_wg (ch_ob m 1 j1) (m (4, 0, 0) 2) (m (4, 0, 0) 3) (m (4, 0, 0) 4)).1 = 0) ∧ 1 = r_ ∧ m_ = r_kp m (r_wg (ch_ob m 1 j1) (m (4, 0, 0) 2) (m (4, 0, 0) 3) (m (4, 0, 0) 4)).1 (r_wg (ch_ob m 1 j1) (m (4, 0, 0) 2) (m (4, 0, 0) 3) (m (4, 0, 0) 4)).2)) (j1) ((m (4, 0, 0) 2)) ((m (4, 0, 0) 3)) ((m (4, 0, 0) 4)) m ⟨b16, (fun c_ => (Or.inl ⟨c_, rfl, rfl⟩)), (fun c_ => (Or.inr ⟨c_, rfl, rfl⟩))⟩))
    rcases q15 with ⟨c_, rfl, rfl⟩ | ⟨c_, rfl, hm_⟩
    · replace h := h.1 c_
      exact ch_iret (ty := .boolean) d_r_refuse_195 rfl rfl (Nat.le_of_ble_eq_true rfl) h
    · replace h := h.2 c_ m14 hm_
      exact ch_iret (ty := .boolean) d_r_refuse_195 rfl rfl (Nat.le_of_ble_eq_true rfl) h
  replace h := h.2
  by_cases e103 : (m (4, 0, 0) 1) = 103
  · replace h := h.1 e103
    refine ch_tswIn (tgt := 178) (off := 174) d_r_refuse_4 (by rw [e103]; decide) (by rw [e103]; decide) (by rw [e103]; rfl) (by decide) ?_
    refine ch_aload_n (i := 0) d_r_refuse_178 rfl rfl ?_
    refine ch_aload_n (i := 1) d_r_refuse_179 rfl rfl ?_
    refine ch_aload_n (i := 2) d_r_refuse_180 rfl rfl ?_
    refine ch_get (v := .inl (.int (m (4, 0, 0) 2))) d_r_refuse_181 fl_r_24 rfl ?_
    refine ch_aload_n (i := 2) d_r_refuse_184 rfl rfl ?_
    refine ch_get (v := .inl (.int (m (4, 0, 0) 3))) d_r_refuse_185 fl_r_52 rfl ?_
    refine ch_aload_n (i := 2) d_r_refuse_188 rfl rfl ?_
    refine ch_get (v := .inl (.int (m (4, 0, 0) 4))) d_r_refuse_189 fl_r_15 rfl ?_
    have b20 := h.1
    replace h := h.2
    refine ch_callV (as := [.inr (1, j1, 0), .inl (.int (m (4, 0, 0) 2)), .inl (.int (m (4, 0, 0) 3)), .inl (.int (m (4, 0, 0) 4))]) d_r_refuse_192 lk_r_55 mi_r_refuseGift me_r_refuseGift rfl rfl rfl ⟨Nat.le_of_ble_eq_true rfl, Nat.le_of_ble_eq_true rfl⟩ (Nat.le_of_ble_eq_true rfl) ⟨Nat.le_of_ble_eq_true rfl, Nat.le_of_ble_eq_true rfl⟩ (ch_mono (ch_Ki (fun r17 m18 q19 => ?_)) (s_r_refuseGift g (fun (r_ : Int32) (m_ : ch_M) => (((r_wg (ch_ob m 1 j1) (m (4, 0, 0) 2) (m (4, 0, 0) 3) (m (4, 0, 0) 4)).1 = 0) ∧ 0 = r_ ∧ m = m_) ∨ ((¬ (r_wg (ch_ob m 1 j1) (m (4, 0, 0) 2) (m (4, 0, 0) 3) (m (4, 0, 0) 4)).1 = 0) ∧ 1 = r_ ∧ m_ = r_kp m (r_wg (ch_ob m 1 j1) (m (4, 0, 0) 2) (m (4, 0, 0) 3) (m (4, 0, 0) 4)).1 (r_wg (ch_ob m 1 j1) (m (4, 0, 0) 2) (m (4, 0, 0) 3) (m (4, 0, 0) 4)).2)) (j1) ((m (4, 0, 0) 2)) ((m (4, 0, 0) 3)) ((m (4, 0, 0) 4)) m ⟨b20, (fun c_ => (Or.inl ⟨c_, rfl, rfl⟩)), (fun c_ => (Or.inr ⟨c_, rfl, rfl⟩))⟩))
    rcases q19 with ⟨c_, rfl, rfl⟩ | ⟨c_, rfl, hm_⟩
    · replace h := h.1 c_
      exact ch_iret (ty := .boolean) d_r_refuse_195 rfl rfl (Nat.le_of_ble_eq_true rfl) h
    · replace h := h.2 c_ m18 hm_
      exact ch_iret (ty := .boolean) d_r_refuse_195 rfl rfl (Nat.le_of_ble_eq_true rfl) h
  replace h := h.2
  by_cases e104 : (m (4, 0, 0) 1) = 104
  · replace h := h.1 e104
    refine ch_tswIn (tgt := 128) (off := 124) d_r_refuse_4 (by rw [e104]; decide) (by rw [e104]; decide) (by rw [e104]; rfl) (by decide) ?_
    refine ch_aload_n (i := 0) d_r_refuse_128 rfl rfl ?_
    refine ch_aload_n (i := 1) d_r_refuse_129 rfl rfl ?_
    refine ch_aload_n (i := 2) d_r_refuse_130 rfl rfl ?_
    refine ch_get (v := .inl (.int (m (4, 0, 0) 2))) d_r_refuse_131 fl_r_24 rfl ?_
    refine ch_aload_n (i := 2) d_r_refuse_134 rfl rfl ?_
    refine ch_get (v := .inr (5, 0, 0)) d_r_refuse_135 fl_r_31 rfl ?_
    have b24 := h.1
    replace h := h.2
    have b25 := h.1
    replace h := h.2
    refine ch_callV (as := [.inr (1, j1, 0), .inl (.int (m (4, 0, 0) 2)), .inr (5, 0, 0)]) d_r_refuse_138 lk_r_35 mi_r_refuseHop me_r_refuseHop rfl rfl rfl ⟨Nat.le_of_ble_eq_true rfl, Nat.le_of_ble_eq_true rfl⟩ (Nat.le_of_ble_eq_true rfl) ⟨Nat.le_of_ble_eq_true rfl, Nat.le_of_ble_eq_true rfl⟩ (ch_mono (ch_Ki (fun r21 m22 q23 => ?_)) (s_r_refuseHop g (fun (r_ : Int32) (m_ : ch_M) => (((r_wh (ch_ob m 1 j1) (m (4, 0, 0) 2) (m (5, 0, 1)) (m (5, 0, 0) 1)).1 = 0) ∧ 0 = r_ ∧ m = m_) ∨ ((¬ (r_wh (ch_ob m 1 j1) (m (4, 0, 0) 2) (m (5, 0, 1)) (m (5, 0, 0) 1)).1 = 0) ∧ 1 = r_ ∧ m_ = r_kp m (r_wh (ch_ob m 1 j1) (m (4, 0, 0) 2) (m (5, 0, 1)) (m (5, 0, 0) 1)).1 (r_wh (ch_ob m 1 j1) (m (4, 0, 0) 2) (m (5, 0, 1)) (m (5, 0, 0) 1)).2)) (j1) ((m (4, 0, 0) 2)) (0) m ⟨b24, b25, (fun c_ => (Or.inl ⟨c_, rfl, rfl⟩)), (fun c_ => (Or.inr ⟨c_, rfl, rfl⟩))⟩))
    rcases q23 with ⟨c_, rfl, rfl⟩ | ⟨c_, rfl, hm_⟩
    · replace h := h.1 c_
      exact ch_iret (ty := .boolean) d_r_refuse_141 rfl rfl (Nat.le_of_ble_eq_true rfl) h
    · replace h := h.2 c_ m22 hm_
      exact ch_iret (ty := .boolean) d_r_refuse_141 rfl rfl (Nat.le_of_ble_eq_true rfl) h
  replace h := h.2
  by_cases e105 : (m (4, 0, 0) 1) = 105
  · replace h := h.1 e105
    refine ch_tswIn (tgt := 178) (off := 174) d_r_refuse_4 (by rw [e105]; decide) (by rw [e105]; decide) (by rw [e105]; rfl) (by decide) ?_
    refine ch_aload_n (i := 0) d_r_refuse_178 rfl rfl ?_
    refine ch_aload_n (i := 1) d_r_refuse_179 rfl rfl ?_
    refine ch_aload_n (i := 2) d_r_refuse_180 rfl rfl ?_
    refine ch_get (v := .inl (.int (m (4, 0, 0) 2))) d_r_refuse_181 fl_r_24 rfl ?_
    refine ch_aload_n (i := 2) d_r_refuse_184 rfl rfl ?_
    refine ch_get (v := .inl (.int (m (4, 0, 0) 3))) d_r_refuse_185 fl_r_52 rfl ?_
    refine ch_aload_n (i := 2) d_r_refuse_188 rfl rfl ?_
    refine ch_get (v := .inl (.int (m (4, 0, 0) 4))) d_r_refuse_189 fl_r_15 rfl ?_
    have b29 := h.1
    replace h := h.2
    refine ch_callV (as := [.inr (1, j1, 0), .inl (.int (m (4, 0, 0) 2)), .inl (.int (m (4, 0, 0) 3)), .inl (.int (m (4, 0, 0) 4))]) d_r_refuse_192 lk_r_55 mi_r_refuseGift me_r_refuseGift rfl rfl rfl ⟨Nat.le_of_ble_eq_true rfl, Nat.le_of_ble_eq_true rfl⟩ (Nat.le_of_ble_eq_true rfl) ⟨Nat.le_of_ble_eq_true rfl, Nat.le_of_ble_eq_true rfl⟩ (ch_mono (ch_Ki (fun r26 m27 q28 => ?_)) (s_r_refuseGift g (fun (r_ : Int32) (m_ : ch_M) => (((r_wg (ch_ob m 1 j1) (m (4, 0, 0) 2) (m (4, 0, 0) 3) (m (4, 0, 0) 4)).1 = 0) ∧ 0 = r_ ∧ m = m_) ∨ ((¬ (r_wg (ch_ob m 1 j1) (m (4, 0, 0) 2) (m (4, 0, 0) 3) (m (4, 0, 0) 4)).1 = 0) ∧ 1 = r_ ∧ m_ = r_kp m (r_wg (ch_ob m 1 j1) (m (4, 0, 0) 2) (m (4, 0, 0) 3) (m (4, 0, 0) 4)).1 (r_wg (ch_ob m 1 j1) (m (4, 0, 0) 2) (m (4, 0, 0) 3) (m (4, 0, 0) 4)).2)) (j1) ((m (4, 0, 0) 2)) ((m (4, 0, 0) 3)) ((m (4, 0, 0) 4)) m ⟨b29, (fun c_ => (Or.inl ⟨c_, rfl, rfl⟩)), (fun c_ => (Or.inr ⟨c_, rfl, rfl⟩))⟩))
    rcases q28 with ⟨c_, rfl, rfl⟩ | ⟨c_, rfl, hm_⟩
    · replace h := h.1 c_
      exact ch_iret (ty := .boolean) d_r_refuse_195 rfl rfl (Nat.le_of_ble_eq_true rfl) h
    · replace h := h.2 c_ m27 hm_
      exact ch_iret (ty := .boolean) d_r_refuse_195 rfl rfl (Nat.le_of_ble_eq_true rfl) h
  replace h := h.2
  by_cases e106 : (m (4, 0, 0) 1) = 106
  · replace h := h.1 e106
    refine ch_tswIn (tgt := 178) (off := 174) d_r_refuse_4 (by rw [e106]; decide) (by rw [e106]; decide) (by rw [e106]; rfl) (by decide) ?_
    refine ch_aload_n (i := 0) d_r_refuse_178 rfl rfl ?_
    refine ch_aload_n (i := 1) d_r_refuse_179 rfl rfl ?_
    refine ch_aload_n (i := 2) d_r_refuse_180 rfl rfl ?_
    refine ch_get (v := .inl (.int (m (4, 0, 0) 2))) d_r_refuse_181 fl_r_24 rfl ?_
    refine ch_aload_n (i := 2) d_r_refuse_184 rfl rfl ?_
    refine ch_get (v := .inl (.int (m (4, 0, 0) 3))) d_r_refuse_185 fl_r_52 rfl ?_
    refine ch_aload_n (i := 2) d_r_refuse_188 rfl rfl ?_
    refine ch_get (v := .inl (.int (m (4, 0, 0) 4))) d_r_refuse_189 fl_r_15 rfl ?_
    have b33 := h.1
    replace h := h.2
    refine ch_callV (as := [.inr (1, j1, 0), .inl (.int (m (4, 0, 0) 2)), .inl (.int (m (4, 0, 0) 3)), .inl (.int (m (4, 0, 0) 4))]) d_r_refuse_192 lk_r_55 mi_r_refuseGift me_r_refuseGift rfl rfl rfl ⟨Nat.le_of_ble_eq_true rfl, Nat.le_of_ble_eq_true rfl⟩ (Nat.le_of_ble_eq_true rfl) ⟨Nat.le_of_ble_eq_true rfl, Nat.le_of_ble_eq_true rfl⟩ (ch_mono (ch_Ki (fun r30 m31 q32 => ?_)) (s_r_refuseGift g (fun (r_ : Int32) (m_ : ch_M) => (((r_wg (ch_ob m 1 j1) (m (4, 0, 0) 2) (m (4, 0, 0) 3) (m (4, 0, 0) 4)).1 = 0) ∧ 0 = r_ ∧ m = m_) ∨ ((¬ (r_wg (ch_ob m 1 j1) (m (4, 0, 0) 2) (m (4, 0, 0) 3) (m (4, 0, 0) 4)).1 = 0) ∧ 1 = r_ ∧ m_ = r_kp m (r_wg (ch_ob m 1 j1) (m (4, 0, 0) 2) (m (4, 0, 0) 3) (m (4, 0, 0) 4)).1 (r_wg (ch_ob m 1 j1) (m (4, 0, 0) 2) (m (4, 0, 0) 3) (m (4, 0, 0) 4)).2)) (j1) ((m (4, 0, 0) 2)) ((m (4, 0, 0) 3)) ((m (4, 0, 0) 4)) m ⟨b33, (fun c_ => (Or.inl ⟨c_, rfl, rfl⟩)), (fun c_ => (Or.inr ⟨c_, rfl, rfl⟩))⟩))
    rcases q32 with ⟨c_, rfl, rfl⟩ | ⟨c_, rfl, hm_⟩
    · replace h := h.1 c_
      exact ch_iret (ty := .boolean) d_r_refuse_195 rfl rfl (Nat.le_of_ble_eq_true rfl) h
    · replace h := h.2 c_ m31 hm_
      exact ch_iret (ty := .boolean) d_r_refuse_195 rfl rfl (Nat.le_of_ble_eq_true rfl) h
  replace h := h.2
  by_cases e107 : (m (4, 0, 0) 1) = 107
  · replace h := h.1 e107
    refine ch_tswIn (tgt := 178) (off := 174) d_r_refuse_4 (by rw [e107]; decide) (by rw [e107]; decide) (by rw [e107]; rfl) (by decide) ?_
    refine ch_aload_n (i := 0) d_r_refuse_178 rfl rfl ?_
    refine ch_aload_n (i := 1) d_r_refuse_179 rfl rfl ?_
    refine ch_aload_n (i := 2) d_r_refuse_180 rfl rfl ?_
    refine ch_get (v := .inl (.int (m (4, 0, 0) 2))) d_r_refuse_181 fl_r_24 rfl ?_
    refine ch_aload_n (i := 2) d_r_refuse_184 rfl rfl ?_
    refine ch_get (v := .inl (.int (m (4, 0, 0) 3))) d_r_refuse_185 fl_r_52 rfl ?_
    refine ch_aload_n (i := 2) d_r_refuse_188 rfl rfl ?_
    refine ch_get (v := .inl (.int (m (4, 0, 0) 4))) d_r_refuse_189 fl_r_15 rfl ?_
    have b37 := h.1
    replace h := h.2
    refine ch_callV (as := [.inr (1, j1, 0), .inl (.int (m (4, 0, 0) 2)), .inl (.int (m (4, 0, 0) 3)), .inl (.int (m (4, 0, 0) 4))]) d_r_refuse_192 lk_r_55 mi_r_refuseGift me_r_refuseGift rfl rfl rfl ⟨Nat.le_of_ble_eq_true rfl, Nat.le_of_ble_eq_true rfl⟩ (Nat.le_of_ble_eq_true rfl) ⟨Nat.le_of_ble_eq_true rfl, Nat.le_of_ble_eq_true rfl⟩ (ch_mono (ch_Ki (fun r34 m35 q36 => ?_)) (s_r_refuseGift g (fun (r_ : Int32) (m_ : ch_M) => (((r_wg (ch_ob m 1 j1) (m (4, 0, 0) 2) (m (4, 0, 0) 3) (m (4, 0, 0) 4)).1 = 0) ∧ 0 = r_ ∧ m = m_) ∨ ((¬ (r_wg (ch_ob m 1 j1) (m (4, 0, 0) 2) (m (4, 0, 0) 3) (m (4, 0, 0) 4)).1 = 0) ∧ 1 = r_ ∧ m_ = r_kp m (r_wg (ch_ob m 1 j1) (m (4, 0, 0) 2) (m (4, 0, 0) 3) (m (4, 0, 0) 4)).1 (r_wg (ch_ob m 1 j1) (m (4, 0, 0) 2) (m (4, 0, 0) 3) (m (4, 0, 0) 4)).2)) (j1) ((m (4, 0, 0) 2)) ((m (4, 0, 0) 3)) ((m (4, 0, 0) 4)) m ⟨b37, (fun c_ => (Or.inl ⟨c_, rfl, rfl⟩)), (fun c_ => (Or.inr ⟨c_, rfl, rfl⟩))⟩))
    rcases q36 with ⟨c_, rfl, rfl⟩ | ⟨c_, rfl, hm_⟩
    · replace h := h.1 c_
      exact ch_iret (ty := .boolean) d_r_refuse_195 rfl rfl (Nat.le_of_ble_eq_true rfl) h
    · replace h := h.2 c_ m35 hm_
      exact ch_iret (ty := .boolean) d_r_refuse_195 rfl rfl (Nat.le_of_ble_eq_true rfl) h
  replace h := h.2
  by_cases e108 : (m (4, 0, 0) 1) = 108
  · replace h := h.1 e108
    refine ch_tswIn (tgt := 178) (off := 174) d_r_refuse_4 (by rw [e108]; decide) (by rw [e108]; decide) (by rw [e108]; rfl) (by decide) ?_
    refine ch_aload_n (i := 0) d_r_refuse_178 rfl rfl ?_
    refine ch_aload_n (i := 1) d_r_refuse_179 rfl rfl ?_
    refine ch_aload_n (i := 2) d_r_refuse_180 rfl rfl ?_
    refine ch_get (v := .inl (.int (m (4, 0, 0) 2))) d_r_refuse_181 fl_r_24 rfl ?_
    refine ch_aload_n (i := 2) d_r_refuse_184 rfl rfl ?_
    refine ch_get (v := .inl (.int (m (4, 0, 0) 3))) d_r_refuse_185 fl_r_52 rfl ?_
    refine ch_aload_n (i := 2) d_r_refuse_188 rfl rfl ?_
    refine ch_get (v := .inl (.int (m (4, 0, 0) 4))) d_r_refuse_189 fl_r_15 rfl ?_
    have b41 := h.1
    replace h := h.2
    refine ch_callV (as := [.inr (1, j1, 0), .inl (.int (m (4, 0, 0) 2)), .inl (.int (m (4, 0, 0) 3)), .inl (.int (m (4, 0, 0) 4))]) d_r_refuse_192 lk_r_55 mi_r_refuseGift me_r_refuseGift rfl rfl rfl ⟨Nat.le_of_ble_eq_true rfl, Nat.le_of_ble_eq_true rfl⟩ (Nat.le_of_ble_eq_true rfl) ⟨Nat.le_of_ble_eq_true rfl, Nat.le_of_ble_eq_true rfl⟩ (ch_mono (ch_Ki (fun r38 m39 q40 => ?_)) (s_r_refuseGift g (fun (r_ : Int32) (m_ : ch_M) => (((r_wg (ch_ob m 1 j1) (m (4, 0, 0) 2) (m (4, 0, 0) 3) (m (4, 0, 0) 4)).1 = 0) ∧ 0 = r_ ∧ m = m_) ∨ ((¬ (r_wg (ch_ob m 1 j1) (m (4, 0, 0) 2) (m (4, 0, 0) 3) (m (4, 0, 0) 4)).1 = 0) ∧ 1 = r_ ∧ m_ = r_kp m (r_wg (ch_ob m 1 j1) (m (4, 0, 0) 2) (m (4, 0, 0) 3) (m (4, 0, 0) 4)).1 (r_wg (ch_ob m 1 j1) (m (4, 0, 0) 2) (m (4, 0, 0) 3) (m (4, 0, 0) 4)).2)) (j1) ((m (4, 0, 0) 2)) ((m (4, 0, 0) 3)) ((m (4, 0, 0) 4)) m ⟨b41, (fun c_ => (Or.inl ⟨c_, rfl, rfl⟩)), (fun c_ => (Or.inr ⟨c_, rfl, rfl⟩))⟩))
    rcases q40 with ⟨c_, rfl, rfl⟩ | ⟨c_, rfl, hm_⟩
    · replace h := h.1 c_
      exact ch_iret (ty := .boolean) d_r_refuse_195 rfl rfl (Nat.le_of_ble_eq_true rfl) h
    · replace h := h.2 c_ m39 hm_
      exact ch_iret (ty := .boolean) d_r_refuse_195 rfl rfl (Nat.le_of_ble_eq_true rfl) h
  replace h := h.2
  by_cases e109 : (m (4, 0, 0) 1) = 109
  · replace h := h.1 e109
    refine ch_tswIn (tgt := 178) (off := 174) d_r_refuse_4 (by rw [e109]; decide) (by rw [e109]; decide) (by rw [e109]; rfl) (by decide) ?_
    refine ch_aload_n (i := 0) d_r_refuse_178 rfl rfl ?_
    refine ch_aload_n (i := 1) d_r_refuse_179 rfl rfl ?_
    refine ch_aload_n (i := 2) d_r_refuse_180 rfl rfl ?_
    refine ch_get (v := .inl (.int (m (4, 0, 0) 2))) d_r_refuse_181 fl_r_24 rfl ?_
    refine ch_aload_n (i := 2) d_r_refuse_184 rfl rfl ?_
    refine ch_get (v := .inl (.int (m (4, 0, 0) 3))) d_r_refuse_185 fl_r_52 rfl ?_
    refine ch_aload_n (i := 2) d_r_refuse_188 rfl rfl ?_
    refine ch_get (v := .inl (.int (m (4, 0, 0) 4))) d_r_refuse_189 fl_r_15 rfl ?_
    have b45 := h.1
    replace h := h.2
    refine ch_callV (as := [.inr (1, j1, 0), .inl (.int (m (4, 0, 0) 2)), .inl (.int (m (4, 0, 0) 3)), .inl (.int (m (4, 0, 0) 4))]) d_r_refuse_192 lk_r_55 mi_r_refuseGift me_r_refuseGift rfl rfl rfl ⟨Nat.le_of_ble_eq_true rfl, Nat.le_of_ble_eq_true rfl⟩ (Nat.le_of_ble_eq_true rfl) ⟨Nat.le_of_ble_eq_true rfl, Nat.le_of_ble_eq_true rfl⟩ (ch_mono (ch_Ki (fun r42 m43 q44 => ?_)) (s_r_refuseGift g (fun (r_ : Int32) (m_ : ch_M) => (((r_wg (ch_ob m 1 j1) (m (4, 0, 0) 2) (m (4, 0, 0) 3) (m (4, 0, 0) 4)).1 = 0) ∧ 0 = r_ ∧ m = m_) ∨ ((¬ (r_wg (ch_ob m 1 j1) (m (4, 0, 0) 2) (m (4, 0, 0) 3) (m (4, 0, 0) 4)).1 = 0) ∧ 1 = r_ ∧ m_ = r_kp m (r_wg (ch_ob m 1 j1) (m (4, 0, 0) 2) (m (4, 0, 0) 3) (m (4, 0, 0) 4)).1 (r_wg (ch_ob m 1 j1) (m (4, 0, 0) 2) (m (4, 0, 0) 3) (m (4, 0, 0) 4)).2)) (j1) ((m (4, 0, 0) 2)) ((m (4, 0, 0) 3)) ((m (4, 0, 0) 4)) m ⟨b45, (fun c_ => (Or.inl ⟨c_, rfl, rfl⟩)), (fun c_ => (Or.inr ⟨c_, rfl, rfl⟩))⟩))
    rcases q44 with ⟨c_, rfl, rfl⟩ | ⟨c_, rfl, hm_⟩
    · replace h := h.1 c_
      exact ch_iret (ty := .boolean) d_r_refuse_195 rfl rfl (Nat.le_of_ble_eq_true rfl) h
    · replace h := h.2 c_ m43 hm_
      exact ch_iret (ty := .boolean) d_r_refuse_195 rfl rfl (Nat.le_of_ble_eq_true rfl) h
  replace h := h.2
  by_cases e110 : (m (4, 0, 0) 1) = 110
  · replace h := h.1 e110
    refine ch_tswIn (tgt := 104) (off := 100) d_r_refuse_4 (by rw [e110]; decide) (by rw [e110]; decide) (by rw [e110]; rfl) (by decide) ?_
    refine ch_aload_n (i := 0) d_r_refuse_104 rfl rfl ?_
    refine ch_aload_n (i := 1) d_r_refuse_105 rfl rfl ?_
    refine ch_aload_n (i := 2) d_r_refuse_106 rfl rfl ?_
    refine ch_get (v := .inl (.int (m (4, 0, 0) 4))) d_r_refuse_107 fl_r_15 rfl ?_
    refine ch_callV (as := [.inr (1, j1, 0), .inl (.int (m (4, 0, 0) 4))]) d_r_refuse_110 lk_r_18 mi_r_refuseChild me_r_refuseChild rfl rfl rfl ⟨Nat.le_of_ble_eq_true rfl, Nat.le_of_ble_eq_true rfl⟩ (Nat.le_of_ble_eq_true rfl) ⟨Nat.le_of_ble_eq_true rfl, Nat.le_of_ble_eq_true rfl⟩ (ch_mono (ch_Ki (fun r46 m47 q48 => ?_)) (s_r_refuseChild g (fun (r_ : Int32) (m_ : ch_M) => (((r_wn (ch_ob m 1 j1) (m (4, 0, 0) 4)).1 = 0) ∧ 0 = r_ ∧ m = m_) ∨ ((¬ (r_wn (ch_ob m 1 j1) (m (4, 0, 0) 4)).1 = 0) ∧ 1 = r_ ∧ m_ = r_kp m (r_wn (ch_ob m 1 j1) (m (4, 0, 0) 4)).1 (r_wn (ch_ob m 1 j1) (m (4, 0, 0) 4)).2)) (j1) ((m (4, 0, 0) 4)) m ⟨(fun c_ => (Or.inl ⟨c_, rfl, rfl⟩)), (fun c_ => (Or.inr ⟨c_, rfl, rfl⟩))⟩))
    rcases q48 with ⟨c_, rfl, rfl⟩ | ⟨c_, rfl, hm_⟩
    · replace h := h.1 c_
      exact ch_iret (ty := .boolean) d_r_refuse_113 rfl rfl (Nat.le_of_ble_eq_true rfl) h
    · replace h := h.2 c_ m47 hm_
      exact ch_iret (ty := .boolean) d_r_refuse_113 rfl rfl (Nat.le_of_ble_eq_true rfl) h
  replace h := h.2
  by_cases e111 : (m (4, 0, 0) 1) = 111
  · replace h := h.1 e111
    refine ch_tswIn (tgt := 178) (off := 174) d_r_refuse_4 (by rw [e111]; decide) (by rw [e111]; decide) (by rw [e111]; rfl) (by decide) ?_
    refine ch_aload_n (i := 0) d_r_refuse_178 rfl rfl ?_
    refine ch_aload_n (i := 1) d_r_refuse_179 rfl rfl ?_
    refine ch_aload_n (i := 2) d_r_refuse_180 rfl rfl ?_
    refine ch_get (v := .inl (.int (m (4, 0, 0) 2))) d_r_refuse_181 fl_r_24 rfl ?_
    refine ch_aload_n (i := 2) d_r_refuse_184 rfl rfl ?_
    refine ch_get (v := .inl (.int (m (4, 0, 0) 3))) d_r_refuse_185 fl_r_52 rfl ?_
    refine ch_aload_n (i := 2) d_r_refuse_188 rfl rfl ?_
    refine ch_get (v := .inl (.int (m (4, 0, 0) 4))) d_r_refuse_189 fl_r_15 rfl ?_
    have b52 := h.1
    replace h := h.2
    refine ch_callV (as := [.inr (1, j1, 0), .inl (.int (m (4, 0, 0) 2)), .inl (.int (m (4, 0, 0) 3)), .inl (.int (m (4, 0, 0) 4))]) d_r_refuse_192 lk_r_55 mi_r_refuseGift me_r_refuseGift rfl rfl rfl ⟨Nat.le_of_ble_eq_true rfl, Nat.le_of_ble_eq_true rfl⟩ (Nat.le_of_ble_eq_true rfl) ⟨Nat.le_of_ble_eq_true rfl, Nat.le_of_ble_eq_true rfl⟩ (ch_mono (ch_Ki (fun r49 m50 q51 => ?_)) (s_r_refuseGift g (fun (r_ : Int32) (m_ : ch_M) => (((r_wg (ch_ob m 1 j1) (m (4, 0, 0) 2) (m (4, 0, 0) 3) (m (4, 0, 0) 4)).1 = 0) ∧ 0 = r_ ∧ m = m_) ∨ ((¬ (r_wg (ch_ob m 1 j1) (m (4, 0, 0) 2) (m (4, 0, 0) 3) (m (4, 0, 0) 4)).1 = 0) ∧ 1 = r_ ∧ m_ = r_kp m (r_wg (ch_ob m 1 j1) (m (4, 0, 0) 2) (m (4, 0, 0) 3) (m (4, 0, 0) 4)).1 (r_wg (ch_ob m 1 j1) (m (4, 0, 0) 2) (m (4, 0, 0) 3) (m (4, 0, 0) 4)).2)) (j1) ((m (4, 0, 0) 2)) ((m (4, 0, 0) 3)) ((m (4, 0, 0) 4)) m ⟨b52, (fun c_ => (Or.inl ⟨c_, rfl, rfl⟩)), (fun c_ => (Or.inr ⟨c_, rfl, rfl⟩))⟩))
    rcases q51 with ⟨c_, rfl, rfl⟩ | ⟨c_, rfl, hm_⟩
    · replace h := h.1 c_
      exact ch_iret (ty := .boolean) d_r_refuse_195 rfl rfl (Nat.le_of_ble_eq_true rfl) h
    · replace h := h.2 c_ m50 hm_
      exact ch_iret (ty := .boolean) d_r_refuse_195 rfl rfl (Nat.le_of_ble_eq_true rfl) h
  replace h := h.2
  by_cases e112 : (m (4, 0, 0) 1) = 112
  · replace h := h.1 e112
    refine ch_tswIn (tgt := 178) (off := 174) d_r_refuse_4 (by rw [e112]; decide) (by rw [e112]; decide) (by rw [e112]; rfl) (by decide) ?_
    refine ch_aload_n (i := 0) d_r_refuse_178 rfl rfl ?_
    refine ch_aload_n (i := 1) d_r_refuse_179 rfl rfl ?_
    refine ch_aload_n (i := 2) d_r_refuse_180 rfl rfl ?_
    refine ch_get (v := .inl (.int (m (4, 0, 0) 2))) d_r_refuse_181 fl_r_24 rfl ?_
    refine ch_aload_n (i := 2) d_r_refuse_184 rfl rfl ?_
    refine ch_get (v := .inl (.int (m (4, 0, 0) 3))) d_r_refuse_185 fl_r_52 rfl ?_
    refine ch_aload_n (i := 2) d_r_refuse_188 rfl rfl ?_
    refine ch_get (v := .inl (.int (m (4, 0, 0) 4))) d_r_refuse_189 fl_r_15 rfl ?_
    have b56 := h.1
    replace h := h.2
    refine ch_callV (as := [.inr (1, j1, 0), .inl (.int (m (4, 0, 0) 2)), .inl (.int (m (4, 0, 0) 3)), .inl (.int (m (4, 0, 0) 4))]) d_r_refuse_192 lk_r_55 mi_r_refuseGift me_r_refuseGift rfl rfl rfl ⟨Nat.le_of_ble_eq_true rfl, Nat.le_of_ble_eq_true rfl⟩ (Nat.le_of_ble_eq_true rfl) ⟨Nat.le_of_ble_eq_true rfl, Nat.le_of_ble_eq_true rfl⟩ (ch_mono (ch_Ki (fun r53 m54 q55 => ?_)) (s_r_refuseGift g (fun (r_ : Int32) (m_ : ch_M) => (((r_wg (ch_ob m 1 j1) (m (4, 0, 0) 2) (m (4, 0, 0) 3) (m (4, 0, 0) 4)).1 = 0) ∧ 0 = r_ ∧ m = m_) ∨ ((¬ (r_wg (ch_ob m 1 j1) (m (4, 0, 0) 2) (m (4, 0, 0) 3) (m (4, 0, 0) 4)).1 = 0) ∧ 1 = r_ ∧ m_ = r_kp m (r_wg (ch_ob m 1 j1) (m (4, 0, 0) 2) (m (4, 0, 0) 3) (m (4, 0, 0) 4)).1 (r_wg (ch_ob m 1 j1) (m (4, 0, 0) 2) (m (4, 0, 0) 3) (m (4, 0, 0) 4)).2)) (j1) ((m (4, 0, 0) 2)) ((m (4, 0, 0) 3)) ((m (4, 0, 0) 4)) m ⟨b56, (fun c_ => (Or.inl ⟨c_, rfl, rfl⟩)), (fun c_ => (Or.inr ⟨c_, rfl, rfl⟩))⟩))
    rcases q55 with ⟨c_, rfl, rfl⟩ | ⟨c_, rfl, hm_⟩
    · replace h := h.1 c_
      exact ch_iret (ty := .boolean) d_r_refuse_195 rfl rfl (Nat.le_of_ble_eq_true rfl) h
    · replace h := h.2 c_ m54 hm_
      exact ch_iret (ty := .boolean) d_r_refuse_195 rfl rfl (Nat.le_of_ble_eq_true rfl) h
  replace h := h.2
  by_cases e113 : (m (4, 0, 0) 1) = 113
  · replace h := h.1 e113
    refine ch_tswIn (tgt := 178) (off := 174) d_r_refuse_4 (by rw [e113]; decide) (by rw [e113]; decide) (by rw [e113]; rfl) (by decide) ?_
    refine ch_aload_n (i := 0) d_r_refuse_178 rfl rfl ?_
    refine ch_aload_n (i := 1) d_r_refuse_179 rfl rfl ?_
    refine ch_aload_n (i := 2) d_r_refuse_180 rfl rfl ?_
    refine ch_get (v := .inl (.int (m (4, 0, 0) 2))) d_r_refuse_181 fl_r_24 rfl ?_
    refine ch_aload_n (i := 2) d_r_refuse_184 rfl rfl ?_
    refine ch_get (v := .inl (.int (m (4, 0, 0) 3))) d_r_refuse_185 fl_r_52 rfl ?_
    refine ch_aload_n (i := 2) d_r_refuse_188 rfl rfl ?_
    refine ch_get (v := .inl (.int (m (4, 0, 0) 4))) d_r_refuse_189 fl_r_15 rfl ?_
    have b60 := h.1
    replace h := h.2
    refine ch_callV (as := [.inr (1, j1, 0), .inl (.int (m (4, 0, 0) 2)), .inl (.int (m (4, 0, 0) 3)), .inl (.int (m (4, 0, 0) 4))]) d_r_refuse_192 lk_r_55 mi_r_refuseGift me_r_refuseGift rfl rfl rfl ⟨Nat.le_of_ble_eq_true rfl, Nat.le_of_ble_eq_true rfl⟩ (Nat.le_of_ble_eq_true rfl) ⟨Nat.le_of_ble_eq_true rfl, Nat.le_of_ble_eq_true rfl⟩ (ch_mono (ch_Ki (fun r57 m58 q59 => ?_)) (s_r_refuseGift g (fun (r_ : Int32) (m_ : ch_M) => (((r_wg (ch_ob m 1 j1) (m (4, 0, 0) 2) (m (4, 0, 0) 3) (m (4, 0, 0) 4)).1 = 0) ∧ 0 = r_ ∧ m = m_) ∨ ((¬ (r_wg (ch_ob m 1 j1) (m (4, 0, 0) 2) (m (4, 0, 0) 3) (m (4, 0, 0) 4)).1 = 0) ∧ 1 = r_ ∧ m_ = r_kp m (r_wg (ch_ob m 1 j1) (m (4, 0, 0) 2) (m (4, 0, 0) 3) (m (4, 0, 0) 4)).1 (r_wg (ch_ob m 1 j1) (m (4, 0, 0) 2) (m (4, 0, 0) 3) (m (4, 0, 0) 4)).2)) (j1) ((m (4, 0, 0) 2)) ((m (4, 0, 0) 3)) ((m (4, 0, 0) 4)) m ⟨b60, (fun c_ => (Or.inl ⟨c_, rfl, rfl⟩)), (fun c_ => (Or.inr ⟨c_, rfl, rfl⟩))⟩))
    rcases q59 with ⟨c_, rfl, rfl⟩ | ⟨c_, rfl, hm_⟩
    · replace h := h.1 c_
      exact ch_iret (ty := .boolean) d_r_refuse_195 rfl rfl (Nat.le_of_ble_eq_true rfl) h
    · replace h := h.2 c_ m58 hm_
      exact ch_iret (ty := .boolean) d_r_refuse_195 rfl rfl (Nat.le_of_ble_eq_true rfl) h
  replace h := h.2
  by_cases e114 : (m (4, 0, 0) 1) = 114
  · replace h := h.1 e114
    refine ch_tswIn (tgt := 162) (off := 158) d_r_refuse_4 (by rw [e114]; decide) (by rw [e114]; decide) (by rw [e114]; rfl) (by decide) ?_
    refine ch_aload_n (i := 0) d_r_refuse_162 rfl rfl ?_
    refine ch_aload_n (i := 1) d_r_refuse_163 rfl rfl ?_
    refine ch_aload_n (i := 2) d_r_refuse_164 rfl rfl ?_
    refine ch_get (v := .inl (.int (m (4, 0, 0) 4))) d_r_refuse_165 fl_r_15 rfl ?_
    refine ch_callV (as := [.inr (1, j1, 0), .inl (.int (m (4, 0, 0) 4))]) d_r_refuse_168 lk_r_45 mi_r_refuseRain me_r_refuseRain rfl rfl rfl ⟨Nat.le_of_ble_eq_true rfl, Nat.le_of_ble_eq_true rfl⟩ (Nat.le_of_ble_eq_true rfl) ⟨Nat.le_of_ble_eq_true rfl, Nat.le_of_ble_eq_true rfl⟩ (ch_mono (ch_Ki (fun r61 m62 q63 => ?_)) (s_r_refuseRain g (fun (r_ : Int32) (m_ : ch_M) => (((r_wr (ch_ob m 1 j1) (m (4, 0, 0) 4)).1 = 0) ∧ 0 = r_ ∧ m = m_) ∨ ((¬ (r_wr (ch_ob m 1 j1) (m (4, 0, 0) 4)).1 = 0) ∧ 1 = r_ ∧ m_ = r_kp m (r_wr (ch_ob m 1 j1) (m (4, 0, 0) 4)).1 (r_wr (ch_ob m 1 j1) (m (4, 0, 0) 4)).2)) (j1) ((m (4, 0, 0) 4)) m ⟨(fun c_ => (Or.inl ⟨c_, rfl, rfl⟩)), (fun c_ => (Or.inr ⟨c_, rfl, rfl⟩))⟩))
    rcases q63 with ⟨c_, rfl, rfl⟩ | ⟨c_, rfl, hm_⟩
    · replace h := h.1 c_
      exact ch_iret (ty := .boolean) d_r_refuse_171 rfl rfl (Nat.le_of_ble_eq_true rfl) h
    · replace h := h.2 c_ m62 hm_
      exact ch_iret (ty := .boolean) d_r_refuse_171 rfl rfl (Nat.le_of_ble_eq_true rfl) h
  replace h := h.2
  by_cases e115 : (m (4, 0, 0) 1) = 115
  · replace h := h.1 e115
    refine ch_tswIn (tgt := 152) (off := 148) d_r_refuse_4 (by rw [e115]; decide) (by rw [e115]; decide) (by rw [e115]; rfl) (by decide) ?_
    refine ch_aload_n (i := 0) d_r_refuse_152 rfl rfl ?_
    refine ch_aload_n (i := 1) d_r_refuse_153 rfl rfl ?_
    refine ch_aload_n (i := 2) d_r_refuse_154 rfl rfl ?_
    refine ch_get (v := .inl (.int (m (4, 0, 0) 2))) d_r_refuse_155 fl_r_24 rfl ?_
    have b67 := h.1
    replace h := h.2
    refine ch_callV (as := [.inr (1, j1, 0), .inl (.int (m (4, 0, 0) 2))]) d_r_refuse_158 lk_r_42 mi_r_refuseStrike me_r_refuseStrike rfl rfl rfl ⟨Nat.le_of_ble_eq_true rfl, Nat.le_of_ble_eq_true rfl⟩ (Nat.le_of_ble_eq_true rfl) ⟨Nat.le_of_ble_eq_true rfl, Nat.le_of_ble_eq_true rfl⟩ (ch_mono (ch_Ki (fun r64 m65 q66 => ?_)) (s_r_refuseStrike g (fun (r_ : Int32) (m_ : ch_M) => (((r_ws (ch_ob m 1 j1) (m (4, 0, 0) 2)).1 = 0) ∧ 0 = r_ ∧ m = m_) ∨ ((¬ (r_ws (ch_ob m 1 j1) (m (4, 0, 0) 2)).1 = 0) ∧ 1 = r_ ∧ m_ = r_kp m (r_ws (ch_ob m 1 j1) (m (4, 0, 0) 2)).1 (r_ws (ch_ob m 1 j1) (m (4, 0, 0) 2)).2)) (j1) ((m (4, 0, 0) 2)) m ⟨b67, (fun c_ => (Or.inl ⟨c_, rfl, rfl⟩)), (fun c_ => (Or.inr ⟨c_, rfl, rfl⟩))⟩))
    rcases q66 with ⟨c_, rfl, rfl⟩ | ⟨c_, rfl, hm_⟩
    · replace h := h.1 c_
      exact ch_iret (ty := .boolean) d_r_refuse_161 rfl rfl (Nat.le_of_ble_eq_true rfl) h
    · replace h := h.2 c_ m65 hm_
      exact ch_iret (ty := .boolean) d_r_refuse_161 rfl rfl (Nat.le_of_ble_eq_true rfl) h
  replace h := h.2
  by_cases e116 : (m (4, 0, 0) 1) = 116
  · replace h := h.1 e116
    refine ch_tswIn (tgt := 172) (off := 168) d_r_refuse_4 (by rw [e116]; decide) (by rw [e116]; decide) (by rw [e116]; rfl) (by decide) ?_
    refine ch_aload_n (i := 0) d_r_refuse_172 rfl rfl ?_
    refine ch_aload_n (i := 1) d_r_refuse_173 rfl rfl ?_
    refine ch_callV (as := [.inr (1, j1, 0)]) d_r_refuse_174 lk_r_48 mi_r_refuseTerm me_r_refuseTerm rfl rfl rfl ⟨Nat.le_of_ble_eq_true rfl, Nat.le_of_ble_eq_true rfl⟩ (Nat.le_of_ble_eq_true rfl) ⟨Nat.le_of_ble_eq_true rfl, Nat.le_of_ble_eq_true rfl⟩ (ch_mono (ch_Ki (fun r68 m69 q70 => ?_)) (s_r_refuseTerm g (fun (r_ : Int32) (m_ : ch_M) => (((r_wt (ch_ob m 1 j1)).1 = 0) ∧ 0 = r_ ∧ m = m_) ∨ ((¬ (r_wt (ch_ob m 1 j1)).1 = 0) ∧ 1 = r_ ∧ m_ = r_kp m (r_wt (ch_ob m 1 j1)).1 (r_wt (ch_ob m 1 j1)).2)) (j1) m ⟨(fun c_ => (Or.inl ⟨c_, rfl, rfl⟩)), (fun c_ => (Or.inr ⟨c_, rfl, rfl⟩))⟩))
    rcases q70 with ⟨c_, rfl, rfl⟩ | ⟨c_, rfl, hm_⟩
    · replace h := h.1 c_
      exact ch_iret (ty := .boolean) d_r_refuse_177 rfl rfl (Nat.le_of_ble_eq_true rfl) h
    · replace h := h.2 c_ m69 hm_
      exact ch_iret (ty := .boolean) d_r_refuse_177 rfl rfl (Nat.le_of_ble_eq_true rfl) h
  replace h := h.2
  by_cases e117 : (m (4, 0, 0) 1) = 117
  · replace h := h.1 e117
    refine ch_tswIn (tgt := 178) (off := 174) d_r_refuse_4 (by rw [e117]; decide) (by rw [e117]; decide) (by rw [e117]; rfl) (by decide) ?_
    refine ch_aload_n (i := 0) d_r_refuse_178 rfl rfl ?_
    refine ch_aload_n (i := 1) d_r_refuse_179 rfl rfl ?_
    refine ch_aload_n (i := 2) d_r_refuse_180 rfl rfl ?_
    refine ch_get (v := .inl (.int (m (4, 0, 0) 2))) d_r_refuse_181 fl_r_24 rfl ?_
    refine ch_aload_n (i := 2) d_r_refuse_184 rfl rfl ?_
    refine ch_get (v := .inl (.int (m (4, 0, 0) 3))) d_r_refuse_185 fl_r_52 rfl ?_
    refine ch_aload_n (i := 2) d_r_refuse_188 rfl rfl ?_
    refine ch_get (v := .inl (.int (m (4, 0, 0) 4))) d_r_refuse_189 fl_r_15 rfl ?_
    have b74 := h.1
    replace h := h.2
    refine ch_callV (as := [.inr (1, j1, 0), .inl (.int (m (4, 0, 0) 2)), .inl (.int (m (4, 0, 0) 3)), .inl (.int (m (4, 0, 0) 4))]) d_r_refuse_192 lk_r_55 mi_r_refuseGift me_r_refuseGift rfl rfl rfl ⟨Nat.le_of_ble_eq_true rfl, Nat.le_of_ble_eq_true rfl⟩ (Nat.le_of_ble_eq_true rfl) ⟨Nat.le_of_ble_eq_true rfl, Nat.le_of_ble_eq_true rfl⟩ (ch_mono (ch_Ki (fun r71 m72 q73 => ?_)) (s_r_refuseGift g (fun (r_ : Int32) (m_ : ch_M) => (((r_wg (ch_ob m 1 j1) (m (4, 0, 0) 2) (m (4, 0, 0) 3) (m (4, 0, 0) 4)).1 = 0) ∧ 0 = r_ ∧ m = m_) ∨ ((¬ (r_wg (ch_ob m 1 j1) (m (4, 0, 0) 2) (m (4, 0, 0) 3) (m (4, 0, 0) 4)).1 = 0) ∧ 1 = r_ ∧ m_ = r_kp m (r_wg (ch_ob m 1 j1) (m (4, 0, 0) 2) (m (4, 0, 0) 3) (m (4, 0, 0) 4)).1 (r_wg (ch_ob m 1 j1) (m (4, 0, 0) 2) (m (4, 0, 0) 3) (m (4, 0, 0) 4)).2)) (j1) ((m (4, 0, 0) 2)) ((m (4, 0, 0) 3)) ((m (4, 0, 0) 4)) m ⟨b74, (fun c_ => (Or.inl ⟨c_, rfl, rfl⟩)), (fun c_ => (Or.inr ⟨c_, rfl, rfl⟩))⟩))
    rcases q73 with ⟨c_, rfl, rfl⟩ | ⟨c_, rfl, hm_⟩
    · replace h := h.1 c_
      exact ch_iret (ty := .boolean) d_r_refuse_195 rfl rfl (Nat.le_of_ble_eq_true rfl) h
    · replace h := h.2 c_ m72 hm_
      exact ch_iret (ty := .boolean) d_r_refuse_195 rfl rfl (Nat.le_of_ble_eq_true rfl) h
  replace h := h.2
  by_cases e118 : (m (4, 0, 0) 1) = 118
  · replace h := h.1 e118
    refine ch_tswIn (tgt := 178) (off := 174) d_r_refuse_4 (by rw [e118]; decide) (by rw [e118]; decide) (by rw [e118]; rfl) (by decide) ?_
    refine ch_aload_n (i := 0) d_r_refuse_178 rfl rfl ?_
    refine ch_aload_n (i := 1) d_r_refuse_179 rfl rfl ?_
    refine ch_aload_n (i := 2) d_r_refuse_180 rfl rfl ?_
    refine ch_get (v := .inl (.int (m (4, 0, 0) 2))) d_r_refuse_181 fl_r_24 rfl ?_
    refine ch_aload_n (i := 2) d_r_refuse_184 rfl rfl ?_
    refine ch_get (v := .inl (.int (m (4, 0, 0) 3))) d_r_refuse_185 fl_r_52 rfl ?_
    refine ch_aload_n (i := 2) d_r_refuse_188 rfl rfl ?_
    refine ch_get (v := .inl (.int (m (4, 0, 0) 4))) d_r_refuse_189 fl_r_15 rfl ?_
    have b78 := h.1
    replace h := h.2
    refine ch_callV (as := [.inr (1, j1, 0), .inl (.int (m (4, 0, 0) 2)), .inl (.int (m (4, 0, 0) 3)), .inl (.int (m (4, 0, 0) 4))]) d_r_refuse_192 lk_r_55 mi_r_refuseGift me_r_refuseGift rfl rfl rfl ⟨Nat.le_of_ble_eq_true rfl, Nat.le_of_ble_eq_true rfl⟩ (Nat.le_of_ble_eq_true rfl) ⟨Nat.le_of_ble_eq_true rfl, Nat.le_of_ble_eq_true rfl⟩ (ch_mono (ch_Ki (fun r75 m76 q77 => ?_)) (s_r_refuseGift g (fun (r_ : Int32) (m_ : ch_M) => (((r_wg (ch_ob m 1 j1) (m (4, 0, 0) 2) (m (4, 0, 0) 3) (m (4, 0, 0) 4)).1 = 0) ∧ 0 = r_ ∧ m = m_) ∨ ((¬ (r_wg (ch_ob m 1 j1) (m (4, 0, 0) 2) (m (4, 0, 0) 3) (m (4, 0, 0) 4)).1 = 0) ∧ 1 = r_ ∧ m_ = r_kp m (r_wg (ch_ob m 1 j1) (m (4, 0, 0) 2) (m (4, 0, 0) 3) (m (4, 0, 0) 4)).1 (r_wg (ch_ob m 1 j1) (m (4, 0, 0) 2) (m (4, 0, 0) 3) (m (4, 0, 0) 4)).2)) (j1) ((m (4, 0, 0) 2)) ((m (4, 0, 0) 3)) ((m (4, 0, 0) 4)) m ⟨b78, (fun c_ => (Or.inl ⟨c_, rfl, rfl⟩)), (fun c_ => (Or.inr ⟨c_, rfl, rfl⟩))⟩))
    rcases q77 with ⟨c_, rfl, rfl⟩ | ⟨c_, rfl, hm_⟩
    · replace h := h.1 c_
      exact ch_iret (ty := .boolean) d_r_refuse_195 rfl rfl (Nat.le_of_ble_eq_true rfl) h
    · replace h := h.2 c_ m76 hm_
      exact ch_iret (ty := .boolean) d_r_refuse_195 rfl rfl (Nat.le_of_ble_eq_true rfl) h
  replace h := h.2
  by_cases e119 : (m (4, 0, 0) 1) = 119
  · replace h := h.1 e119
    refine ch_tswIn (tgt := 142) (off := 138) d_r_refuse_4 (by rw [e119]; decide) (by rw [e119]; decide) (by rw [e119]; rfl) (by decide) ?_
    refine ch_aload_n (i := 0) d_r_refuse_142 rfl rfl ?_
    refine ch_aload_n (i := 1) d_r_refuse_143 rfl rfl ?_
    refine ch_aload_n (i := 2) d_r_refuse_144 rfl rfl ?_
    refine ch_get (v := .inl (.int (m (4, 0, 0) 2))) d_r_refuse_145 fl_r_24 rfl ?_
    have b82 := h.1
    replace h := h.2
    refine ch_callV (as := [.inr (1, j1, 0), .inl (.int (m (4, 0, 0) 2))]) d_r_refuse_148 lk_r_39 mi_r_refuseWarrant me_r_refuseWarrant rfl rfl rfl ⟨Nat.le_of_ble_eq_true rfl, Nat.le_of_ble_eq_true rfl⟩ (Nat.le_of_ble_eq_true rfl) ⟨Nat.le_of_ble_eq_true rfl, Nat.le_of_ble_eq_true rfl⟩ (ch_mono (ch_Ki (fun r79 m80 q81 => ?_)) (s_r_refuseWarrant g (fun (r_ : Int32) (m_ : ch_M) => (((r_ww (ch_ob m 1 j1) (m (4, 0, 0) 2)).1 = 0) ∧ 0 = r_ ∧ m = m_) ∨ ((¬ (r_ww (ch_ob m 1 j1) (m (4, 0, 0) 2)).1 = 0) ∧ 1 = r_ ∧ m_ = r_kp m (r_ww (ch_ob m 1 j1) (m (4, 0, 0) 2)).1 (r_ww (ch_ob m 1 j1) (m (4, 0, 0) 2)).2)) (j1) ((m (4, 0, 0) 2)) m ⟨b82, (fun c_ => (Or.inl ⟨c_, rfl, rfl⟩)), (fun c_ => (Or.inr ⟨c_, rfl, rfl⟩))⟩))
    rcases q81 with ⟨c_, rfl, rfl⟩ | ⟨c_, rfl, hm_⟩
    · replace h := h.1 c_
      exact ch_iret (ty := .boolean) d_r_refuse_151 rfl rfl (Nat.le_of_ble_eq_true rfl) h
    · replace h := h.2 c_ m80 hm_
      exact ch_iret (ty := .boolean) d_r_refuse_151 rfl rfl (Nat.le_of_ble_eq_true rfl) h
  replace h := h.2
  have hx : (Int32.toInt (m (4, 0, 0) 1) < 99 ∨ 119 < Int32.toInt (m (4, 0, 0) 1)) := by
    have f99 : Int32.toInt (m (4, 0, 0) 1) ≠ 99 := fun q => e99 (Int32.toInt_inj.mp (q.trans (by decide)))
    have f100 : Int32.toInt (m (4, 0, 0) 1) ≠ 100 := fun q => e100 (Int32.toInt_inj.mp (q.trans (by decide)))
    have f101 : Int32.toInt (m (4, 0, 0) 1) ≠ 101 := fun q => e101 (Int32.toInt_inj.mp (q.trans (by decide)))
    have f102 : Int32.toInt (m (4, 0, 0) 1) ≠ 102 := fun q => e102 (Int32.toInt_inj.mp (q.trans (by decide)))
    have f103 : Int32.toInt (m (4, 0, 0) 1) ≠ 103 := fun q => e103 (Int32.toInt_inj.mp (q.trans (by decide)))
    have f104 : Int32.toInt (m (4, 0, 0) 1) ≠ 104 := fun q => e104 (Int32.toInt_inj.mp (q.trans (by decide)))
    have f105 : Int32.toInt (m (4, 0, 0) 1) ≠ 105 := fun q => e105 (Int32.toInt_inj.mp (q.trans (by decide)))
    have f106 : Int32.toInt (m (4, 0, 0) 1) ≠ 106 := fun q => e106 (Int32.toInt_inj.mp (q.trans (by decide)))
    have f107 : Int32.toInt (m (4, 0, 0) 1) ≠ 107 := fun q => e107 (Int32.toInt_inj.mp (q.trans (by decide)))
    have f108 : Int32.toInt (m (4, 0, 0) 1) ≠ 108 := fun q => e108 (Int32.toInt_inj.mp (q.trans (by decide)))
    have f109 : Int32.toInt (m (4, 0, 0) 1) ≠ 109 := fun q => e109 (Int32.toInt_inj.mp (q.trans (by decide)))
    have f110 : Int32.toInt (m (4, 0, 0) 1) ≠ 110 := fun q => e110 (Int32.toInt_inj.mp (q.trans (by decide)))
    have f111 : Int32.toInt (m (4, 0, 0) 1) ≠ 111 := fun q => e111 (Int32.toInt_inj.mp (q.trans (by decide)))
    have f112 : Int32.toInt (m (4, 0, 0) 1) ≠ 112 := fun q => e112 (Int32.toInt_inj.mp (q.trans (by decide)))
    have f113 : Int32.toInt (m (4, 0, 0) 1) ≠ 113 := fun q => e113 (Int32.toInt_inj.mp (q.trans (by decide)))
    have f114 : Int32.toInt (m (4, 0, 0) 1) ≠ 114 := fun q => e114 (Int32.toInt_inj.mp (q.trans (by decide)))
    have f115 : Int32.toInt (m (4, 0, 0) 1) ≠ 115 := fun q => e115 (Int32.toInt_inj.mp (q.trans (by decide)))
    have f116 : Int32.toInt (m (4, 0, 0) 1) ≠ 116 := fun q => e116 (Int32.toInt_inj.mp (q.trans (by decide)))
    have f117 : Int32.toInt (m (4, 0, 0) 1) ≠ 117 := fun q => e117 (Int32.toInt_inj.mp (q.trans (by decide)))
    have f118 : Int32.toInt (m (4, 0, 0) 1) ≠ 118 := fun q => e118 (Int32.toInt_inj.mp (q.trans (by decide)))
    have f119 : Int32.toInt (m (4, 0, 0) 1) ≠ 119 := fun q => e119 (Int32.toInt_inj.mp (q.trans (by decide)))
    omega
  replace h := h hx
  refine ch_tswOut (tgt := 178) d_r_refuse_4 hx (by decide) ?_
  refine ch_aload_n (i := 0) d_r_refuse_178 rfl rfl ?_
  refine ch_aload_n (i := 1) d_r_refuse_179 rfl rfl ?_
  refine ch_aload_n (i := 2) d_r_refuse_180 rfl rfl ?_
  refine ch_get (v := .inl (.int (m (4, 0, 0) 2))) d_r_refuse_181 fl_r_24 rfl ?_
  refine ch_aload_n (i := 2) d_r_refuse_184 rfl rfl ?_
  refine ch_get (v := .inl (.int (m (4, 0, 0) 3))) d_r_refuse_185 fl_r_52 rfl ?_
  refine ch_aload_n (i := 2) d_r_refuse_188 rfl rfl ?_
  refine ch_get (v := .inl (.int (m (4, 0, 0) 4))) d_r_refuse_189 fl_r_15 rfl ?_
  have b86 := h.1
  replace h := h.2
  refine ch_callV (as := [.inr (1, j1, 0), .inl (.int (m (4, 0, 0) 2)), .inl (.int (m (4, 0, 0) 3)), .inl (.int (m (4, 0, 0) 4))]) d_r_refuse_192 lk_r_55 mi_r_refuseGift me_r_refuseGift rfl rfl rfl ⟨Nat.le_of_ble_eq_true rfl, Nat.le_of_ble_eq_true rfl⟩ (Nat.le_of_ble_eq_true rfl) ⟨Nat.le_of_ble_eq_true rfl, Nat.le_of_ble_eq_true rfl⟩ (ch_mono (ch_Ki (fun r83 m84 q85 => ?_)) (s_r_refuseGift g (fun (r_ : Int32) (m_ : ch_M) => (((r_wg (ch_ob m 1 j1) (m (4, 0, 0) 2) (m (4, 0, 0) 3) (m (4, 0, 0) 4)).1 = 0) ∧ 0 = r_ ∧ m = m_) ∨ ((¬ (r_wg (ch_ob m 1 j1) (m (4, 0, 0) 2) (m (4, 0, 0) 3) (m (4, 0, 0) 4)).1 = 0) ∧ 1 = r_ ∧ m_ = r_kp m (r_wg (ch_ob m 1 j1) (m (4, 0, 0) 2) (m (4, 0, 0) 3) (m (4, 0, 0) 4)).1 (r_wg (ch_ob m 1 j1) (m (4, 0, 0) 2) (m (4, 0, 0) 3) (m (4, 0, 0) 4)).2)) (j1) ((m (4, 0, 0) 2)) ((m (4, 0, 0) 3)) ((m (4, 0, 0) 4)) m ⟨b86, (fun c_ => (Or.inl ⟨c_, rfl, rfl⟩)), (fun c_ => (Or.inr ⟨c_, rfl, rfl⟩))⟩))
  rcases q85 with ⟨c_, rfl, rfl⟩ | ⟨c_, rfl, hm_⟩
  · replace h := h.1 c_
    exact ch_iret (ty := .boolean) d_r_refuse_195 rfl rfl (Nat.le_of_ble_eq_true rfl) h
  · replace h := h.2 c_ m84 hm_
    exact ch_iret (ty := .boolean) d_r_refuse_195 rfl rfl (Nat.le_of_ble_eq_true rfl) h
