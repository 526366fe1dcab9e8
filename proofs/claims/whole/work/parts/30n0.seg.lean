theorem e_m_child (g : ch_G) (Q : ch_O → ch_M → Prop) (p1 : Int32) (m : ch_M) (h : ch_J g m_m_child (ch_rm m_m_child) (ch_E g m_m_child Q) 0 [some (.inr (9, 0, 0)), some (.inl (.int p1))] [] m 0) : ch_C g m_m_child [.inr (9, 0, 0), .inl (.int p1)] m Q :=
  ch_enter mf_m_child (by intro v hv; simp only [List.mem_cons, List.not_mem_nil, or_false] at hv; rcases hv with rfl | rfl <;> rfl) (Nat.le_of_ble_eq_true rfl) h
set_option maxHeartbeats 1600000 in
theorem g_m_child_0 (g : ch_G) (Q : ch_O → ch_M → Prop) (p1 : Int32) (m : ch_M) (h : ((∀ m2 : ch_M, m2 = ch_os m 9 0 (m_trB (ch_ob m 9 0)) → (∃ T_4 : Nat, (∃ Y_5 : ch_B, (m_rel Y_5 (m2 (9, 0, 1))) ∧ (y_inv T_4 Y_5) ∧ ((((r_wn Y_5 p1).1 = 0) → (∀ (B6 : ch_B), (m_did (ch_ob m2 9 0) B6 (y_briB Y_5 p1) (Y_5 0 8)) → (∀ m8 : ch_M, m8 = ch_os m2 9 0 B6 → (vp_in (m8 (9, 0, 0) 4) 9) ∧ ((∀ m13 : ch_M, m13 = ch_os m8 9 0 (m_kB (ch_ob m8 9 0)) → Q (.inl (some (.inl (.int (m8 (9, 0, 0) 18))))) m13))))) ∧ ((¬ (r_wn Y_5 p1).1 = 0) → (∀ m8 : ch_M, m8 = ch_os m2 9 0 (m_refB (ch_ob m2 9 0) (r_wn Y_5 p1).1 (r_wn Y_5 p1).2) → ((∀ m17 : ch_M, m17 = ch_os m8 9 0 (ch_bw (ch_ob m8 9 0) 0 19 1) → Q (.inl (some (.inl (.int 0)))) m17)))))))))) : ch_J g m_m_child (ch_rm m_m_child) (ch_E g m_m_child Q) 0 [some (.inr (9, 0, 0)), some (.inl (.int p1))] [] m 0 := by
  refine ch_aload_n (i := 0) d_m_child_0 rfl rfl ?_
  refine ch_callV (as := []) d_m_child_1 lk_m_96 mi_m_tries me_m_tries rfl rfl rfl ⟨Nat.le_of_ble_eq_true rfl, Nat.le_of_ble_eq_true rfl⟩ (Nat.le_of_ble_eq_true rfl) ⟨Nat.le_of_ble_eq_true rfl, Nat.le_of_ble_eq_true rfl⟩ (ch_mono (ch_Kv (fun m2 q3 => ?_)) (s_m_tries g (fun (m_ : ch_M) => (m_ = ch_os m 9 0 (m_trB (ch_ob m 9 0))))  m rfl))
  have hm_ := q3
  replace h := h m2 hm_
  refine ch_aload_n (i := 0) d_m_child_4 rfl rfl ?_
  refine ch_aload_n (i := 0) d_m_child_5 rfl rfl ?_
  refine ch_iload_n (i := 1) d_m_child_6 rfl rfl ?_
  obtain ⟨T_4, h⟩ := h
  obtain ⟨Y_5, h⟩ := h
  have b10 := h.1
  replace h := h.2
  have b11 := h.1
  replace h := h.2
  refine ch_callV (as := [.inl (.int p1)]) d_m_child_7 lk_m_99 mi_m_comes me_m_comes rfl rfl rfl ⟨Nat.le_of_ble_eq_true rfl, Nat.le_of_ble_eq_true rfl⟩ (Nat.le_of_ble_eq_true rfl) ⟨Nat.le_of_ble_eq_true rfl, Nat.le_of_ble_eq_true rfl⟩ (ch_mono (ch_Ki (fun r7 m8 q9 => ?_)) (c_m_comes g (fun (r_ : Int32) (m_ : ch_M) => (∃ (B6 : ch_B), ((r_wn Y_5 p1).1 = 0) ∧ 1 = r_ ∧ (m_did (ch_ob m2 9 0) B6 (y_briB Y_5 p1) (Y_5 0 8)) ∧ m_ = ch_os m2 9 0 B6) ∨ ((¬ (r_wn Y_5 p1).1 = 0) ∧ 0 = r_ ∧ m_ = ch_os m2 9 0 (m_refB (ch_ob m2 9 0) (r_wn Y_5 p1).1 (r_wn Y_5 p1).2))) (T_4) (Y_5) (p1) m2 ⟨b10, b11, (fun c_ B6 f0_ => (Or.inl ⟨B6, c_, rfl, f0_, rfl⟩)), (fun c_ => (Or.inr ⟨c_, rfl, rfl⟩))⟩))
  rcases q9 with ⟨B6, c_, rfl, f0_, hm_⟩ | ⟨c_, rfl, hm_⟩
  · replace h := h.1 c_ B6 f0_ m8 hm_
    have b15 := h.1
    replace h := h.2
    refine ch_callV (as := [.inl (.int 1)]) d_m_child_10 lk_m_102 mi_m_ends me_m_ends rfl rfl rfl ⟨Nat.le_of_ble_eq_true rfl, Nat.le_of_ble_eq_true rfl⟩ (Nat.le_of_ble_eq_true rfl) ⟨Nat.le_of_ble_eq_true rfl, Nat.le_of_ble_eq_true rfl⟩ (ch_mono (ch_Ki (fun r12 m13 q14 => ?_)) (c_m_ends1 g (fun (r_ : Int32) (m_ : ch_M) => ((m8 (9, 0, 0) 18) = r_ ∧ m_ = ch_os m8 9 0 (m_kB (ch_ob m8 9 0))))  m8 ⟨b15, ⟨rfl, rfl⟩⟩))
    obtain ⟨rfl, hm_⟩ := q14
    replace h := h m13 hm_
    exact ch_iret (ty := .int) d_m_child_13 rfl rfl (Nat.le_of_ble_eq_true rfl) h
  · replace h := h.2 c_ m8 hm_
    refine ch_callV (as := [.inl (.int 0)]) d_m_child_10 lk_m_102 mi_m_ends me_m_ends rfl rfl rfl ⟨Nat.le_of_ble_eq_true rfl, Nat.le_of_ble_eq_true rfl⟩ (Nat.le_of_ble_eq_true rfl) ⟨Nat.le_of_ble_eq_true rfl, Nat.le_of_ble_eq_true rfl⟩ (ch_mono (ch_Ki (fun r16 m17 q18 => ?_)) (c_m_ends0 g (fun (r_ : Int32) (m_ : ch_M) => (0 = r_ ∧ m_ = ch_os m8 9 0 (ch_bw (ch_ob m8 9 0) 0 19 1)))  m8 ⟨rfl, rfl⟩))
    obtain ⟨rfl, hm_⟩ := q18
    replace h := h m17 hm_
    exact ch_iret (ty := .int) d_m_child_13 rfl rfl (Nat.le_of_ble_eq_true rfl) h
theorem e_m_chalk (g : ch_G) (Q : ch_O → ch_M → Prop) (p1 : Int32) (p2 : Int32) (m : ch_M) (h : ch_J g m_m_chalk (ch_rm m_m_chalk) (ch_E g m_m_chalk Q) 0 [some (.inr (9, 0, 0)), some (.inl (.int p1)), some (.inl (.int p2))] [] m 0) : ch_C g m_m_chalk [.inr (9, 0, 0), .inl (.int p1), .inl (.int p2)] m Q :=
  ch_enter mf_m_chalk (by intro v hv; simp only [List.mem_cons, List.not_mem_nil, or_false] at hv; rcases hv with rfl | rfl | rfl <;> rfl) (Nat.le_of_ble_eq_true rfl) h
set_option maxHeartbeats 1600000 in
theorem g_m_chalk_0 (g : ch_G) (Q : ch_O → ch_M → Prop) (p1 : Int32) (p2 : Int32) (m : ch_M) (h : ((∀ m2 : ch_M, m2 = ch_os m 9 0 (m_trB (ch_ob m 9 0)) → (∃ T_4 : Nat, (∃ Y_5 : ch_B, (m_rel Y_5 (m2 (9, 0, 1))) ∧ (y_inv T_4 Y_5) ∧ ((((r_wc Y_5 p1 p2).1 = 0) → (∀ (B6 : ch_B), (m_did (ch_ob m2 9 0) B6 (y_chaB Y_5 p1 p2) (y_chv Y_5 p2)) → (∀ m8 : ch_M, m8 = ch_os m2 9 0 B6 → (vp_in (m8 (9, 0, 0) 4) 9) ∧ ((∀ m13 : ch_M, m13 = ch_os m8 9 0 (m_kB (ch_ob m8 9 0)) → Q (.inl (some (.inl (.int (m8 (9, 0, 0) 18))))) m13))))) ∧ ((¬ (r_wc Y_5 p1 p2).1 = 0) → (∀ m8 : ch_M, m8 = ch_os m2 9 0 (m_refB (ch_ob m2 9 0) (r_wc Y_5 p1 p2).1 (r_wc Y_5 p1 p2).2) → ((∀ m17 : ch_M, m17 = ch_os m8 9 0 (ch_bw (ch_ob m8 9 0) 0 19 1) → Q (.inl (some (.inl (.int 0)))) m17)))))))))) : ch_J g m_m_chalk (ch_rm m_m_chalk) (ch_E g m_m_chalk Q) 0 [some (.inr (9, 0, 0)), some (.inl (.int p1)), some (.inl (.int p2))] [] m 0 := by
  refine ch_aload_n (i := 0) d_m_chalk_0 rfl rfl ?_
  refine ch_callV (as := []) d_m_chalk_1 lk_m_96 mi_m_tries me_m_tries rfl rfl rfl ⟨Nat.le_of_ble_eq_true rfl, Nat.le_of_ble_eq_true rfl⟩ (Nat.le_of_ble_eq_true rfl) ⟨Nat.le_of_ble_eq_true rfl, Nat.le_of_ble_eq_true rfl⟩ (ch_mono (ch_Kv (fun m2 q3 => ?_)) (s_m_tries g (fun (m_ : ch_M) => (m_ = ch_os m 9 0 (m_trB (ch_ob m 9 0))))  m rfl))
  have hm_ := q3
  replace h := h m2 hm_
  refine ch_aload_n (i := 0) d_m_chalk_4 rfl rfl ?_
  refine ch_aload_n (i := 0) d_m_chalk_5 rfl rfl ?_
  refine ch_iload_n (i := 1) d_m_chalk_6 rfl rfl ?_
  refine ch_iload_n (i := 2) d_m_chalk_7 rfl rfl ?_
  obtain ⟨T_4, h⟩ := h
  obtain ⟨Y_5, h⟩ := h
  have b10 := h.1
  replace h := h.2
  have b11 := h.1
  replace h := h.2
  refine ch_callV (as := [.inl (.int p1), .inl (.int p2)]) d_m_chalk_8 lk_m_123 mi_m_chalks me_m_chalks rfl rfl rfl ⟨Nat.le_of_ble_eq_true rfl, Nat.le_of_ble_eq_true rfl⟩ (Nat.le_of_ble_eq_true rfl) ⟨Nat.le_of_ble_eq_true rfl, Nat.le_of_ble_eq_true rfl⟩ (ch_mono (ch_Ki (fun r7 m8 q9 => ?_)) (s_m_chalks g (fun (r_ : Int32) (m_ : ch_M) => (∃ (B6 : ch_B), ((r_wc Y_5 p1 p2).1 = 0) ∧ 1 = r_ ∧ (m_did (ch_ob m2 9 0) B6 (y_chaB Y_5 p1 p2) (y_chv Y_5 p2)) ∧ m_ = ch_os m2 9 0 B6) ∨ ((¬ (r_wc Y_5 p1 p2).1 = 0) ∧ 0 = r_ ∧ m_ = ch_os m2 9 0 (m_refB (ch_ob m2 9 0) (r_wc Y_5 p1 p2).1 (r_wc Y_5 p1 p2).2))) (T_4) (Y_5) (p1) (p2) m2 ⟨b10, b11, (fun c_ B6 f0_ => (Or.inl ⟨B6, c_, rfl, f0_, rfl⟩)), (fun c_ => (Or.inr ⟨c_, rfl, rfl⟩))⟩))
  rcases q9 with ⟨B6, c_, rfl, f0_, hm_⟩ | ⟨c_, rfl, hm_⟩
  · replace h := h.1 c_ B6 f0_ m8 hm_
    have b15 := h.1
    replace h := h.2
    refine ch_callV (as := [.inl (.int 1)]) d_m_chalk_11 lk_m_102 mi_m_ends me_m_ends rfl rfl rfl ⟨Nat.le_of_ble_eq_true rfl, Nat.le_of_ble_eq_true rfl⟩ (Nat.le_of_ble_eq_true rfl) ⟨Nat.le_of_ble_eq_true rfl, Nat.le_of_ble_eq_true rfl⟩ (ch_mono (ch_Ki (fun r12 m13 q14 => ?_)) (c_m_ends1 g (fun (r_ : Int32) (m_ : ch_M) => ((m8 (9, 0, 0) 18) = r_ ∧ m_ = ch_os m8 9 0 (m_kB (ch_ob m8 9 0))))  m8 ⟨b15, ⟨rfl, rfl⟩⟩))
    obtain ⟨rfl, hm_⟩ := q14
    replace h := h m13 hm_
    exact ch_iret (ty := .int) d_m_chalk_14 rfl rfl (Nat.le_of_ble_eq_true rfl) h
  · replace h := h.2 c_ m8 hm_
    refine ch_callV (as := [.inl (.int 0)]) d_m_chalk_11 lk_m_102 mi_m_ends me_m_ends rfl rfl rfl ⟨Nat.le_of_ble_eq_true rfl, Nat.le_of_ble_eq_true rfl⟩ (Nat.le_of_ble_eq_true rfl) ⟨Nat.le_of_ble_eq_true rfl, Nat.le_of_ble_eq_true rfl⟩ (ch_mono (ch_Ki (fun r16 m17 q18 => ?_)) (c_m_ends0 g (fun (r_ : Int32) (m_ : ch_M) => (0 = r_ ∧ m_ = ch_os m8 9 0 (ch_bw (ch_ob m8 9 0) 0 19 1)))  m8 ⟨rfl, rfl⟩))
    obtain ⟨rfl, hm_⟩ := q18
    replace h := h m17 hm_
    exact ch_iret (ty := .int) d_m_chalk_14 rfl rfl (Nat.le_of_ble_eq_true rfl) h
theorem e_m_warrant (g : ch_G) (Q : ch_O → ch_M → Prop) (p1 : Int32) (m : ch_M) (h : ch_J g m_m_warrant (ch_rm m_m_warrant) (ch_E g m_m_warrant Q) 0 [some (.inr (9, 0, 0)), some (.inl (.int p1))] [] m 0) : ch_C g m_m_warrant [.inr (9, 0, 0), .inl (.int p1)] m Q :=
  ch_enter mf_m_warrant (by intro v hv; simp only [List.mem_cons, List.not_mem_nil, or_false] at hv; rcases hv with rfl | rfl <;> rfl) (Nat.le_of_ble_eq_true rfl) h
set_option maxHeartbeats 1600000 in
theorem g_m_warrant_0 (g : ch_G) (Q : ch_O → ch_M → Prop) (p1 : Int32) (m : ch_M) (h : ((∀ m2 : ch_M, m2 = ch_os m 9 0 (m_trB (ch_ob m 9 0)) → (∃ T_4 : Nat, (∃ Y_5 : ch_B, (m_rel Y_5 (m2 (9, 0, 1))) ∧ (y_inv T_4 Y_5) ∧ ((((r_ww Y_5 p1).1 = 0) → (∀ (B6 : ch_B), (m_did (ch_ob m2 9 0) B6 (y_wriB Y_5 p1) ((if 9 < Y_5 4 (Int32.toNatClampNeg p1) then 9 else Y_5 4 (Int32.toNatClampNeg p1)))) → (∀ m8 : ch_M, m8 = ch_os m2 9 0 B6 → (vp_in (m8 (9, 0, 0) 4) 9) ∧ ((∀ m13 : ch_M, m13 = ch_os m8 9 0 (m_kB (ch_ob m8 9 0)) → Q (.inl (some (.inl (.int (m8 (9, 0, 0) 18))))) m13))))) ∧ ((¬ (r_ww Y_5 p1).1 = 0) → (∀ m8 : ch_M, m8 = ch_os m2 9 0 (m_refB (ch_ob m2 9 0) (r_ww Y_5 p1).1 (r_ww Y_5 p1).2) → ((∀ m17 : ch_M, m17 = ch_os m8 9 0 (ch_bw (ch_ob m8 9 0) 0 19 1) → Q (.inl (some (.inl (.int 0)))) m17)))))))))) : ch_J g m_m_warrant (ch_rm m_m_warrant) (ch_E g m_m_warrant Q) 0 [some (.inr (9, 0, 0)), some (.inl (.int p1))] [] m 0 := by
  refine ch_aload_n (i := 0) d_m_warrant_0 rfl rfl ?_
  refine ch_callV (as := []) d_m_warrant_1 lk_m_96 mi_m_tries me_m_tries rfl rfl rfl ⟨Nat.le_of_ble_eq_true rfl, Nat.le_of_ble_eq_true rfl⟩ (Nat.le_of_ble_eq_true rfl) ⟨Nat.le_of_ble_eq_true rfl, Nat.le_of_ble_eq_true rfl⟩ (ch_mono (ch_Kv (fun m2 q3 => ?_)) (s_m_tries g (fun (m_ : ch_M) => (m_ = ch_os m 9 0 (m_trB (ch_ob m 9 0))))  m rfl))
  have hm_ := q3
  replace h := h m2 hm_
  refine ch_aload_n (i := 0) d_m_warrant_4 rfl rfl ?_
  refine ch_aload_n (i := 0) d_m_warrant_5 rfl rfl ?_
  refine ch_iload_n (i := 1) d_m_warrant_6 rfl rfl ?_
  obtain ⟨T_4, h⟩ := h
  obtain ⟨Y_5, h⟩ := h
  have b10 := h.1
  replace h := h.2
  have b11 := h.1
  replace h := h.2
  refine ch_callV (as := [.inl (.int p1)]) d_m_warrant_7 lk_m_153 mi_m_writes me_m_writes rfl rfl rfl ⟨Nat.le_of_ble_eq_true rfl, Nat.le_of_ble_eq_true rfl⟩ (Nat.le_of_ble_eq_true rfl) ⟨Nat.le_of_ble_eq_true rfl, Nat.le_of_ble_eq_true rfl⟩ (ch_mono (ch_Ki (fun r7 m8 q9 => ?_)) (s_m_writes g (fun (r_ : Int32) (m_ : ch_M) => (∃ (B6 : ch_B), ((r_ww Y_5 p1).1 = 0) ∧ 1 = r_ ∧ (m_did (ch_ob m2 9 0) B6 (y_wriB Y_5 p1) ((if 9 < Y_5 4 (Int32.toNatClampNeg p1) then 9 else Y_5 4 (Int32.toNatClampNeg p1)))) ∧ m_ = ch_os m2 9 0 B6) ∨ ((¬ (r_ww Y_5 p1).1 = 0) ∧ 0 = r_ ∧ m_ = ch_os m2 9 0 (m_refB (ch_ob m2 9 0) (r_ww Y_5 p1).1 (r_ww Y_5 p1).2))) (T_4) (Y_5) (p1) m2 ⟨b10, b11, (fun c_ B6 f0_ => (Or.inl ⟨B6, c_, rfl, f0_, rfl⟩)), (fun c_ => (Or.inr ⟨c_, rfl, rfl⟩))⟩))
  rcases q9 with ⟨B6, c_, rfl, f0_, hm_⟩ | ⟨c_, rfl, hm_⟩
  · replace h := h.1 c_ B6 f0_ m8 hm_
    have b15 := h.1
    replace h := h.2
    refine ch_callV (as := [.inl (.int 1)]) d_m_warrant_10 lk_m_102 mi_m_ends me_m_ends rfl rfl rfl ⟨Nat.le_of_ble_eq_true rfl, Nat.le_of_ble_eq_true rfl⟩ (Nat.le_of_ble_eq_true rfl) ⟨Nat.le_of_ble_eq_true rfl, Nat.le_of_ble_eq_true rfl⟩ (ch_mono (ch_Ki (fun r12 m13 q14 => ?_)) (c_m_ends1 g (fun (r_ : Int32) (m_ : ch_M) => ((m8 (9, 0, 0) 18) = r_ ∧ m_ = ch_os m8 9 0 (m_kB (ch_ob m8 9 0))))  m8 ⟨b15, ⟨rfl, rfl⟩⟩))
    obtain ⟨rfl, hm_⟩ := q14
    replace h := h m13 hm_
    exact ch_iret (ty := .int) d_m_warrant_13 rfl rfl (Nat.le_of_ble_eq_true rfl) h
  · replace h := h.2 c_ m8 hm_
    refine ch_callV (as := [.inl (.int 0)]) d_m_warrant_10 lk_m_102 mi_m_ends me_m_ends rfl rfl rfl ⟨Nat.le_of_ble_eq_true rfl, Nat.le_of_ble_eq_true rfl⟩ (Nat.le_of_ble_eq_true rfl) ⟨Nat.le_of_ble_eq_true rfl, Nat.le_of_ble_eq_true rfl⟩ (ch_mono (ch_Ki (fun r16 m17 q18 => ?_)) (c_m_ends0 g (fun (r_ : Int32) (m_ : ch_M) => (0 = r_ ∧ m_ = ch_os m8 9 0 (ch_bw (ch_ob m8 9 0) 0 19 1)))  m8 ⟨rfl, rfl⟩))
    obtain ⟨rfl, hm_⟩ := q18
    replace h := h m17 hm_
    exact ch_iret (ty := .int) d_m_warrant_13 rfl rfl (Nat.le_of_ble_eq_true rfl) h
theorem e_m_strike (g : ch_G) (Q : ch_O → ch_M → Prop) (p1 : Int32) (m : ch_M) (h : ch_J g m_m_strike (ch_rm m_m_strike) (ch_E g m_m_strike Q) 0 [some (.inr (9, 0, 0)), some (.inl (.int p1))] [] m 0) : ch_C g m_m_strike [.inr (9, 0, 0), .inl (.int p1)] m Q :=
  ch_enter mf_m_strike (by intro v hv; simp only [List.mem_cons, List.not_mem_nil, or_false] at hv; rcases hv with rfl | rfl <;> rfl) (Nat.le_of_ble_eq_true rfl) h
set_option maxHeartbeats 1600000 in
theorem g_m_strike_0 (g : ch_G) (Q : ch_O → ch_M → Prop) (p1 : Int32) (m : ch_M) (h : ((∀ m2 : ch_M, m2 = ch_os m 9 0 (m_trB (ch_ob m 9 0)) → (∃ T_4 : Nat, (∃ Y_5 : ch_B, (m_rel Y_5 (m2 (9, 0, 1))) ∧ (y_inv T_4 Y_5) ∧ ((((r_ws Y_5 p1).1 = 0) → (∀ (B6 : ch_B), (m_did (ch_ob m2 9 0) B6 (y_strB Y_5 p1) (Y_5 3 (Int32.toNatClampNeg p1) - Y_5 5 (Int32.toNatClampNeg p1))) → (∀ m8 : ch_M, m8 = ch_os m2 9 0 B6 → (vp_in (m8 (9, 0, 0) 4) 9) ∧ ((∀ m13 : ch_M, m13 = ch_os m8 9 0 (m_kB (ch_ob m8 9 0)) → Q (.inl (some (.inl (.int (m8 (9, 0, 0) 18))))) m13))))) ∧ ((¬ (r_ws Y_5 p1).1 = 0) → (∀ m8 : ch_M, m8 = ch_os m2 9 0 (m_refB (ch_ob m2 9 0) (r_ws Y_5 p1).1 (r_ws Y_5 p1).2) → ((∀ m17 : ch_M, m17 = ch_os m8 9 0 (ch_bw (ch_ob m8 9 0) 0 19 1) → Q (.inl (some (.inl (.int 0)))) m17)))))))))) : ch_J g m_m_strike (ch_rm m_m_strike) (ch_E g m_m_strike Q) 0 [some (.inr (9, 0, 0)), some (.inl (.int p1))] [] m 0 := by
  refine ch_aload_n (i := 0) d_m_strike_0 rfl rfl ?_
  refine ch_callV (as := []) d_m_strike_1 lk_m_96 mi_m_tries me_m_tries rfl rfl rfl ⟨Nat.le_of_ble_eq_true rfl, Nat.le_of_ble_eq_true rfl⟩ (Nat.le_of_ble_eq_true rfl) ⟨Nat.le_of_ble_eq_true rfl, Nat.le_of_ble_eq_true rfl⟩ (ch_mono (ch_Kv (fun m2 q3 => ?_)) (s_m_tries g (fun (m_ : ch_M) => (m_ = ch_os m 9 0 (m_trB (ch_ob m 9 0))))  m rfl))
  have hm_ := q3
  replace h := h m2 hm_
  refine ch_aload_n (i := 0) d_m_strike_4 rfl rfl ?_
  refine ch_aload_n (i := 0) d_m_strike_5 rfl rfl ?_
  refine ch_iload_n (i := 1) d_m_strike_6 rfl rfl ?_
  obtain ⟨T_4, h⟩ := h
  obtain ⟨Y_5, h⟩ := h
  have b10 := h.1
  replace h := h.2
  have b11 := h.1
  replace h := h.2
  refine ch_callV (as := [.inl (.int p1)]) d_m_strike_7 lk_m_159 mi_m_strikes me_m_strikes rfl rfl rfl ⟨Nat.le_of_ble_eq_true rfl, Nat.le_of_ble_eq_true rfl⟩ (Nat.le_of_ble_eq_true rfl) ⟨Nat.le_of_ble_eq_true rfl, Nat.le_of_ble_eq_true rfl⟩ (ch_mono (ch_Ki (fun r7 m8 q9 => ?_)) (s_m_strikes g (fun (r_ : Int32) (m_ : ch_M) => (∃ (B6 : ch_B), ((r_ws Y_5 p1).1 = 0) ∧ 1 = r_ ∧ (m_did (ch_ob m2 9 0) B6 (y_strB Y_5 p1) (Y_5 3 (Int32.toNatClampNeg p1) - Y_5 5 (Int32.toNatClampNeg p1))) ∧ m_ = ch_os m2 9 0 B6) ∨ ((¬ (r_ws Y_5 p1).1 = 0) ∧ 0 = r_ ∧ m_ = ch_os m2 9 0 (m_refB (ch_ob m2 9 0) (r_ws Y_5 p1).1 (r_ws Y_5 p1).2))) (T_4) (Y_5) (p1) m2 ⟨b10, b11, (fun c_ B6 f0_ => (Or.inl ⟨B6, c_, rfl, f0_, rfl⟩)), (fun c_ => (Or.inr ⟨c_, rfl, rfl⟩))⟩))
  rcases q9 with ⟨B6, c_, rfl, f0_, hm_⟩ | ⟨c_, rfl, hm_⟩
  · replace h := h.1 c_ B6 f0_ m8 hm_
    have b15 := h.1
    replace h := h.2
    refine ch_callV (as := [.inl (.int 1)]) d_m_strike_10 lk_m_102 mi_m_ends me_m_ends rfl rfl rfl ⟨Nat.le_of_ble_eq_true rfl, Nat.le_of_ble_eq_true rfl⟩ (Nat.le_of_ble_eq_true rfl) ⟨Nat.le_of_ble_eq_true rfl, Nat.le_of_ble_eq_true rfl⟩ (ch_mono (ch_Ki (fun r12 m13 q14 => ?_)) (c_m_ends1 g (fun (r_ : Int32) (m_ : ch_M) => ((m8 (9, 0, 0) 18) = r_ ∧ m_ = ch_os m8 9 0 (m_kB (ch_ob m8 9 0))))  m8 ⟨b15, ⟨rfl, rfl⟩⟩))
    obtain ⟨rfl, hm_⟩ := q14
    replace h := h m13 hm_
    exact ch_iret (ty := .int) d_m_strike_13 rfl rfl (Nat.le_of_ble_eq_true rfl) h
  · replace h := h.2 c_ m8 hm_
    refine ch_callV (as := [.inl (.int 0)]) d_m_strike_10 lk_m_102 mi_m_ends me_m_ends rfl rfl rfl ⟨Nat.le_of_ble_eq_true rfl, Nat.le_of_ble_eq_true rfl⟩ (Nat.le_of_ble_eq_true rfl) ⟨Nat.le_of_ble_eq_true rfl, Nat.le_of_ble_eq_true rfl⟩ (ch_mono (ch_Ki (fun r16 m17 q18 => ?_)) (c_m_ends0 g (fun (r_ : Int32) (m_ : ch_M) => (0 = r_ ∧ m_ = ch_os m8 9 0 (ch_bw (ch_ob m8 9 0) 0 19 1)))  m8 ⟨rfl, rfl⟩))
    obtain ⟨rfl, hm_⟩ := q18
    replace h := h m17 hm_
    exact ch_iret (ty := .int) d_m_strike_13 rfl rfl (Nat.le_of_ble_eq_true rfl) h
theorem e_m_rain (g : ch_G) (Q : ch_O → ch_M → Prop) (p1 : Int32) (m : ch_M) (h : ch_J g m_m_rain (ch_rm m_m_rain) (ch_E g m_m_rain Q) 0 [some (.inr (9, 0, 0)), some (.inl (.int p1))] [] m 0) : ch_C g m_m_rain [.inr (9, 0, 0), .inl (.int p1)] m Q :=
  ch_enter mf_m_rain (by intro v hv; simp only [List.mem_cons, List.not_mem_nil, or_false] at hv; rcases hv with rfl | rfl <;> rfl) (Nat.le_of_ble_eq_true rfl) h
set_option maxHeartbeats 1600000 in
theorem g_m_rain_0 (g : ch_G) (Q : ch_O → ch_M → Prop) (p1 : Int32) (m : ch_M) (h : ((∀ m2 : ch_M, m2 = ch_os m 9 0 (m_trB (ch_ob m 9 0)) → (∃ T_4 : Nat, (∃ Y_5 : ch_B, (m_rel Y_5 (m2 (9, 0, 1))) ∧ (y_inv T_4 Y_5) ∧ ((((r_wr Y_5 p1).1 = 0) → (∀ (B6 : ch_B), (m_did (ch_ob m2 9 0) B6 (y_washB Y_5 p1) (y_washR Y_5 p1)) → (∀ m8 : ch_M, m8 = ch_os m2 9 0 B6 → (vp_in (m8 (9, 0, 0) 4) 9) ∧ ((∀ m13 : ch_M, m13 = ch_os m8 9 0 (m_kB (ch_ob m8 9 0)) → Q (.inl (some (.inl (.int (m8 (9, 0, 0) 18))))) m13))))) ∧ ((¬ (r_wr Y_5 p1).1 = 0) → (∀ m8 : ch_M, m8 = ch_os m2 9 0 (m_refB (ch_ob m2 9 0) (r_wr Y_5 p1).1 (r_wr Y_5 p1).2) → ((∀ m17 : ch_M, m17 = ch_os m8 9 0 (ch_bw (ch_ob m8 9 0) 0 19 1) → Q (.inl (some (.inl (.int 0)))) m17)))))))))) : ch_J g m_m_rain (ch_rm m_m_rain) (ch_E g m_m_rain Q) 0 [some (.inr (9, 0, 0)), some (.inl (.int p1))] [] m 0 := by
  refine ch_aload_n (i := 0) d_m_rain_0 rfl rfl ?_
  refine ch_callV (as := []) d_m_rain_1 lk_m_96 mi_m_tries me_m_tries rfl rfl rfl ⟨Nat.le_of_ble_eq_true rfl, Nat.le_of_ble_eq_true rfl⟩ (Nat.le_of_ble_eq_true rfl) ⟨Nat.le_of_ble_eq_true rfl, Nat.le_of_ble_eq_true rfl⟩ (ch_mono (ch_Kv (fun m2 q3 => ?_)) (s_m_tries g (fun (m_ : ch_M) => (m_ = ch_os m 9 0 (m_trB (ch_ob m 9 0))))  m rfl))
  have hm_ := q3
  replace h := h m2 hm_
  refine ch_aload_n (i := 0) d_m_rain_4 rfl rfl ?_
  refine ch_aload_n (i := 0) d_m_rain_5 rfl rfl ?_
  refine ch_iload_n (i := 1) d_m_rain_6 rfl rfl ?_
  obtain ⟨T_4, h⟩ := h
  obtain ⟨Y_5, h⟩ := h
  have b10 := h.1
  replace h := h.2
  have b11 := h.1
  replace h := h.2
  refine ch_callV (as := [.inl (.int p1)]) d_m_rain_7 lk_m_168 mi_m_rains me_m_rains rfl rfl rfl ⟨Nat.le_of_ble_eq_true rfl, Nat.le_of_ble_eq_true rfl⟩ (Nat.le_of_ble_eq_true rfl) ⟨Nat.le_of_ble_eq_true rfl, Nat.le_of_ble_eq_true rfl⟩ (ch_mono (ch_Ki (fun r7 m8 q9 => ?_)) (s_m_rains g (fun (r_ : Int32) (m_ : ch_M) => (∃ (B6 : ch_B), ((r_wr Y_5 p1).1 = 0) ∧ 1 = r_ ∧ (m_did (ch_ob m2 9 0) B6 (y_washB Y_5 p1) (y_washR Y_5 p1)) ∧ m_ = ch_os m2 9 0 B6) ∨ ((¬ (r_wr Y_5 p1).1 = 0) ∧ 0 = r_ ∧ m_ = ch_os m2 9 0 (m_refB (ch_ob m2 9 0) (r_wr Y_5 p1).1 (r_wr Y_5 p1).2))) (T_4) (Y_5) (p1) m2 ⟨b10, b11, (fun c_ B6 f0_ => (Or.inl ⟨B6, c_, rfl, f0_, rfl⟩)), (fun c_ => (Or.inr ⟨c_, rfl, rfl⟩))⟩))
  rcases q9 with ⟨B6, c_, rfl, f0_, hm_⟩ | ⟨c_, rfl, hm_⟩
  · replace h := h.1 c_ B6 f0_ m8 hm_
    have b15 := h.1
    replace h := h.2
    refine ch_callV (as := [.inl (.int 1)]) d_m_rain_10 lk_m_102 mi_m_ends me_m_ends rfl rfl rfl ⟨Nat.le_of_ble_eq_true rfl, Nat.le_of_ble_eq_true rfl⟩ (Nat.le_of_ble_eq_true rfl) ⟨Nat.le_of_ble_eq_true rfl, Nat.le_of_ble_eq_true rfl⟩ (ch_mono (ch_Ki (fun r12 m13 q14 => ?_)) (c_m_ends1 g (fun (r_ : Int32) (m_ : ch_M) => ((m8 (9, 0, 0) 18) = r_ ∧ m_ = ch_os m8 9 0 (m_kB (ch_ob m8 9 0))))  m8 ⟨b15, ⟨rfl, rfl⟩⟩))
    obtain ⟨rfl, hm_⟩ := q14
    replace h := h m13 hm_
    exact ch_iret (ty := .int) d_m_rain_13 rfl rfl (Nat.le_of_ble_eq_true rfl) h
  · replace h := h.2 c_ m8 hm_
    refine ch_callV (as := [.inl (.int 0)]) d_m_rain_10 lk_m_102 mi_m_ends me_m_ends rfl rfl rfl ⟨Nat.le_of_ble_eq_true rfl, Nat.le_of_ble_eq_true rfl⟩ (Nat.le_of_ble_eq_true rfl) ⟨Nat.le_of_ble_eq_true rfl, Nat.le_of_ble_eq_true rfl⟩ (ch_mono (ch_Ki (fun r16 m17 q18 => ?_)) (c_m_ends0 g (fun (r_ : Int32) (m_ : ch_M) => (0 = r_ ∧ m_ = ch_os m8 9 0 (ch_bw (ch_ob m8 9 0) 0 19 1)))  m8 ⟨rfl, rfl⟩))
    obtain ⟨rfl, hm_⟩ := q18
    replace h := h m17 hm_
    exact ch_iret (ty := .int) d_m_rain_13 rfl rfl (Nat.le_of_ble_eq_true rfl) h
theorem e_m_give (g : ch_G) (Q : ch_O → ch_M → Prop) (p1 : Int32) (p2 : Int32) (p3 : Int32) (m : ch_M) (h : ch_J g m_m_give (ch_rm m_m_give) (ch_E g m_m_give Q) 0 [some (.inr (9, 0, 0)), some (.inl (.int p1)), some (.inl (.int p2)), some (.inl (.int p3))] [] m 0) : ch_C g m_m_give [.inr (9, 0, 0), .inl (.int p1), .inl (.int p2), .inl (.int p3)] m Q :=
  ch_enter mf_m_give (by intro v hv; simp only [List.mem_cons, List.not_mem_nil, or_false] at hv; rcases hv with rfl | rfl | rfl | rfl <;> rfl) (Nat.le_of_ble_eq_true rfl) h
set_option maxHeartbeats 1600000 in
theorem g_m_give_0 (g : ch_G) (Q : ch_O → ch_M → Prop) (p1 : Int32) (p2 : Int32) (p3 : Int32) (m : ch_M) (h : ((∀ m2 : ch_M, m2 = ch_os m 9 0 (m_trB (ch_ob m 9 0)) → (∃ T_4 : Nat, (∃ Y_5 : ch_B, (m_rel Y_5 (m2 (9, 0, 1))) ∧ (y_inv T_4 Y_5) ∧ ((((r_wg Y_5 p1 p2 p3).1 = 0) → (∀ (B6 : ch_B), (m_did (ch_ob m2 9 0) B6 (y_givB Y_5 p1 p2 p3) (y_givB Y_5 p1 p2 p3 3 (Int32.toNatClampNeg p1))) → (∀ m8 : ch_M, m8 = ch_os m2 9 0 B6 → (vp_in (m8 (9, 0, 0) 4) 9) ∧ ((∀ m13 : ch_M, m13 = ch_os m8 9 0 (m_kB (ch_ob m8 9 0)) → Q (.inl (some (.inl (.int (m8 (9, 0, 0) 18))))) m13))))) ∧ ((¬ (r_wg Y_5 p1 p2 p3).1 = 0) → (∀ m8 : ch_M, m8 = ch_os m2 9 0 (m_refB (ch_ob m2 9 0) (r_wg Y_5 p1 p2 p3).1 (r_wg Y_5 p1 p2 p3).2) → ((∀ m17 : ch_M, m17 = ch_os m8 9 0 (ch_bw (ch_ob m8 9 0) 0 19 1) → Q (.inl (some (.inl (.int 0)))) m17)))))))))) : ch_J g m_m_give (ch_rm m_m_give) (ch_E g m_m_give Q) 0 [some (.inr (9, 0, 0)), some (.inl (.int p1)), some (.inl (.int p2)), some (.inl (.int p3))] [] m 0 := by
  refine ch_aload_n (i := 0) d_m_give_0 rfl rfl ?_
  refine ch_callV (as := []) d_m_give_1 lk_m_96 mi_m_tries me_m_tries rfl rfl rfl ⟨Nat.le_of_ble_eq_true rfl, Nat.le_of_ble_eq_true rfl⟩ (Nat.le_of_ble_eq_true rfl) ⟨Nat.le_of_ble_eq_true rfl, Nat.le_of_ble_eq_true rfl⟩ (ch_mono (ch_Kv (fun m2 q3 => ?_)) (s_m_tries g (fun (m_ : ch_M) => (m_ = ch_os m 9 0 (m_trB (ch_ob m 9 0))))  m rfl))
  have hm_ := q3
  replace h := h m2 hm_
  refine ch_aload_n (i := 0) d_m_give_4 rfl rfl ?_
  refine ch_aload_n (i := 0) d_m_give_5 rfl rfl ?_
  refine ch_iload_n (i := 1) d_m_give_6 rfl rfl ?_
  refine ch_iload_n (i := 2) d_m_give_7 rfl rfl ?_
  refine ch_iload_n (i := 3) d_m_give_8 rfl rfl ?_
  obtain ⟨T_4, h⟩ := h
  obtain ⟨Y_5, h⟩ := h
  have b10 := h.1
  replace h := h.2
  have b11 := h.1
  replace h := h.2
  refine ch_callV (as := [.inl (.int p1), .inl (.int p2), .inl (.int p3)]) d_m_give_9 lk_m_179 mi_m_gives me_m_gives rfl rfl rfl ⟨Nat.le_of_ble_eq_true rfl, Nat.le_of_ble_eq_true rfl⟩ (Nat.le_of_ble_eq_true rfl) ⟨Nat.le_of_ble_eq_true rfl, Nat.le_of_ble_eq_true rfl⟩ (ch_mono (ch_Ki (fun r7 m8 q9 => ?_)) (s_m_gives g (fun (r_ : Int32) (m_ : ch_M) => (∃ (B6 : ch_B), ((r_wg Y_5 p1 p2 p3).1 = 0) ∧ 1 = r_ ∧ (m_did (ch_ob m2 9 0) B6 (y_givB Y_5 p1 p2 p3) (y_givB Y_5 p1 p2 p3 3 (Int32.toNatClampNeg p1))) ∧ m_ = ch_os m2 9 0 B6) ∨ ((¬ (r_wg Y_5 p1 p2 p3).1 = 0) ∧ 0 = r_ ∧ m_ = ch_os m2 9 0 (m_refB (ch_ob m2 9 0) (r_wg Y_5 p1 p2 p3).1 (r_wg Y_5 p1 p2 p3).2))) (T_4) (Y_5) (p1) (p2) (p3) m2 ⟨b10, b11, (fun c_ B6 f0_ => (Or.inl ⟨B6, c_, rfl, f0_, rfl⟩)), (fun c_ => (Or.inr ⟨c_, rfl, rfl⟩))⟩))
  rcases q9 with ⟨B6, c_, rfl, f0_, hm_⟩ | ⟨c_, rfl, hm_⟩
  · replace h := h.1 c_ B6 f0_ m8 hm_
    have b15 := h.1
    replace h := h.2
    refine ch_callV (as := [.inl (.int 1)]) d_m_give_12 lk_m_102 mi_m_ends me_m_ends rfl rfl rfl ⟨Nat.le_of_ble_eq_true rfl, Nat.le_of_ble_eq_true rfl⟩ (Nat.le_of_ble_eq_true rfl) ⟨Nat.le_of_ble_eq_true rfl, Nat.le_of_ble_eq_true rfl⟩ (ch_mono (ch_Ki (fun r12 m13 q14 => ?_)) (c_m_ends1 g (fun (r_ : Int32) (m_ : ch_M) => ((m8 (9, 0, 0) 18) = r_ ∧ m_ = ch_os m8 9 0 (m_kB (ch_ob m8 9 0))))  m8 ⟨b15, ⟨rfl, rfl⟩⟩))
    obtain ⟨rfl, hm_⟩ := q14
    replace h := h m13 hm_
    exact ch_iret (ty := .int) d_m_give_15 rfl rfl (Nat.le_of_ble_eq_true rfl) h
  · replace h := h.2 c_ m8 hm_
    refine ch_callV (as := [.inl (.int 0)]) d_m_give_12 lk_m_102 mi_m_ends me_m_ends rfl rfl rfl ⟨Nat.le_of_ble_eq_true rfl, Nat.le_of_ble_eq_true rfl⟩ (Nat.le_of_ble_eq_true rfl) ⟨Nat.le_of_ble_eq_true rfl, Nat.le_of_ble_eq_true rfl⟩ (ch_mono (ch_Ki (fun r16 m17 q18 => ?_)) (c_m_ends0 g (fun (r_ : Int32) (m_ : ch_M) => (0 = r_ ∧ m_ = ch_os m8 9 0 (ch_bw (ch_ob m8 9 0) 0 19 1)))  m8 ⟨rfl, rfl⟩))
    obtain ⟨rfl, hm_⟩ := q18
    replace h := h m17 hm_
    exact ch_iret (ty := .int) d_m_give_15 rfl rfl (Nat.le_of_ble_eq_true rfl) h
