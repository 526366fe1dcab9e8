theorem e_l_child (g : ch_G) (Q : ch_O → ch_M → Prop) (p1 : Int32) (m : ch_M) (h : ch_J g m_l_child (ch_rm m_l_child) (ch_E g m_l_child Q) 0 [some (.inr (0, 0, 0)), some (.inl (.int p1)), some (.inr (10, 0, 1)), none] [] m 0) : ch_C g m_l_child [.inr (0, 0, 0), .inl (.int p1), .inr (10, 0, 1)] m Q :=
  ch_enter mf_l_child (by intro v hv; simp only [List.mem_cons, List.not_mem_nil, or_false] at hv; rcases hv with rfl | rfl | rfl <;> rfl) (Nat.le_of_ble_eq_true rfl) h
set_option maxHeartbeats 1600000 in
theorem g_l_child_0 (g : ch_G) (Q : ch_O → ch_M → Prop) (p1 : Int32) (m : ch_M) (h : (ch_C g m_x_child [.inr (0, 0, 0), .inl (.int p1)] m (ch_ox (ch_oi (fun (r1 : Int32) (m2 : ch_M) => (∀ m5 : ch_M, m5 = ch_wr m2 (10, 0, 1) (0) r1 → Q (.inl (some (.inl (.int 0)))) m5))) (fun (n3 : Nat) (m4 : ch_M) => ((n3 = 0 ∧ Q (.inl (some (.inl (.int 1)))) m4)))))) : ch_J g m_l_child (ch_rm m_l_child) (ch_E g m_l_child Q) 0 [some (.inr (0, 0, 0)), some (.inl (.int p1)), some (.inr (10, 0, 1)), none] [] m 0 := by
  refine ch_aload_n (i := 2) d_l_child_0 rfl rfl ?_
  refine ch_iconst (v := 0) d_l_child_1 (by decide) ?_
  refine ch_aload_n (i := 0) d_l_child_2 rfl rfl ?_
  refine ch_iload_n (i := 1) d_l_child_3 rfl rfl ?_
  refine ch_callV (as := [.inl (.int p1)]) d_l_child_4 lk_l_7 mi_x_child me_x_child rfl rfl rfl ⟨Nat.le_of_ble_eq_true rfl, Nat.le_of_ble_eq_true rfl⟩ (Nat.le_of_ble_eq_true rfl) ⟨Nat.le_of_ble_eq_true rfl, Nat.le_of_ble_eq_true rfl⟩ (ch_mono (ch_Kx (ch_Ki (fun r1 m2 h => ?_)) (fun n3 m4 hn h => ?_)) h)
  · skip
    refine ch_i2l d_l_child_7 ?_
    refine ch_last (n := 1) d_l_child_8 (by decide) rfl (vp_in_nI (n := 0) (by decide) (by decide)) ?_
    show ch_J g _ _ _ _ _ _ (ch_wr m2 (10, 0, 1) (0) r1) _
    generalize hmm5 : ch_wr m2 (10, 0, 1) (0) r1 = m5
    replace h := h m5 hmm5.symm
    refine ch_goto (tgt := 15) d_l_child_9 (by decide) ?_
    refine ch_iconst (v := 0) d_l_child_15 (by decide) ?_
    exact ch_iret (ty := .int) d_l_child_16 rfl rfl (Nat.le_of_ble_eq_true rfl) h
  · obtain ⟨rfl, h⟩ := h
    refine ch_caught (i := 3) (ls' := [some (.inr (0, 0, 0)), some (.inl (.int p1)), some (.inr (10, 0, 1)), none]) [] (0, 9, 12, 13) [] rfl (fun z hz => by cases hz) ⟨by decide, by decide⟩ (by decide) ck_l_13 cx_0 (Or.inr ⟨⟨3, rfl, d_l_child_12⟩, ?_⟩) (Nat.le_of_ble_eq_true rfl) rfl
    refine ch_iconst (v := 1) d_l_child_13 (by decide) ?_
    exact ch_iret (ty := .int) d_l_child_14 rfl rfl (Nat.le_of_ble_eq_true rfl) h
theorem e_l_chalk (g : ch_G) (Q : ch_O → ch_M → Prop) (p1 : Int32) (p2 : Int32) (m : ch_M) (h : ch_J g m_l_chalk (ch_rm m_l_chalk) (ch_E g m_l_chalk Q) 0 [some (.inr (0, 0, 0)), some (.inl (.int p1)), some (.inl (.int p2)), some (.inr (10, 0, 1)), none] [] m 0) : ch_C g m_l_chalk [.inr (0, 0, 0), .inl (.int p1), .inl (.int p2), .inr (10, 0, 1)] m Q :=
  ch_enter mf_l_chalk (by intro v hv; simp only [List.mem_cons, List.not_mem_nil, or_false] at hv; rcases hv with rfl | rfl | rfl | rfl <;> rfl) (Nat.le_of_ble_eq_true rfl) h
set_option maxHeartbeats 1600000 in
theorem g_l_chalk_0 (g : ch_G) (Q : ch_O → ch_M → Prop) (p1 : Int32) (p2 : Int32) (m : ch_M) (h : (ch_C g m_x_chalk [.inr (0, 0, 0), .inl (.int p1), .inl (.int p2)] m (ch_ox (ch_oi (fun (r1 : Int32) (m2 : ch_M) => (∀ m5 : ch_M, m5 = ch_wr m2 (10, 0, 1) (0) r1 → Q (.inl (some (.inl (.int 0)))) m5))) (fun (n3 : Nat) (m4 : ch_M) => ((n3 = 0 ∧ Q (.inl (some (.inl (.int 1)))) m4)))))) : ch_J g m_l_chalk (ch_rm m_l_chalk) (ch_E g m_l_chalk Q) 0 [some (.inr (0, 0, 0)), some (.inl (.int p1)), some (.inl (.int p2)), some (.inr (10, 0, 1)), none] [] m 0 := by
  refine ch_aload_n (i := 3) d_l_chalk_0 rfl rfl ?_
  refine ch_iconst (v := 0) d_l_chalk_1 (by decide) ?_
  refine ch_aload_n (i := 0) d_l_chalk_2 rfl rfl ?_
  refine ch_iload_n (i := 1) d_l_chalk_3 rfl rfl ?_
  refine ch_iload_n (i := 2) d_l_chalk_4 rfl rfl ?_
  refine ch_callV (as := [.inl (.int p1), .inl (.int p2)]) d_l_chalk_5 lk_l_15 mi_x_chalk me_x_chalk rfl rfl rfl ⟨Nat.le_of_ble_eq_true rfl, Nat.le_of_ble_eq_true rfl⟩ (Nat.le_of_ble_eq_true rfl) ⟨Nat.le_of_ble_eq_true rfl, Nat.le_of_ble_eq_true rfl⟩ (ch_mono (ch_Kx (ch_Ki (fun r1 m2 h => ?_)) (fun n3 m4 hn h => ?_)) h)
  · skip
    refine ch_i2l d_l_chalk_8 ?_
    refine ch_last (n := 1) d_l_chalk_9 (by decide) rfl (vp_in_nI (n := 0) (by decide) (by decide)) ?_
    show ch_J g _ _ _ _ _ _ (ch_wr m2 (10, 0, 1) (0) r1) _
    generalize hmm5 : ch_wr m2 (10, 0, 1) (0) r1 = m5
    replace h := h m5 hmm5.symm
    refine ch_goto (tgt := 17) d_l_chalk_10 (by decide) ?_
    refine ch_iconst (v := 0) d_l_chalk_17 (by decide) ?_
    exact ch_iret (ty := .int) d_l_chalk_18 rfl rfl (Nat.le_of_ble_eq_true rfl) h
  · obtain ⟨rfl, h⟩ := h
    refine ch_caught (i := 4) (ls' := [some (.inr (0, 0, 0)), some (.inl (.int p1)), some (.inl (.int p2)), some (.inr (10, 0, 1)), none]) [] (0, 10, 13, 13) [] rfl (fun z hz => by cases hz) ⟨by decide, by decide⟩ (by decide) ck_l_13 cx_0 (Or.inl ⟨d_l_chalk_13, ?_⟩) (Nat.le_of_ble_eq_true rfl) rfl
    refine ch_iconst (v := 1) d_l_chalk_15 (by decide) ?_
    exact ch_iret (ty := .int) d_l_chalk_16 rfl rfl (Nat.le_of_ble_eq_true rfl) h
theorem e_l_hop (g : ch_G) (Q : ch_O → ch_M → Prop) (p1 : Int32) (p2 : Int32) (m : ch_M) (h : ch_J g m_l_hop (ch_rm m_l_hop) (ch_E g m_l_hop Q) 0 [some (.inr (0, 0, 0)), some (.inl (.int p1)), some (.inl (.int p2)), some (.inr (10, 0, 1)), none] [] m 0) : ch_C g m_l_hop [.inr (0, 0, 0), .inl (.int p1), .inl (.int p2), .inr (10, 0, 1)] m Q :=
  ch_enter mf_l_hop (by intro v hv; simp only [List.mem_cons, List.not_mem_nil, or_false] at hv; rcases hv with rfl | rfl | rfl | rfl <;> rfl) (Nat.le_of_ble_eq_true rfl) h
set_option maxHeartbeats 1600000 in
theorem g_l_hop_0 (g : ch_G) (Q : ch_O → ch_M → Prop) (p1 : Int32) (p2 : Int32) (m : ch_M) (h : (ch_C g m_x_hop [.inr (0, 0, 0), .inl (.int p1), .inl (.int p2)] m (ch_ox (ch_oi (fun (r1 : Int32) (m2 : ch_M) => (∀ m5 : ch_M, m5 = ch_wr m2 (10, 0, 1) (0) r1 → Q (.inl (some (.inl (.int 0)))) m5))) (fun (n3 : Nat) (m4 : ch_M) => ((n3 = 0 ∧ Q (.inl (some (.inl (.int 1)))) m4)))))) : ch_J g m_l_hop (ch_rm m_l_hop) (ch_E g m_l_hop Q) 0 [some (.inr (0, 0, 0)), some (.inl (.int p1)), some (.inl (.int p2)), some (.inr (10, 0, 1)), none] [] m 0 := by
  refine ch_aload_n (i := 3) d_l_hop_0 rfl rfl ?_
  refine ch_iconst (v := 0) d_l_hop_1 (by decide) ?_
  refine ch_aload_n (i := 0) d_l_hop_2 rfl rfl ?_
  refine ch_iload_n (i := 1) d_l_hop_3 rfl rfl ?_
  refine ch_iload_n (i := 2) d_l_hop_4 rfl rfl ?_
  refine ch_callV (as := [.inl (.int p1), .inl (.int p2)]) d_l_hop_5 lk_l_19 mi_x_hop me_x_hop rfl rfl rfl ⟨Nat.le_of_ble_eq_true rfl, Nat.le_of_ble_eq_true rfl⟩ (Nat.le_of_ble_eq_true rfl) ⟨Nat.le_of_ble_eq_true rfl, Nat.le_of_ble_eq_true rfl⟩ (ch_mono (ch_Kx (ch_Ki (fun r1 m2 h => ?_)) (fun n3 m4 hn h => ?_)) h)
  · skip
    refine ch_i2l d_l_hop_8 ?_
    refine ch_last (n := 1) d_l_hop_9 (by decide) rfl (vp_in_nI (n := 0) (by decide) (by decide)) ?_
    show ch_J g _ _ _ _ _ _ (ch_wr m2 (10, 0, 1) (0) r1) _
    generalize hmm5 : ch_wr m2 (10, 0, 1) (0) r1 = m5
    replace h := h m5 hmm5.symm
    refine ch_goto (tgt := 17) d_l_hop_10 (by decide) ?_
    refine ch_iconst (v := 0) d_l_hop_17 (by decide) ?_
    exact ch_iret (ty := .int) d_l_hop_18 rfl rfl (Nat.le_of_ble_eq_true rfl) h
  · obtain ⟨rfl, h⟩ := h
    refine ch_caught (i := 4) (ls' := [some (.inr (0, 0, 0)), some (.inl (.int p1)), some (.inl (.int p2)), some (.inr (10, 0, 1)), none]) [] (0, 10, 13, 13) [] rfl (fun z hz => by cases hz) ⟨by decide, by decide⟩ (by decide) ck_l_13 cx_0 (Or.inl ⟨d_l_hop_13, ?_⟩) (Nat.le_of_ble_eq_true rfl) rfl
    refine ch_iconst (v := 1) d_l_hop_15 (by decide) ?_
    exact ch_iret (ty := .int) d_l_hop_16 rfl rfl (Nat.le_of_ble_eq_true rfl) h
theorem e_l_warrant (g : ch_G) (Q : ch_O → ch_M → Prop) (p1 : Int32) (m : ch_M) (h : ch_J g m_l_warrant (ch_rm m_l_warrant) (ch_E g m_l_warrant Q) 0 [some (.inr (0, 0, 0)), some (.inl (.int p1)), some (.inr (10, 0, 1)), none] [] m 0) : ch_C g m_l_warrant [.inr (0, 0, 0), .inl (.int p1), .inr (10, 0, 1)] m Q :=
  ch_enter mf_l_warrant (by intro v hv; simp only [List.mem_cons, List.not_mem_nil, or_false] at hv; rcases hv with rfl | rfl | rfl <;> rfl) (Nat.le_of_ble_eq_true rfl) h
set_option maxHeartbeats 1600000 in
theorem g_l_warrant_0 (g : ch_G) (Q : ch_O → ch_M → Prop) (p1 : Int32) (m : ch_M) (h : (ch_C g m_x_warrant [.inr (0, 0, 0), .inl (.int p1)] m (ch_ox (ch_oi (fun (r1 : Int32) (m2 : ch_M) => (∀ m5 : ch_M, m5 = ch_wr m2 (10, 0, 1) (0) r1 → Q (.inl (some (.inl (.int 0)))) m5))) (fun (n3 : Nat) (m4 : ch_M) => ((n3 = 0 ∧ Q (.inl (some (.inl (.int 1)))) m4)))))) : ch_J g m_l_warrant (ch_rm m_l_warrant) (ch_E g m_l_warrant Q) 0 [some (.inr (0, 0, 0)), some (.inl (.int p1)), some (.inr (10, 0, 1)), none] [] m 0 := by
  refine ch_aload_n (i := 2) d_l_warrant_0 rfl rfl ?_
  refine ch_iconst (v := 0) d_l_warrant_1 (by decide) ?_
  refine ch_aload_n (i := 0) d_l_warrant_2 rfl rfl ?_
  refine ch_iload_n (i := 1) d_l_warrant_3 rfl rfl ?_
  refine ch_callV (as := [.inl (.int p1)]) d_l_warrant_4 lk_l_22 mi_x_warrant me_x_warrant rfl rfl rfl ⟨Nat.le_of_ble_eq_true rfl, Nat.le_of_ble_eq_true rfl⟩ (Nat.le_of_ble_eq_true rfl) ⟨Nat.le_of_ble_eq_true rfl, Nat.le_of_ble_eq_true rfl⟩ (ch_mono (ch_Kx (ch_Ki (fun r1 m2 h => ?_)) (fun n3 m4 hn h => ?_)) h)
  · skip
    refine ch_i2l d_l_warrant_7 ?_
    refine ch_last (n := 1) d_l_warrant_8 (by decide) rfl (vp_in_nI (n := 0) (by decide) (by decide)) ?_
    show ch_J g _ _ _ _ _ _ (ch_wr m2 (10, 0, 1) (0) r1) _
    generalize hmm5 : ch_wr m2 (10, 0, 1) (0) r1 = m5
    replace h := h m5 hmm5.symm
    refine ch_goto (tgt := 15) d_l_warrant_9 (by decide) ?_
    refine ch_iconst (v := 0) d_l_warrant_15 (by decide) ?_
    exact ch_iret (ty := .int) d_l_warrant_16 rfl rfl (Nat.le_of_ble_eq_true rfl) h
  · obtain ⟨rfl, h⟩ := h
    refine ch_caught (i := 3) (ls' := [some (.inr (0, 0, 0)), some (.inl (.int p1)), some (.inr (10, 0, 1)), none]) [] (0, 9, 12, 13) [] rfl (fun z hz => by cases hz) ⟨by decide, by decide⟩ (by decide) ck_l_13 cx_0 (Or.inr ⟨⟨3, rfl, d_l_warrant_12⟩, ?_⟩) (Nat.le_of_ble_eq_true rfl) rfl
    refine ch_iconst (v := 1) d_l_warrant_13 (by decide) ?_
    exact ch_iret (ty := .int) d_l_warrant_14 rfl rfl (Nat.le_of_ble_eq_true rfl) h
theorem e_l_strike (g : ch_G) (Q : ch_O → ch_M → Prop) (p1 : Int32) (m : ch_M) (h : ch_J g m_l_strike (ch_rm m_l_strike) (ch_E g m_l_strike Q) 0 [some (.inr (0, 0, 0)), some (.inl (.int p1)), some (.inr (10, 0, 1)), none] [] m 0) : ch_C g m_l_strike [.inr (0, 0, 0), .inl (.int p1), .inr (10, 0, 1)] m Q :=
  ch_enter mf_l_strike (by intro v hv; simp only [List.mem_cons, List.not_mem_nil, or_false] at hv; rcases hv with rfl | rfl | rfl <;> rfl) (Nat.le_of_ble_eq_true rfl) h
set_option maxHeartbeats 1600000 in
theorem g_l_strike_0 (g : ch_G) (Q : ch_O → ch_M → Prop) (p1 : Int32) (m : ch_M) (h : (ch_C g m_x_strike [.inr (0, 0, 0), .inl (.int p1)] m (ch_ox (ch_oi (fun (r1 : Int32) (m2 : ch_M) => (∀ m5 : ch_M, m5 = ch_wr m2 (10, 0, 1) (0) r1 → Q (.inl (some (.inl (.int 0)))) m5))) (fun (n3 : Nat) (m4 : ch_M) => ((n3 = 0 ∧ Q (.inl (some (.inl (.int 1)))) m4)))))) : ch_J g m_l_strike (ch_rm m_l_strike) (ch_E g m_l_strike Q) 0 [some (.inr (0, 0, 0)), some (.inl (.int p1)), some (.inr (10, 0, 1)), none] [] m 0 := by
  refine ch_aload_n (i := 2) d_l_strike_0 rfl rfl ?_
  refine ch_iconst (v := 0) d_l_strike_1 (by decide) ?_
  refine ch_aload_n (i := 0) d_l_strike_2 rfl rfl ?_
  refine ch_iload_n (i := 1) d_l_strike_3 rfl rfl ?_
  refine ch_callV (as := [.inl (.int p1)]) d_l_strike_4 lk_l_25 mi_x_strike me_x_strike rfl rfl rfl ⟨Nat.le_of_ble_eq_true rfl, Nat.le_of_ble_eq_true rfl⟩ (Nat.le_of_ble_eq_true rfl) ⟨Nat.le_of_ble_eq_true rfl, Nat.le_of_ble_eq_true rfl⟩ (ch_mono (ch_Kx (ch_Ki (fun r1 m2 h => ?_)) (fun n3 m4 hn h => ?_)) h)
  · skip
    refine ch_i2l d_l_strike_7 ?_
    refine ch_last (n := 1) d_l_strike_8 (by decide) rfl (vp_in_nI (n := 0) (by decide) (by decide)) ?_
    show ch_J g _ _ _ _ _ _ (ch_wr m2 (10, 0, 1) (0) r1) _
    generalize hmm5 : ch_wr m2 (10, 0, 1) (0) r1 = m5
    replace h := h m5 hmm5.symm
    refine ch_goto (tgt := 15) d_l_strike_9 (by decide) ?_
    refine ch_iconst (v := 0) d_l_strike_15 (by decide) ?_
    exact ch_iret (ty := .int) d_l_strike_16 rfl rfl (Nat.le_of_ble_eq_true rfl) h
  · obtain ⟨rfl, h⟩ := h
    refine ch_caught (i := 3) (ls' := [some (.inr (0, 0, 0)), some (.inl (.int p1)), some (.inr (10, 0, 1)), none]) [] (0, 9, 12, 13) [] rfl (fun z hz => by cases hz) ⟨by decide, by decide⟩ (by decide) ck_l_13 cx_0 (Or.inr ⟨⟨3, rfl, d_l_strike_12⟩, ?_⟩) (Nat.le_of_ble_eq_true rfl) rfl
    refine ch_iconst (v := 1) d_l_strike_13 (by decide) ?_
    exact ch_iret (ty := .int) d_l_strike_14 rfl rfl (Nat.le_of_ble_eq_true rfl) h
theorem e_l_rain (g : ch_G) (Q : ch_O → ch_M → Prop) (p1 : Int32) (m : ch_M) (h : ch_J g m_l_rain (ch_rm m_l_rain) (ch_E g m_l_rain Q) 0 [some (.inr (0, 0, 0)), some (.inl (.int p1)), some (.inr (10, 0, 1)), none] [] m 0) : ch_C g m_l_rain [.inr (0, 0, 0), .inl (.int p1), .inr (10, 0, 1)] m Q :=
  ch_enter mf_l_rain (by intro v hv; simp only [List.mem_cons, List.not_mem_nil, or_false] at hv; rcases hv with rfl | rfl | rfl <;> rfl) (Nat.le_of_ble_eq_true rfl) h
set_option maxHeartbeats 1600000 in
theorem g_l_rain_0 (g : ch_G) (Q : ch_O → ch_M → Prop) (p1 : Int32) (m : ch_M) (h : (ch_C g m_x_rain [.inr (0, 0, 0), .inl (.int p1)] m (ch_ox (ch_oi (fun (r1 : Int32) (m2 : ch_M) => (∀ m5 : ch_M, m5 = ch_wr m2 (10, 0, 1) (0) r1 → Q (.inl (some (.inl (.int 0)))) m5))) (fun (n3 : Nat) (m4 : ch_M) => ((n3 = 0 ∧ Q (.inl (some (.inl (.int 1)))) m4)))))) : ch_J g m_l_rain (ch_rm m_l_rain) (ch_E g m_l_rain Q) 0 [some (.inr (0, 0, 0)), some (.inl (.int p1)), some (.inr (10, 0, 1)), none] [] m 0 := by
  refine ch_aload_n (i := 2) d_l_rain_0 rfl rfl ?_
  refine ch_iconst (v := 0) d_l_rain_1 (by decide) ?_
  refine ch_aload_n (i := 0) d_l_rain_2 rfl rfl ?_
  refine ch_iload_n (i := 1) d_l_rain_3 rfl rfl ?_
  refine ch_callV (as := [.inl (.int p1)]) d_l_rain_4 lk_l_28 mi_x_rain me_x_rain rfl rfl rfl ⟨Nat.le_of_ble_eq_true rfl, Nat.le_of_ble_eq_true rfl⟩ (Nat.le_of_ble_eq_true rfl) ⟨Nat.le_of_ble_eq_true rfl, Nat.le_of_ble_eq_true rfl⟩ (ch_mono (ch_Kx (ch_Ki (fun r1 m2 h => ?_)) (fun n3 m4 hn h => ?_)) h)
  · skip
    refine ch_i2l d_l_rain_7 ?_
    refine ch_last (n := 1) d_l_rain_8 (by decide) rfl (vp_in_nI (n := 0) (by decide) (by decide)) ?_
    show ch_J g _ _ _ _ _ _ (ch_wr m2 (10, 0, 1) (0) r1) _
    generalize hmm5 : ch_wr m2 (10, 0, 1) (0) r1 = m5
    replace h := h m5 hmm5.symm
    refine ch_goto (tgt := 15) d_l_rain_9 (by decide) ?_
    refine ch_iconst (v := 0) d_l_rain_15 (by decide) ?_
    exact ch_iret (ty := .int) d_l_rain_16 rfl rfl (Nat.le_of_ble_eq_true rfl) h
  · obtain ⟨rfl, h⟩ := h
    refine ch_caught (i := 3) (ls' := [some (.inr (0, 0, 0)), some (.inl (.int p1)), some (.inr (10, 0, 1)), none]) [] (0, 9, 12, 13) [] rfl (fun z hz => by cases hz) ⟨by decide, by decide⟩ (by decide) ck_l_13 cx_0 (Or.inr ⟨⟨3, rfl, d_l_rain_12⟩, ?_⟩) (Nat.le_of_ble_eq_true rfl) rfl
    refine ch_iconst (v := 1) d_l_rain_13 (by decide) ?_
    exact ch_iret (ty := .int) d_l_rain_14 rfl rfl (Nat.le_of_ble_eq_true rfl) h
theorem e_l_term (g : ch_G) (Q : ch_O → ch_M → Prop)  (m : ch_M) (h : ch_J g m_l_term (ch_rm m_l_term) (ch_E g m_l_term Q) 0 [some (.inr (0, 0, 0)), some (.inr (10, 0, 1)), none] [] m 0) : ch_C g m_l_term [.inr (0, 0, 0), .inr (10, 0, 1)] m Q :=
  ch_enter mf_l_term (by intro v hv; simp only [List.mem_cons, List.not_mem_nil, or_false] at hv; rcases hv with rfl | rfl <;> rfl) (Nat.le_of_ble_eq_true rfl) h
set_option maxHeartbeats 1600000 in
theorem g_l_term_0 (g : ch_G) (Q : ch_O → ch_M → Prop)  (m : ch_M) (h : (ch_C g m_x_term [.inr (0, 0, 0)] m (ch_ox (ch_oi (fun (r1 : Int32) (m2 : ch_M) => (∀ m5 : ch_M, m5 = ch_wr m2 (10, 0, 1) (0) r1 → Q (.inl (some (.inl (.int 0)))) m5))) (fun (n3 : Nat) (m4 : ch_M) => ((n3 = 0 ∧ Q (.inl (some (.inl (.int 1)))) m4)))))) : ch_J g m_l_term (ch_rm m_l_term) (ch_E g m_l_term Q) 0 [some (.inr (0, 0, 0)), some (.inr (10, 0, 1)), none] [] m 0 := by
  refine ch_aload_n (i := 1) d_l_term_0 rfl rfl ?_
  refine ch_iconst (v := 0) d_l_term_1 (by decide) ?_
  refine ch_aload_n (i := 0) d_l_term_2 rfl rfl ?_
  refine ch_callV (as := []) d_l_term_3 lk_l_31 mi_x_term me_x_term rfl rfl rfl ⟨Nat.le_of_ble_eq_true rfl, Nat.le_of_ble_eq_true rfl⟩ (Nat.le_of_ble_eq_true rfl) ⟨Nat.le_of_ble_eq_true rfl, Nat.le_of_ble_eq_true rfl⟩ (ch_mono (ch_Kx (ch_Ki (fun r1 m2 h => ?_)) (fun n3 m4 hn h => ?_)) h)
  · skip
    refine ch_i2l d_l_term_6 ?_
    refine ch_last (n := 1) d_l_term_7 (by decide) rfl (vp_in_nI (n := 0) (by decide) (by decide)) ?_
    show ch_J g _ _ _ _ _ _ (ch_wr m2 (10, 0, 1) (0) r1) _
    generalize hmm5 : ch_wr m2 (10, 0, 1) (0) r1 = m5
    replace h := h m5 hmm5.symm
    refine ch_goto (tgt := 14) d_l_term_8 (by decide) ?_
    refine ch_iconst (v := 0) d_l_term_14 (by decide) ?_
    exact ch_iret (ty := .int) d_l_term_15 rfl rfl (Nat.le_of_ble_eq_true rfl) h
  · obtain ⟨rfl, h⟩ := h
    refine ch_caught (i := 2) (ls' := [some (.inr (0, 0, 0)), some (.inr (10, 0, 1)), none]) [] (0, 8, 11, 13) [] rfl (fun z hz => by cases hz) ⟨by decide, by decide⟩ (by decide) ck_l_13 cx_0 (Or.inr ⟨⟨2, rfl, d_l_term_11⟩, ?_⟩) (Nat.le_of_ble_eq_true rfl) rfl
    refine ch_iconst (v := 1) d_l_term_12 (by decide) ?_
    exact ch_iret (ty := .int) d_l_term_13 rfl rfl (Nat.le_of_ble_eq_true rfl) h
theorem e_l_give (g : ch_G) (Q : ch_O → ch_M → Prop) (p1 : Int32) (p2 : Int32) (p3 : Int32) (m : ch_M) (h : ch_J g m_l_give (ch_rm m_l_give) (ch_E g m_l_give Q) 0 [some (.inr (0, 0, 0)), some (.inl (.int p1)), some (.inl (.int p2)), some (.inl (.int p3)), some (.inr (10, 0, 1)), none] [] m 0) : ch_C g m_l_give [.inr (0, 0, 0), .inl (.int p1), .inl (.int p2), .inl (.int p3), .inr (10, 0, 1)] m Q :=
  ch_enter mf_l_give (by intro v hv; simp only [List.mem_cons, List.not_mem_nil, or_false] at hv; rcases hv with rfl | rfl | rfl | rfl | rfl <;> rfl) (Nat.le_of_ble_eq_true rfl) h
set_option maxHeartbeats 1600000 in
theorem g_l_give_0 (g : ch_G) (Q : ch_O → ch_M → Prop) (p1 : Int32) (p2 : Int32) (p3 : Int32) (m : ch_M) (h : (ch_C g m_x_give [.inr (0, 0, 0), .inl (.int p1), .inl (.int p2), .inl (.int p3)] m (ch_ox (ch_oi (fun (r1 : Int32) (m2 : ch_M) => (∀ m5 : ch_M, m5 = ch_wr m2 (10, 0, 1) (0) r1 → Q (.inl (some (.inl (.int 0)))) m5))) (fun (n3 : Nat) (m4 : ch_M) => ((n3 = 0 ∧ Q (.inl (some (.inl (.int 1)))) m4)))))) : ch_J g m_l_give (ch_rm m_l_give) (ch_E g m_l_give Q) 0 [some (.inr (0, 0, 0)), some (.inl (.int p1)), some (.inl (.int p2)), some (.inl (.int p3)), some (.inr (10, 0, 1)), none] [] m 0 := by
  refine ch_aload d_l_give_0 rfl ?_
  refine ch_iconst (v := 0) d_l_give_2 (by decide) ?_
  refine ch_aload_n (i := 0) d_l_give_3 rfl rfl ?_
  refine ch_iload_n (i := 1) d_l_give_4 rfl rfl ?_
  refine ch_iload_n (i := 2) d_l_give_5 rfl rfl ?_
  refine ch_iload_n (i := 3) d_l_give_6 rfl rfl ?_
  refine ch_callV (as := [.inl (.int p1), .inl (.int p2), .inl (.int p3)]) d_l_give_7 lk_l_35 mi_x_give me_x_give rfl rfl rfl ⟨Nat.le_of_ble_eq_true rfl, Nat.le_of_ble_eq_true rfl⟩ (Nat.le_of_ble_eq_true rfl) ⟨Nat.le_of_ble_eq_true rfl, Nat.le_of_ble_eq_true rfl⟩ (ch_mono (ch_Kx (ch_Ki (fun r1 m2 h => ?_)) (fun n3 m4 hn h => ?_)) h)
  · skip
    refine ch_i2l d_l_give_10 ?_
    refine ch_last (n := 1) d_l_give_11 (by decide) rfl (vp_in_nI (n := 0) (by decide) (by decide)) ?_
    show ch_J g _ _ _ _ _ _ (ch_wr m2 (10, 0, 1) (0) r1) _
    generalize hmm5 : ch_wr m2 (10, 0, 1) (0) r1 = m5
    replace h := h m5 hmm5.symm
    refine ch_goto (tgt := 19) d_l_give_12 (by decide) ?_
    refine ch_iconst (v := 0) d_l_give_19 (by decide) ?_
    exact ch_iret (ty := .int) d_l_give_20 rfl rfl (Nat.le_of_ble_eq_true rfl) h
  · obtain ⟨rfl, h⟩ := h
    refine ch_caught (i := 5) (ls' := [some (.inr (0, 0, 0)), some (.inl (.int p1)), some (.inl (.int p2)), some (.inl (.int p3)), some (.inr (10, 0, 1)), none]) [] (0, 12, 15, 13) [] rfl (fun z hz => by cases hz) ⟨by decide, by decide⟩ (by decide) ck_l_13 cx_0 (Or.inl ⟨d_l_give_15, ?_⟩) (Nat.le_of_ble_eq_true rfl) rfl
    refine ch_iconst (v := 1) d_l_give_17 (by decide) ?_
    exact ch_iret (ty := .int) d_l_give_18 rfl rfl (Nat.le_of_ble_eq_true rfl) h
theorem e_l_squareOf (g : ch_G) (Q : ch_O → ch_M → Prop) (p1 : Int32) (p2 : Int32) (m : ch_M) (h : ch_J g m_l_squareOf (ch_rm m_l_squareOf) (ch_E g m_l_squareOf Q) 0 [some (.inr (0, 0, 0)), some (.inl (.int p1)), some (.inl (.int p2)), some (.inr (10, 0, 1)), none] [] m 0) : ch_C g m_l_squareOf [.inr (0, 0, 0), .inl (.int p1), .inl (.int p2), .inr (10, 0, 1)] m Q :=
  ch_enter mf_l_squareOf (by intro v hv; simp only [List.mem_cons, List.not_mem_nil, or_false] at hv; rcases hv with rfl | rfl | rfl | rfl <;> rfl) (Nat.le_of_ble_eq_true rfl) h
set_option maxHeartbeats 1600000 in
theorem g_l_squareOf_0 (g : ch_G) (Q : ch_O → ch_M → Prop) (p1 : Int32) (p2 : Int32) (m : ch_M) (h : (ch_C g m_x_squareOf [.inr (0, 0, 0), .inl (.int p1), .inl (.int p2)] m (ch_ox (ch_oi (fun (r1 : Int32) (m2 : ch_M) => (∀ m5 : ch_M, m5 = ch_wr m2 (10, 0, 1) (0) r1 → Q (.inl (some (.inl (.int 0)))) m5))) (fun (n3 : Nat) (m4 : ch_M) => ((n3 = 1 ∧ Q (.inl (some (.inl (.int 1)))) m4)))))) : ch_J g m_l_squareOf (ch_rm m_l_squareOf) (ch_E g m_l_squareOf Q) 0 [some (.inr (0, 0, 0)), some (.inl (.int p1)), some (.inl (.int p2)), some (.inr (10, 0, 1)), none] [] m 0 := by
  refine ch_aload_n (i := 3) d_l_squareOf_0 rfl rfl ?_
  refine ch_iconst (v := 0) d_l_squareOf_1 (by decide) ?_
  refine ch_aload_n (i := 0) d_l_squareOf_2 rfl rfl ?_
  refine ch_iload_n (i := 1) d_l_squareOf_3 rfl rfl ?_
  refine ch_iload_n (i := 2) d_l_squareOf_4 rfl rfl ?_
  refine ch_callV (as := [.inl (.int p1), .inl (.int p2)]) d_l_squareOf_5 lk_l_39 mi_x_squareOf me_x_squareOf rfl rfl rfl ⟨Nat.le_of_ble_eq_true rfl, Nat.le_of_ble_eq_true rfl⟩ (Nat.le_of_ble_eq_true rfl) ⟨Nat.le_of_ble_eq_true rfl, Nat.le_of_ble_eq_true rfl⟩ (ch_mono (ch_Kx (ch_Ki (fun r1 m2 h => ?_)) (fun n3 m4 hn h => ?_)) h)
  · skip
    refine ch_i2l d_l_squareOf_8 ?_
    refine ch_last (n := 1) d_l_squareOf_9 (by decide) rfl (vp_in_nI (n := 0) (by decide) (by decide)) ?_
    show ch_J g _ _ _ _ _ _ (ch_wr m2 (10, 0, 1) (0) r1) _
    generalize hmm5 : ch_wr m2 (10, 0, 1) (0) r1 = m5
    replace h := h m5 hmm5.symm
    refine ch_goto (tgt := 17) d_l_squareOf_10 (by decide) ?_
    refine ch_iconst (v := 0) d_l_squareOf_17 (by decide) ?_
    exact ch_iret (ty := .int) d_l_squareOf_18 rfl rfl (Nat.le_of_ble_eq_true rfl) h
  · obtain ⟨rfl, h⟩ := h
    refine ch_caught (i := 4) (ls' := [some (.inr (0, 0, 0)), some (.inl (.int p1)), some (.inl (.int p2)), some (.inr (10, 0, 1)), none]) [] (0, 10, 13, 43) [] rfl (fun z hz => by cases hz) ⟨by decide, by decide⟩ (by decide) ck_l_43 cx_1 (Or.inl ⟨d_l_squareOf_13, ?_⟩) (Nat.le_of_ble_eq_true rfl) rfl
    refine ch_iconst (v := 1) d_l_squareOf_15 (by decide) ?_
    exact ch_iret (ty := .int) d_l_squareOf_16 rfl rfl (Nat.le_of_ble_eq_true rfl) h
theorem e_l_childOf (g : ch_G) (Q : ch_O → ch_M → Prop) (p1 : Int32) (p2 : Int32) (m : ch_M) (h : ch_J g m_l_childOf (ch_rm m_l_childOf) (ch_E g m_l_childOf Q) 0 [some (.inr (0, 0, 0)), some (.inl (.int p1)), some (.inl (.int p2)), some (.inr (10, 0, 1)), none] [] m 0) : ch_C g m_l_childOf [.inr (0, 0, 0), .inl (.int p1), .inl (.int p2), .inr (10, 0, 1)] m Q :=
  ch_enter mf_l_childOf (by intro v hv; simp only [List.mem_cons, List.not_mem_nil, or_false] at hv; rcases hv with rfl | rfl | rfl | rfl <;> rfl) (Nat.le_of_ble_eq_true rfl) h
set_option maxHeartbeats 1600000 in
theorem g_l_childOf_0 (g : ch_G) (Q : ch_O → ch_M → Prop) (p1 : Int32) (p2 : Int32) (m : ch_M) (h : (ch_C g m_x_childOf [.inr (0, 0, 0), .inl (.int p1), .inl (.int p2)] m (ch_ox (ch_oi (fun (r1 : Int32) (m2 : ch_M) => (∀ m5 : ch_M, m5 = ch_wr m2 (10, 0, 1) (0) r1 → Q (.inl (some (.inl (.int 0)))) m5))) (fun (n3 : Nat) (m4 : ch_M) => ((n3 = 1 ∧ Q (.inl (some (.inl (.int 1)))) m4) ∨ (n3 = 2 ∧ Q (.inl (some (.inl (.int 2)))) m4)))))) : ch_J g m_l_childOf (ch_rm m_l_childOf) (ch_E g m_l_childOf Q) 0 [some (.inr (0, 0, 0)), some (.inl (.int p1)), some (.inl (.int p2)), some (.inr (10, 0, 1)), none] [] m 0 := by
  refine ch_aload_n (i := 3) d_l_childOf_0 rfl rfl ?_
  refine ch_iconst (v := 0) d_l_childOf_1 (by decide) ?_
  refine ch_aload_n (i := 0) d_l_childOf_2 rfl rfl ?_
  refine ch_iload_n (i := 1) d_l_childOf_3 rfl rfl ?_
  refine ch_iload_n (i := 2) d_l_childOf_4 rfl rfl ?_
  refine ch_callV (as := [.inl (.int p1), .inl (.int p2)]) d_l_childOf_5 lk_l_45 mi_x_childOf me_x_childOf rfl rfl rfl ⟨Nat.le_of_ble_eq_true rfl, Nat.le_of_ble_eq_true rfl⟩ (Nat.le_of_ble_eq_true rfl) ⟨Nat.le_of_ble_eq_true rfl, Nat.le_of_ble_eq_true rfl⟩ (ch_mono (ch_Kx (ch_Ki (fun r1 m2 h => ?_)) (fun n3 m4 hn h => ?_)) h)
  · skip
    refine ch_i2l d_l_childOf_8 ?_
    refine ch_last (n := 1) d_l_childOf_9 (by decide) rfl (vp_in_nI (n := 0) (by decide) (by decide)) ?_
    show ch_J g _ _ _ _ _ _ (ch_wr m2 (10, 0, 1) (0) r1) _
    generalize hmm5 : ch_wr m2 (10, 0, 1) (0) r1 = m5
    replace h := h m5 hmm5.symm
    refine ch_goto (tgt := 21) d_l_childOf_10 (by decide) ?_
    refine ch_iconst (v := 0) d_l_childOf_21 (by decide) ?_
    exact ch_iret (ty := .int) d_l_childOf_22 rfl rfl (Nat.le_of_ble_eq_true rfl) h
  · rcases h with ⟨rfl, h⟩ | ⟨rfl, h⟩
    · refine ch_caught (i := 4) (ls' := [some (.inr (0, 0, 0)), some (.inl (.int p1)), some (.inl (.int p2)), some (.inr (10, 0, 1)), none]) [] (0, 10, 13, 43) [(0, 10, 17, 48)] rfl (fun z hz => by cases hz) ⟨by decide, by decide⟩ (by decide) ck_l_43 cx_1 (Or.inl ⟨d_l_childOf_13, ?_⟩) (Nat.le_of_ble_eq_true rfl) rfl
      refine ch_iconst (v := 1) d_l_childOf_15 (by decide) ?_
      exact ch_iret (ty := .int) d_l_childOf_16 rfl rfl (Nat.le_of_ble_eq_true rfl) h
    · refine ch_caught (i := 4) (ls' := [some (.inr (0, 0, 0)), some (.inl (.int p1)), some (.inl (.int p2)), some (.inr (10, 0, 1)), none]) [(0, 10, 13, 43)] (0, 10, 17, 48) [] rfl (fun z hz => by simp only [List.mem_cons, List.not_mem_nil, or_false] at hz; subst hz; exact ⟨by decide, 1, by decide, by decide, ck_l_43⟩) ⟨by decide, by decide⟩ (by decide) ck_l_48 cx_2 (Or.inl ⟨d_l_childOf_17, ?_⟩) (Nat.le_of_ble_eq_true rfl) rfl
      refine ch_iconst (v := 2) d_l_childOf_19 (by decide) ?_
      exact ch_iret (ty := .int) d_l_childOf_20 rfl rfl (Nat.le_of_ble_eq_true rfl) h
theorem e_l_squares (g : ch_G) (Q : ch_O → ch_M → Prop) (p1 : Int32) (m : ch_M) (h : ch_J g m_l_squares (ch_rm m_l_squares) (ch_E g m_l_squares Q) 0 [some (.inr (0, 0, 0)), some (.inl (.int p1)), some (.inr (10, 0, 1)), none] [] m 0) : ch_C g m_l_squares [.inr (0, 0, 0), .inl (.int p1), .inr (10, 0, 1)] m Q :=
  ch_enter mf_l_squares (by intro v hv; simp only [List.mem_cons, List.not_mem_nil, or_false] at hv; rcases hv with rfl | rfl | rfl <;> rfl) (Nat.le_of_ble_eq_true rfl) h
set_option maxHeartbeats 1600000 in
theorem g_l_squares_0 (g : ch_G) (Q : ch_O → ch_M → Prop) (p1 : Int32) (m : ch_M) (h : (ch_C g m_x_squares [.inr (0, 0, 0), .inl (.int p1)] m (ch_ox (ch_oi (fun (r1 : Int32) (m2 : ch_M) => (∀ m5 : ch_M, m5 = ch_wr m2 (10, 0, 1) (0) r1 → Q (.inl (some (.inl (.int 0)))) m5))) (fun (n3 : Nat) (m4 : ch_M) => ((n3 = 1 ∧ Q (.inl (some (.inl (.int 1)))) m4)))))) : ch_J g m_l_squares (ch_rm m_l_squares) (ch_E g m_l_squares Q) 0 [some (.inr (0, 0, 0)), some (.inl (.int p1)), some (.inr (10, 0, 1)), none] [] m 0 := by
  refine ch_aload_n (i := 2) d_l_squares_0 rfl rfl ?_
  refine ch_iconst (v := 0) d_l_squares_1 (by decide) ?_
  refine ch_aload_n (i := 0) d_l_squares_2 rfl rfl ?_
  refine ch_iload_n (i := 1) d_l_squares_3 rfl rfl ?_
  refine ch_callV (as := [.inl (.int p1)]) d_l_squares_4 lk_l_50 mi_x_squares me_x_squares rfl rfl rfl ⟨Nat.le_of_ble_eq_true rfl, Nat.le_of_ble_eq_true rfl⟩ (Nat.le_of_ble_eq_true rfl) ⟨Nat.le_of_ble_eq_true rfl, Nat.le_of_ble_eq_true rfl⟩ (ch_mono (ch_Kx (ch_Ki (fun r1 m2 h => ?_)) (fun n3 m4 hn h => ?_)) h)
  · skip
    refine ch_i2l d_l_squares_7 ?_
    refine ch_last (n := 1) d_l_squares_8 (by decide) rfl (vp_in_nI (n := 0) (by decide) (by decide)) ?_
    show ch_J g _ _ _ _ _ _ (ch_wr m2 (10, 0, 1) (0) r1) _
    generalize hmm5 : ch_wr m2 (10, 0, 1) (0) r1 = m5
    replace h := h m5 hmm5.symm
    refine ch_goto (tgt := 15) d_l_squares_9 (by decide) ?_
    refine ch_iconst (v := 0) d_l_squares_15 (by decide) ?_
    exact ch_iret (ty := .int) d_l_squares_16 rfl rfl (Nat.le_of_ble_eq_true rfl) h
  · obtain ⟨rfl, h⟩ := h
    refine ch_caught (i := 3) (ls' := [some (.inr (0, 0, 0)), some (.inl (.int p1)), some (.inr (10, 0, 1)), none]) [] (0, 9, 12, 43) [] rfl (fun z hz => by cases hz) ⟨by decide, by decide⟩ (by decide) ck_l_43 cx_1 (Or.inr ⟨⟨3, rfl, d_l_squares_12⟩, ?_⟩) (Nat.le_of_ble_eq_true rfl) rfl
    refine ch_iconst (v := 1) d_l_squares_13 (by decide) ?_
    exact ch_iret (ty := .int) d_l_squares_14 rfl rfl (Nat.le_of_ble_eq_true rfl) h
theorem e_l_warrantAt (g : ch_G) (Q : ch_O → ch_M → Prop) (p1 : Int32) (m : ch_M) (h : ch_J g m_l_warrantAt (ch_rm m_l_warrantAt) (ch_E g m_l_warrantAt Q) 0 [some (.inr (0, 0, 0)), some (.inl (.int p1)), some (.inr (10, 0, 1)), none] [] m 0) : ch_C g m_l_warrantAt [.inr (0, 0, 0), .inl (.int p1), .inr (10, 0, 1)] m Q :=
  ch_enter mf_l_warrantAt (by intro v hv; simp only [List.mem_cons, List.not_mem_nil, or_false] at hv; rcases hv with rfl | rfl | rfl <;> rfl) (Nat.le_of_ble_eq_true rfl) h
set_option maxHeartbeats 1600000 in
theorem g_l_warrantAt_0 (g : ch_G) (Q : ch_O → ch_M → Prop) (p1 : Int32) (m : ch_M) (h : (ch_C g m_x_warrantAt [.inr (0, 0, 0), .inl (.int p1)] m (ch_ox (ch_oi (fun (r1 : Int32) (m2 : ch_M) => (∀ m5 : ch_M, m5 = ch_wr m2 (10, 0, 1) (0) r1 → Q (.inl (some (.inl (.int 0)))) m5))) (fun (n3 : Nat) (m4 : ch_M) => ((n3 = 3 ∧ Q (.inl (some (.inl (.int 1)))) m4)))))) : ch_J g m_l_warrantAt (ch_rm m_l_warrantAt) (ch_E g m_l_warrantAt Q) 0 [some (.inr (0, 0, 0)), some (.inl (.int p1)), some (.inr (10, 0, 1)), none] [] m 0 := by
  refine ch_aload_n (i := 2) d_l_warrantAt_0 rfl rfl ?_
  refine ch_iconst (v := 0) d_l_warrantAt_1 (by decide) ?_
  refine ch_aload_n (i := 0) d_l_warrantAt_2 rfl rfl ?_
  refine ch_iload_n (i := 1) d_l_warrantAt_3 rfl rfl ?_
  refine ch_callV (as := [.inl (.int p1)]) d_l_warrantAt_4 lk_l_53 mi_x_warrantAt me_x_warrantAt rfl rfl rfl ⟨Nat.le_of_ble_eq_true rfl, Nat.le_of_ble_eq_true rfl⟩ (Nat.le_of_ble_eq_true rfl) ⟨Nat.le_of_ble_eq_true rfl, Nat.le_of_ble_eq_true rfl⟩ (ch_mono (ch_Kx (ch_Ki (fun r1 m2 h => ?_)) (fun n3 m4 hn h => ?_)) h)
  · skip
    refine ch_i2l d_l_warrantAt_7 ?_
    refine ch_last (n := 1) d_l_warrantAt_8 (by decide) rfl (vp_in_nI (n := 0) (by decide) (by decide)) ?_
    show ch_J g _ _ _ _ _ _ (ch_wr m2 (10, 0, 1) (0) r1) _
    generalize hmm5 : ch_wr m2 (10, 0, 1) (0) r1 = m5
    replace h := h m5 hmm5.symm
    refine ch_goto (tgt := 15) d_l_warrantAt_9 (by decide) ?_
    refine ch_iconst (v := 0) d_l_warrantAt_15 (by decide) ?_
    exact ch_iret (ty := .int) d_l_warrantAt_16 rfl rfl (Nat.le_of_ble_eq_true rfl) h
  · obtain ⟨rfl, h⟩ := h
    refine ch_caught (i := 3) (ls' := [some (.inr (0, 0, 0)), some (.inl (.int p1)), some (.inr (10, 0, 1)), none]) [] (0, 9, 12, 56) [] rfl (fun z hz => by cases hz) ⟨by decide, by decide⟩ (by decide) ck_l_56 cx_3 (Or.inr ⟨⟨3, rfl, d_l_warrantAt_12⟩, ?_⟩) (Nat.le_of_ble_eq_true rfl) rfl
    refine ch_iconst (v := 1) d_l_warrantAt_13 (by decide) ?_
    exact ch_iret (ty := .int) d_l_warrantAt_14 rfl rfl (Nat.le_of_ble_eq_true rfl) h
theorem e_l_fewest (g : ch_G) (Q : ch_O → ch_M → Prop) (p1 : Int32) (m : ch_M) (h : ch_J g m_l_fewest (ch_rm m_l_fewest) (ch_E g m_l_fewest Q) 0 [some (.inr (0, 0, 0)), some (.inl (.int p1)), some (.inr (10, 0, 1)), none] [] m 0) : ch_C g m_l_fewest [.inr (0, 0, 0), .inl (.int p1), .inr (10, 0, 1)] m Q :=
  ch_enter mf_l_fewest (by intro v hv; simp only [List.mem_cons, List.not_mem_nil, or_false] at hv; rcases hv with rfl | rfl | rfl <;> rfl) (Nat.le_of_ble_eq_true rfl) h
set_option maxHeartbeats 1600000 in
theorem g_l_fewest_0 (g : ch_G) (Q : ch_O → ch_M → Prop) (p1 : Int32) (m : ch_M) (h : (ch_C g m_x_fewest [.inr (0, 0, 0), .inl (.int p1)] m (ch_ox (ch_oi (fun (r1 : Int32) (m2 : ch_M) => (∀ m5 : ch_M, m5 = ch_wr m2 (10, 0, 1) (0) r1 → Q (.inl (some (.inl (.int 0)))) m5))) (fun (n3 : Nat) (m4 : ch_M) => ((n3 = 1 ∧ Q (.inl (some (.inl (.int 1)))) m4)))))) : ch_J g m_l_fewest (ch_rm m_l_fewest) (ch_E g m_l_fewest Q) 0 [some (.inr (0, 0, 0)), some (.inl (.int p1)), some (.inr (10, 0, 1)), none] [] m 0 := by
  refine ch_aload_n (i := 2) d_l_fewest_0 rfl rfl ?_
  refine ch_iconst (v := 0) d_l_fewest_1 (by decide) ?_
  refine ch_aload_n (i := 0) d_l_fewest_2 rfl rfl ?_
  refine ch_iload_n (i := 1) d_l_fewest_3 rfl rfl ?_
  refine ch_callV (as := [.inl (.int p1)]) d_l_fewest_4 lk_l_58 mi_x_fewest me_x_fewest rfl rfl rfl ⟨Nat.le_of_ble_eq_true rfl, Nat.le_of_ble_eq_true rfl⟩ (Nat.le_of_ble_eq_true rfl) ⟨Nat.le_of_ble_eq_true rfl, Nat.le_of_ble_eq_true rfl⟩ (ch_mono (ch_Kx (ch_Ki (fun r1 m2 h => ?_)) (fun n3 m4 hn h => ?_)) h)
  · skip
    refine ch_i2l d_l_fewest_7 ?_
    refine ch_last (n := 1) d_l_fewest_8 (by decide) rfl (vp_in_nI (n := 0) (by decide) (by decide)) ?_
    show ch_J g _ _ _ _ _ _ (ch_wr m2 (10, 0, 1) (0) r1) _
    generalize hmm5 : ch_wr m2 (10, 0, 1) (0) r1 = m5
    replace h := h m5 hmm5.symm
    refine ch_goto (tgt := 15) d_l_fewest_9 (by decide) ?_
    refine ch_iconst (v := 0) d_l_fewest_15 (by decide) ?_
    exact ch_iret (ty := .int) d_l_fewest_16 rfl rfl (Nat.le_of_ble_eq_true rfl) h
  · obtain ⟨rfl, h⟩ := h
    refine ch_caught (i := 3) (ls' := [some (.inr (0, 0, 0)), some (.inl (.int p1)), some (.inr (10, 0, 1)), none]) [] (0, 9, 12, 43) [] rfl (fun z hz => by cases hz) ⟨by decide, by decide⟩ (by decide) ck_l_43 cx_1 (Or.inr ⟨⟨3, rfl, d_l_fewest_12⟩, ?_⟩) (Nat.le_of_ble_eq_true rfl) rfl
    refine ch_iconst (v := 1) d_l_fewest_13 (by decide) ?_
    exact ch_iret (ty := .int) d_l_fewest_14 rfl rfl (Nat.le_of_ble_eq_true rfl) h
theorem e_l_fewestAgain (g : ch_G) (Q : ch_O → ch_M → Prop) (p1 : Int32) (m : ch_M) (h : ch_J g m_l_fewestAgain (ch_rm m_l_fewestAgain) (ch_E g m_l_fewestAgain Q) 0 [some (.inr (0, 0, 0)), some (.inl (.int p1)), some (.inr (10, 0, 1)), none] [] m 0) : ch_C g m_l_fewestAgain [.inr (0, 0, 0), .inl (.int p1), .inr (10, 0, 1)] m Q :=
  ch_enter mf_l_fewestAgain (by intro v hv; simp only [List.mem_cons, List.not_mem_nil, or_false] at hv; rcases hv with rfl | rfl | rfl <;> rfl) (Nat.le_of_ble_eq_true rfl) h
set_option maxHeartbeats 1600000 in
theorem g_l_fewestAgain_0 (g : ch_G) (Q : ch_O → ch_M → Prop) (p1 : Int32) (m : ch_M) (h : (ch_C g m_x_fewestAgain [.inr (0, 0, 0), .inl (.int p1)] m (ch_ox (ch_oi (fun (r1 : Int32) (m2 : ch_M) => (∀ m5 : ch_M, m5 = ch_wr m2 (10, 0, 1) (0) r1 → Q (.inl (some (.inl (.int 0)))) m5))) (fun (n3 : Nat) (m4 : ch_M) => ((n3 = 1 ∧ Q (.inl (some (.inl (.int 1)))) m4)))))) : ch_J g m_l_fewestAgain (ch_rm m_l_fewestAgain) (ch_E g m_l_fewestAgain Q) 0 [some (.inr (0, 0, 0)), some (.inl (.int p1)), some (.inr (10, 0, 1)), none] [] m 0 := by
  refine ch_aload_n (i := 2) d_l_fewestAgain_0 rfl rfl ?_
  refine ch_iconst (v := 0) d_l_fewestAgain_1 (by decide) ?_
  refine ch_aload_n (i := 0) d_l_fewestAgain_2 rfl rfl ?_
  refine ch_iload_n (i := 1) d_l_fewestAgain_3 rfl rfl ?_
  refine ch_callV (as := [.inl (.int p1)]) d_l_fewestAgain_4 lk_l_61 mi_x_fewestAgain me_x_fewestAgain rfl rfl rfl ⟨Nat.le_of_ble_eq_true rfl, Nat.le_of_ble_eq_true rfl⟩ (Nat.le_of_ble_eq_true rfl) ⟨Nat.le_of_ble_eq_true rfl, Nat.le_of_ble_eq_true rfl⟩ (ch_mono (ch_Kx (ch_Ki (fun r1 m2 h => ?_)) (fun n3 m4 hn h => ?_)) h)
  · skip
    refine ch_i2l d_l_fewestAgain_7 ?_
    refine ch_last (n := 1) d_l_fewestAgain_8 (by decide) rfl (vp_in_nI (n := 0) (by decide) (by decide)) ?_
    show ch_J g _ _ _ _ _ _ (ch_wr m2 (10, 0, 1) (0) r1) _
    generalize hmm5 : ch_wr m2 (10, 0, 1) (0) r1 = m5
    replace h := h m5 hmm5.symm
    refine ch_goto (tgt := 15) d_l_fewestAgain_9 (by decide) ?_
    refine ch_iconst (v := 0) d_l_fewestAgain_15 (by decide) ?_
    exact ch_iret (ty := .int) d_l_fewestAgain_16 rfl rfl (Nat.le_of_ble_eq_true rfl) h
  · obtain ⟨rfl, h⟩ := h
    refine ch_caught (i := 3) (ls' := [some (.inr (0, 0, 0)), some (.inl (.int p1)), some (.inr (10, 0, 1)), none]) [] (0, 9, 12, 43) [] rfl (fun z hz => by cases hz) ⟨by decide, by decide⟩ (by decide) ck_l_43 cx_1 (Or.inr ⟨⟨3, rfl, d_l_fewestAgain_12⟩, ?_⟩) (Nat.le_of_ble_eq_true rfl) rfl
    refine ch_iconst (v := 1) d_l_fewestAgain_13 (by decide) ?_
    exact ch_iret (ty := .int) d_l_fewestAgain_14 rfl rfl (Nat.le_of_ble_eq_true rfl) h
theorem e_l_step (g : ch_G) (Q : ch_O → ch_M → Prop) (p1 : Int32) (p2 : Int32) (m : ch_M) (h : ch_J g m_l_step (ch_rm m_l_step) (ch_E g m_l_step Q) 0 [some (.inr (0, 0, 0)), some (.inl (.int p1)), some (.inl (.int p2)), some (.inr (10, 0, 1)), none] [] m 0) : ch_C g m_l_step [.inr (0, 0, 0), .inl (.int p1), .inl (.int p2), .inr (10, 0, 1)] m Q :=
  ch_enter mf_l_step (by intro v hv; simp only [List.mem_cons, List.not_mem_nil, or_false] at hv; rcases hv with rfl | rfl | rfl | rfl <;> rfl) (Nat.le_of_ble_eq_true rfl) h
set_option maxHeartbeats 1600000 in
theorem g_l_step_0 (g : ch_G) (Q : ch_O → ch_M → Prop) (p1 : Int32) (p2 : Int32) (m : ch_M) (h : (ch_C g m_x_step [.inr (0, 0, 0), .inl (.int p1), .inl (.int p2)] m (ch_ox (ch_oi (fun (r1 : Int32) (m2 : ch_M) => (∀ m5 : ch_M, m5 = ch_wr m2 (10, 0, 1) (0) r1 → Q (.inl (some (.inl (.int 0)))) m5))) (fun (n3 : Nat) (m4 : ch_M) => ((n3 = 1 ∧ Q (.inl (some (.inl (.int 1)))) m4) ∨ (n3 = 3 ∧ Q (.inl (some (.inl (.int 2)))) m4)))))) : ch_J g m_l_step (ch_rm m_l_step) (ch_E g m_l_step Q) 0 [some (.inr (0, 0, 0)), some (.inl (.int p1)), some (.inl (.int p2)), some (.inr (10, 0, 1)), none] [] m 0 := by
  refine ch_aload_n (i := 3) d_l_step_0 rfl rfl ?_
  refine ch_iconst (v := 0) d_l_step_1 (by decide) ?_
  refine ch_aload_n (i := 0) d_l_step_2 rfl rfl ?_
  refine ch_iload_n (i := 1) d_l_step_3 rfl rfl ?_
  refine ch_iload_n (i := 2) d_l_step_4 rfl rfl ?_
  refine ch_callV (as := [.inl (.int p1), .inl (.int p2)]) d_l_step_5 lk_l_64 mi_x_step me_x_step rfl rfl rfl ⟨Nat.le_of_ble_eq_true rfl, Nat.le_of_ble_eq_true rfl⟩ (Nat.le_of_ble_eq_true rfl) ⟨Nat.le_of_ble_eq_true rfl, Nat.le_of_ble_eq_true rfl⟩ (ch_mono (ch_Kx (ch_Ki (fun r1 m2 h => ?_)) (fun n3 m4 hn h => ?_)) h)
  · skip
    refine ch_i2l d_l_step_8 ?_
    refine ch_last (n := 1) d_l_step_9 (by decide) rfl (vp_in_nI (n := 0) (by decide) (by decide)) ?_
    show ch_J g _ _ _ _ _ _ (ch_wr m2 (10, 0, 1) (0) r1) _
    generalize hmm5 : ch_wr m2 (10, 0, 1) (0) r1 = m5
    replace h := h m5 hmm5.symm
    refine ch_goto (tgt := 21) d_l_step_10 (by decide) ?_
    refine ch_iconst (v := 0) d_l_step_21 (by decide) ?_
    exact ch_iret (ty := .int) d_l_step_22 rfl rfl (Nat.le_of_ble_eq_true rfl) h
  · rcases h with ⟨rfl, h⟩ | ⟨rfl, h⟩
    · refine ch_caught (i := 4) (ls' := [some (.inr (0, 0, 0)), some (.inl (.int p1)), some (.inl (.int p2)), some (.inr (10, 0, 1)), none]) [] (0, 10, 13, 43) [(0, 10, 17, 56)] rfl (fun z hz => by cases hz) ⟨by decide, by decide⟩ (by decide) ck_l_43 cx_1 (Or.inl ⟨d_l_step_13, ?_⟩) (Nat.le_of_ble_eq_true rfl) rfl
      refine ch_iconst (v := 1) d_l_step_15 (by decide) ?_
      exact ch_iret (ty := .int) d_l_step_16 rfl rfl (Nat.le_of_ble_eq_true rfl) h
    · refine ch_caught (i := 4) (ls' := [some (.inr (0, 0, 0)), some (.inl (.int p1)), some (.inl (.int p2)), some (.inr (10, 0, 1)), none]) [(0, 10, 13, 43)] (0, 10, 17, 56) [] rfl (fun z hz => by simp only [List.mem_cons, List.not_mem_nil, or_false] at hz; subst hz; exact ⟨by decide, 1, by decide, by decide, ck_l_43⟩) ⟨by decide, by decide⟩ (by decide) ck_l_56 cx_3 (Or.inl ⟨d_l_step_17, ?_⟩) (Nat.le_of_ble_eq_true rfl) rfl
      refine ch_iconst (v := 2) d_l_step_19 (by decide) ?_
      exact ch_iret (ty := .int) d_l_step_20 rfl rfl (Nat.le_of_ble_eq_true rfl) h
theorem e_l_wouldTread (g : ch_G) (Q : ch_O → ch_M → Prop) (p1 : Int32) (p2 : Int32) (m : ch_M) (h : ch_J g m_l_wouldTread (ch_rm m_l_wouldTread) (ch_E g m_l_wouldTread Q) 0 [some (.inr (0, 0, 0)), some (.inl (.int p1)), some (.inl (.int p2)), some (.inr (10, 0, 1)), none] [] m 0) : ch_C g m_l_wouldTread [.inr (0, 0, 0), .inl (.int p1), .inl (.int p2), .inr (10, 0, 1)] m Q :=
  ch_enter mf_l_wouldTread (by intro v hv; simp only [List.mem_cons, List.not_mem_nil, or_false] at hv; rcases hv with rfl | rfl | rfl | rfl <;> rfl) (Nat.le_of_ble_eq_true rfl) h
set_option maxHeartbeats 1600000 in
theorem g_l_wouldTread_0 (g : ch_G) (Q : ch_O → ch_M → Prop) (p1 : Int32) (p2 : Int32) (m : ch_M) (h : (ch_C g m_x_wouldTread [.inr (0, 0, 0), .inl (.int p1), .inl (.int p2)] m (ch_ox (ch_oi (fun (r1 : Int32) (m2 : ch_M) => (∀ m5 : ch_M, m5 = ch_wr m2 (10, 0, 1) (0) r1 → Q (.inl (some (.inl (.int 0)))) m5))) (fun (n3 : Nat) (m4 : ch_M) => ((n3 = 1 ∧ Q (.inl (some (.inl (.int 1)))) m4) ∨ (n3 = 2 ∧ Q (.inl (some (.inl (.int 2)))) m4)))))) : ch_J g m_l_wouldTread (ch_rm m_l_wouldTread) (ch_E g m_l_wouldTread Q) 0 [some (.inr (0, 0, 0)), some (.inl (.int p1)), some (.inl (.int p2)), some (.inr (10, 0, 1)), none] [] m 0 := by
  refine ch_aload_n (i := 3) d_l_wouldTread_0 rfl rfl ?_
  refine ch_iconst (v := 0) d_l_wouldTread_1 (by decide) ?_
  refine ch_aload_n (i := 0) d_l_wouldTread_2 rfl rfl ?_
  refine ch_iload_n (i := 1) d_l_wouldTread_3 rfl rfl ?_
  refine ch_iload_n (i := 2) d_l_wouldTread_4 rfl rfl ?_
  refine ch_callV (as := [.inl (.int p1), .inl (.int p2)]) d_l_wouldTread_5 lk_l_67 mi_x_wouldTread me_x_wouldTread rfl rfl rfl ⟨Nat.le_of_ble_eq_true rfl, Nat.le_of_ble_eq_true rfl⟩ (Nat.le_of_ble_eq_true rfl) ⟨Nat.le_of_ble_eq_true rfl, Nat.le_of_ble_eq_true rfl⟩ (ch_mono (ch_Kx (ch_Ki (fun r1 m2 h => ?_)) (fun n3 m4 hn h => ?_)) h)
  · skip
    refine ch_i2l d_l_wouldTread_8 ?_
    refine ch_last (n := 1) d_l_wouldTread_9 (by decide) rfl (vp_in_nI (n := 0) (by decide) (by decide)) ?_
    show ch_J g _ _ _ _ _ _ (ch_wr m2 (10, 0, 1) (0) r1) _
    generalize hmm5 : ch_wr m2 (10, 0, 1) (0) r1 = m5
    replace h := h m5 hmm5.symm
    refine ch_goto (tgt := 21) d_l_wouldTread_10 (by decide) ?_
    refine ch_iconst (v := 0) d_l_wouldTread_21 (by decide) ?_
    exact ch_iret (ty := .int) d_l_wouldTread_22 rfl rfl (Nat.le_of_ble_eq_true rfl) h
  · rcases h with ⟨rfl, h⟩ | ⟨rfl, h⟩
    · refine ch_caught (i := 4) (ls' := [some (.inr (0, 0, 0)), some (.inl (.int p1)), some (.inl (.int p2)), some (.inr (10, 0, 1)), none]) [] (0, 10, 13, 43) [(0, 10, 17, 48)] rfl (fun z hz => by cases hz) ⟨by decide, by decide⟩ (by decide) ck_l_43 cx_1 (Or.inl ⟨d_l_wouldTread_13, ?_⟩) (Nat.le_of_ble_eq_true rfl) rfl
      refine ch_iconst (v := 1) d_l_wouldTread_15 (by decide) ?_
      exact ch_iret (ty := .int) d_l_wouldTread_16 rfl rfl (Nat.le_of_ble_eq_true rfl) h
    · refine ch_caught (i := 4) (ls' := [some (.inr (0, 0, 0)), some (.inl (.int p1)), some (.inl (.int p2)), some (.inr (10, 0, 1)), none]) [(0, 10, 13, 43)] (0, 10, 17, 48) [] rfl (fun z hz => by simp only [List.mem_cons, List.not_mem_nil, or_false] at hz; subst hz; exact ⟨by decide, 1, by decide, by decide, ck_l_43⟩) ⟨by decide, by decide⟩ (by decide) ck_l_48 cx_2 (Or.inl ⟨d_l_wouldTread_17, ?_⟩) (Nat.le_of_ble_eq_true rfl) rfl
      refine ch_iconst (v := 2) d_l_wouldTread_19 (by decide) ?_
      exact ch_iret (ty := .int) d_l_wouldTread_20 rfl rfl (Nat.le_of_ble_eq_true rfl) h
theorem e_l_longest (g : ch_G) (Q : ch_O → ch_M → Prop) (p1 : Int32) (m : ch_M) (h : ch_J g m_l_longest (ch_rm m_l_longest) (ch_E g m_l_longest Q) 0 [some (.inr (0, 0, 0)), some (.inl (.int p1)), some (.inr (10, 0, 1)), none] [] m 0) : ch_C g m_l_longest [.inr (0, 0, 0), .inl (.int p1), .inr (10, 0, 1)] m Q :=
  ch_enter mf_l_longest (by intro v hv; simp only [List.mem_cons, List.not_mem_nil, or_false] at hv; rcases hv with rfl | rfl | rfl <;> rfl) (Nat.le_of_ble_eq_true rfl) h
set_option maxHeartbeats 1600000 in
theorem g_l_longest_0 (g : ch_G) (Q : ch_O → ch_M → Prop) (p1 : Int32) (m : ch_M) (h : (ch_C g m_x_longest [.inr (0, 0, 0), .inl (.int p1)] m (ch_ox (ch_oi (fun (r1 : Int32) (m2 : ch_M) => (∀ m5 : ch_M, m5 = ch_wr m2 (10, 0, 1) (0) r1 → Q (.inl (some (.inl (.int 0)))) m5))) (fun (n3 : Nat) (m4 : ch_M) => ((n3 = 1 ∧ Q (.inl (some (.inl (.int 1)))) m4)))))) : ch_J g m_l_longest (ch_rm m_l_longest) (ch_E g m_l_longest Q) 0 [some (.inr (0, 0, 0)), some (.inl (.int p1)), some (.inr (10, 0, 1)), none] [] m 0 := by
  refine ch_aload_n (i := 2) d_l_longest_0 rfl rfl ?_
  refine ch_iconst (v := 0) d_l_longest_1 (by decide) ?_
  refine ch_aload_n (i := 0) d_l_longest_2 rfl rfl ?_
  refine ch_iload_n (i := 1) d_l_longest_3 rfl rfl ?_
  refine ch_callV (as := [.inl (.int p1)]) d_l_longest_4 lk_l_70 mi_x_longest me_x_longest rfl rfl rfl ⟨Nat.le_of_ble_eq_true rfl, Nat.le_of_ble_eq_true rfl⟩ (Nat.le_of_ble_eq_true rfl) ⟨Nat.le_of_ble_eq_true rfl, Nat.le_of_ble_eq_true rfl⟩ (ch_mono (ch_Kx (ch_Ki (fun r1 m2 h => ?_)) (fun n3 m4 hn h => ?_)) h)
  · skip
    refine ch_i2l d_l_longest_7 ?_
    refine ch_last (n := 1) d_l_longest_8 (by decide) rfl (vp_in_nI (n := 0) (by decide) (by decide)) ?_
    show ch_J g _ _ _ _ _ _ (ch_wr m2 (10, 0, 1) (0) r1) _
    generalize hmm5 : ch_wr m2 (10, 0, 1) (0) r1 = m5
    replace h := h m5 hmm5.symm
    refine ch_goto (tgt := 15) d_l_longest_9 (by decide) ?_
    refine ch_iconst (v := 0) d_l_longest_15 (by decide) ?_
    exact ch_iret (ty := .int) d_l_longest_16 rfl rfl (Nat.le_of_ble_eq_true rfl) h
  · obtain ⟨rfl, h⟩ := h
    refine ch_caught (i := 3) (ls' := [some (.inr (0, 0, 0)), some (.inl (.int p1)), some (.inr (10, 0, 1)), none]) [] (0, 9, 12, 43) [] rfl (fun z hz => by cases hz) ⟨by decide, by decide⟩ (by decide) ck_l_43 cx_1 (Or.inr ⟨⟨3, rfl, d_l_longest_12⟩, ?_⟩) (Nat.le_of_ble_eq_true rfl) rfl
    refine ch_iconst (v := 1) d_l_longest_13 (by decide) ?_
    exact ch_iret (ty := .int) d_l_longest_14 rfl rfl (Nat.le_of_ble_eq_true rfl) h
theorem e_l_wouldEnd (g : ch_G) (Q : ch_O → ch_M → Prop) (p1 : Int32) (m : ch_M) (h : ch_J g m_l_wouldEnd (ch_rm m_l_wouldEnd) (ch_E g m_l_wouldEnd Q) 0 [some (.inr (0, 0, 0)), some (.inl (.int p1)), some (.inr (10, 0, 1)), none] [] m 0) : ch_C g m_l_wouldEnd [.inr (0, 0, 0), .inl (.int p1), .inr (10, 0, 1)] m Q :=
  ch_enter mf_l_wouldEnd (by intro v hv; simp only [List.mem_cons, List.not_mem_nil, or_false] at hv; rcases hv with rfl | rfl | rfl <;> rfl) (Nat.le_of_ble_eq_true rfl) h
set_option maxHeartbeats 1600000 in
theorem g_l_wouldEnd_0 (g : ch_G) (Q : ch_O → ch_M → Prop) (p1 : Int32) (m : ch_M) (h : (ch_C g m_x_wouldEnd [.inr (0, 0, 0), .inl (.int p1)] m (ch_ox (ch_oi (fun (r1 : Int32) (m2 : ch_M) => (∀ m5 : ch_M, m5 = ch_wr m2 (10, 0, 1) (0) r1 → Q (.inl (some (.inl (.int 0)))) m5))) (fun (n3 : Nat) (m4 : ch_M) => ((n3 = 2 ∧ Q (.inl (some (.inl (.int 1)))) m4)))))) : ch_J g m_l_wouldEnd (ch_rm m_l_wouldEnd) (ch_E g m_l_wouldEnd Q) 0 [some (.inr (0, 0, 0)), some (.inl (.int p1)), some (.inr (10, 0, 1)), none] [] m 0 := by
  refine ch_aload_n (i := 2) d_l_wouldEnd_0 rfl rfl ?_
  refine ch_iconst (v := 0) d_l_wouldEnd_1 (by decide) ?_
  refine ch_aload_n (i := 0) d_l_wouldEnd_2 rfl rfl ?_
  refine ch_iload_n (i := 1) d_l_wouldEnd_3 rfl rfl ?_
  refine ch_callV (as := [.inl (.int p1)]) d_l_wouldEnd_4 lk_l_73 mi_x_wouldEnd me_x_wouldEnd rfl rfl rfl ⟨Nat.le_of_ble_eq_true rfl, Nat.le_of_ble_eq_true rfl⟩ (Nat.le_of_ble_eq_true rfl) ⟨Nat.le_of_ble_eq_true rfl, Nat.le_of_ble_eq_true rfl⟩ (ch_mono (ch_Kx (ch_Ki (fun r1 m2 h => ?_)) (fun n3 m4 hn h => ?_)) h)
  · skip
    refine ch_i2l d_l_wouldEnd_7 ?_
    refine ch_last (n := 1) d_l_wouldEnd_8 (by decide) rfl (vp_in_nI (n := 0) (by decide) (by decide)) ?_
    show ch_J g _ _ _ _ _ _ (ch_wr m2 (10, 0, 1) (0) r1) _
    generalize hmm5 : ch_wr m2 (10, 0, 1) (0) r1 = m5
    replace h := h m5 hmm5.symm
    refine ch_goto (tgt := 15) d_l_wouldEnd_9 (by decide) ?_
    refine ch_iconst (v := 0) d_l_wouldEnd_15 (by decide) ?_
    exact ch_iret (ty := .int) d_l_wouldEnd_16 rfl rfl (Nat.le_of_ble_eq_true rfl) h
  · obtain ⟨rfl, h⟩ := h
    refine ch_caught (i := 3) (ls' := [some (.inr (0, 0, 0)), some (.inl (.int p1)), some (.inr (10, 0, 1)), none]) [] (0, 9, 12, 48) [] rfl (fun z hz => by cases hz) ⟨by decide, by decide⟩ (by decide) ck_l_48 cx_2 (Or.inr ⟨⟨3, rfl, d_l_wouldEnd_12⟩, ?_⟩) (Nat.le_of_ble_eq_true rfl) rfl
    refine ch_iconst (v := 1) d_l_wouldEnd_13 (by decide) ?_
    exact ch_iret (ty := .int) d_l_wouldEnd_14 rfl rfl (Nat.le_of_ble_eq_true rfl) h
theorem e_l_rainFor (g : ch_G) (Q : ch_O → ch_M → Prop) (p1 : Int32) (m : ch_M) (h : ch_J g m_l_rainFor (ch_rm m_l_rainFor) (ch_E g m_l_rainFor Q) 0 [some (.inr (0, 0, 0)), some (.inl (.int p1)), some (.inr (10, 0, 1)), none] [] m 0) : ch_C g m_l_rainFor [.inr (0, 0, 0), .inl (.int p1), .inr (10, 0, 1)] m Q :=
  ch_enter mf_l_rainFor (by intro v hv; simp only [List.mem_cons, List.not_mem_nil, or_false] at hv; rcases hv with rfl | rfl | rfl <;> rfl) (Nat.le_of_ble_eq_true rfl) h
set_option maxHeartbeats 1600000 in
theorem g_l_rainFor_0 (g : ch_G) (Q : ch_O → ch_M → Prop) (p1 : Int32) (m : ch_M) (h : (ch_C g m_x_rainFor [.inr (0, 0, 0), .inl (.int p1)] m (ch_ox (ch_oi (fun (r1 : Int32) (m2 : ch_M) => (∀ m5 : ch_M, m5 = ch_wr m2 (10, 0, 1) (0) r1 → Q (.inl (some (.inl (.int 0)))) m5))) (fun (n3 : Nat) (m4 : ch_M) => ((n3 = 1 ∧ Q (.inl (some (.inl (.int 1)))) m4) ∨ (n3 = 3 ∧ Q (.inl (some (.inl (.int 2)))) m4)))))) : ch_J g m_l_rainFor (ch_rm m_l_rainFor) (ch_E g m_l_rainFor Q) 0 [some (.inr (0, 0, 0)), some (.inl (.int p1)), some (.inr (10, 0, 1)), none] [] m 0 := by
  refine ch_aload_n (i := 2) d_l_rainFor_0 rfl rfl ?_
  refine ch_iconst (v := 0) d_l_rainFor_1 (by decide) ?_
  refine ch_aload_n (i := 0) d_l_rainFor_2 rfl rfl ?_
  refine ch_iload_n (i := 1) d_l_rainFor_3 rfl rfl ?_
  refine ch_callV (as := [.inl (.int p1)]) d_l_rainFor_4 lk_l_76 mi_x_rainFor me_x_rainFor rfl rfl rfl ⟨Nat.le_of_ble_eq_true rfl, Nat.le_of_ble_eq_true rfl⟩ (Nat.le_of_ble_eq_true rfl) ⟨Nat.le_of_ble_eq_true rfl, Nat.le_of_ble_eq_true rfl⟩ (ch_mono (ch_Kx (ch_Ki (fun r1 m2 h => ?_)) (fun n3 m4 hn h => ?_)) h)
  · skip
    refine ch_i2l d_l_rainFor_7 ?_
    refine ch_last (n := 1) d_l_rainFor_8 (by decide) rfl (vp_in_nI (n := 0) (by decide) (by decide)) ?_
    show ch_J g _ _ _ _ _ _ (ch_wr m2 (10, 0, 1) (0) r1) _
    generalize hmm5 : ch_wr m2 (10, 0, 1) (0) r1 = m5
    replace h := h m5 hmm5.symm
    refine ch_goto (tgt := 18) d_l_rainFor_9 (by decide) ?_
    refine ch_iconst (v := 0) d_l_rainFor_18 (by decide) ?_
    exact ch_iret (ty := .int) d_l_rainFor_19 rfl rfl (Nat.le_of_ble_eq_true rfl) h
  · rcases h with ⟨rfl, h⟩ | ⟨rfl, h⟩
    · refine ch_caught (i := 3) (ls' := [some (.inr (0, 0, 0)), some (.inl (.int p1)), some (.inr (10, 0, 1)), none]) [] (0, 9, 12, 43) [(0, 9, 15, 56)] rfl (fun z hz => by cases hz) ⟨by decide, by decide⟩ (by decide) ck_l_43 cx_1 (Or.inr ⟨⟨3, rfl, d_l_rainFor_12⟩, ?_⟩) (Nat.le_of_ble_eq_true rfl) rfl
      refine ch_iconst (v := 1) d_l_rainFor_13 (by decide) ?_
      exact ch_iret (ty := .int) d_l_rainFor_14 rfl rfl (Nat.le_of_ble_eq_true rfl) h
    · refine ch_caught (i := 3) (ls' := [some (.inr (0, 0, 0)), some (.inl (.int p1)), some (.inr (10, 0, 1)), none]) [(0, 9, 12, 43)] (0, 9, 15, 56) [] rfl (fun z hz => by simp only [List.mem_cons, List.not_mem_nil, or_false] at hz; subst hz; exact ⟨by decide, 1, by decide, by decide, ck_l_43⟩) ⟨by decide, by decide⟩ (by decide) ck_l_56 cx_3 (Or.inr ⟨⟨3, rfl, d_l_rainFor_15⟩, ?_⟩) (Nat.le_of_ble_eq_true rfl) rfl
      refine ch_iconst (v := 2) d_l_rainFor_16 (by decide) ?_
      exact ch_iret (ty := .int) d_l_rainFor_17 rfl rfl (Nat.le_of_ble_eq_true rfl) h
theorem e_l_wouldLose (g : ch_G) (Q : ch_O → ch_M → Prop) (p1 : Int32) (m : ch_M) (h : ch_J g m_l_wouldLose (ch_rm m_l_wouldLose) (ch_E g m_l_wouldLose Q) 0 [some (.inr (0, 0, 0)), some (.inl (.int p1)), some (.inr (10, 0, 1)), none] [] m 0) : ch_C g m_l_wouldLose [.inr (0, 0, 0), .inl (.int p1), .inr (10, 0, 1)] m Q :=
  ch_enter mf_l_wouldLose (by intro v hv; simp only [List.mem_cons, List.not_mem_nil, or_false] at hv; rcases hv with rfl | rfl | rfl <;> rfl) (Nat.le_of_ble_eq_true rfl) h
set_option maxHeartbeats 1600000 in
theorem g_l_wouldLose_0 (g : ch_G) (Q : ch_O → ch_M → Prop) (p1 : Int32) (m : ch_M) (h : (ch_C g m_x_wouldLose [.inr (0, 0, 0), .inl (.int p1)] m (ch_ox (ch_oi (fun (r1 : Int32) (m2 : ch_M) => (∀ m5 : ch_M, m5 = ch_wr m2 (10, 0, 1) (0) r1 → Q (.inl (some (.inl (.int 0)))) m5))) (fun (n3 : Nat) (m4 : ch_M) => ((n3 = 1 ∧ Q (.inl (some (.inl (.int 1)))) m4)))))) : ch_J g m_l_wouldLose (ch_rm m_l_wouldLose) (ch_E g m_l_wouldLose Q) 0 [some (.inr (0, 0, 0)), some (.inl (.int p1)), some (.inr (10, 0, 1)), none] [] m 0 := by
  refine ch_aload_n (i := 2) d_l_wouldLose_0 rfl rfl ?_
  refine ch_iconst (v := 0) d_l_wouldLose_1 (by decide) ?_
  refine ch_aload_n (i := 0) d_l_wouldLose_2 rfl rfl ?_
  refine ch_iload_n (i := 1) d_l_wouldLose_3 rfl rfl ?_
  refine ch_callV (as := [.inl (.int p1)]) d_l_wouldLose_4 lk_l_79 mi_x_wouldLose me_x_wouldLose rfl rfl rfl ⟨Nat.le_of_ble_eq_true rfl, Nat.le_of_ble_eq_true rfl⟩ (Nat.le_of_ble_eq_true rfl) ⟨Nat.le_of_ble_eq_true rfl, Nat.le_of_ble_eq_true rfl⟩ (ch_mono (ch_Kx (ch_Ki (fun r1 m2 h => ?_)) (fun n3 m4 hn h => ?_)) h)
  · skip
    refine ch_i2l d_l_wouldLose_7 ?_
    refine ch_last (n := 1) d_l_wouldLose_8 (by decide) rfl (vp_in_nI (n := 0) (by decide) (by decide)) ?_
    show ch_J g _ _ _ _ _ _ (ch_wr m2 (10, 0, 1) (0) r1) _
    generalize hmm5 : ch_wr m2 (10, 0, 1) (0) r1 = m5
    replace h := h m5 hmm5.symm
    refine ch_goto (tgt := 15) d_l_wouldLose_9 (by decide) ?_
    refine ch_iconst (v := 0) d_l_wouldLose_15 (by decide) ?_
    exact ch_iret (ty := .int) d_l_wouldLose_16 rfl rfl (Nat.le_of_ble_eq_true rfl) h
  · obtain ⟨rfl, h⟩ := h
    refine ch_caught (i := 3) (ls' := [some (.inr (0, 0, 0)), some (.inl (.int p1)), some (.inr (10, 0, 1)), none]) [] (0, 9, 12, 43) [] rfl (fun z hz => by cases hz) ⟨by decide, by decide⟩ (by decide) ck_l_43 cx_1 (Or.inr ⟨⟨3, rfl, d_l_wouldLose_12⟩, ?_⟩) (Nat.le_of_ble_eq_true rfl) rfl
    refine ch_iconst (v := 1) d_l_wouldLose_13 (by decide) ?_
    exact ch_iret (ty := .int) d_l_wouldLose_14 rfl rfl (Nat.le_of_ble_eq_true rfl) h
theorem e_l_termsFor (g : ch_G) (Q : ch_O → ch_M → Prop) (p1 : Int32) (m : ch_M) (h : ch_J g m_l_termsFor (ch_rm m_l_termsFor) (ch_E g m_l_termsFor Q) 0 [some (.inr (0, 0, 0)), some (.inl (.int p1)), some (.inr (10, 0, 1)), none] [] m 0) : ch_C g m_l_termsFor [.inr (0, 0, 0), .inl (.int p1), .inr (10, 0, 1)] m Q :=
  ch_enter mf_l_termsFor (by intro v hv; simp only [List.mem_cons, List.not_mem_nil, or_false] at hv; rcases hv with rfl | rfl | rfl <;> rfl) (Nat.le_of_ble_eq_true rfl) h
set_option maxHeartbeats 1600000 in
theorem g_l_termsFor_0 (g : ch_G) (Q : ch_O → ch_M → Prop) (p1 : Int32) (m : ch_M) (h : (ch_C g m_x_termsFor [.inr (0, 0, 0), .inl (.int p1)] m (ch_ox (ch_oi (fun (r1 : Int32) (m2 : ch_M) => (∀ m5 : ch_M, m5 = ch_wr m2 (10, 0, 1) (0) r1 → Q (.inl (some (.inl (.int 0)))) m5))) (fun (n3 : Nat) (m4 : ch_M) => ((n3 = 1 ∧ Q (.inl (some (.inl (.int 1)))) m4) ∨ (n3 = 3 ∧ Q (.inl (some (.inl (.int 2)))) m4)))))) : ch_J g m_l_termsFor (ch_rm m_l_termsFor) (ch_E g m_l_termsFor Q) 0 [some (.inr (0, 0, 0)), some (.inl (.int p1)), some (.inr (10, 0, 1)), none] [] m 0 := by
  refine ch_aload_n (i := 2) d_l_termsFor_0 rfl rfl ?_
  refine ch_iconst (v := 0) d_l_termsFor_1 (by decide) ?_
  refine ch_aload_n (i := 0) d_l_termsFor_2 rfl rfl ?_
  refine ch_iload_n (i := 1) d_l_termsFor_3 rfl rfl ?_
  refine ch_callV (as := [.inl (.int p1)]) d_l_termsFor_4 lk_l_82 mi_x_termsFor me_x_termsFor rfl rfl rfl ⟨Nat.le_of_ble_eq_true rfl, Nat.le_of_ble_eq_true rfl⟩ (Nat.le_of_ble_eq_true rfl) ⟨Nat.le_of_ble_eq_true rfl, Nat.le_of_ble_eq_true rfl⟩ (ch_mono (ch_Kx (ch_Ki (fun r1 m2 h => ?_)) (fun n3 m4 hn h => ?_)) h)
  · skip
    refine ch_i2l d_l_termsFor_7 ?_
    refine ch_last (n := 1) d_l_termsFor_8 (by decide) rfl (vp_in_nI (n := 0) (by decide) (by decide)) ?_
    show ch_J g _ _ _ _ _ _ (ch_wr m2 (10, 0, 1) (0) r1) _
    generalize hmm5 : ch_wr m2 (10, 0, 1) (0) r1 = m5
    replace h := h m5 hmm5.symm
    refine ch_goto (tgt := 18) d_l_termsFor_9 (by decide) ?_
    refine ch_iconst (v := 0) d_l_termsFor_18 (by decide) ?_
    exact ch_iret (ty := .int) d_l_termsFor_19 rfl rfl (Nat.le_of_ble_eq_true rfl) h
  · rcases h with ⟨rfl, h⟩ | ⟨rfl, h⟩
    · refine ch_caught (i := 3) (ls' := [some (.inr (0, 0, 0)), some (.inl (.int p1)), some (.inr (10, 0, 1)), none]) [] (0, 9, 12, 43) [(0, 9, 15, 56)] rfl (fun z hz => by cases hz) ⟨by decide, by decide⟩ (by decide) ck_l_43 cx_1 (Or.inr ⟨⟨3, rfl, d_l_termsFor_12⟩, ?_⟩) (Nat.le_of_ble_eq_true rfl) rfl
      refine ch_iconst (v := 1) d_l_termsFor_13 (by decide) ?_
      exact ch_iret (ty := .int) d_l_termsFor_14 rfl rfl (Nat.le_of_ble_eq_true rfl) h
    · refine ch_caught (i := 3) (ls' := [some (.inr (0, 0, 0)), some (.inl (.int p1)), some (.inr (10, 0, 1)), none]) [(0, 9, 12, 43)] (0, 9, 15, 56) [] rfl (fun z hz => by simp only [List.mem_cons, List.not_mem_nil, or_false] at hz; subst hz; exact ⟨by decide, 1, by decide, by decide, ck_l_43⟩) ⟨by decide, by decide⟩ (by decide) ck_l_56 cx_3 (Or.inr ⟨⟨3, rfl, d_l_termsFor_15⟩, ?_⟩) (Nat.le_of_ble_eq_true rfl) rfl
      refine ch_iconst (v := 2) d_l_termsFor_16 (by decide) ?_
      exact ch_iret (ty := .int) d_l_termsFor_17 rfl rfl (Nat.le_of_ble_eq_true rfl) h
