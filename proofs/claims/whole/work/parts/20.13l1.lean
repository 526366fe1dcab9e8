theorem e_l_ranked (g : ch_G) (Q : ch_O → ch_M → Prop) (p1 : Int32) (p2 : Int32) (m : ch_M) (h : ch_J g m_l_ranked (ch_rm m_l_ranked) (ch_E g m_l_ranked Q) 0 [some (.inr (0, 0, 0)), some (.inl (.int p1)), some (.inl (.int p2)), some (.inr (10, 0, 1)), none] [] m 0) : ch_C g m_l_ranked [.inr (0, 0, 0), .inl (.int p1), .inl (.int p2), .inr (10, 0, 1)] m Q :=
  ch_enter mf_l_ranked (by intro v hv; simp only [List.mem_cons, List.not_mem_nil, or_false] at hv; rcases hv with rfl | rfl | rfl | rfl <;> rfl) (Nat.le_of_ble_eq_true rfl) h
set_option maxHeartbeats 1600000 in
theorem g_l_ranked_0 (g : ch_G) (Q : ch_O → ch_M → Prop) (p1 : Int32) (p2 : Int32) (m : ch_M) (h : (ch_C g m_x_ranked [.inr (0, 0, 0), .inl (.int p1), .inl (.int p2)] m (ch_ox (ch_oi (fun (r1 : Int32) (m2 : ch_M) => (∀ m5 : ch_M, m5 = ch_wr m2 (10, 0, 1) (0) r1 → Q (.inl (some (.inl (.int 0)))) m5))) (fun (n3 : Nat) (m4 : ch_M) => ((n3 = 2 ∧ Q (.inl (some (.inl (.int 1)))) m4) ∨ (n3 = 3 ∧ Q (.inl (some (.inl (.int 2)))) m4)))))) : ch_J g m_l_ranked (ch_rm m_l_ranked) (ch_E g m_l_ranked Q) 0 [some (.inr (0, 0, 0)), some (.inl (.int p1)), some (.inl (.int p2)), some (.inr (10, 0, 1)), none] [] m 0 := by
  refine ch_aload_n (i := 3) d_l_ranked_0 rfl rfl ?_
  refine ch_iconst (v := 0) d_l_ranked_1 (by decide) ?_
  refine ch_aload_n (i := 0) d_l_ranked_2 rfl rfl ?_
  refine ch_iload_n (i := 1) d_l_ranked_3 rfl rfl ?_
  refine ch_iload_n (i := 2) d_l_ranked_4 rfl rfl ?_
  refine ch_callV (as := [.inl (.int p1), .inl (.int p2)]) d_l_ranked_5 lk_l_85 mi_x_ranked me_x_ranked rfl rfl rfl ⟨Nat.le_of_ble_eq_true rfl, Nat.le_of_ble_eq_true rfl⟩ (Nat.le_of_ble_eq_true rfl) ⟨Nat.le_of_ble_eq_true rfl, Nat.le_of_ble_eq_true rfl⟩ (ch_mono (ch_Kx (ch_Ki (fun r1 m2 h => ?_)) (fun n3 m4 hn h => ?_)) h)
  · skip
    refine ch_i2l d_l_ranked_8 ?_
    refine ch_last (n := 1) d_l_ranked_9 (by decide) rfl (vp_in_nI (n := 0) (by decide) (by decide)) ?_
    show ch_J g _ _ _ _ _ _ (ch_wr m2 (10, 0, 1) (0) r1) _
    generalize hmm5 : ch_wr m2 (10, 0, 1) (0) r1 = m5
    replace h := h m5 hmm5.symm
    refine ch_goto (tgt := 21) d_l_ranked_10 (by decide) ?_
    refine ch_iconst (v := 0) d_l_ranked_21 (by decide) ?_
    exact ch_iret (ty := .int) d_l_ranked_22 rfl rfl (Nat.le_of_ble_eq_true rfl) h
  · rcases h with ⟨rfl, h⟩ | ⟨rfl, h⟩
    · refine ch_caught (i := 4) (ls' := [some (.inr (0, 0, 0)), some (.inl (.int p1)), some (.inl (.int p2)), some (.inr (10, 0, 1)), none]) [] (0, 10, 13, 48) [(0, 10, 17, 56)] rfl (fun z hz => by cases hz) ⟨by decide, by decide⟩ (by decide) ck_l_48 cx_2 (Or.inl ⟨d_l_ranked_13, ?_⟩) (Nat.le_of_ble_eq_true rfl) rfl
      refine ch_iconst (v := 1) d_l_ranked_15 (by decide) ?_
      exact ch_iret (ty := .int) d_l_ranked_16 rfl rfl (Nat.le_of_ble_eq_true rfl) h
    · refine ch_caught (i := 4) (ls' := [some (.inr (0, 0, 0)), some (.inl (.int p1)), some (.inl (.int p2)), some (.inr (10, 0, 1)), none]) [(0, 10, 13, 48)] (0, 10, 17, 56) [] rfl (fun z hz => by simp only [List.mem_cons, List.not_mem_nil, or_false] at hz; subst hz; exact ⟨by decide, 2, by decide, by decide, ck_l_48⟩) ⟨by decide, by decide⟩ (by decide) ck_l_56 cx_3 (Or.inl ⟨d_l_ranked_17, ?_⟩) (Nat.le_of_ble_eq_true rfl) rfl
      refine ch_iconst (v := 2) d_l_ranked_19 (by decide) ?_
      exact ch_iret (ty := .int) d_l_ranked_20 rfl rfl (Nat.le_of_ble_eq_true rfl) h
theorem e_l_append (g : ch_G) (Q : ch_O → ch_M → Prop) (p1 : Int32) (m : ch_M) (h : ch_J g m_l_append (ch_rm m_l_append) (ch_E g m_l_append Q) 0 [some (.inr (0, 0, 0)), some (.inl (.int p1)), some (.inr (10, 0, 1)), none] [] m 0) : ch_C g m_l_append [.inr (0, 0, 0), .inl (.int p1), .inr (10, 0, 1)] m Q :=
  ch_enter mf_l_append (by intro v hv; simp only [List.mem_cons, List.not_mem_nil, or_false] at hv; rcases hv with rfl | rfl | rfl <;> rfl) (Nat.le_of_ble_eq_true rfl) h
set_option maxHeartbeats 1600000 in
theorem g_l_append_0 (g : ch_G) (Q : ch_O → ch_M → Prop) (p1 : Int32) (m : ch_M) (h : (ch_C g m_x_append [.inr (0, 0, 0), .inl (.int p1)] m (ch_ox (ch_oi (fun (r1 : Int32) (m2 : ch_M) => (∀ m5 : ch_M, m5 = ch_wr m2 (10, 0, 1) (0) r1 → Q (.inl (some (.inl (.int 0)))) m5))) (fun (n3 : Nat) (m4 : ch_M) => ((n3 = 4 ∧ Q (.inl (some (.inl (.int 1)))) m4)))))) : ch_J g m_l_append (ch_rm m_l_append) (ch_E g m_l_append Q) 0 [some (.inr (0, 0, 0)), some (.inl (.int p1)), some (.inr (10, 0, 1)), none] [] m 0 := by
  refine ch_aload_n (i := 2) d_l_append_0 rfl rfl ?_
  refine ch_iconst (v := 0) d_l_append_1 (by decide) ?_
  refine ch_aload_n (i := 0) d_l_append_2 rfl rfl ?_
  refine ch_iload_n (i := 1) d_l_append_3 rfl rfl ?_
  refine ch_callV (as := [.inl (.int p1)]) d_l_append_4 lk_l_88 mi_x_append me_x_append rfl rfl rfl ⟨Nat.le_of_ble_eq_true rfl, Nat.le_of_ble_eq_true rfl⟩ (Nat.le_of_ble_eq_true rfl) ⟨Nat.le_of_ble_eq_true rfl, Nat.le_of_ble_eq_true rfl⟩ (ch_mono (ch_Kx (ch_Ki (fun r1 m2 h => ?_)) (fun n3 m4 hn h => ?_)) h)
  · skip
    refine ch_i2l d_l_append_7 ?_
    refine ch_last (n := 1) d_l_append_8 (by decide) rfl (vp_in_nI (n := 0) (by decide) (by decide)) ?_
    show ch_J g _ _ _ _ _ _ (ch_wr m2 (10, 0, 1) (0) r1) _
    generalize hmm5 : ch_wr m2 (10, 0, 1) (0) r1 = m5
    replace h := h m5 hmm5.symm
    refine ch_goto (tgt := 15) d_l_append_9 (by decide) ?_
    refine ch_iconst (v := 0) d_l_append_15 (by decide) ?_
    exact ch_iret (ty := .int) d_l_append_16 rfl rfl (Nat.le_of_ble_eq_true rfl) h
  · obtain ⟨rfl, h⟩ := h
    refine ch_caught (i := 3) (ls' := [some (.inr (0, 0, 0)), some (.inl (.int p1)), some (.inr (10, 0, 1)), none]) [] (0, 9, 12, 92) [] rfl (fun z hz => by cases hz) ⟨by decide, by decide⟩ (by decide) ck_l_92 cx_4 (Or.inr ⟨⟨3, rfl, d_l_append_12⟩, ?_⟩) (Nat.le_of_ble_eq_true rfl) rfl
    refine ch_iconst (v := 1) d_l_append_13 (by decide) ?_
    exact ch_iret (ty := .int) d_l_append_14 rfl rfl (Nat.le_of_ble_eq_true rfl) h
theorem e_l_commands (g : ch_G) (Q : ch_O → ch_M → Prop)  (m : ch_M) (h : ch_J g m_l_commands (ch_rm m_l_commands) (ch_E g m_l_commands Q) 0 [some (.inr (0, 0, 0)), some (.inr (10, 0, 1)), none] [] m 0) : ch_C g m_l_commands [.inr (0, 0, 0), .inr (10, 0, 1)] m Q :=
  ch_enter mf_l_commands (by intro v hv; simp only [List.mem_cons, List.not_mem_nil, or_false] at hv; rcases hv with rfl | rfl <;> rfl) (Nat.le_of_ble_eq_true rfl) h
set_option maxHeartbeats 1600000 in
theorem g_l_commands_0 (g : ch_G) (Q : ch_O → ch_M → Prop)  (m : ch_M) (h : (ch_C g m_x_commands [.inr (0, 0, 0)] m (ch_ox (ch_oi (fun (r1 : Int32) (m2 : ch_M) => (∀ m5 : ch_M, m5 = ch_wr m2 (10, 0, 1) (0) r1 → Q (.inl (some (.inl (.int 0)))) m5))) (fun (n3 : Nat) (m4 : ch_M) => ((n3 = 2 ∧ Q (.inl (some (.inl (.int 1)))) m4) ∨ (n3 = 0 ∧ Q (.inl (some (.inl (.int 2)))) m4)))))) : ch_J g m_l_commands (ch_rm m_l_commands) (ch_E g m_l_commands Q) 0 [some (.inr (0, 0, 0)), some (.inr (10, 0, 1)), none] [] m 0 := by
  refine ch_aload_n (i := 1) d_l_commands_0 rfl rfl ?_
  refine ch_iconst (v := 0) d_l_commands_1 (by decide) ?_
  refine ch_aload_n (i := 0) d_l_commands_2 rfl rfl ?_
  refine ch_callV (as := []) d_l_commands_3 lk_l_94 mi_x_commands me_x_commands rfl rfl rfl ⟨Nat.le_of_ble_eq_true rfl, Nat.le_of_ble_eq_true rfl⟩ (Nat.le_of_ble_eq_true rfl) ⟨Nat.le_of_ble_eq_true rfl, Nat.le_of_ble_eq_true rfl⟩ (ch_mono (ch_Kx (ch_Ki (fun r1 m2 h => ?_)) (fun n3 m4 hn h => ?_)) h)
  · skip
    refine ch_i2l d_l_commands_6 ?_
    refine ch_last (n := 1) d_l_commands_7 (by decide) rfl (vp_in_nI (n := 0) (by decide) (by decide)) ?_
    show ch_J g _ _ _ _ _ _ (ch_wr m2 (10, 0, 1) (0) r1) _
    generalize hmm5 : ch_wr m2 (10, 0, 1) (0) r1 = m5
    replace h := h m5 hmm5.symm
    refine ch_goto (tgt := 17) d_l_commands_8 (by decide) ?_
    refine ch_iconst (v := 0) d_l_commands_17 (by decide) ?_
    exact ch_iret (ty := .int) d_l_commands_18 rfl rfl (Nat.le_of_ble_eq_true rfl) h
  · rcases h with ⟨rfl, h⟩ | ⟨rfl, h⟩
    · refine ch_caught (i := 2) (ls' := [some (.inr (0, 0, 0)), some (.inr (10, 0, 1)), none]) [] (0, 8, 11, 48) [(0, 8, 14, 13)] rfl (fun z hz => by cases hz) ⟨by decide, by decide⟩ (by decide) ck_l_48 cx_2 (Or.inr ⟨⟨2, rfl, d_l_commands_11⟩, ?_⟩) (Nat.le_of_ble_eq_true rfl) rfl
      refine ch_iconst (v := 1) d_l_commands_12 (by decide) ?_
      exact ch_iret (ty := .int) d_l_commands_13 rfl rfl (Nat.le_of_ble_eq_true rfl) h
    · refine ch_caught (i := 2) (ls' := [some (.inr (0, 0, 0)), some (.inr (10, 0, 1)), none]) [(0, 8, 11, 48)] (0, 8, 14, 13) [] rfl (fun z hz => by simp only [List.mem_cons, List.not_mem_nil, or_false] at hz; subst hz; exact ⟨by decide, 2, by decide, by decide, ck_l_48⟩) ⟨by decide, by decide⟩ (by decide) ck_l_13 cx_0 (Or.inr ⟨⟨2, rfl, d_l_commands_14⟩, ?_⟩) (Nat.le_of_ble_eq_true rfl) rfl
      refine ch_iconst (v := 2) d_l_commands_15 (by decide) ?_
      exact ch_iret (ty := .int) d_l_commands_16 rfl rfl (Nat.le_of_ble_eq_true rfl) h
theorem e_l_reason (g : ch_G) (Q : ch_O → ch_M → Prop) (p1 : Int32) (m : ch_M) (h : ch_J g m_l_reason (ch_rm m_l_reason) (ch_E g m_l_reason Q) 0 [some (.inr (0, 0, 0)), some (.inl (.int p1)), some (.inr (10, 0, 1)), none] [] m 0) : ch_C g m_l_reason [.inr (0, 0, 0), .inl (.int p1), .inr (10, 0, 1)] m Q :=
  ch_enter mf_l_reason (by intro v hv; simp only [List.mem_cons, List.not_mem_nil, or_false] at hv; rcases hv with rfl | rfl | rfl <;> rfl) (Nat.le_of_ble_eq_true rfl) h
set_option maxHeartbeats 1600000 in
theorem g_l_reason_0 (g : ch_G) (Q : ch_O → ch_M → Prop) (p1 : Int32) (m : ch_M) (h : (ch_C g m_x_reason [.inr (0, 0, 0), .inl (.int p1)] m (ch_ox (ch_oi (fun (r1 : Int32) (m2 : ch_M) => (∀ m5 : ch_M, m5 = ch_wr m2 (10, 0, 1) (0) r1 → Q (.inl (some (.inl (.int 0)))) m5))) (fun (n3 : Nat) (m4 : ch_M) => ((n3 = 2 ∧ Q (.inl (some (.inl (.int 1)))) m4) ∨ (n3 = 3 ∧ Q (.inl (some (.inl (.int 2)))) m4)))))) : ch_J g m_l_reason (ch_rm m_l_reason) (ch_E g m_l_reason Q) 0 [some (.inr (0, 0, 0)), some (.inl (.int p1)), some (.inr (10, 0, 1)), none] [] m 0 := by
  refine ch_aload_n (i := 2) d_l_reason_0 rfl rfl ?_
  refine ch_iconst (v := 0) d_l_reason_1 (by decide) ?_
  refine ch_aload_n (i := 0) d_l_reason_2 rfl rfl ?_
  refine ch_iload_n (i := 1) d_l_reason_3 rfl rfl ?_
  refine ch_callV (as := [.inl (.int p1)]) d_l_reason_4 lk_l_97 mi_x_reason me_x_reason rfl rfl rfl ⟨Nat.le_of_ble_eq_true rfl, Nat.le_of_ble_eq_true rfl⟩ (Nat.le_of_ble_eq_true rfl) ⟨Nat.le_of_ble_eq_true rfl, Nat.le_of_ble_eq_true rfl⟩ (ch_mono (ch_Kx (ch_Ki (fun r1 m2 h => ?_)) (fun n3 m4 hn h => ?_)) h)
  · skip
    refine ch_i2l d_l_reason_7 ?_
    refine ch_last (n := 1) d_l_reason_8 (by decide) rfl (vp_in_nI (n := 0) (by decide) (by decide)) ?_
    show ch_J g _ _ _ _ _ _ (ch_wr m2 (10, 0, 1) (0) r1) _
    generalize hmm5 : ch_wr m2 (10, 0, 1) (0) r1 = m5
    replace h := h m5 hmm5.symm
    refine ch_goto (tgt := 18) d_l_reason_9 (by decide) ?_
    refine ch_iconst (v := 0) d_l_reason_18 (by decide) ?_
    exact ch_iret (ty := .int) d_l_reason_19 rfl rfl (Nat.le_of_ble_eq_true rfl) h
  · rcases h with ⟨rfl, h⟩ | ⟨rfl, h⟩
    · refine ch_caught (i := 3) (ls' := [some (.inr (0, 0, 0)), some (.inl (.int p1)), some (.inr (10, 0, 1)), none]) [] (0, 9, 12, 48) [(0, 9, 15, 56)] rfl (fun z hz => by cases hz) ⟨by decide, by decide⟩ (by decide) ck_l_48 cx_2 (Or.inr ⟨⟨3, rfl, d_l_reason_12⟩, ?_⟩) (Nat.le_of_ble_eq_true rfl) rfl
      refine ch_iconst (v := 1) d_l_reason_13 (by decide) ?_
      exact ch_iret (ty := .int) d_l_reason_14 rfl rfl (Nat.le_of_ble_eq_true rfl) h
    · refine ch_caught (i := 3) (ls' := [some (.inr (0, 0, 0)), some (.inl (.int p1)), some (.inr (10, 0, 1)), none]) [(0, 9, 12, 48)] (0, 9, 15, 56) [] rfl (fun z hz => by simp only [List.mem_cons, List.not_mem_nil, or_false] at hz; subst hz; exact ⟨by decide, 2, by decide, by decide, ck_l_48⟩) ⟨by decide, by decide⟩ (by decide) ck_l_56 cx_3 (Or.inr ⟨⟨3, rfl, d_l_reason_15⟩, ?_⟩) (Nat.le_of_ble_eq_true rfl) rfl
      refine ch_iconst (v := 2) d_l_reason_16 (by decide) ?_
      exact ch_iret (ty := .int) d_l_reason_17 rfl rfl (Nat.le_of_ble_eq_true rfl) h
theorem e_l_character (g : ch_G) (Q : ch_O → ch_M → Prop) (p1 : Int32) (m : ch_M) (h : ch_J g m_l_character (ch_rm m_l_character) (ch_E g m_l_character Q) 0 [some (.inr (0, 0, 0)), some (.inl (.int p1)), some (.inr (10, 0, 1)), none] [] m 0) : ch_C g m_l_character [.inr (0, 0, 0), .inl (.int p1), .inr (10, 0, 1)] m Q :=
  ch_enter mf_l_character (by intro v hv; simp only [List.mem_cons, List.not_mem_nil, or_false] at hv; rcases hv with rfl | rfl | rfl <;> rfl) (Nat.le_of_ble_eq_true rfl) h
set_option maxHeartbeats 1600000 in
theorem g_l_character_0 (g : ch_G) (Q : ch_O → ch_M → Prop) (p1 : Int32) (m : ch_M) (h : (ch_C g m_x_character [.inr (0, 0, 0), .inl (.int p1)] m (ch_ox (ch_oi (fun (r1 : Int32) (m2 : ch_M) => (∀ m5 : ch_M, m5 = ch_wr m2 (10, 0, 1) (0) r1 → Q (.inl (some (.inl (.int 0)))) m5))) (fun (n3 : Nat) (m4 : ch_M) => ((n3 = 1 ∧ Q (.inl (some (.inl (.int 1)))) m4)))))) : ch_J g m_l_character (ch_rm m_l_character) (ch_E g m_l_character Q) 0 [some (.inr (0, 0, 0)), some (.inl (.int p1)), some (.inr (10, 0, 1)), none] [] m 0 := by
  refine ch_aload_n (i := 2) d_l_character_0 rfl rfl ?_
  refine ch_iconst (v := 0) d_l_character_1 (by decide) ?_
  refine ch_aload_n (i := 0) d_l_character_2 rfl rfl ?_
  refine ch_iload_n (i := 1) d_l_character_3 rfl rfl ?_
  refine ch_callV (as := [.inl (.int p1)]) d_l_character_4 lk_l_100 mi_x_character me_x_character rfl rfl rfl ⟨Nat.le_of_ble_eq_true rfl, Nat.le_of_ble_eq_true rfl⟩ (Nat.le_of_ble_eq_true rfl) ⟨Nat.le_of_ble_eq_true rfl, Nat.le_of_ble_eq_true rfl⟩ (ch_mono (ch_Kx (ch_Ki (fun r1 m2 h => ?_)) (fun n3 m4 hn h => ?_)) h)
  · skip
    refine ch_i2l d_l_character_7 ?_
    refine ch_last (n := 1) d_l_character_8 (by decide) rfl (vp_in_nI (n := 0) (by decide) (by decide)) ?_
    show ch_J g _ _ _ _ _ _ (ch_wr m2 (10, 0, 1) (0) r1) _
    generalize hmm5 : ch_wr m2 (10, 0, 1) (0) r1 = m5
    replace h := h m5 hmm5.symm
    refine ch_goto (tgt := 15) d_l_character_9 (by decide) ?_
    refine ch_iconst (v := 0) d_l_character_15 (by decide) ?_
    exact ch_iret (ty := .int) d_l_character_16 rfl rfl (Nat.le_of_ble_eq_true rfl) h
  · obtain ⟨rfl, h⟩ := h
    refine ch_caught (i := 3) (ls' := [some (.inr (0, 0, 0)), some (.inl (.int p1)), some (.inr (10, 0, 1)), none]) [] (0, 9, 12, 43) [] rfl (fun z hz => by cases hz) ⟨by decide, by decide⟩ (by decide) ck_l_43 cx_1 (Or.inr ⟨⟨3, rfl, d_l_character_12⟩, ?_⟩) (Nat.le_of_ble_eq_true rfl) rfl
    refine ch_iconst (v := 1) d_l_character_13 (by decide) ?_
    exact ch_iret (ty := .int) d_l_character_14 rfl rfl (Nat.le_of_ble_eq_true rfl) h
theorem e_l_meanChalk (g : ch_G) (Q : ch_O → ch_M → Prop)  (m : ch_M) (h : ch_J g m_l_meanChalk (ch_rm m_l_meanChalk) (ch_E g m_l_meanChalk Q) 0 [some (.inr (0, 0, 0)), some (.inr (10, 0, 2)), none] [] m 0) : ch_C g m_l_meanChalk [.inr (0, 0, 0), .inr (10, 0, 2)] m Q :=
  ch_enter mf_l_meanChalk (by intro v hv; simp only [List.mem_cons, List.not_mem_nil, or_false] at hv; rcases hv with rfl | rfl <;> rfl) (Nat.le_of_ble_eq_true rfl) h
set_option maxHeartbeats 1600000 in
theorem g_l_meanChalk_0 (g : ch_G) (Q : ch_O → ch_M → Prop)  (m : ch_M) (h : (ch_C g m_x_meanChalk [.inr (0, 0, 0)] m (ch_ox (ch_od (fun (r1 : UInt64) (m2 : ch_M) => ∃ y6 z7 : Int32, r1 = ch_dv y6 z7 ∧ (∀ m5 : ch_M, m5 = ch_wr (ch_wr m2 (10, 0, 2) 0 y6) (10, 0, 2) 1 z7 → Q (.inl (some (.inl (.int 0)))) m5))) (fun (n3 : Nat) (m4 : ch_M) => ((n3 = 5 ∧ Q (.inl (some (.inl (.int 1)))) m4)))))) : ch_J g m_l_meanChalk (ch_rm m_l_meanChalk) (ch_E g m_l_meanChalk Q) 0 [some (.inr (0, 0, 0)), some (.inr (10, 0, 2)), none] [] m 0 := by
  refine ch_aload_n (i := 1) d_l_meanChalk_0 rfl rfl ?_
  refine ch_iconst (v := 0) d_l_meanChalk_1 (by decide) ?_
  refine ch_aload_n (i := 0) d_l_meanChalk_2 rfl rfl ?_
  refine ch_callV (as := []) d_l_meanChalk_3 lk_l_104 mi_x_meanChalk me_x_meanChalk rfl rfl rfl ⟨Nat.le_of_ble_eq_true rfl, Nat.le_of_ble_eq_true rfl⟩ (Nat.le_of_ble_eq_true rfl) ⟨Nat.le_of_ble_eq_true rfl, Nat.le_of_ble_eq_true rfl⟩ (ch_mono (ch_Kx (ch_Kd (fun r1 m2 h => ?_)) (fun n3 m4 hn h => ?_)) h)
  · skip
    obtain ⟨y6, z7, hw, h⟩ := h
    refine ch_dast d_l_meanChalk_6 hw ?_
    show ch_J g _ _ _ _ _ _ (ch_wr (ch_wr m2 (10, 0, 2) 0 y6) (10, 0, 2) 1 z7) _
    generalize hmm5 : ch_wr (ch_wr m2 (10, 0, 2) 0 y6) (10, 0, 2) 1 z7 = m5
    replace h := h m5 hmm5.symm
    refine ch_goto (tgt := 13) d_l_meanChalk_7 (by decide) ?_
    refine ch_iconst (v := 0) d_l_meanChalk_13 (by decide) ?_
    exact ch_iret (ty := .int) d_l_meanChalk_14 rfl rfl (Nat.le_of_ble_eq_true rfl) h
  · obtain ⟨rfl, h⟩ := h
    refine ch_caught (i := 2) (ls' := [some (.inr (0, 0, 0)), some (.inr (10, 0, 2)), none]) [] (0, 7, 10, 108) [] rfl (fun z hz => by cases hz) ⟨by decide, by decide⟩ (by decide) ck_l_108 cx_5 (Or.inr ⟨⟨2, rfl, d_l_meanChalk_10⟩, ?_⟩) (Nat.le_of_ble_eq_true rfl) rfl
    refine ch_iconst (v := 1) d_l_meanChalk_11 (by decide) ?_
    exact ch_iret (ty := .int) d_l_meanChalk_12 rfl rfl (Nat.le_of_ble_eq_true rfl) h
theorem e_l_account (g : ch_G) (Q : ch_O → ch_M → Prop) (p1 : Int32) (m : ch_M) (h : ch_J g m_l_account (ch_rm m_l_account) (ch_E g m_l_account Q) 0 [some (.inr (0, 0, 0)), some (.inl (.int p1)), some (.inr (10, 0, 1)), none] [] m 0) : ch_C g m_l_account [.inr (0, 0, 0), .inl (.int p1), .inr (10, 0, 1)] m Q :=
  ch_enter mf_l_account (by intro v hv; simp only [List.mem_cons, List.not_mem_nil, or_false] at hv; rcases hv with rfl | rfl | rfl <;> rfl) (Nat.le_of_ble_eq_true rfl) h
set_option maxHeartbeats 1600000 in
theorem g_l_account_0 (g : ch_G) (Q : ch_O → ch_M → Prop) (p1 : Int32) (m : ch_M) (h : (ch_C g m_x_account [.inr (0, 0, 0), .inl (.int p1)] m (ch_ox (ch_oi (fun (r1 : Int32) (m2 : ch_M) => (∀ m5 : ch_M, m5 = ch_wr m2 (10, 0, 1) (0) r1 → Q (.inl (some (.inl (.int 0)))) m5))) (fun (n3 : Nat) (m4 : ch_M) => ((n3 = 2 ∧ Q (.inl (some (.inl (.int 1)))) m4)))))) : ch_J g m_l_account (ch_rm m_l_account) (ch_E g m_l_account Q) 0 [some (.inr (0, 0, 0)), some (.inl (.int p1)), some (.inr (10, 0, 1)), none] [] m 0 := by
  refine ch_aload_n (i := 2) d_l_account_0 rfl rfl ?_
  refine ch_iconst (v := 0) d_l_account_1 (by decide) ?_
  refine ch_aload_n (i := 0) d_l_account_2 rfl rfl ?_
  refine ch_iload_n (i := 1) d_l_account_3 rfl rfl ?_
  refine ch_callV (as := [.inl (.int p1)]) d_l_account_4 lk_l_110 mi_x_account me_x_account rfl rfl rfl ⟨Nat.le_of_ble_eq_true rfl, Nat.le_of_ble_eq_true rfl⟩ (Nat.le_of_ble_eq_true rfl) ⟨Nat.le_of_ble_eq_true rfl, Nat.le_of_ble_eq_true rfl⟩ (ch_mono (ch_Kx (ch_Ki (fun r1 m2 h => ?_)) (fun n3 m4 hn h => ?_)) h)
  · skip
    refine ch_i2l d_l_account_7 ?_
    refine ch_last (n := 1) d_l_account_8 (by decide) rfl (vp_in_nI (n := 0) (by decide) (by decide)) ?_
    show ch_J g _ _ _ _ _ _ (ch_wr m2 (10, 0, 1) (0) r1) _
    generalize hmm5 : ch_wr m2 (10, 0, 1) (0) r1 = m5
    replace h := h m5 hmm5.symm
    refine ch_goto (tgt := 15) d_l_account_9 (by decide) ?_
    refine ch_iconst (v := 0) d_l_account_15 (by decide) ?_
    exact ch_iret (ty := .int) d_l_account_16 rfl rfl (Nat.le_of_ble_eq_true rfl) h
  · obtain ⟨rfl, h⟩ := h
    refine ch_caught (i := 3) (ls' := [some (.inr (0, 0, 0)), some (.inl (.int p1)), some (.inr (10, 0, 1)), none]) [] (0, 9, 12, 48) [] rfl (fun z hz => by cases hz) ⟨by decide, by decide⟩ (by decide) ck_l_48 cx_2 (Or.inr ⟨⟨3, rfl, d_l_account_12⟩, ?_⟩) (Nat.le_of_ble_eq_true rfl) rfl
    refine ch_iconst (v := 1) d_l_account_13 (by decide) ?_
    exact ch_iret (ty := .int) d_l_account_14 rfl rfl (Nat.le_of_ble_eq_true rfl) h
theorem e_l_undo (g : ch_G) (Q : ch_O → ch_M → Prop)  (m : ch_M) (h : ch_J g m_l_undo (ch_rm m_l_undo) (ch_E g m_l_undo Q) 0 [some (.inr (0, 0, 0)), some (.inr (10, 0, 1)), none] [] m 0) : ch_C g m_l_undo [.inr (0, 0, 0), .inr (10, 0, 1)] m Q :=
  ch_enter mf_l_undo (by intro v hv; simp only [List.mem_cons, List.not_mem_nil, or_false] at hv; rcases hv with rfl | rfl <;> rfl) (Nat.le_of_ble_eq_true rfl) h
set_option maxHeartbeats 1600000 in
theorem g_l_undo_0 (g : ch_G) (Q : ch_O → ch_M → Prop)  (m : ch_M) (h : (ch_C g m_x_undo [.inr (0, 0, 0)] m (ch_ox (ch_oi (fun (r1 : Int32) (m2 : ch_M) => (∀ m5 : ch_M, m5 = ch_wr m2 (10, 0, 1) (0) r1 → Q (.inl (some (.inl (.int 0)))) m5))) (fun (n3 : Nat) (m4 : ch_M) => ((n3 = 4 ∧ Q (.inl (some (.inl (.int 1)))) m4)))))) : ch_J g m_l_undo (ch_rm m_l_undo) (ch_E g m_l_undo Q) 0 [some (.inr (0, 0, 0)), some (.inr (10, 0, 1)), none] [] m 0 := by
  refine ch_aload_n (i := 1) d_l_undo_0 rfl rfl ?_
  refine ch_iconst (v := 0) d_l_undo_1 (by decide) ?_
  refine ch_aload_n (i := 0) d_l_undo_2 rfl rfl ?_
  refine ch_callV (as := []) d_l_undo_3 lk_l_113 mi_x_undo me_x_undo rfl rfl rfl ⟨Nat.le_of_ble_eq_true rfl, Nat.le_of_ble_eq_true rfl⟩ (Nat.le_of_ble_eq_true rfl) ⟨Nat.le_of_ble_eq_true rfl, Nat.le_of_ble_eq_true rfl⟩ (ch_mono (ch_Kx (ch_Ki (fun r1 m2 h => ?_)) (fun n3 m4 hn h => ?_)) h)
  · skip
    refine ch_i2l d_l_undo_6 ?_
    refine ch_last (n := 1) d_l_undo_7 (by decide) rfl (vp_in_nI (n := 0) (by decide) (by decide)) ?_
    show ch_J g _ _ _ _ _ _ (ch_wr m2 (10, 0, 1) (0) r1) _
    generalize hmm5 : ch_wr m2 (10, 0, 1) (0) r1 = m5
    replace h := h m5 hmm5.symm
    refine ch_goto (tgt := 14) d_l_undo_8 (by decide) ?_
    refine ch_iconst (v := 0) d_l_undo_14 (by decide) ?_
    exact ch_iret (ty := .int) d_l_undo_15 rfl rfl (Nat.le_of_ble_eq_true rfl) h
  · obtain ⟨rfl, h⟩ := h
    refine ch_caught (i := 2) (ls' := [some (.inr (0, 0, 0)), some (.inr (10, 0, 1)), none]) [] (0, 8, 11, 92) [] rfl (fun z hz => by cases hz) ⟨by decide, by decide⟩ (by decide) ck_l_92 cx_4 (Or.inr ⟨⟨2, rfl, d_l_undo_11⟩, ?_⟩) (Nat.le_of_ble_eq_true rfl) rfl
    refine ch_iconst (v := 1) d_l_undo_12 (by decide) ?_
    exact ch_iret (ty := .int) d_l_undo_13 rfl rfl (Nat.le_of_ble_eq_true rfl) h
theorem e_l_restore (g : ch_G) (Q : ch_O → ch_M → Prop)  (m : ch_M) (h : ch_J g m_l_restore (ch_rm m_l_restore) (ch_E g m_l_restore Q) 0 [some (.inr (0, 0, 0)), some (.inr (10, 0, 1)), none] [] m 0) : ch_C g m_l_restore [.inr (0, 0, 0), .inr (10, 0, 1)] m Q :=
  ch_enter mf_l_restore (by intro v hv; simp only [List.mem_cons, List.not_mem_nil, or_false] at hv; rcases hv with rfl | rfl <;> rfl) (Nat.le_of_ble_eq_true rfl) h
set_option maxHeartbeats 1600000 in
theorem g_l_restore_0 (g : ch_G) (Q : ch_O → ch_M → Prop)  (m : ch_M) (h : (ch_C g m_x_restore [.inr (0, 0, 0)] m (ch_ox (ch_oi (fun (r1 : Int32) (m2 : ch_M) => (∀ m5 : ch_M, m5 = ch_wr m2 (10, 0, 1) (0) r1 → Q (.inl (some (.inl (.int 0)))) m5))) (fun (n3 : Nat) (m4 : ch_M) => ((n3 = 4 ∧ Q (.inl (some (.inl (.int 1)))) m4)))))) : ch_J g m_l_restore (ch_rm m_l_restore) (ch_E g m_l_restore Q) 0 [some (.inr (0, 0, 0)), some (.inr (10, 0, 1)), none] [] m 0 := by
  refine ch_aload_n (i := 1) d_l_restore_0 rfl rfl ?_
  refine ch_iconst (v := 0) d_l_restore_1 (by decide) ?_
  refine ch_aload_n (i := 0) d_l_restore_2 rfl rfl ?_
  refine ch_callV (as := []) d_l_restore_3 lk_l_116 mi_x_restore me_x_restore rfl rfl rfl ⟨Nat.le_of_ble_eq_true rfl, Nat.le_of_ble_eq_true rfl⟩ (Nat.le_of_ble_eq_true rfl) ⟨Nat.le_of_ble_eq_true rfl, Nat.le_of_ble_eq_true rfl⟩ (ch_mono (ch_Kx (ch_Ki (fun r1 m2 h => ?_)) (fun n3 m4 hn h => ?_)) h)
  · skip
    refine ch_i2l d_l_restore_6 ?_
    refine ch_last (n := 1) d_l_restore_7 (by decide) rfl (vp_in_nI (n := 0) (by decide) (by decide)) ?_
    show ch_J g _ _ _ _ _ _ (ch_wr m2 (10, 0, 1) (0) r1) _
    generalize hmm5 : ch_wr m2 (10, 0, 1) (0) r1 = m5
    replace h := h m5 hmm5.symm
    refine ch_goto (tgt := 14) d_l_restore_8 (by decide) ?_
    refine ch_iconst (v := 0) d_l_restore_14 (by decide) ?_
    exact ch_iret (ty := .int) d_l_restore_15 rfl rfl (Nat.le_of_ble_eq_true rfl) h
  · obtain ⟨rfl, h⟩ := h
    refine ch_caught (i := 2) (ls' := [some (.inr (0, 0, 0)), some (.inr (10, 0, 1)), none]) [] (0, 8, 11, 92) [] rfl (fun z hz => by cases hz) ⟨by decide, by decide⟩ (by decide) ck_l_92 cx_4 (Or.inr ⟨⟨2, rfl, d_l_restore_11⟩, ?_⟩) (Nat.le_of_ble_eq_true rfl) rfl
    refine ch_iconst (v := 1) d_l_restore_12 (by decide) ?_
    exact ch_iret (ty := .int) d_l_restore_13 rfl rfl (Nat.le_of_ble_eq_true rfl) h
