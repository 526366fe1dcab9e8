theorem e_x_child (g : ch_G) (Q : ch_O → ch_M → Prop) (p1 : Int32) (m : ch_M) (h : ch_J g m_x_child (ch_rm m_x_child) (ch_E g m_x_child Q) 0 [some (.inr (0, 0, 0)), some (.inl (.int p1))] [] m 0) : ch_C g m_x_child [.inr (0, 0, 0), .inl (.int p1)] m Q :=
  ch_enter mf_x_child (by intro v hv; simp only [List.mem_cons, List.not_mem_nil, or_false] at hv; rcases hv with rfl | rfl <;> rfl) (Nat.le_of_ble_eq_true rfl) h
set_option maxHeartbeats 1600000 in
theorem g_x_child_0 (g : ch_G) (Q : ch_O → ch_M → Prop) (p1 : Int32) (m : ch_M) (h : (ch_C g m_c_set [.inr (4, 0, 0), .inl (.int 110), .inl (.int 0), .inl (.int 0), .inl (.int p1)] m (ch_ov (fun (m2 : ch_M) => (ch_C g m_x_change [.inr (0, 0, 0)] m2 (ch_ox (ch_oi (fun (r3 : Int32) (m4 : ch_M) => Q (.inl (some (.inl (.int r3)))) m4)) (fun (n5 : Nat) (m6 : ch_M) => Q (.inr n5) m6))))))) : ch_J g m_x_child (ch_rm m_x_child) (ch_E g m_x_child Q) 0 [some (.inr (0, 0, 0)), some (.inl (.int p1))] [] m 0 := by
  refine ch_aload_n (i := 0) d_x_child_0 rfl rfl ?_
  refine ch_get (v := .inr (4, 0, 0)) d_x_child_1 fl_x_42 rfl ?_
  refine ch_bipush (v := 110) d_x_child_4 (by decide) ?_
  refine ch_iconst (v := 0) d_x_child_6 (by decide) ?_
  refine ch_iconst (v := 0) d_x_child_7 (by decide) ?_
  refine ch_iload_n (i := 1) d_x_child_8 rfl rfl ?_
  refine ch_callV (as := [.inl (.int 110), .inl (.int 0), .inl (.int 0), .inl (.int p1)]) d_x_child_9 lk_x_81 mi_c_set me_c_set rfl rfl rfl ⟨Nat.le_of_ble_eq_true rfl, Nat.le_of_ble_eq_true rfl⟩ (Nat.le_of_ble_eq_true rfl) ⟨Nat.le_of_ble_eq_true rfl, Nat.le_of_ble_eq_true rfl⟩ (ch_mono (ch_Kv (fun m2 h => ?_)) h)
  refine ch_aload_n (i := 0) d_x_child_12 rfl rfl ?_
  refine ch_callV (as := []) d_x_child_13 lk_x_85 mi_x_change me_x_change rfl rfl rfl ⟨Nat.le_of_ble_eq_true rfl, Nat.le_of_ble_eq_true rfl⟩ (Nat.le_of_ble_eq_true rfl) ⟨Nat.le_of_ble_eq_true rfl, Nat.le_of_ble_eq_true rfl⟩ (ch_mono (ch_Kx (ch_Ki (fun r3 m4 h => ?_)) (fun n5 m6 hn h => ?_)) h)
  · skip
    exact ch_iret (ty := .int) d_x_child_16 rfl rfl (Nat.le_of_ble_eq_true rfl) h
  · exact ch_xout rfl (Nat.le_of_ble_eq_true rfl) h
theorem e_x_chalk (g : ch_G) (Q : ch_O → ch_M → Prop) (p1 : Int32) (p2 : Int32) (m : ch_M) (h : ch_J g m_x_chalk (ch_rm m_x_chalk) (ch_E g m_x_chalk Q) 0 [some (.inr (0, 0, 0)), some (.inl (.int p1)), some (.inl (.int p2))] [] m 0) : ch_C g m_x_chalk [.inr (0, 0, 0), .inl (.int p1), .inl (.int p2)] m Q :=
  ch_enter mf_x_chalk (by intro v hv; simp only [List.mem_cons, List.not_mem_nil, or_false] at hv; rcases hv with rfl | rfl | rfl <;> rfl) (Nat.le_of_ble_eq_true rfl) h
set_option maxHeartbeats 1600000 in
theorem g_x_chalk_0 (g : ch_G) (Q : ch_O → ch_M → Prop) (p1 : Int32) (p2 : Int32) (m : ch_M) (h : (ch_C g m_c_set [.inr (4, 0, 0), .inl (.int 99), .inl (.int p1), .inl (.int 0), .inl (.int p2)] m (ch_ov (fun (m2 : ch_M) => (ch_C g m_x_change [.inr (0, 0, 0)] m2 (ch_ox (ch_oi (fun (r3 : Int32) (m4 : ch_M) => Q (.inl (some (.inl (.int r3)))) m4)) (fun (n5 : Nat) (m6 : ch_M) => Q (.inr n5) m6))))))) : ch_J g m_x_chalk (ch_rm m_x_chalk) (ch_E g m_x_chalk Q) 0 [some (.inr (0, 0, 0)), some (.inl (.int p1)), some (.inl (.int p2))] [] m 0 := by
  refine ch_aload_n (i := 0) d_x_chalk_0 rfl rfl ?_
  refine ch_get (v := .inr (4, 0, 0)) d_x_chalk_1 fl_x_42 rfl ?_
  refine ch_bipush (v := 99) d_x_chalk_4 (by decide) ?_
  refine ch_iload_n (i := 1) d_x_chalk_6 rfl rfl ?_
  refine ch_iconst (v := 0) d_x_chalk_7 (by decide) ?_
  refine ch_iload_n (i := 2) d_x_chalk_8 rfl rfl ?_
  refine ch_callV (as := [.inl (.int 99), .inl (.int p1), .inl (.int 0), .inl (.int p2)]) d_x_chalk_9 lk_x_81 mi_c_set me_c_set rfl rfl rfl ⟨Nat.le_of_ble_eq_true rfl, Nat.le_of_ble_eq_true rfl⟩ (Nat.le_of_ble_eq_true rfl) ⟨Nat.le_of_ble_eq_true rfl, Nat.le_of_ble_eq_true rfl⟩ (ch_mono (ch_Kv (fun m2 h => ?_)) h)
  refine ch_aload_n (i := 0) d_x_chalk_12 rfl rfl ?_
  refine ch_callV (as := []) d_x_chalk_13 lk_x_85 mi_x_change me_x_change rfl rfl rfl ⟨Nat.le_of_ble_eq_true rfl, Nat.le_of_ble_eq_true rfl⟩ (Nat.le_of_ble_eq_true rfl) ⟨Nat.le_of_ble_eq_true rfl, Nat.le_of_ble_eq_true rfl⟩ (ch_mono (ch_Kx (ch_Ki (fun r3 m4 h => ?_)) (fun n5 m6 hn h => ?_)) h)
  · skip
    exact ch_iret (ty := .int) d_x_chalk_16 rfl rfl (Nat.le_of_ble_eq_true rfl) h
  · exact ch_xout rfl (Nat.le_of_ble_eq_true rfl) h
theorem e_x_hop (g : ch_G) (Q : ch_O → ch_M → Prop) (p1 : Int32) (p2 : Int32) (m : ch_M) (h : ch_J g m_x_hop (ch_rm m_x_hop) (ch_E g m_x_hop Q) 0 [some (.inr (0, 0, 0)), some (.inl (.int p1)), some (.inl (.int p2))] [] m 0) : ch_C g m_x_hop [.inr (0, 0, 0), .inl (.int p1), .inl (.int p2)] m Q :=
  ch_enter mf_x_hop (by intro v hv; simp only [List.mem_cons, List.not_mem_nil, or_false] at hv; rcases hv with rfl | rfl | rfl <;> rfl) (Nat.le_of_ble_eq_true rfl) h
set_option maxHeartbeats 1600000 in
theorem g_x_hop_0 (g : ch_G) (Q : ch_O → ch_M → Prop) (p1 : Int32) (p2 : Int32) (m : ch_M) (h : (ch_C g m_c_set [.inr (4, 0, 0), .inl (.int 104), .inl (.int p1), .inl (.int 0), .inl (.int 0)] m (ch_ov (fun (m2 : ch_M) => (ch_C g m_s_readFrom [.inr (5, 0, 0), .inl (.int p2)] m2 (ch_ov (fun (m4 : ch_M) => (ch_C g m_x_change [.inr (0, 0, 0)] m4 (ch_ox (ch_oi (fun (r5 : Int32) (m6 : ch_M) => Q (.inl (some (.inl (.int r5)))) m6)) (fun (n7 : Nat) (m8 : ch_M) => Q (.inr n7) m8)))))))))) : ch_J g m_x_hop (ch_rm m_x_hop) (ch_E g m_x_hop Q) 0 [some (.inr (0, 0, 0)), some (.inl (.int p1)), some (.inl (.int p2))] [] m 0 := by
  refine ch_aload_n (i := 0) d_x_hop_0 rfl rfl ?_
  refine ch_get (v := .inr (4, 0, 0)) d_x_hop_1 fl_x_42 rfl ?_
  refine ch_bipush (v := 104) d_x_hop_4 (by decide) ?_
  refine ch_iload_n (i := 1) d_x_hop_6 rfl rfl ?_
  refine ch_iconst (v := 0) d_x_hop_7 (by decide) ?_
  refine ch_iconst (v := 0) d_x_hop_8 (by decide) ?_
  refine ch_callV (as := [.inl (.int 104), .inl (.int p1), .inl (.int 0), .inl (.int 0)]) d_x_hop_9 lk_x_81 mi_c_set me_c_set rfl rfl rfl ⟨Nat.le_of_ble_eq_true rfl, Nat.le_of_ble_eq_true rfl⟩ (Nat.le_of_ble_eq_true rfl) ⟨Nat.le_of_ble_eq_true rfl, Nat.le_of_ble_eq_true rfl⟩ (ch_mono (ch_Kv (fun m2 h => ?_)) h)
  refine ch_aload_n (i := 0) d_x_hop_12 rfl rfl ?_
  refine ch_get (v := .inr (4, 0, 0)) d_x_hop_13 fl_x_42 rfl ?_
  refine ch_get (v := .inr (5, 0, 0)) d_x_hop_16 fl_x_89 rfl ?_
  refine ch_iload_n (i := 2) d_x_hop_19 rfl rfl ?_
  refine ch_callV (as := [.inl (.int p2)]) d_x_hop_20 lk_x_92 mi_s_readFrom me_s_readFrom rfl rfl rfl ⟨Nat.le_of_ble_eq_true rfl, Nat.le_of_ble_eq_true rfl⟩ (Nat.le_of_ble_eq_true rfl) ⟨Nat.le_of_ble_eq_true rfl, Nat.le_of_ble_eq_true rfl⟩ (ch_mono (ch_Kv (fun m4 h => ?_)) h)
  refine ch_aload_n (i := 0) d_x_hop_23 rfl rfl ?_
  refine ch_callV (as := []) d_x_hop_24 lk_x_85 mi_x_change me_x_change rfl rfl rfl ⟨Nat.le_of_ble_eq_true rfl, Nat.le_of_ble_eq_true rfl⟩ (Nat.le_of_ble_eq_true rfl) ⟨Nat.le_of_ble_eq_true rfl, Nat.le_of_ble_eq_true rfl⟩ (ch_mono (ch_Kx (ch_Ki (fun r5 m6 h => ?_)) (fun n7 m8 hn h => ?_)) h)
  · skip
    exact ch_iret (ty := .int) d_x_hop_27 rfl rfl (Nat.le_of_ble_eq_true rfl) h
  · exact ch_xout rfl (Nat.le_of_ble_eq_true rfl) h
theorem e_x_warrant (g : ch_G) (Q : ch_O → ch_M → Prop) (p1 : Int32) (m : ch_M) (h : ch_J g m_x_warrant (ch_rm m_x_warrant) (ch_E g m_x_warrant Q) 0 [some (.inr (0, 0, 0)), some (.inl (.int p1))] [] m 0) : ch_C g m_x_warrant [.inr (0, 0, 0), .inl (.int p1)] m Q :=
  ch_enter mf_x_warrant (by intro v hv; simp only [List.mem_cons, List.not_mem_nil, or_false] at hv; rcases hv with rfl | rfl <;> rfl) (Nat.le_of_ble_eq_true rfl) h
set_option maxHeartbeats 1600000 in
theorem g_x_warrant_0 (g : ch_G) (Q : ch_O → ch_M → Prop) (p1 : Int32) (m : ch_M) (h : (ch_C g m_c_set [.inr (4, 0, 0), .inl (.int 119), .inl (.int p1), .inl (.int 0), .inl (.int 0)] m (ch_ov (fun (m2 : ch_M) => (ch_C g m_x_change [.inr (0, 0, 0)] m2 (ch_ox (ch_oi (fun (r3 : Int32) (m4 : ch_M) => Q (.inl (some (.inl (.int r3)))) m4)) (fun (n5 : Nat) (m6 : ch_M) => Q (.inr n5) m6))))))) : ch_J g m_x_warrant (ch_rm m_x_warrant) (ch_E g m_x_warrant Q) 0 [some (.inr (0, 0, 0)), some (.inl (.int p1))] [] m 0 := by
  refine ch_aload_n (i := 0) d_x_warrant_0 rfl rfl ?_
  refine ch_get (v := .inr (4, 0, 0)) d_x_warrant_1 fl_x_42 rfl ?_
  refine ch_bipush (v := 119) d_x_warrant_4 (by decide) ?_
  refine ch_iload_n (i := 1) d_x_warrant_6 rfl rfl ?_
  refine ch_iconst (v := 0) d_x_warrant_7 (by decide) ?_
  refine ch_iconst (v := 0) d_x_warrant_8 (by decide) ?_
  refine ch_callV (as := [.inl (.int 119), .inl (.int p1), .inl (.int 0), .inl (.int 0)]) d_x_warrant_9 lk_x_81 mi_c_set me_c_set rfl rfl rfl ⟨Nat.le_of_ble_eq_true rfl, Nat.le_of_ble_eq_true rfl⟩ (Nat.le_of_ble_eq_true rfl) ⟨Nat.le_of_ble_eq_true rfl, Nat.le_of_ble_eq_true rfl⟩ (ch_mono (ch_Kv (fun m2 h => ?_)) h)
  refine ch_aload_n (i := 0) d_x_warrant_12 rfl rfl ?_
  refine ch_callV (as := []) d_x_warrant_13 lk_x_85 mi_x_change me_x_change rfl rfl rfl ⟨Nat.le_of_ble_eq_true rfl, Nat.le_of_ble_eq_true rfl⟩ (Nat.le_of_ble_eq_true rfl) ⟨Nat.le_of_ble_eq_true rfl, Nat.le_of_ble_eq_true rfl⟩ (ch_mono (ch_Kx (ch_Ki (fun r3 m4 h => ?_)) (fun n5 m6 hn h => ?_)) h)
  · skip
    exact ch_iret (ty := .int) d_x_warrant_16 rfl rfl (Nat.le_of_ble_eq_true rfl) h
  · exact ch_xout rfl (Nat.le_of_ble_eq_true rfl) h
theorem e_x_strike (g : ch_G) (Q : ch_O → ch_M → Prop) (p1 : Int32) (m : ch_M) (h : ch_J g m_x_strike (ch_rm m_x_strike) (ch_E g m_x_strike Q) 0 [some (.inr (0, 0, 0)), some (.inl (.int p1))] [] m 0) : ch_C g m_x_strike [.inr (0, 0, 0), .inl (.int p1)] m Q :=
  ch_enter mf_x_strike (by intro v hv; simp only [List.mem_cons, List.not_mem_nil, or_false] at hv; rcases hv with rfl | rfl <;> rfl) (Nat.le_of_ble_eq_true rfl) h
set_option maxHeartbeats 1600000 in
theorem g_x_strike_0 (g : ch_G) (Q : ch_O → ch_M → Prop) (p1 : Int32) (m : ch_M) (h : (ch_C g m_c_set [.inr (4, 0, 0), .inl (.int 115), .inl (.int p1), .inl (.int 0), .inl (.int 0)] m (ch_ov (fun (m2 : ch_M) => (ch_C g m_x_change [.inr (0, 0, 0)] m2 (ch_ox (ch_oi (fun (r3 : Int32) (m4 : ch_M) => Q (.inl (some (.inl (.int r3)))) m4)) (fun (n5 : Nat) (m6 : ch_M) => Q (.inr n5) m6))))))) : ch_J g m_x_strike (ch_rm m_x_strike) (ch_E g m_x_strike Q) 0 [some (.inr (0, 0, 0)), some (.inl (.int p1))] [] m 0 := by
  refine ch_aload_n (i := 0) d_x_strike_0 rfl rfl ?_
  refine ch_get (v := .inr (4, 0, 0)) d_x_strike_1 fl_x_42 rfl ?_
  refine ch_bipush (v := 115) d_x_strike_4 (by decide) ?_
  refine ch_iload_n (i := 1) d_x_strike_6 rfl rfl ?_
  refine ch_iconst (v := 0) d_x_strike_7 (by decide) ?_
  refine ch_iconst (v := 0) d_x_strike_8 (by decide) ?_
  refine ch_callV (as := [.inl (.int 115), .inl (.int p1), .inl (.int 0), .inl (.int 0)]) d_x_strike_9 lk_x_81 mi_c_set me_c_set rfl rfl rfl ⟨Nat.le_of_ble_eq_true rfl, Nat.le_of_ble_eq_true rfl⟩ (Nat.le_of_ble_eq_true rfl) ⟨Nat.le_of_ble_eq_true rfl, Nat.le_of_ble_eq_true rfl⟩ (ch_mono (ch_Kv (fun m2 h => ?_)) h)
  refine ch_aload_n (i := 0) d_x_strike_12 rfl rfl ?_
  refine ch_callV (as := []) d_x_strike_13 lk_x_85 mi_x_change me_x_change rfl rfl rfl ⟨Nat.le_of_ble_eq_true rfl, Nat.le_of_ble_eq_true rfl⟩ (Nat.le_of_ble_eq_true rfl) ⟨Nat.le_of_ble_eq_true rfl, Nat.le_of_ble_eq_true rfl⟩ (ch_mono (ch_Kx (ch_Ki (fun r3 m4 h => ?_)) (fun n5 m6 hn h => ?_)) h)
  · skip
    exact ch_iret (ty := .int) d_x_strike_16 rfl rfl (Nat.le_of_ble_eq_true rfl) h
  · exact ch_xout rfl (Nat.le_of_ble_eq_true rfl) h
theorem e_x_rain (g : ch_G) (Q : ch_O → ch_M → Prop) (p1 : Int32) (m : ch_M) (h : ch_J g m_x_rain (ch_rm m_x_rain) (ch_E g m_x_rain Q) 0 [some (.inr (0, 0, 0)), some (.inl (.int p1))] [] m 0) : ch_C g m_x_rain [.inr (0, 0, 0), .inl (.int p1)] m Q :=
  ch_enter mf_x_rain (by intro v hv; simp only [List.mem_cons, List.not_mem_nil, or_false] at hv; rcases hv with rfl | rfl <;> rfl) (Nat.le_of_ble_eq_true rfl) h
set_option maxHeartbeats 1600000 in
theorem g_x_rain_0 (g : ch_G) (Q : ch_O → ch_M → Prop) (p1 : Int32) (m : ch_M) (h : (ch_C g m_c_set [.inr (4, 0, 0), .inl (.int 114), .inl (.int 0), .inl (.int 0), .inl (.int p1)] m (ch_ov (fun (m2 : ch_M) => (ch_C g m_x_change [.inr (0, 0, 0)] m2 (ch_ox (ch_oi (fun (r3 : Int32) (m4 : ch_M) => Q (.inl (some (.inl (.int r3)))) m4)) (fun (n5 : Nat) (m6 : ch_M) => Q (.inr n5) m6))))))) : ch_J g m_x_rain (ch_rm m_x_rain) (ch_E g m_x_rain Q) 0 [some (.inr (0, 0, 0)), some (.inl (.int p1))] [] m 0 := by
  refine ch_aload_n (i := 0) d_x_rain_0 rfl rfl ?_
  refine ch_get (v := .inr (4, 0, 0)) d_x_rain_1 fl_x_42 rfl ?_
  refine ch_bipush (v := 114) d_x_rain_4 (by decide) ?_
  refine ch_iconst (v := 0) d_x_rain_6 (by decide) ?_
  refine ch_iconst (v := 0) d_x_rain_7 (by decide) ?_
  refine ch_iload_n (i := 1) d_x_rain_8 rfl rfl ?_
  refine ch_callV (as := [.inl (.int 114), .inl (.int 0), .inl (.int 0), .inl (.int p1)]) d_x_rain_9 lk_x_81 mi_c_set me_c_set rfl rfl rfl ⟨Nat.le_of_ble_eq_true rfl, Nat.le_of_ble_eq_true rfl⟩ (Nat.le_of_ble_eq_true rfl) ⟨Nat.le_of_ble_eq_true rfl, Nat.le_of_ble_eq_true rfl⟩ (ch_mono (ch_Kv (fun m2 h => ?_)) h)
  refine ch_aload_n (i := 0) d_x_rain_12 rfl rfl ?_
  refine ch_callV (as := []) d_x_rain_13 lk_x_85 mi_x_change me_x_change rfl rfl rfl ⟨Nat.le_of_ble_eq_true rfl, Nat.le_of_ble_eq_true rfl⟩ (Nat.le_of_ble_eq_true rfl) ⟨Nat.le_of_ble_eq_true rfl, Nat.le_of_ble_eq_true rfl⟩ (ch_mono (ch_Kx (ch_Ki (fun r3 m4 h => ?_)) (fun n5 m6 hn h => ?_)) h)
  · skip
    exact ch_iret (ty := .int) d_x_rain_16 rfl rfl (Nat.le_of_ble_eq_true rfl) h
  · exact ch_xout rfl (Nat.le_of_ble_eq_true rfl) h
theorem e_x_term (g : ch_G) (Q : ch_O → ch_M → Prop)  (m : ch_M) (h : ch_J g m_x_term (ch_rm m_x_term) (ch_E g m_x_term Q) 0 [some (.inr (0, 0, 0))] [] m 0) : ch_C g m_x_term [.inr (0, 0, 0)] m Q :=
  ch_enter mf_x_term (by intro v hv; simp only [List.mem_cons, List.not_mem_nil, or_false] at hv; rcases hv with rfl <;> rfl) (Nat.le_of_ble_eq_true rfl) h
set_option maxHeartbeats 1600000 in
theorem g_x_term_0 (g : ch_G) (Q : ch_O → ch_M → Prop)  (m : ch_M) (h : (ch_C g m_c_set [.inr (4, 0, 0), .inl (.int 116), .inl (.int 0), .inl (.int 0), .inl (.int 0)] m (ch_ov (fun (m2 : ch_M) => (ch_C g m_x_change [.inr (0, 0, 0)] m2 (ch_ox (ch_oi (fun (r3 : Int32) (m4 : ch_M) => Q (.inl (some (.inl (.int r3)))) m4)) (fun (n5 : Nat) (m6 : ch_M) => Q (.inr n5) m6))))))) : ch_J g m_x_term (ch_rm m_x_term) (ch_E g m_x_term Q) 0 [some (.inr (0, 0, 0))] [] m 0 := by
  refine ch_aload_n (i := 0) d_x_term_0 rfl rfl ?_
  refine ch_get (v := .inr (4, 0, 0)) d_x_term_1 fl_x_42 rfl ?_
  refine ch_bipush (v := 116) d_x_term_4 (by decide) ?_
  refine ch_iconst (v := 0) d_x_term_6 (by decide) ?_
  refine ch_iconst (v := 0) d_x_term_7 (by decide) ?_
  refine ch_iconst (v := 0) d_x_term_8 (by decide) ?_
  refine ch_callV (as := [.inl (.int 116), .inl (.int 0), .inl (.int 0), .inl (.int 0)]) d_x_term_9 lk_x_81 mi_c_set me_c_set rfl rfl rfl ⟨Nat.le_of_ble_eq_true rfl, Nat.le_of_ble_eq_true rfl⟩ (Nat.le_of_ble_eq_true rfl) ⟨Nat.le_of_ble_eq_true rfl, Nat.le_of_ble_eq_true rfl⟩ (ch_mono (ch_Kv (fun m2 h => ?_)) h)
  refine ch_aload_n (i := 0) d_x_term_12 rfl rfl ?_
  refine ch_callV (as := []) d_x_term_13 lk_x_85 mi_x_change me_x_change rfl rfl rfl ⟨Nat.le_of_ble_eq_true rfl, Nat.le_of_ble_eq_true rfl⟩ (Nat.le_of_ble_eq_true rfl) ⟨Nat.le_of_ble_eq_true rfl, Nat.le_of_ble_eq_true rfl⟩ (ch_mono (ch_Kx (ch_Ki (fun r3 m4 h => ?_)) (fun n5 m6 hn h => ?_)) h)
  · skip
    exact ch_iret (ty := .int) d_x_term_16 rfl rfl (Nat.le_of_ble_eq_true rfl) h
  · exact ch_xout rfl (Nat.le_of_ble_eq_true rfl) h
theorem e_x_give (g : ch_G) (Q : ch_O → ch_M → Prop) (p1 : Int32) (p2 : Int32) (p3 : Int32) (m : ch_M) (h : ch_J g m_x_give (ch_rm m_x_give) (ch_E g m_x_give Q) 0 [some (.inr (0, 0, 0)), some (.inl (.int p1)), some (.inl (.int p2)), some (.inl (.int p3))] [] m 0) : ch_C g m_x_give [.inr (0, 0, 0), .inl (.int p1), .inl (.int p2), .inl (.int p3)] m Q :=
  ch_enter mf_x_give (by intro v hv; simp only [List.mem_cons, List.not_mem_nil, or_false] at hv; rcases hv with rfl | rfl | rfl | rfl <;> rfl) (Nat.le_of_ble_eq_true rfl) h
set_option maxHeartbeats 1600000 in
theorem g_x_give_0 (g : ch_G) (Q : ch_O → ch_M → Prop) (p1 : Int32) (p2 : Int32) (p3 : Int32) (m : ch_M) (h : (ch_C g m_c_set [.inr (4, 0, 0), .inl (.int 103), .inl (.int p1), .inl (.int p2), .inl (.int p3)] m (ch_ov (fun (m2 : ch_M) => (ch_C g m_x_change [.inr (0, 0, 0)] m2 (ch_ox (ch_oi (fun (r3 : Int32) (m4 : ch_M) => Q (.inl (some (.inl (.int r3)))) m4)) (fun (n5 : Nat) (m6 : ch_M) => Q (.inr n5) m6))))))) : ch_J g m_x_give (ch_rm m_x_give) (ch_E g m_x_give Q) 0 [some (.inr (0, 0, 0)), some (.inl (.int p1)), some (.inl (.int p2)), some (.inl (.int p3))] [] m 0 := by
  refine ch_aload_n (i := 0) d_x_give_0 rfl rfl ?_
  refine ch_get (v := .inr (4, 0, 0)) d_x_give_1 fl_x_42 rfl ?_
  refine ch_bipush (v := 103) d_x_give_4 (by decide) ?_
  refine ch_iload_n (i := 1) d_x_give_6 rfl rfl ?_
  refine ch_iload_n (i := 2) d_x_give_7 rfl rfl ?_
  refine ch_iload_n (i := 3) d_x_give_8 rfl rfl ?_
  refine ch_callV (as := [.inl (.int 103), .inl (.int p1), .inl (.int p2), .inl (.int p3)]) d_x_give_9 lk_x_81 mi_c_set me_c_set rfl rfl rfl ⟨Nat.le_of_ble_eq_true rfl, Nat.le_of_ble_eq_true rfl⟩ (Nat.le_of_ble_eq_true rfl) ⟨Nat.le_of_ble_eq_true rfl, Nat.le_of_ble_eq_true rfl⟩ (ch_mono (ch_Kv (fun m2 h => ?_)) h)
  refine ch_aload_n (i := 0) d_x_give_12 rfl rfl ?_
  refine ch_callV (as := []) d_x_give_13 lk_x_85 mi_x_change me_x_change rfl rfl rfl ⟨Nat.le_of_ble_eq_true rfl, Nat.le_of_ble_eq_true rfl⟩ (Nat.le_of_ble_eq_true rfl) ⟨Nat.le_of_ble_eq_true rfl, Nat.le_of_ble_eq_true rfl⟩ (ch_mono (ch_Kx (ch_Ki (fun r3 m4 h => ?_)) (fun n5 m6 hn h => ?_)) h)
  · skip
    exact ch_iret (ty := .int) d_x_give_16 rfl rfl (Nat.le_of_ble_eq_true rfl) h
  · exact ch_xout rfl (Nat.le_of_ble_eq_true rfl) h
theorem e_x_squareOf (g : ch_G) (Q : ch_O → ch_M → Prop) (p1 : Int32) (p2 : Int32) (m : ch_M) (h : ch_J g m_x_squareOf (ch_rm m_x_squareOf) (ch_E g m_x_squareOf Q) 0 [some (.inr (0, 0, 0)), some (.inl (.int p1)), some (.inl (.int p2))] [] m 0) : ch_C g m_x_squareOf [.inr (0, 0, 0), .inl (.int p1), .inl (.int p2)] m Q :=
  ch_enter mf_x_squareOf (by intro v hv; simp only [List.mem_cons, List.not_mem_nil, or_false] at hv; rcases hv with rfl | rfl | rfl <;> rfl) (Nat.le_of_ble_eq_true rfl) h
set_option maxHeartbeats 1600000 in
theorem g_x_squareOf_0 (g : ch_G) (Q : ch_O → ch_M → Prop) (p1 : Int32) (p2 : Int32) (m : ch_M) (h : ((p1 < 0 → Q (.inr 1) m) ∧ (¬ p1 < 0 → ((p1 < 12 → ((p2 = 0 → (vp_in p1 12) ∧ Q (.inl (some (.inl (.int (m (1, 0, 1) (Int32.toNatClampNeg p1)))))) m) ∧ (¬ p2 = 0 → (vp_in p1 12) ∧ Q (.inl (some (.inl (.int (m (1, 0, 2) (Int32.toNatClampNeg p1)))))) m))) ∧ (¬ p1 < 12 → Q (.inr 1) m))))) : ch_J g m_x_squareOf (ch_rm m_x_squareOf) (ch_E g m_x_squareOf Q) 0 [some (.inr (0, 0, 0)), some (.inl (.int p1)), some (.inl (.int p2))] [] m 0 := by
  refine ch_iload_n (i := 1) d_x_squareOf_0 rfl rfl ?_
  refine ch_if_lt (tgt := 10) d_x_squareOf_1 (by decide) (fun c => ?_) (fun c => ?_)
  · replace h := h.1 c
    exact ch_throw d_x_squareOf_10 d_x_squareOf_13 d_x_squareOf_14 d_x_squareOf_17 tw_x_96 (by decide) rfl (Nat.le_of_ble_eq_true rfl) (Nat.le_of_ble_eq_true rfl) (Nat.le_of_ble_eq_true rfl) h
  · replace h := h.2 c
    refine ch_iload_n (i := 1) d_x_squareOf_4 rfl rfl ?_
    refine ch_bipush (v := 12) d_x_squareOf_5 (by decide) ?_
    refine ch_icmp_lt (tgt := 18) d_x_squareOf_7 (by decide) (fun c => ?_) (fun c => ?_)
    · replace h := h.1 c
      refine ch_iload_n (i := 2) d_x_squareOf_18 rfl rfl ?_
      refine ch_if_eq (tgt := 34) d_x_squareOf_19 (by decide) (fun c => ?_) (fun c => ?_)
      · replace h := h.1 c
        refine ch_aload_n (i := 0) d_x_squareOf_34 rfl rfl ?_
        refine ch_get (v := .inr (1, 0, 0)) d_x_squareOf_35 fl_x_10 rfl ?_
        refine ch_get (v := .inr (1, 0, 1)) d_x_squareOf_38 fl_x_103 rfl ?_
        refine ch_iload_n (i := 1) d_x_squareOf_41 rfl rfl ?_
        have b1 := h.1
        replace h := h.2
        refine ch_iald (n := 12) d_x_squareOf_42 (by decide) rfl b1 ?_
        exact ch_iret (ty := .int) d_x_squareOf_43 rfl rfl (Nat.le_of_ble_eq_true rfl) h
      · replace h := h.2 c
        refine ch_aload_n (i := 0) d_x_squareOf_22 rfl rfl ?_
        refine ch_get (v := .inr (1, 0, 0)) d_x_squareOf_23 fl_x_10 rfl ?_
        refine ch_get (v := .inr (1, 0, 2)) d_x_squareOf_26 fl_x_99 rfl ?_
        refine ch_iload_n (i := 1) d_x_squareOf_29 rfl rfl ?_
        have b2 := h.1
        replace h := h.2
        refine ch_iald (n := 12) d_x_squareOf_30 (by decide) rfl b2 ?_
        refine ch_goto (tgt := 43) d_x_squareOf_31 (by decide) ?_
        exact ch_iret (ty := .int) d_x_squareOf_43 rfl rfl (Nat.le_of_ble_eq_true rfl) h
    · replace h := h.2 c
      exact ch_throw d_x_squareOf_10 d_x_squareOf_13 d_x_squareOf_14 d_x_squareOf_17 tw_x_96 (by decide) rfl (Nat.le_of_ble_eq_true rfl) (Nat.le_of_ble_eq_true rfl) (Nat.le_of_ble_eq_true rfl) h
theorem e_x_childOf (g : ch_G) (Q : ch_O → ch_M → Prop) (p1 : Int32) (p2 : Int32) (m : ch_M) (h : ch_J g m_x_childOf (ch_rm m_x_childOf) (ch_E g m_x_childOf Q) 0 [some (.inr (0, 0, 0)), some (.inl (.int p1)), some (.inl (.int p2))] [] m 0) : ch_C g m_x_childOf [.inr (0, 0, 0), .inl (.int p1), .inl (.int p2)] m Q :=
  ch_enter mf_x_childOf (by intro v hv; simp only [List.mem_cons, List.not_mem_nil, or_false] at hv; rcases hv with rfl | rfl | rfl <;> rfl) (Nat.le_of_ble_eq_true rfl) h
set_option maxHeartbeats 1600000 in
theorem g_x_childOf_0 (g : ch_G) (Q : ch_O → ch_M → Prop) (p1 : Int32) (p2 : Int32) (m : ch_M) (h : (ch_C g m_x_checkChild [.inr (0, 0, 0), .inl (.int p1)] m (ch_ox (ch_ov (fun (m2 : ch_M) => ((p2 = 0 → (vp_in p1 5) ∧ Q (.inl (some (.inl (.int (m2 (1, 0, 3) (Int32.toNatClampNeg p1)))))) m2) ∧ (p2 = 1 → (vp_in p1 5) ∧ Q (.inl (some (.inl (.int (m2 (1, 0, 4) (Int32.toNatClampNeg p1)))))) m2) ∧ (p2 = 2 → (vp_in p1 5) ∧ Q (.inl (some (.inl (.int (m2 (1, 0, 5) (Int32.toNatClampNeg p1)))))) m2) ∧ (p2 = 3 → (ch_C g m_y_countOwned [.inr (1, 0, 0), .inl (.int p1)] m2 (ch_oi (fun (r8 : Int32) (m9 : ch_M) => Q (.inl (some (.inl (.int r8)))) m9)))) ∧ (p2 = 4 → (ch_C g m_y_sumChalk [.inr (1, 0, 0), .inl (.int p1)] m2 (ch_oi (fun (r10 : Int32) (m11 : ch_M) => Q (.inl (some (.inl (.int r10)))) m11)))) ∧ (p2 = 5 → (vp_in p1 5) ∧ Q (.inl (some (.inl (.int (m2 (1, 0, 6) (Int32.toNatClampNeg p1)))))) m2) ∧ (p2 = 6 → (vp_in p1 5) ∧ Q (.inl (some (.inl (.int (m2 (1, 0, 7) (Int32.toNatClampNeg p1)))))) m2) ∧ ((Int32.toInt p2 < 0 ∨ 6 < Int32.toInt p2) → Q (.inr 2) m2)))) (fun (n3 : Nat) (m4 : ch_M) => Q (.inr n3) m4)))) : ch_J g m_x_childOf (ch_rm m_x_childOf) (ch_E g m_x_childOf Q) 0 [some (.inr (0, 0, 0)), some (.inl (.int p1)), some (.inl (.int p2))] [] m 0 := by
  refine ch_aload_n (i := 0) d_x_childOf_0 rfl rfl ?_
  refine ch_iload_n (i := 1) d_x_childOf_1 rfl rfl ?_
  refine ch_callV (as := [.inl (.int p1)]) d_x_childOf_2 lk_x_106 mi_x_checkChild me_x_checkChild rfl rfl rfl ⟨Nat.le_of_ble_eq_true rfl, Nat.le_of_ble_eq_true rfl⟩ (Nat.le_of_ble_eq_true rfl) ⟨Nat.le_of_ble_eq_true rfl, Nat.le_of_ble_eq_true rfl⟩ (ch_mono (ch_Kx (ch_Kv (fun m2 h => ?_)) (fun n3 m4 hn h => ?_)) h)
  · skip
    refine ch_iload_n (i := 2) d_x_childOf_5 rfl rfl ?_
    by_cases e0 : p2 = 0
    · replace h := h.1 e0
      refine ch_tswIn (tgt := 48) (off := 42) d_x_childOf_6 (by rw [e0]; decide) (by rw [e0]; decide) (by rw [e0]; rfl) (by decide) ?_
      refine ch_aload_n (i := 0) d_x_childOf_48 rfl rfl ?_
      refine ch_get (v := .inr (1, 0, 0)) d_x_childOf_49 fl_x_10 rfl ?_
      refine ch_get (v := .inr (1, 0, 3)) d_x_childOf_52 fl_x_109 rfl ?_
      refine ch_iload_n (i := 1) d_x_childOf_55 rfl rfl ?_
      have b5 := h.1
      replace h := h.2
      refine ch_iald (n := 5) d_x_childOf_56 (by decide) rfl b5 ?_
      exact ch_iret (ty := .int) d_x_childOf_57 rfl rfl (Nat.le_of_ble_eq_true rfl) h
    replace h := h.2
    by_cases e1 : p2 = 1
    · replace h := h.1 e1
      refine ch_tswIn (tgt := 58) (off := 52) d_x_childOf_6 (by rw [e1]; decide) (by rw [e1]; decide) (by rw [e1]; rfl) (by decide) ?_
      refine ch_aload_n (i := 0) d_x_childOf_58 rfl rfl ?_
      refine ch_get (v := .inr (1, 0, 0)) d_x_childOf_59 fl_x_10 rfl ?_
      refine ch_get (v := .inr (1, 0, 4)) d_x_childOf_62 fl_x_112 rfl ?_
      refine ch_iload_n (i := 1) d_x_childOf_65 rfl rfl ?_
      have b6 := h.1
      replace h := h.2
      refine ch_iald (n := 5) d_x_childOf_66 (by decide) rfl b6 ?_
      exact ch_iret (ty := .int) d_x_childOf_67 rfl rfl (Nat.le_of_ble_eq_true rfl) h
    replace h := h.2
    by_cases e2 : p2 = 2
    · replace h := h.1 e2
      refine ch_tswIn (tgt := 68) (off := 62) d_x_childOf_6 (by rw [e2]; decide) (by rw [e2]; decide) (by rw [e2]; rfl) (by decide) ?_
      refine ch_aload_n (i := 0) d_x_childOf_68 rfl rfl ?_
      refine ch_get (v := .inr (1, 0, 0)) d_x_childOf_69 fl_x_10 rfl ?_
      refine ch_get (v := .inr (1, 0, 5)) d_x_childOf_72 fl_x_115 rfl ?_
      refine ch_iload_n (i := 1) d_x_childOf_75 rfl rfl ?_
      have b7 := h.1
      replace h := h.2
      refine ch_iald (n := 5) d_x_childOf_76 (by decide) rfl b7 ?_
      exact ch_iret (ty := .int) d_x_childOf_77 rfl rfl (Nat.le_of_ble_eq_true rfl) h
    replace h := h.2
    by_cases e3 : p2 = 3
    · replace h := h.1 e3
      refine ch_tswIn (tgt := 78) (off := 72) d_x_childOf_6 (by rw [e3]; decide) (by rw [e3]; decide) (by rw [e3]; rfl) (by decide) ?_
      refine ch_aload_n (i := 0) d_x_childOf_78 rfl rfl ?_
      refine ch_get (v := .inr (1, 0, 0)) d_x_childOf_79 fl_x_10 rfl ?_
      refine ch_iload_n (i := 1) d_x_childOf_82 rfl rfl ?_
      refine ch_callV (as := [.inl (.int p1)]) d_x_childOf_83 lk_x_118 mi_y_countOwned me_y_countOwned rfl rfl rfl ⟨Nat.le_of_ble_eq_true rfl, Nat.le_of_ble_eq_true rfl⟩ (Nat.le_of_ble_eq_true rfl) ⟨Nat.le_of_ble_eq_true rfl, Nat.le_of_ble_eq_true rfl⟩ (ch_mono (ch_Ki (fun r8 m9 h => ?_)) h)
      exact ch_iret (ty := .int) d_x_childOf_86 rfl rfl (Nat.le_of_ble_eq_true rfl) h
    replace h := h.2
    by_cases e4 : p2 = 4
    · replace h := h.1 e4
      refine ch_tswIn (tgt := 87) (off := 81) d_x_childOf_6 (by rw [e4]; decide) (by rw [e4]; decide) (by rw [e4]; rfl) (by decide) ?_
      refine ch_aload_n (i := 0) d_x_childOf_87 rfl rfl ?_
      refine ch_get (v := .inr (1, 0, 0)) d_x_childOf_88 fl_x_10 rfl ?_
      refine ch_iload_n (i := 1) d_x_childOf_91 rfl rfl ?_
      refine ch_callV (as := [.inl (.int p1)]) d_x_childOf_92 lk_x_122 mi_y_sumChalk me_y_sumChalk rfl rfl rfl ⟨Nat.le_of_ble_eq_true rfl, Nat.le_of_ble_eq_true rfl⟩ (Nat.le_of_ble_eq_true rfl) ⟨Nat.le_of_ble_eq_true rfl, Nat.le_of_ble_eq_true rfl⟩ (ch_mono (ch_Ki (fun r10 m11 h => ?_)) h)
      exact ch_iret (ty := .int) d_x_childOf_95 rfl rfl (Nat.le_of_ble_eq_true rfl) h
    replace h := h.2
    by_cases e5 : p2 = 5
    · replace h := h.1 e5
      refine ch_tswIn (tgt := 96) (off := 90) d_x_childOf_6 (by rw [e5]; decide) (by rw [e5]; decide) (by rw [e5]; rfl) (by decide) ?_
      refine ch_aload_n (i := 0) d_x_childOf_96 rfl rfl ?_
      refine ch_get (v := .inr (1, 0, 0)) d_x_childOf_97 fl_x_10 rfl ?_
      refine ch_get (v := .inr (1, 0, 6)) d_x_childOf_100 fl_x_125 rfl ?_
      refine ch_iload_n (i := 1) d_x_childOf_103 rfl rfl ?_
      have b12 := h.1
      replace h := h.2
      refine ch_iald (n := 5) d_x_childOf_104 (by decide) rfl b12 ?_
      exact ch_iret (ty := .int) d_x_childOf_105 rfl rfl (Nat.le_of_ble_eq_true rfl) h
    replace h := h.2
    by_cases e6 : p2 = 6
    · replace h := h.1 e6
      refine ch_tswIn (tgt := 106) (off := 100) d_x_childOf_6 (by rw [e6]; decide) (by rw [e6]; decide) (by rw [e6]; rfl) (by decide) ?_
      refine ch_aload_n (i := 0) d_x_childOf_106 rfl rfl ?_
      refine ch_get (v := .inr (1, 0, 0)) d_x_childOf_107 fl_x_10 rfl ?_
      refine ch_get (v := .inr (1, 0, 7)) d_x_childOf_110 fl_x_128 rfl ?_
      refine ch_iload_n (i := 1) d_x_childOf_113 rfl rfl ?_
      have b13 := h.1
      replace h := h.2
      refine ch_iald (n := 5) d_x_childOf_114 (by decide) rfl b13 ?_
      exact ch_iret (ty := .int) d_x_childOf_115 rfl rfl (Nat.le_of_ble_eq_true rfl) h
    replace h := h.2
    have hx : (Int32.toInt p2 < 0 ∨ 6 < Int32.toInt p2) := by
      have f0 : Int32.toInt p2 ≠ 0 := fun q => e0 (Int32.toInt_inj.mp (q.trans (by decide)))
      have f1 : Int32.toInt p2 ≠ 1 := fun q => e1 (Int32.toInt_inj.mp (q.trans (by decide)))
      have f2 : Int32.toInt p2 ≠ 2 := fun q => e2 (Int32.toInt_inj.mp (q.trans (by decide)))
      have f3 : Int32.toInt p2 ≠ 3 := fun q => e3 (Int32.toInt_inj.mp (q.trans (by decide)))
      have f4 : Int32.toInt p2 ≠ 4 := fun q => e4 (Int32.toInt_inj.mp (q.trans (by decide)))
      have f5 : Int32.toInt p2 ≠ 5 := fun q => e5 (Int32.toInt_inj.mp (q.trans (by decide)))
      have f6 : Int32.toInt p2 ≠ 6 := fun q => e6 (Int32.toInt_inj.mp (q.trans (by decide)))
      omega
    replace h := h hx
    refine ch_tswOut (tgt := 116) d_x_childOf_6 hx (by decide) ?_
    exact ch_throw d_x_childOf_116 d_x_childOf_119 d_x_childOf_120 d_x_childOf_123 tw_x_131 (by decide) rfl (Nat.le_of_ble_eq_true rfl) (Nat.le_of_ble_eq_true rfl) (Nat.le_of_ble_eq_true rfl) h
  · exact ch_xout rfl (Nat.le_of_ble_eq_true rfl) h
theorem e_x_squares (g : ch_G) (Q : ch_O → ch_M → Prop) (p1 : Int32) (m : ch_M) (h : ch_J g m_x_squares (ch_rm m_x_squares) (ch_E g m_x_squares Q) 0 [some (.inr (0, 0, 0)), some (.inl (.int p1))] [] m 0) : ch_C g m_x_squares [.inr (0, 0, 0), .inl (.int p1)] m Q :=
  ch_enter mf_x_squares (by intro v hv; simp only [List.mem_cons, List.not_mem_nil, or_false] at hv; rcases hv with rfl | rfl <;> rfl) (Nat.le_of_ble_eq_true rfl) h
set_option maxHeartbeats 1600000 in
theorem g_x_squares_0 (g : ch_G) (Q : ch_O → ch_M → Prop) (p1 : Int32) (m : ch_M) (h : (ch_C g m_x_checkChild [.inr (0, 0, 0), .inl (.int p1)] m (ch_ox (ch_ov (fun (m2 : ch_M) => (ch_C g m_y_ownedFrom [.inr (1, 0, 0), .inl (.int p1), .inl (.int 0)] m2 (ch_oi (fun (r5 : Int32) (m6 : ch_M) => Q (.inl (some (.inl (.int r5)))) m6))))) (fun (n3 : Nat) (m4 : ch_M) => Q (.inr n3) m4)))) : ch_J g m_x_squares (ch_rm m_x_squares) (ch_E g m_x_squares Q) 0 [some (.inr (0, 0, 0)), some (.inl (.int p1))] [] m 0 := by
  refine ch_aload_n (i := 0) d_x_squares_0 rfl rfl ?_
  refine ch_iload_n (i := 1) d_x_squares_1 rfl rfl ?_
  refine ch_callV (as := [.inl (.int p1)]) d_x_squares_2 lk_x_106 mi_x_checkChild me_x_checkChild rfl rfl rfl ⟨Nat.le_of_ble_eq_true rfl, Nat.le_of_ble_eq_true rfl⟩ (Nat.le_of_ble_eq_true rfl) ⟨Nat.le_of_ble_eq_true rfl, Nat.le_of_ble_eq_true rfl⟩ (ch_mono (ch_Kx (ch_Kv (fun m2 h => ?_)) (fun n3 m4 hn h => ?_)) h)
  · skip
    refine ch_aload_n (i := 0) d_x_squares_5 rfl rfl ?_
    refine ch_get (v := .inr (1, 0, 0)) d_x_squares_6 fl_x_10 rfl ?_
    refine ch_iload_n (i := 1) d_x_squares_9 rfl rfl ?_
    refine ch_iconst (v := 0) d_x_squares_10 (by decide) ?_
    refine ch_callV (as := [.inl (.int p1), .inl (.int 0)]) d_x_squares_11 lk_x_134 mi_y_ownedFrom me_y_ownedFrom rfl rfl rfl ⟨Nat.le_of_ble_eq_true rfl, Nat.le_of_ble_eq_true rfl⟩ (Nat.le_of_ble_eq_true rfl) ⟨Nat.le_of_ble_eq_true rfl, Nat.le_of_ble_eq_true rfl⟩ (ch_mono (ch_Ki (fun r5 m6 h => ?_)) h)
    exact ch_iret (ty := .int) d_x_squares_14 rfl rfl (Nat.le_of_ble_eq_true rfl) h
  · exact ch_xout rfl (Nat.le_of_ble_eq_true rfl) h
theorem e_x_warrantAt (g : ch_G) (Q : ch_O → ch_M → Prop) (p1 : Int32) (m : ch_M) (h : ch_J g m_x_warrantAt (ch_rm m_x_warrantAt) (ch_E g m_x_warrantAt Q) 0 [some (.inr (0, 0, 0)), some (.inl (.int p1))] [] m 0) : ch_C g m_x_warrantAt [.inr (0, 0, 0), .inl (.int p1)] m Q :=
  ch_enter mf_x_warrantAt (by intro v hv; simp only [List.mem_cons, List.not_mem_nil, or_false] at hv; rcases hv with rfl | rfl <;> rfl) (Nat.le_of_ble_eq_true rfl) h
set_option maxHeartbeats 1600000 in
theorem g_x_warrantAt_0 (g : ch_G) (Q : ch_O → ch_M → Prop) (p1 : Int32) (m : ch_M) (h : ((p1 < 0 → Q (.inr 3) m) ∧ (¬ p1 < 0 → ((p1 < (m (1, 0, 0) 9) → (vp_in p1 5) ∧ Q (.inl (some (.inl (.int (m (1, 0, 8) (Int32.toNatClampNeg p1)))))) m) ∧ (¬ p1 < (m (1, 0, 0) 9) → Q (.inr 3) m))))) : ch_J g m_x_warrantAt (ch_rm m_x_warrantAt) (ch_E g m_x_warrantAt Q) 0 [some (.inr (0, 0, 0)), some (.inl (.int p1))] [] m 0 := by
  refine ch_iload_n (i := 1) d_x_warrantAt_0 rfl rfl ?_
  refine ch_if_lt (tgt := 15) d_x_warrantAt_1 (by decide) (fun c => ?_) (fun c => ?_)
  · replace h := h.1 c
    exact ch_throw d_x_warrantAt_15 d_x_warrantAt_18 d_x_warrantAt_19 d_x_warrantAt_22 tw_x_141 (by decide) rfl (Nat.le_of_ble_eq_true rfl) (Nat.le_of_ble_eq_true rfl) (Nat.le_of_ble_eq_true rfl) h
  · replace h := h.2 c
    refine ch_iload_n (i := 1) d_x_warrantAt_4 rfl rfl ?_
    refine ch_aload_n (i := 0) d_x_warrantAt_5 rfl rfl ?_
    refine ch_get (v := .inr (1, 0, 0)) d_x_warrantAt_6 fl_x_10 rfl ?_
    refine ch_get (v := .inl (.int (m (1, 0, 0) 9))) d_x_warrantAt_9 fl_x_138 rfl ?_
    refine ch_icmp_lt (tgt := 23) d_x_warrantAt_12 (by decide) (fun c => ?_) (fun c => ?_)
    · replace h := h.1 c
      refine ch_aload_n (i := 0) d_x_warrantAt_23 rfl rfl ?_
      refine ch_get (v := .inr (1, 0, 0)) d_x_warrantAt_24 fl_x_10 rfl ?_
      refine ch_get (v := .inr (1, 0, 8)) d_x_warrantAt_27 fl_x_144 rfl ?_
      refine ch_iload_n (i := 1) d_x_warrantAt_30 rfl rfl ?_
      have b1 := h.1
      replace h := h.2
      refine ch_iald (n := 5) d_x_warrantAt_31 (by decide) rfl b1 ?_
      exact ch_iret (ty := .int) d_x_warrantAt_32 rfl rfl (Nat.le_of_ble_eq_true rfl) h
    · replace h := h.2 c
      exact ch_throw d_x_warrantAt_15 d_x_warrantAt_18 d_x_warrantAt_19 d_x_warrantAt_22 tw_x_141 (by decide) rfl (Nat.le_of_ble_eq_true rfl) (Nat.le_of_ble_eq_true rfl) (Nat.le_of_ble_eq_true rfl) h
theorem e_x_fewest (g : ch_G) (Q : ch_O → ch_M → Prop) (p1 : Int32) (m : ch_M) (h : ch_J g m_x_fewest (ch_rm m_x_fewest) (ch_E g m_x_fewest Q) 0 [some (.inr (0, 0, 0)), some (.inl (.int p1))] [] m 0) : ch_C g m_x_fewest [.inr (0, 0, 0), .inl (.int p1)] m Q :=
  ch_enter mf_x_fewest (by intro v hv; simp only [List.mem_cons, List.not_mem_nil, or_false] at hv; rcases hv with rfl | rfl <;> rfl) (Nat.le_of_ble_eq_true rfl) h
set_option maxHeartbeats 1600000 in
theorem g_x_fewest_0 (g : ch_G) (Q : ch_O → ch_M → Prop) (p1 : Int32) (m : ch_M) (h : (ch_C g m_x_checkChild [.inr (0, 0, 0), .inl (.int p1)] m (ch_ox (ch_ov (fun (m2 : ch_M) => (ch_C g m_w_fewestBack [.inr (8, 0, 0), .inr (1, 0, 0), .inl (.int p1)] m2 (ch_oi (fun (r5 : Int32) (m6 : ch_M) => Q (.inl (some (.inl (.int r5)))) m6))))) (fun (n3 : Nat) (m4 : ch_M) => Q (.inr n3) m4)))) : ch_J g m_x_fewest (ch_rm m_x_fewest) (ch_E g m_x_fewest Q) 0 [some (.inr (0, 0, 0)), some (.inl (.int p1))] [] m 0 := by
  refine ch_aload_n (i := 0) d_x_fewest_0 rfl rfl ?_
  refine ch_iload_n (i := 1) d_x_fewest_1 rfl rfl ?_
  refine ch_callV (as := [.inl (.int p1)]) d_x_fewest_2 lk_x_106 mi_x_checkChild me_x_checkChild rfl rfl rfl ⟨Nat.le_of_ble_eq_true rfl, Nat.le_of_ble_eq_true rfl⟩ (Nat.le_of_ble_eq_true rfl) ⟨Nat.le_of_ble_eq_true rfl, Nat.le_of_ble_eq_true rfl⟩ (ch_mono (ch_Kx (ch_Kv (fun m2 h => ?_)) (fun n3 m4 hn h => ?_)) h)
  · skip
    refine ch_aload_n (i := 0) d_x_fewest_5 rfl rfl ?_
    refine ch_get (v := .inr (8, 0, 0)) d_x_fewest_6 fl_x_66 rfl ?_
    refine ch_aload_n (i := 0) d_x_fewest_9 rfl rfl ?_
    refine ch_get (v := .inr (1, 0, 0)) d_x_fewest_10 fl_x_10 rfl ?_
    refine ch_iload_n (i := 1) d_x_fewest_13 rfl rfl ?_
    refine ch_callV (as := [.inr (1, 0, 0), .inl (.int p1)]) d_x_fewest_14 lk_x_147 mi_w_fewestBack me_w_fewestBack rfl rfl rfl ⟨Nat.le_of_ble_eq_true rfl, Nat.le_of_ble_eq_true rfl⟩ (Nat.le_of_ble_eq_true rfl) ⟨Nat.le_of_ble_eq_true rfl, Nat.le_of_ble_eq_true rfl⟩ (ch_mono (ch_Ki (fun r5 m6 h => ?_)) h)
    exact ch_iret (ty := .int) d_x_fewest_17 rfl rfl (Nat.le_of_ble_eq_true rfl) h
  · exact ch_xout rfl (Nat.le_of_ble_eq_true rfl) h
theorem e_x_fewestAgain (g : ch_G) (Q : ch_O → ch_M → Prop) (p1 : Int32) (m : ch_M) (h : ch_J g m_x_fewestAgain (ch_rm m_x_fewestAgain) (ch_E g m_x_fewestAgain Q) 0 [some (.inr (0, 0, 0)), some (.inl (.int p1))] [] m 0) : ch_C g m_x_fewestAgain [.inr (0, 0, 0), .inl (.int p1)] m Q :=
  ch_enter mf_x_fewestAgain (by intro v hv; simp only [List.mem_cons, List.not_mem_nil, or_false] at hv; rcases hv with rfl | rfl <;> rfl) (Nat.le_of_ble_eq_true rfl) h
set_option maxHeartbeats 1600000 in
theorem g_x_fewestAgain_0 (g : ch_G) (Q : ch_O → ch_M → Prop) (p1 : Int32) (m : ch_M) (h : (ch_C g m_x_checkChild [.inr (0, 0, 0), .inl (.int p1)] m (ch_ox (ch_ov (fun (m2 : ch_M) => (ch_C g m_w_fewestOn [.inr (8, 0, 0), .inr (1, 0, 0), .inl (.int p1)] m2 (ch_oi (fun (r5 : Int32) (m6 : ch_M) => Q (.inl (some (.inl (.int r5)))) m6))))) (fun (n3 : Nat) (m4 : ch_M) => Q (.inr n3) m4)))) : ch_J g m_x_fewestAgain (ch_rm m_x_fewestAgain) (ch_E g m_x_fewestAgain Q) 0 [some (.inr (0, 0, 0)), some (.inl (.int p1))] [] m 0 := by
  refine ch_aload_n (i := 0) d_x_fewestAgain_0 rfl rfl ?_
  refine ch_iload_n (i := 1) d_x_fewestAgain_1 rfl rfl ?_
  refine ch_callV (as := [.inl (.int p1)]) d_x_fewestAgain_2 lk_x_106 mi_x_checkChild me_x_checkChild rfl rfl rfl ⟨Nat.le_of_ble_eq_true rfl, Nat.le_of_ble_eq_true rfl⟩ (Nat.le_of_ble_eq_true rfl) ⟨Nat.le_of_ble_eq_true rfl, Nat.le_of_ble_eq_true rfl⟩ (ch_mono (ch_Kx (ch_Kv (fun m2 h => ?_)) (fun n3 m4 hn h => ?_)) h)
  · skip
    refine ch_aload_n (i := 0) d_x_fewestAgain_5 rfl rfl ?_
    refine ch_get (v := .inr (8, 0, 0)) d_x_fewestAgain_6 fl_x_66 rfl ?_
    refine ch_aload_n (i := 0) d_x_fewestAgain_9 rfl rfl ?_
    refine ch_get (v := .inr (1, 0, 0)) d_x_fewestAgain_10 fl_x_10 rfl ?_
    refine ch_iload_n (i := 1) d_x_fewestAgain_13 rfl rfl ?_
    refine ch_callV (as := [.inr (1, 0, 0), .inl (.int p1)]) d_x_fewestAgain_14 lk_x_151 mi_w_fewestOn me_w_fewestOn rfl rfl rfl ⟨Nat.le_of_ble_eq_true rfl, Nat.le_of_ble_eq_true rfl⟩ (Nat.le_of_ble_eq_true rfl) ⟨Nat.le_of_ble_eq_true rfl, Nat.le_of_ble_eq_true rfl⟩ (ch_mono (ch_Ki (fun r5 m6 h => ?_)) h)
    exact ch_iret (ty := .int) d_x_fewestAgain_17 rfl rfl (Nat.le_of_ble_eq_true rfl) h
  · exact ch_xout rfl (Nat.le_of_ble_eq_true rfl) h
theorem e_x_step (g : ch_G) (Q : ch_O → ch_M → Prop) (p1 : Int32) (p2 : Int32) (m : ch_M) (h : ch_J g m_x_step (ch_rm m_x_step) (ch_E g m_x_step Q) 0 [some (.inr (0, 0, 0)), some (.inl (.int p1)), some (.inl (.int p2))] [] m 0) : ch_C g m_x_step [.inr (0, 0, 0), .inl (.int p1), .inl (.int p2)] m Q :=
  ch_enter mf_x_step (by intro v hv; simp only [List.mem_cons, List.not_mem_nil, or_false] at hv; rcases hv with rfl | rfl | rfl <;> rfl) (Nat.le_of_ble_eq_true rfl) h
set_option maxHeartbeats 1600000 in
theorem g_x_step_0 (g : ch_G) (Q : ch_O → ch_M → Prop) (p1 : Int32) (p2 : Int32) (m : ch_M) (h : (ch_C g m_x_checkChild [.inr (0, 0, 0), .inl (.int p1)] m (ch_ox (ch_ov (fun (m2 : ch_M) => (ch_C g m_w_fewestBack [.inr (8, 0, 0), .inr (1, 0, 0), .inl (.int p1)] m2 (ch_oi (fun (r5 : Int32) (m6 : ch_M) => (ch_C g m_w_tellBest [.inr (8, 0, 0), .inr (5, 1, 0)] m6 (ch_ov (fun (m8 : ch_M) => ((p2 < 0 → Q (.inr 3) m8) ∧ (¬ p2 < 0 → ((p2 < (m8 (5, 1, 0) 1) → (vp_in p2 12) ∧ Q (.inl (some (.inl (.int (m8 (5, 1, 1) (Int32.toNatClampNeg p2)))))) m8) ∧ (¬ p2 < (m8 (5, 1, 0) 1) → Q (.inr 3) m8)))))))))))) (fun (n3 : Nat) (m4 : ch_M) => Q (.inr n3) m4)))) : ch_J g m_x_step (ch_rm m_x_step) (ch_E g m_x_step Q) 0 [some (.inr (0, 0, 0)), some (.inl (.int p1)), some (.inl (.int p2))] [] m 0 := by
  refine ch_aload_n (i := 0) d_x_step_0 rfl rfl ?_
  refine ch_iload_n (i := 1) d_x_step_1 rfl rfl ?_
  refine ch_callV (as := [.inl (.int p1)]) d_x_step_2 lk_x_106 mi_x_checkChild me_x_checkChild rfl rfl rfl ⟨Nat.le_of_ble_eq_true rfl, Nat.le_of_ble_eq_true rfl⟩ (Nat.le_of_ble_eq_true rfl) ⟨Nat.le_of_ble_eq_true rfl, Nat.le_of_ble_eq_true rfl⟩ (ch_mono (ch_Kx (ch_Kv (fun m2 h => ?_)) (fun n3 m4 hn h => ?_)) h)
  · skip
    refine ch_aload_n (i := 0) d_x_step_5 rfl rfl ?_
    refine ch_get (v := .inr (8, 0, 0)) d_x_step_6 fl_x_66 rfl ?_
    refine ch_aload_n (i := 0) d_x_step_9 rfl rfl ?_
    refine ch_get (v := .inr (1, 0, 0)) d_x_step_10 fl_x_10 rfl ?_
    refine ch_iload_n (i := 1) d_x_step_13 rfl rfl ?_
    refine ch_callV (as := [.inr (1, 0, 0), .inl (.int p1)]) d_x_step_14 lk_x_147 mi_w_fewestBack me_w_fewestBack rfl rfl rfl ⟨Nat.le_of_ble_eq_true rfl, Nat.le_of_ble_eq_true rfl⟩ (Nat.le_of_ble_eq_true rfl) ⟨Nat.le_of_ble_eq_true rfl, Nat.le_of_ble_eq_true rfl⟩ (ch_mono (ch_Ki (fun r5 m6 h => ?_)) h)
    refine ch_pop d_x_step_17 rfl ?_
    refine ch_aload_n (i := 0) d_x_step_18 rfl rfl ?_
    refine ch_get (v := .inr (8, 0, 0)) d_x_step_19 fl_x_66 rfl ?_
    refine ch_aload_n (i := 0) d_x_step_22 rfl rfl ?_
    refine ch_get (v := .inr (5, 1, 0)) d_x_step_23 fl_x_73 rfl ?_
    refine ch_callV (as := [.inr (5, 1, 0)]) d_x_step_26 lk_x_154 mi_w_tellBest me_w_tellBest rfl rfl rfl ⟨Nat.le_of_ble_eq_true rfl, Nat.le_of_ble_eq_true rfl⟩ (Nat.le_of_ble_eq_true rfl) ⟨Nat.le_of_ble_eq_true rfl, Nat.le_of_ble_eq_true rfl⟩ (ch_mono (ch_Kv (fun m8 h => ?_)) h)
    refine ch_iload_n (i := 2) d_x_step_29 rfl rfl ?_
    refine ch_if_lt (tgt := 44) d_x_step_30 (by decide) (fun c => ?_) (fun c => ?_)
    · replace h := h.1 c
      exact ch_throw d_x_step_44 d_x_step_47 d_x_step_48 d_x_step_51 tw_x_141 (by decide) rfl (Nat.le_of_ble_eq_true rfl) (Nat.le_of_ble_eq_true rfl) (Nat.le_of_ble_eq_true rfl) h
    · replace h := h.2 c
      refine ch_iload_n (i := 2) d_x_step_33 rfl rfl ?_
      refine ch_aload_n (i := 0) d_x_step_34 rfl rfl ?_
      refine ch_get (v := .inr (5, 1, 0)) d_x_step_35 fl_x_73 rfl ?_
      refine ch_get (v := .inl (.int (m8 (5, 1, 0) 1))) d_x_step_38 fl_x_158 rfl ?_
      refine ch_icmp_lt (tgt := 52) d_x_step_41 (by decide) (fun c => ?_) (fun c => ?_)
      · replace h := h.1 c
        refine ch_aload_n (i := 0) d_x_step_52 rfl rfl ?_
        refine ch_get (v := .inr (5, 1, 0)) d_x_step_53 fl_x_73 rfl ?_
        refine ch_get (v := .inr (5, 1, 1)) d_x_step_56 fl_x_161 rfl ?_
        refine ch_iload_n (i := 2) d_x_step_59 rfl rfl ?_
        have b9 := h.1
        replace h := h.2
        refine ch_iald (n := 12) d_x_step_60 (by decide) rfl b9 ?_
        exact ch_iret (ty := .int) d_x_step_61 rfl rfl (Nat.le_of_ble_eq_true rfl) h
      · replace h := h.2 c
        exact ch_throw d_x_step_44 d_x_step_47 d_x_step_48 d_x_step_51 tw_x_141 (by decide) rfl (Nat.le_of_ble_eq_true rfl) (Nat.le_of_ble_eq_true rfl) (Nat.le_of_ble_eq_true rfl) h
  · exact ch_xout rfl (Nat.le_of_ble_eq_true rfl) h
theorem e_x_wouldTread (g : ch_G) (Q : ch_O → ch_M → Prop) (p1 : Int32) (p2 : Int32) (m : ch_M) (h : ch_J g m_x_wouldTread (ch_rm m_x_wouldTread) (ch_E g m_x_wouldTread Q) 0 [some (.inr (0, 0, 0)), some (.inl (.int p1)), some (.inl (.int p2))] [] m 0) : ch_C g m_x_wouldTread [.inr (0, 0, 0), .inl (.int p1), .inl (.int p2)] m Q :=
  ch_enter mf_x_wouldTread (by intro v hv; simp only [List.mem_cons, List.not_mem_nil, or_false] at hv; rcases hv with rfl | rfl | rfl <;> rfl) (Nat.le_of_ble_eq_true rfl) h
set_option maxHeartbeats 1600000 in
theorem g_x_wouldTread_0 (g : ch_G) (Q : ch_O → ch_M → Prop) (p1 : Int32) (p2 : Int32) (m : ch_M) (h : (ch_C g m_x_checkChild [.inr (0, 0, 0), .inl (.int p1)] m (ch_ox (ch_ov (fun (m2 : ch_M) => (ch_C g m_s_readFrom [.inr (5, 1, 0), .inl (.int p2)] m2 (ch_ov (fun (m6 : ch_M) => (((m6 (5, 1, 0) 1) = 0 → Q (.inr 2) m6) ∧ (¬ (m6 (5, 1, 0) 1) = 0 → (ch_C g m_s_misfit [.inr (5, 1, 0)] m6 (ch_oi (fun (r7 : Int32) (m8 : ch_M) => ((r7 = (-1) → (ch_C g m_y_countTreads [.inr (1, 0, 0), .inl (.int p1), .inr (5, 1, 0)] m8 (ch_oi (fun (r9 : Int32) (m10 : ch_M) => Q (.inl (some (.inl (.int r9)))) m10)))) ∧ (¬ r7 = (-1) → Q (.inr 2) m8)))))))))))) (fun (n3 : Nat) (m4 : ch_M) => Q (.inr n3) m4)))) : ch_J g m_x_wouldTread (ch_rm m_x_wouldTread) (ch_E g m_x_wouldTread Q) 0 [some (.inr (0, 0, 0)), some (.inl (.int p1)), some (.inl (.int p2))] [] m 0 := by
  refine ch_aload_n (i := 0) d_x_wouldTread_0 rfl rfl ?_
  refine ch_iload_n (i := 1) d_x_wouldTread_1 rfl rfl ?_
  refine ch_callV (as := [.inl (.int p1)]) d_x_wouldTread_2 lk_x_106 mi_x_checkChild me_x_checkChild rfl rfl rfl ⟨Nat.le_of_ble_eq_true rfl, Nat.le_of_ble_eq_true rfl⟩ (Nat.le_of_ble_eq_true rfl) ⟨Nat.le_of_ble_eq_true rfl, Nat.le_of_ble_eq_true rfl⟩ (ch_mono (ch_Kx (ch_Kv (fun m2 h => ?_)) (fun n3 m4 hn h => ?_)) h)
  · skip
    refine ch_aload_n (i := 0) d_x_wouldTread_5 rfl rfl ?_
    refine ch_get (v := .inr (5, 1, 0)) d_x_wouldTread_6 fl_x_73 rfl ?_
    refine ch_iload_n (i := 2) d_x_wouldTread_9 rfl rfl ?_
    refine ch_callV (as := [.inl (.int p2)]) d_x_wouldTread_10 lk_x_92 mi_s_readFrom me_s_readFrom rfl rfl rfl ⟨Nat.le_of_ble_eq_true rfl, Nat.le_of_ble_eq_true rfl⟩ (Nat.le_of_ble_eq_true rfl) ⟨Nat.le_of_ble_eq_true rfl, Nat.le_of_ble_eq_true rfl⟩ (ch_mono (ch_Kv (fun m6 h => ?_)) h)
    refine ch_aload_n (i := 0) d_x_wouldTread_13 rfl rfl ?_
    refine ch_get (v := .inr (5, 1, 0)) d_x_wouldTread_14 fl_x_73 rfl ?_
    refine ch_get (v := .inl (.int (m6 (5, 1, 0) 1))) d_x_wouldTread_17 fl_x_158 rfl ?_
    refine ch_if_eq (tgt := 34) d_x_wouldTread_20 (by decide) (fun c => ?_) (fun c => ?_)
    · replace h := h.1 c
      exact ch_throw d_x_wouldTread_34 d_x_wouldTread_37 d_x_wouldTread_38 d_x_wouldTread_41 tw_x_131 (by decide) rfl (Nat.le_of_ble_eq_true rfl) (Nat.le_of_ble_eq_true rfl) (Nat.le_of_ble_eq_true rfl) h
    · replace h := h.2 c
      refine ch_aload_n (i := 0) d_x_wouldTread_23 rfl rfl ?_
      refine ch_get (v := .inr (5, 1, 0)) d_x_wouldTread_24 fl_x_73 rfl ?_
      refine ch_callV (as := []) d_x_wouldTread_27 lk_x_164 mi_s_misfit me_s_misfit rfl rfl rfl ⟨Nat.le_of_ble_eq_true rfl, Nat.le_of_ble_eq_true rfl⟩ (Nat.le_of_ble_eq_true rfl) ⟨Nat.le_of_ble_eq_true rfl, Nat.le_of_ble_eq_true rfl⟩ (ch_mono (ch_Ki (fun r7 m8 h => ?_)) h)
      refine ch_iconst (v := (-1)) d_x_wouldTread_30 (by decide) ?_
      refine ch_icmp_eq (tgt := 42) d_x_wouldTread_31 (by decide) (fun c => ?_) (fun c => ?_)
      · replace h := h.1 c
        refine ch_aload_n (i := 0) d_x_wouldTread_42 rfl rfl ?_
        refine ch_get (v := .inr (1, 0, 0)) d_x_wouldTread_43 fl_x_10 rfl ?_
        refine ch_iload_n (i := 1) d_x_wouldTread_46 rfl rfl ?_
        refine ch_aload_n (i := 0) d_x_wouldTread_47 rfl rfl ?_
        refine ch_get (v := .inr (5, 1, 0)) d_x_wouldTread_48 fl_x_73 rfl ?_
        refine ch_callV (as := [.inl (.int p1), .inr (5, 1, 0)]) d_x_wouldTread_51 lk_x_167 mi_y_countTreads me_y_countTreads rfl rfl rfl ⟨Nat.le_of_ble_eq_true rfl, Nat.le_of_ble_eq_true rfl⟩ (Nat.le_of_ble_eq_true rfl) ⟨Nat.le_of_ble_eq_true rfl, Nat.le_of_ble_eq_true rfl⟩ (ch_mono (ch_Ki (fun r9 m10 h => ?_)) h)
        exact ch_iret (ty := .int) d_x_wouldTread_54 rfl rfl (Nat.le_of_ble_eq_true rfl) h
      · replace h := h.2 c
        exact ch_throw d_x_wouldTread_34 d_x_wouldTread_37 d_x_wouldTread_38 d_x_wouldTread_41 tw_x_131 (by decide) rfl (Nat.le_of_ble_eq_true rfl) (Nat.le_of_ble_eq_true rfl) (Nat.le_of_ble_eq_true rfl) h
  · exact ch_xout rfl (Nat.le_of_ble_eq_true rfl) h
theorem e_x_longest (g : ch_G) (Q : ch_O → ch_M → Prop) (p1 : Int32) (m : ch_M) (h : ch_J g m_x_longest (ch_rm m_x_longest) (ch_E g m_x_longest Q) 0 [some (.inr (0, 0, 0)), some (.inl (.int p1))] [] m 0) : ch_C g m_x_longest [.inr (0, 0, 0), .inl (.int p1)] m Q :=
  ch_enter mf_x_longest (by intro v hv; simp only [List.mem_cons, List.not_mem_nil, or_false] at hv; rcases hv with rfl | rfl <;> rfl) (Nat.le_of_ble_eq_true rfl) h
set_option maxHeartbeats 1600000 in
theorem g_x_longest_0 (g : ch_G) (Q : ch_O → ch_M → Prop) (p1 : Int32) (m : ch_M) (h : (ch_C g m_x_checkChild [.inr (0, 0, 0), .inl (.int p1)] m (ch_ox (ch_ov (fun (m2 : ch_M) => (ch_C g m_y_longestRun [.inr (1, 0, 0), .inl (.int p1)] m2 (ch_oi (fun (r5 : Int32) (m6 : ch_M) => Q (.inl (some (.inl (.int r5)))) m6))))) (fun (n3 : Nat) (m4 : ch_M) => Q (.inr n3) m4)))) : ch_J g m_x_longest (ch_rm m_x_longest) (ch_E g m_x_longest Q) 0 [some (.inr (0, 0, 0)), some (.inl (.int p1))] [] m 0 := by
  refine ch_aload_n (i := 0) d_x_longest_0 rfl rfl ?_
  refine ch_iload_n (i := 1) d_x_longest_1 rfl rfl ?_
  refine ch_callV (as := [.inl (.int p1)]) d_x_longest_2 lk_x_106 mi_x_checkChild me_x_checkChild rfl rfl rfl ⟨Nat.le_of_ble_eq_true rfl, Nat.le_of_ble_eq_true rfl⟩ (Nat.le_of_ble_eq_true rfl) ⟨Nat.le_of_ble_eq_true rfl, Nat.le_of_ble_eq_true rfl⟩ (ch_mono (ch_Kx (ch_Kv (fun m2 h => ?_)) (fun n3 m4 hn h => ?_)) h)
  · skip
    refine ch_aload_n (i := 0) d_x_longest_5 rfl rfl ?_
    refine ch_get (v := .inr (1, 0, 0)) d_x_longest_6 fl_x_10 rfl ?_
    refine ch_iload_n (i := 1) d_x_longest_9 rfl rfl ?_
    refine ch_callV (as := [.inl (.int p1)]) d_x_longest_10 lk_x_171 mi_y_longestRun me_y_longestRun rfl rfl rfl ⟨Nat.le_of_ble_eq_true rfl, Nat.le_of_ble_eq_true rfl⟩ (Nat.le_of_ble_eq_true rfl) ⟨Nat.le_of_ble_eq_true rfl, Nat.le_of_ble_eq_true rfl⟩ (ch_mono (ch_Ki (fun r5 m6 h => ?_)) h)
    exact ch_iret (ty := .int) d_x_longest_13 rfl rfl (Nat.le_of_ble_eq_true rfl) h
  · exact ch_xout rfl (Nat.le_of_ble_eq_true rfl) h
theorem e_x_gap (g : ch_G) (Q : ch_O → ch_M → Prop)  (m : ch_M) (h : ch_J g m_x_gap (ch_rm m_x_gap) (ch_E g m_x_gap Q) 0 [some (.inr (0, 0, 0))] [] m 0) : ch_C g m_x_gap [.inr (0, 0, 0)] m Q :=
  ch_enter mf_x_gap (by intro v hv; simp only [List.mem_cons, List.not_mem_nil, or_false] at hv; rcases hv with rfl <;> rfl) (Nat.le_of_ble_eq_true rfl) h
set_option maxHeartbeats 1600000 in
theorem g_x_gap_0 (g : ch_G) (Q : ch_O → ch_M → Prop)  (m : ch_M) (h : (ch_C g m_y_longestRun [.inr (1, 0, 0), .inl (.int (-1))] m (ch_oi (fun (r1 : Int32) (m2 : ch_M) => Q (.inl (some (.inl (.int r1)))) m2)))) : ch_J g m_x_gap (ch_rm m_x_gap) (ch_E g m_x_gap Q) 0 [some (.inr (0, 0, 0))] [] m 0 := by
  refine ch_aload_n (i := 0) d_x_gap_0 rfl rfl ?_
  refine ch_get (v := .inr (1, 0, 0)) d_x_gap_1 fl_x_10 rfl ?_
  refine ch_iconst (v := (-1)) d_x_gap_4 (by decide) ?_
  refine ch_callV (as := [.inl (.int (-1))]) d_x_gap_5 lk_x_171 mi_y_longestRun me_y_longestRun rfl rfl rfl ⟨Nat.le_of_ble_eq_true rfl, Nat.le_of_ble_eq_true rfl⟩ (Nat.le_of_ble_eq_true rfl) ⟨Nat.le_of_ble_eq_true rfl, Nat.le_of_ble_eq_true rfl⟩ (ch_mono (ch_Ki (fun r1 m2 h => ?_)) h)
  exact ch_iret (ty := .int) d_x_gap_8 rfl rfl (Nat.le_of_ble_eq_true rfl) h
theorem e_x_wouldEnd (g : ch_G) (Q : ch_O → ch_M → Prop) (p1 : Int32) (m : ch_M) (h : ch_J g m_x_wouldEnd (ch_rm m_x_wouldEnd) (ch_E g m_x_wouldEnd Q) 0 [some (.inr (0, 0, 0)), some (.inl (.int p1))] [] m 0) : ch_C g m_x_wouldEnd [.inr (0, 0, 0), .inl (.int p1)] m Q :=
  ch_enter mf_x_wouldEnd (by intro v hv; simp only [List.mem_cons, List.not_mem_nil, or_false] at hv; rcases hv with rfl | rfl <;> rfl) (Nat.le_of_ble_eq_true rfl) h
set_option maxHeartbeats 1600000 in
theorem g_x_wouldEnd_0 (g : ch_G) (Q : ch_O → ch_M → Prop) (p1 : Int32) (m : ch_M) (h : ((p1 < 1 → Q (.inr 2) m) ∧ (¬ p1 < 1 → ((p1 ≤ 9 → (ch_C g m_y_copyFrom [.inr (1, 2, 0), .inr (1, 0, 0)] m (ch_ov (fun (m2 : ch_M) => (ch_C g m_y_wash [.inr (1, 2, 0), .inl (.int p1)] m2 (ch_oi (fun (r3 : Int32) (m4 : ch_M) => Q (.inl (some (.inl (.int r3)))) m4))))))) ∧ (¬ p1 ≤ 9 → Q (.inr 2) m))))) : ch_J g m_x_wouldEnd (ch_rm m_x_wouldEnd) (ch_E g m_x_wouldEnd Q) 0 [some (.inr (0, 0, 0)), some (.inl (.int p1))] [] m 0 := by
  refine ch_iload_n (i := 1) d_x_wouldEnd_0 rfl rfl ?_
  refine ch_iconst (v := 1) d_x_wouldEnd_1 (by decide) ?_
  refine ch_icmp_lt (tgt := 11) d_x_wouldEnd_2 (by decide) (fun c => ?_) (fun c => ?_)
  · replace h := h.1 c
    exact ch_throw d_x_wouldEnd_11 d_x_wouldEnd_14 d_x_wouldEnd_15 d_x_wouldEnd_18 tw_x_131 (by decide) rfl (Nat.le_of_ble_eq_true rfl) (Nat.le_of_ble_eq_true rfl) (Nat.le_of_ble_eq_true rfl) h
  · replace h := h.2 c
    refine ch_iload_n (i := 1) d_x_wouldEnd_5 rfl rfl ?_
    refine ch_bipush (v := 9) d_x_wouldEnd_6 (by decide) ?_
    refine ch_icmp_le (tgt := 19) d_x_wouldEnd_8 (by decide) (fun c => ?_) (fun c => ?_)
    · replace h := h.1 c
      refine ch_aload_n (i := 0) d_x_wouldEnd_19 rfl rfl ?_
      refine ch_get (v := .inr (1, 2, 0)) d_x_wouldEnd_20 fl_x_19 rfl ?_
      refine ch_aload_n (i := 0) d_x_wouldEnd_23 rfl rfl ?_
      refine ch_get (v := .inr (1, 0, 0)) d_x_wouldEnd_24 fl_x_10 rfl ?_
      refine ch_callV (as := [.inr (1, 0, 0)]) d_x_wouldEnd_27 lk_x_174 mi_y_copyFrom me_y_copyFrom rfl rfl rfl ⟨Nat.le_of_ble_eq_true rfl, Nat.le_of_ble_eq_true rfl⟩ (Nat.le_of_ble_eq_true rfl) ⟨Nat.le_of_ble_eq_true rfl, Nat.le_of_ble_eq_true rfl⟩ (ch_mono (ch_Kv (fun m2 h => ?_)) h)
      refine ch_aload_n (i := 0) d_x_wouldEnd_30 rfl rfl ?_
      refine ch_get (v := .inr (1, 2, 0)) d_x_wouldEnd_31 fl_x_19 rfl ?_
      refine ch_iload_n (i := 1) d_x_wouldEnd_34 rfl rfl ?_
      refine ch_callV (as := [.inl (.int p1)]) d_x_wouldEnd_35 lk_x_178 mi_y_wash me_y_wash rfl rfl rfl ⟨Nat.le_of_ble_eq_true rfl, Nat.le_of_ble_eq_true rfl⟩ (Nat.le_of_ble_eq_true rfl) ⟨Nat.le_of_ble_eq_true rfl, Nat.le_of_ble_eq_true rfl⟩ (ch_mono (ch_Ki (fun r3 m4 h => ?_)) h)
      exact ch_iret (ty := .int) d_x_wouldEnd_38 rfl rfl (Nat.le_of_ble_eq_true rfl) h
    · replace h := h.2 c
      exact ch_throw d_x_wouldEnd_11 d_x_wouldEnd_14 d_x_wouldEnd_15 d_x_wouldEnd_18 tw_x_131 (by decide) rfl (Nat.le_of_ble_eq_true rfl) (Nat.le_of_ble_eq_true rfl) (Nat.le_of_ble_eq_true rfl) h
theorem e_x_rainFor (g : ch_G) (Q : ch_O → ch_M → Prop) (p1 : Int32) (m : ch_M) (h : ch_J g m_x_rainFor (ch_rm m_x_rainFor) (ch_E g m_x_rainFor Q) 0 [some (.inr (0, 0, 0)), some (.inl (.int p1))] [] m 0) : ch_C g m_x_rainFor [.inr (0, 0, 0), .inl (.int p1)] m Q :=
  ch_enter mf_x_rainFor (by intro v hv; simp only [List.mem_cons, List.not_mem_nil, or_false] at hv; rcases hv with rfl | rfl <;> rfl) (Nat.le_of_ble_eq_true rfl) h
set_option maxHeartbeats 1600000 in
theorem g_x_rainFor_0 (g : ch_G) (Q : ch_O → ch_M → Prop) (p1 : Int32) (m : ch_M) (h : (ch_C g m_x_checkChild [.inr (0, 0, 0), .inl (.int p1)] m (ch_ox (ch_ov (fun (m2 : ch_M) => (vp_in p1 5) ∧ ((¬ (m2 (1, 0, 5) (Int32.toNatClampNeg p1)) = 0 → Q (.inl (some (.inl (.int (m2 (1, 0, 5) (Int32.toNatClampNeg p1)))))) m2) ∧ ((m2 (1, 0, 5) (Int32.toNatClampNeg p1)) = 0 → Q (.inr 3) m2)))) (fun (n3 : Nat) (m4 : ch_M) => Q (.inr n3) m4)))) : ch_J g m_x_rainFor (ch_rm m_x_rainFor) (ch_E g m_x_rainFor Q) 0 [some (.inr (0, 0, 0)), some (.inl (.int p1))] [] m 0 := by
  refine ch_aload_n (i := 0) d_x_rainFor_0 rfl rfl ?_
  refine ch_iload_n (i := 1) d_x_rainFor_1 rfl rfl ?_
  refine ch_callV (as := [.inl (.int p1)]) d_x_rainFor_2 lk_x_106 mi_x_checkChild me_x_checkChild rfl rfl rfl ⟨Nat.le_of_ble_eq_true rfl, Nat.le_of_ble_eq_true rfl⟩ (Nat.le_of_ble_eq_true rfl) ⟨Nat.le_of_ble_eq_true rfl, Nat.le_of_ble_eq_true rfl⟩ (ch_mono (ch_Kx (ch_Kv (fun m2 h => ?_)) (fun n3 m4 hn h => ?_)) h)
  · skip
    refine ch_aload_n (i := 0) d_x_rainFor_5 rfl rfl ?_
    refine ch_get (v := .inr (1, 0, 0)) d_x_rainFor_6 fl_x_10 rfl ?_
    refine ch_get (v := .inr (1, 0, 5)) d_x_rainFor_9 fl_x_115 rfl ?_
    refine ch_iload_n (i := 1) d_x_rainFor_12 rfl rfl ?_
    have b5 := h.1
    replace h := h.2
    refine ch_iald (n := 5) d_x_rainFor_13 (by decide) rfl b5 ?_
    refine ch_if_ne (tgt := 25) d_x_rainFor_14 (by decide) (fun c => ?_) (fun c => ?_)
    · replace h := h.1 c
      refine ch_aload_n (i := 0) d_x_rainFor_25 rfl rfl ?_
      refine ch_get (v := .inr (1, 0, 0)) d_x_rainFor_26 fl_x_10 rfl ?_
      refine ch_get (v := .inr (1, 0, 5)) d_x_rainFor_29 fl_x_115 rfl ?_
      refine ch_iload_n (i := 1) d_x_rainFor_32 rfl rfl ?_
      refine ch_iald (n := 5) d_x_rainFor_33 (by decide) rfl b5 ?_
      exact ch_iret (ty := .int) d_x_rainFor_34 rfl rfl (Nat.le_of_ble_eq_true rfl) h
    · replace h := h.2 c
      exact ch_throw d_x_rainFor_17 d_x_rainFor_20 d_x_rainFor_21 d_x_rainFor_24 tw_x_141 (by decide) rfl (Nat.le_of_ble_eq_true rfl) (Nat.le_of_ble_eq_true rfl) (Nat.le_of_ble_eq_true rfl) h
  · exact ch_xout rfl (Nat.le_of_ble_eq_true rfl) h
theorem e_x_wouldLose (g : ch_G) (Q : ch_O → ch_M → Prop) (p1 : Int32) (m : ch_M) (h : ch_J g m_x_wouldLose (ch_rm m_x_wouldLose) (ch_E g m_x_wouldLose Q) 0 [some (.inr (0, 0, 0)), some (.inl (.int p1))] [] m 0) : ch_C g m_x_wouldLose [.inr (0, 0, 0), .inl (.int p1)] m Q :=
  ch_enter mf_x_wouldLose (by intro v hv; simp only [List.mem_cons, List.not_mem_nil, or_false] at hv; rcases hv with rfl | rfl <;> rfl) (Nat.le_of_ble_eq_true rfl) h
set_option maxHeartbeats 1600000 in
theorem g_x_wouldLose_0 (g : ch_G) (Q : ch_O → ch_M → Prop) (p1 : Int32) (m : ch_M) (h : (ch_C g m_x_checkChild [.inr (0, 0, 0), .inl (.int p1)] m (ch_ox (ch_ov (fun (m2 : ch_M) => (vp_in p1 5) ∧ (ch_C g m_y_ownedFrom [.inr (1, 0, 0), .inl (.int p1), .inl (.int (m2 (1, 0, 3) (Int32.toNatClampNeg p1)))] m2 (ch_oi (fun (r6 : Int32) (m7 : ch_M) => Q (.inl (some (.inl (.int r6)))) m7))))) (fun (n3 : Nat) (m4 : ch_M) => Q (.inr n3) m4)))) : ch_J g m_x_wouldLose (ch_rm m_x_wouldLose) (ch_E g m_x_wouldLose Q) 0 [some (.inr (0, 0, 0)), some (.inl (.int p1))] [] m 0 := by
  refine ch_aload_n (i := 0) d_x_wouldLose_0 rfl rfl ?_
  refine ch_iload_n (i := 1) d_x_wouldLose_1 rfl rfl ?_
  refine ch_callV (as := [.inl (.int p1)]) d_x_wouldLose_2 lk_x_106 mi_x_checkChild me_x_checkChild rfl rfl rfl ⟨Nat.le_of_ble_eq_true rfl, Nat.le_of_ble_eq_true rfl⟩ (Nat.le_of_ble_eq_true rfl) ⟨Nat.le_of_ble_eq_true rfl, Nat.le_of_ble_eq_true rfl⟩ (ch_mono (ch_Kx (ch_Kv (fun m2 h => ?_)) (fun n3 m4 hn h => ?_)) h)
  · skip
    refine ch_aload_n (i := 0) d_x_wouldLose_5 rfl rfl ?_
    refine ch_get (v := .inr (1, 0, 0)) d_x_wouldLose_6 fl_x_10 rfl ?_
    refine ch_iload_n (i := 1) d_x_wouldLose_9 rfl rfl ?_
    refine ch_aload_n (i := 0) d_x_wouldLose_10 rfl rfl ?_
    refine ch_get (v := .inr (1, 0, 0)) d_x_wouldLose_11 fl_x_10 rfl ?_
    refine ch_get (v := .inr (1, 0, 3)) d_x_wouldLose_14 fl_x_109 rfl ?_
    refine ch_iload_n (i := 1) d_x_wouldLose_17 rfl rfl ?_
    have b5 := h.1
    replace h := h.2
    refine ch_iald (n := 5) d_x_wouldLose_18 (by decide) rfl b5 ?_
    refine ch_callV (as := [.inl (.int p1), .inl (.int (m2 (1, 0, 3) (Int32.toNatClampNeg p1)))]) d_x_wouldLose_19 lk_x_134 mi_y_ownedFrom me_y_ownedFrom rfl rfl rfl ⟨Nat.le_of_ble_eq_true rfl, Nat.le_of_ble_eq_true rfl⟩ (Nat.le_of_ble_eq_true rfl) ⟨Nat.le_of_ble_eq_true rfl, Nat.le_of_ble_eq_true rfl⟩ (ch_mono (ch_Ki (fun r6 m7 h => ?_)) h)
    exact ch_iret (ty := .int) d_x_wouldLose_22 rfl rfl (Nat.le_of_ble_eq_true rfl) h
  · exact ch_xout rfl (Nat.le_of_ble_eq_true rfl) h
