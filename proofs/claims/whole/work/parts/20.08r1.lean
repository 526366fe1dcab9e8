theorem e_r_refuseStrike (g : ch_G) (Q : ch_O → ch_M → Prop) (j1 : Nat) (p2 : Int32) (m : ch_M) (h : ch_J g m_r_refuseStrike (ch_rm m_r_refuseStrike) (ch_E g m_r_refuseStrike Q) 0 [some (.inr (3, 0, 0)), some (.inr (1, j1, 0)), some (.inl (.int p2))] [] m 0) : ch_C g m_r_refuseStrike [.inr (3, 0, 0), .inr (1, j1, 0), .inl (.int p2)] m Q :=
  ch_enter mf_r_refuseStrike (by intro v hv; simp only [List.mem_cons, List.not_mem_nil, or_false] at hv; rcases hv with rfl | rfl | rfl <;> rfl) (Nat.le_of_ble_eq_true rfl) h
set_option maxHeartbeats 1600000 in
theorem g_r_refuseStrike_0 (g : ch_G) (Q : ch_O → ch_M → Prop) (j1 : Nat) (p2 : Int32) (m : ch_M) (h : (ch_C g m_r_lacksChild [.inr (3, 0, 0), .inr (1, j1, 0), .inl (.int p2)] m (ch_oi (fun (r1 : Int32) (m2 : ch_M) => ((¬ r1 = 0 → Q (.inl (some (.inl (.int 1)))) m2) ∧ (r1 = 0 → (vp_in p2 5) ∧ ((¬ (m2 (1, j1, 5) (Int32.toNatClampNeg p2)) = 0 → (ch_C g m_r_lacksPebbles [.inr (3, 0, 0), .inr (1, j1, 0), .inl (.int p2), .inl (.int (m2 (1, j1, 5) (Int32.toNatClampNeg p2)))] m2 (ch_oi (fun (r4 : Int32) (m5 : ch_M) => ((r4 = 0 → Q (.inl (some (.inl (.int 0)))) m5) ∧ (¬ r4 = 0 → Q (.inl (some (.inl (.int 1)))) m5)))))) ∧ ((m2 (1, j1, 5) (Int32.toNatClampNeg p2)) = 0 → (ch_C g m_r_keep [.inr (3, 0, 0), .inl (.int 10), .inl (.int 0)] m2 (ch_oi (fun (r6 : Int32) (m7 : ch_M) => ((¬ r6 = 0 → Q (.inl (some (.inl (.int 1)))) m7) ∧ (r6 = 0 → (ch_C g m_r_lacksPebbles [.inr (3, 0, 0), .inr (1, j1, 0), .inl (.int p2), .inl (.int (m7 (1, j1, 5) (Int32.toNatClampNeg p2)))] m7 (ch_oi (fun (r8 : Int32) (m9 : ch_M) => ((r8 = 0 → Q (.inl (some (.inl (.int 0)))) m9) ∧ (¬ r8 = 0 → Q (.inl (some (.inl (.int 1)))) m9)))))))))))))))))) : ch_J g m_r_refuseStrike (ch_rm m_r_refuseStrike) (ch_E g m_r_refuseStrike Q) 0 [some (.inr (3, 0, 0)), some (.inr (1, j1, 0)), some (.inl (.int p2))] [] m 0 := by
  refine ch_aload_n (i := 0) d_r_refuseStrike_0 rfl rfl ?_
  refine ch_aload_n (i := 1) d_r_refuseStrike_1 rfl rfl ?_
  refine ch_iload_n (i := 2) d_r_refuseStrike_2 rfl rfl ?_
  refine ch_callV (as := [.inr (1, j1, 0), .inl (.int p2)]) d_r_refuseStrike_3 lk_r_72 mi_r_lacksChild me_r_lacksChild rfl rfl rfl ⟨Nat.le_of_ble_eq_true rfl, Nat.le_of_ble_eq_true rfl⟩ (Nat.le_of_ble_eq_true rfl) ⟨Nat.le_of_ble_eq_true rfl, Nat.le_of_ble_eq_true rfl⟩ (ch_mono (ch_Ki (fun r1 m2 h => ?_)) h)
  refine ch_if_ne (tgt := 43) d_r_refuseStrike_6 (by decide) (fun c => ?_) (fun c => ?_)
  · replace h := h.1 c
    refine ch_iconst (v := 1) d_r_refuseStrike_43 (by decide) ?_
    refine ch_goto (tgt := 48) d_r_refuseStrike_44 (by decide) ?_
    exact ch_iret (ty := .boolean) d_r_refuseStrike_48 rfl rfl (Nat.le_of_ble_eq_true rfl) h
  · replace h := h.2 c
    refine ch_aload_n (i := 1) d_r_refuseStrike_9 rfl rfl ?_
    refine ch_get (v := .inr (1, j1, 5)) d_r_refuseStrike_10 fl_r_100 rfl ?_
    refine ch_iload_n (i := 2) d_r_refuseStrike_13 rfl rfl ?_
    have b3 := h.1
    replace h := h.2
    refine ch_iald (n := 5) d_r_refuseStrike_14 (by decide) rfl b3 ?_
    refine ch_if_ne (tgt := 28) d_r_refuseStrike_15 (by decide) (fun c => ?_) (fun c => ?_)
    · replace h := h.1 c
      refine ch_aload_n (i := 0) d_r_refuseStrike_28 rfl rfl ?_
      refine ch_aload_n (i := 1) d_r_refuseStrike_29 rfl rfl ?_
      refine ch_iload_n (i := 2) d_r_refuseStrike_30 rfl rfl ?_
      refine ch_aload_n (i := 1) d_r_refuseStrike_31 rfl rfl ?_
      refine ch_get (v := .inr (1, j1, 5)) d_r_refuseStrike_32 fl_r_100 rfl ?_
      refine ch_iload_n (i := 2) d_r_refuseStrike_35 rfl rfl ?_
      refine ch_iald (n := 5) d_r_refuseStrike_36 (by decide) rfl b3 ?_
      refine ch_callV (as := [.inr (1, j1, 0), .inl (.int p2), .inl (.int (m2 (1, j1, 5) (Int32.toNatClampNeg p2)))]) d_r_refuseStrike_37 lk_r_82 mi_r_lacksPebbles me_r_lacksPebbles rfl rfl rfl ⟨Nat.le_of_ble_eq_true rfl, Nat.le_of_ble_eq_true rfl⟩ (Nat.le_of_ble_eq_true rfl) ⟨Nat.le_of_ble_eq_true rfl, Nat.le_of_ble_eq_true rfl⟩ (ch_mono (ch_Ki (fun r4 m5 h => ?_)) h)
      refine ch_if_eq (tgt := 47) d_r_refuseStrike_40 (by decide) (fun c => ?_) (fun c => ?_)
      · replace h := h.1 c
        refine ch_iconst (v := 0) d_r_refuseStrike_47 (by decide) ?_
        exact ch_iret (ty := .boolean) d_r_refuseStrike_48 rfl rfl (Nat.le_of_ble_eq_true rfl) h
      · replace h := h.2 c
        refine ch_iconst (v := 1) d_r_refuseStrike_43 (by decide) ?_
        refine ch_goto (tgt := 48) d_r_refuseStrike_44 (by decide) ?_
        exact ch_iret (ty := .boolean) d_r_refuseStrike_48 rfl rfl (Nat.le_of_ble_eq_true rfl) h
    · replace h := h.2 c
      refine ch_aload_n (i := 0) d_r_refuseStrike_18 rfl rfl ?_
      refine ch_bipush (v := 10) d_r_refuseStrike_19 (by decide) ?_
      refine ch_iconst (v := 0) d_r_refuseStrike_21 (by decide) ?_
      refine ch_callV (as := [.inl (.int 10), .inl (.int 0)]) d_r_refuseStrike_22 lk_r_68 mi_r_keep me_r_keep rfl rfl rfl ⟨Nat.le_of_ble_eq_true rfl, Nat.le_of_ble_eq_true rfl⟩ (Nat.le_of_ble_eq_true rfl) ⟨Nat.le_of_ble_eq_true rfl, Nat.le_of_ble_eq_true rfl⟩ (ch_mono (ch_Ki (fun r6 m7 h => ?_)) h)
      refine ch_if_ne (tgt := 43) d_r_refuseStrike_25 (by decide) (fun c => ?_) (fun c => ?_)
      · replace h := h.1 c
        refine ch_iconst (v := 1) d_r_refuseStrike_43 (by decide) ?_
        refine ch_goto (tgt := 48) d_r_refuseStrike_44 (by decide) ?_
        exact ch_iret (ty := .boolean) d_r_refuseStrike_48 rfl rfl (Nat.le_of_ble_eq_true rfl) h
      · replace h := h.2 c
        refine ch_aload_n (i := 0) d_r_refuseStrike_28 rfl rfl ?_
        refine ch_aload_n (i := 1) d_r_refuseStrike_29 rfl rfl ?_
        refine ch_iload_n (i := 2) d_r_refuseStrike_30 rfl rfl ?_
        refine ch_aload_n (i := 1) d_r_refuseStrike_31 rfl rfl ?_
        refine ch_get (v := .inr (1, j1, 5)) d_r_refuseStrike_32 fl_r_100 rfl ?_
        refine ch_iload_n (i := 2) d_r_refuseStrike_35 rfl rfl ?_
        refine ch_iald (n := 5) d_r_refuseStrike_36 (by decide) rfl b3 ?_
        refine ch_callV (as := [.inr (1, j1, 0), .inl (.int p2), .inl (.int (m7 (1, j1, 5) (Int32.toNatClampNeg p2)))]) d_r_refuseStrike_37 lk_r_82 mi_r_lacksPebbles me_r_lacksPebbles rfl rfl rfl ⟨Nat.le_of_ble_eq_true rfl, Nat.le_of_ble_eq_true rfl⟩ (Nat.le_of_ble_eq_true rfl) ⟨Nat.le_of_ble_eq_true rfl, Nat.le_of_ble_eq_true rfl⟩ (ch_mono (ch_Ki (fun r8 m9 h => ?_)) h)
        refine ch_if_eq (tgt := 47) d_r_refuseStrike_40 (by decide) (fun c => ?_) (fun c => ?_)
        · replace h := h.1 c
          refine ch_iconst (v := 0) d_r_refuseStrike_47 (by decide) ?_
          exact ch_iret (ty := .boolean) d_r_refuseStrike_48 rfl rfl (Nat.le_of_ble_eq_true rfl) h
        · replace h := h.2 c
          refine ch_iconst (v := 1) d_r_refuseStrike_43 (by decide) ?_
          refine ch_goto (tgt := 48) d_r_refuseStrike_44 (by decide) ?_
          exact ch_iret (ty := .boolean) d_r_refuseStrike_48 rfl rfl (Nat.le_of_ble_eq_true rfl) h
theorem e_r_refuseRain (g : ch_G) (Q : ch_O → ch_M → Prop) (j1 : Nat) (p2 : Int32) (m : ch_M) (h : ch_J g m_r_refuseRain (ch_rm m_r_refuseRain) (ch_E g m_r_refuseRain Q) 0 [some (.inr (3, 0, 0)), some (.inr (1, j1, 0)), some (.inl (.int p2))] [] m 0) : ch_C g m_r_refuseRain [.inr (3, 0, 0), .inr (1, j1, 0), .inl (.int p2)] m Q :=
  ch_enter mf_r_refuseRain (by intro v hv; simp only [List.mem_cons, List.not_mem_nil, or_false] at hv; rcases hv with rfl | rfl | rfl <;> rfl) (Nat.le_of_ble_eq_true rfl) h
set_option maxHeartbeats 1600000 in
theorem g_r_refuseRain_0 (g : ch_G) (Q : ch_O → ch_M → Prop) (j1 : Nat) (p2 : Int32) (m : ch_M) (h : (ch_C g m_r_lacksRange [.inr (3, 0, 0), .inl (.int p2), .inl (.int 1), .inl (.int 9)] m (ch_oi (fun (r1 : Int32) (m2 : ch_M) => ((¬ r1 = 0 → Q (.inl (some (.inl (.int 1)))) m2) ∧ (r1 = 0 → ((¬ (m2 (1, j1, 0) 9) = 0 → Q (.inl (some (.inl (.int 0)))) m2) ∧ ((m2 (1, j1, 0) 9) = 0 → (ch_C g m_y_countOwned [.inr (1, j1, 0), .inl (.int (-1))] m2 (ch_oi (fun (r3 : Int32) (m4 : ch_M) => ((¬ r3 = 12 → Q (.inl (some (.inl (.int 0)))) m4) ∧ (r3 = 12 → (ch_C g m_r_keep [.inr (3, 0, 0), .inl (.int 12), .inl (.int 0)] m4 (ch_oi (fun (r5 : Int32) (m6 : ch_M) => ((r5 = 0 → Q (.inl (some (.inl (.int 0)))) m6) ∧ (¬ r5 = 0 → Q (.inl (some (.inl (.int 1)))) m6)))))))))))))))))) : ch_J g m_r_refuseRain (ch_rm m_r_refuseRain) (ch_E g m_r_refuseRain Q) 0 [some (.inr (3, 0, 0)), some (.inr (1, j1, 0)), some (.inl (.int p2))] [] m 0 := by
  refine ch_aload_n (i := 0) d_r_refuseRain_0 rfl rfl ?_
  refine ch_iload_n (i := 2) d_r_refuseRain_1 rfl rfl ?_
  refine ch_iconst (v := 1) d_r_refuseRain_2 (by decide) ?_
  refine ch_bipush (v := 9) d_r_refuseRain_3 (by decide) ?_
  refine ch_callV (as := [.inl (.int p2), .inl (.int 1), .inl (.int 9)]) d_r_refuseRain_5 lk_r_59 mi_r_lacksRange me_r_lacksRange rfl rfl rfl ⟨Nat.le_of_ble_eq_true rfl, Nat.le_of_ble_eq_true rfl⟩ (Nat.le_of_ble_eq_true rfl) ⟨Nat.le_of_ble_eq_true rfl, Nat.le_of_ble_eq_true rfl⟩ (ch_mono (ch_Ki (fun r1 m2 h => ?_)) h)
  refine ch_if_ne (tgt := 38) d_r_refuseRain_8 (by decide) (fun c => ?_) (fun c => ?_)
  · replace h := h.1 c
    refine ch_iconst (v := 1) d_r_refuseRain_38 (by decide) ?_
    refine ch_goto (tgt := 43) d_r_refuseRain_39 (by decide) ?_
    exact ch_iret (ty := .boolean) d_r_refuseRain_43 rfl rfl (Nat.le_of_ble_eq_true rfl) h
  · replace h := h.2 c
    refine ch_aload_n (i := 1) d_r_refuseRain_11 rfl rfl ?_
    refine ch_get (v := .inl (.int (m2 (1, j1, 0) 9))) d_r_refuseRain_12 fl_r_103 rfl ?_
    refine ch_if_ne (tgt := 42) d_r_refuseRain_15 (by decide) (fun c => ?_) (fun c => ?_)
    · replace h := h.1 c
      refine ch_iconst (v := 0) d_r_refuseRain_42 (by decide) ?_
      exact ch_iret (ty := .boolean) d_r_refuseRain_43 rfl rfl (Nat.le_of_ble_eq_true rfl) h
    · replace h := h.2 c
      refine ch_aload_n (i := 1) d_r_refuseRain_18 rfl rfl ?_
      refine ch_iconst (v := (-1)) d_r_refuseRain_19 (by decide) ?_
      refine ch_callV (as := [.inl (.int (-1))]) d_r_refuseRain_20 lk_r_106 mi_y_countOwned me_y_countOwned rfl rfl rfl ⟨Nat.le_of_ble_eq_true rfl, Nat.le_of_ble_eq_true rfl⟩ (Nat.le_of_ble_eq_true rfl) ⟨Nat.le_of_ble_eq_true rfl, Nat.le_of_ble_eq_true rfl⟩ (ch_mono (ch_Ki (fun r3 m4 h => ?_)) h)
      refine ch_bipush (v := 12) d_r_refuseRain_23 (by decide) ?_
      refine ch_icmp_ne (tgt := 42) d_r_refuseRain_25 (by decide) (fun c => ?_) (fun c => ?_)
      · replace h := h.1 c
        refine ch_iconst (v := 0) d_r_refuseRain_42 (by decide) ?_
        exact ch_iret (ty := .boolean) d_r_refuseRain_43 rfl rfl (Nat.le_of_ble_eq_true rfl) h
      · replace h := h.2 c
        refine ch_aload_n (i := 0) d_r_refuseRain_28 rfl rfl ?_
        refine ch_bipush (v := 12) d_r_refuseRain_29 (by decide) ?_
        refine ch_iconst (v := 0) d_r_refuseRain_31 (by decide) ?_
        refine ch_callV (as := [.inl (.int 12), .inl (.int 0)]) d_r_refuseRain_32 lk_r_68 mi_r_keep me_r_keep rfl rfl rfl ⟨Nat.le_of_ble_eq_true rfl, Nat.le_of_ble_eq_true rfl⟩ (Nat.le_of_ble_eq_true rfl) ⟨Nat.le_of_ble_eq_true rfl, Nat.le_of_ble_eq_true rfl⟩ (ch_mono (ch_Ki (fun r5 m6 h => ?_)) h)
        refine ch_if_eq (tgt := 42) d_r_refuseRain_35 (by decide) (fun c => ?_) (fun c => ?_)
        · replace h := h.1 c
          refine ch_iconst (v := 0) d_r_refuseRain_42 (by decide) ?_
          exact ch_iret (ty := .boolean) d_r_refuseRain_43 rfl rfl (Nat.le_of_ble_eq_true rfl) h
        · replace h := h.2 c
          refine ch_iconst (v := 1) d_r_refuseRain_38 (by decide) ?_
          refine ch_goto (tgt := 43) d_r_refuseRain_39 (by decide) ?_
          exact ch_iret (ty := .boolean) d_r_refuseRain_43 rfl rfl (Nat.le_of_ble_eq_true rfl) h
theorem e_r_refuseTerm (g : ch_G) (Q : ch_O → ch_M → Prop) (j1 : Nat) (m : ch_M) (h : ch_J g m_r_refuseTerm (ch_rm m_r_refuseTerm) (ch_E g m_r_refuseTerm Q) 0 [some (.inr (3, 0, 0)), some (.inr (1, j1, 0))] [] m 0) : ch_C g m_r_refuseTerm [.inr (3, 0, 0), .inr (1, j1, 0)] m Q :=
  ch_enter mf_r_refuseTerm (by intro v hv; simp only [List.mem_cons, List.not_mem_nil, or_false] at hv; rcases hv with rfl | rfl <;> rfl) (Nat.le_of_ble_eq_true rfl) h
set_option maxHeartbeats 1600000 in
theorem g_r_refuseTerm_0 (g : ch_G) (Q : ch_O → ch_M → Prop) (j1 : Nat) (m : ch_M) (h : ((¬ (m (1, j1, 0) 8) = 0 → Q (.inl (some (.inl (.int 0)))) m) ∧ ((m (1, j1, 0) 8) = 0 → (ch_C g m_r_keep [.inr (3, 0, 0), .inl (.int 13), .inl (.int 0)] m (ch_oi (fun (r1 : Int32) (m2 : ch_M) => ((r1 = 0 → Q (.inl (some (.inl (.int 0)))) m2) ∧ (¬ r1 = 0 → Q (.inl (some (.inl (.int 1)))) m2)))))))) : ch_J g m_r_refuseTerm (ch_rm m_r_refuseTerm) (ch_E g m_r_refuseTerm Q) 0 [some (.inr (3, 0, 0)), some (.inr (1, j1, 0))] [] m 0 := by
  refine ch_aload_n (i := 1) d_r_refuseTerm_0 rfl rfl ?_
  refine ch_get (v := .inl (.int (m (1, j1, 0) 8))) d_r_refuseTerm_1 fl_r_63 rfl ?_
  refine ch_if_ne (tgt := 21) d_r_refuseTerm_4 (by decide) (fun c => ?_) (fun c => ?_)
  · replace h := h.1 c
    refine ch_iconst (v := 0) d_r_refuseTerm_21 (by decide) ?_
    exact ch_iret (ty := .boolean) d_r_refuseTerm_22 rfl rfl (Nat.le_of_ble_eq_true rfl) h
  · replace h := h.2 c
    refine ch_aload_n (i := 0) d_r_refuseTerm_7 rfl rfl ?_
    refine ch_bipush (v := 13) d_r_refuseTerm_8 (by decide) ?_
    refine ch_iconst (v := 0) d_r_refuseTerm_10 (by decide) ?_
    refine ch_callV (as := [.inl (.int 13), .inl (.int 0)]) d_r_refuseTerm_11 lk_r_68 mi_r_keep me_r_keep rfl rfl rfl ⟨Nat.le_of_ble_eq_true rfl, Nat.le_of_ble_eq_true rfl⟩ (Nat.le_of_ble_eq_true rfl) ⟨Nat.le_of_ble_eq_true rfl, Nat.le_of_ble_eq_true rfl⟩ (ch_mono (ch_Ki (fun r1 m2 h => ?_)) h)
    refine ch_if_eq (tgt := 21) d_r_refuseTerm_14 (by decide) (fun c => ?_) (fun c => ?_)
    · replace h := h.1 c
      refine ch_iconst (v := 0) d_r_refuseTerm_21 (by decide) ?_
      exact ch_iret (ty := .boolean) d_r_refuseTerm_22 rfl rfl (Nat.le_of_ble_eq_true rfl) h
    · replace h := h.2 c
      refine ch_iconst (v := 1) d_r_refuseTerm_17 (by decide) ?_
      refine ch_goto (tgt := 22) d_r_refuseTerm_18 (by decide) ?_
      exact ch_iret (ty := .boolean) d_r_refuseTerm_22 rfl rfl (Nat.le_of_ble_eq_true rfl) h
theorem e_r_refuseGift (g : ch_G) (Q : ch_O → ch_M → Prop) (j1 : Nat) (p2 : Int32) (p3 : Int32) (p4 : Int32) (m : ch_M) (h : ch_J g m_r_refuseGift (ch_rm m_r_refuseGift) (ch_E g m_r_refuseGift Q) 0 [some (.inr (3, 0, 0)), some (.inr (1, j1, 0)), some (.inl (.int p2)), some (.inl (.int p3)), some (.inl (.int p4))] [] m 0) : ch_C g m_r_refuseGift [.inr (3, 0, 0), .inr (1, j1, 0), .inl (.int p2), .inl (.int p3), .inl (.int p4)] m Q :=
  ch_enter mf_r_refuseGift (by intro v hv; simp only [List.mem_cons, List.not_mem_nil, or_false] at hv; rcases hv with rfl | rfl | rfl | rfl | rfl <;> rfl) (Nat.le_of_ble_eq_true rfl) h
set_option maxHeartbeats 1600000 in
theorem g_r_refuseGift_0 (g : ch_G) (Q : ch_O → ch_M → Prop) (j1 : Nat) (p2 : Int32) (p3 : Int32) (p4 : Int32) (m : ch_M) (h : (ch_C g m_r_lacksChild [.inr (3, 0, 0), .inr (1, j1, 0), .inl (.int p2)] m (ch_oi (fun (r1 : Int32) (m2 : ch_M) => ((¬ r1 = 0 → Q (.inl (some (.inl (.int 1)))) m2) ∧ (r1 = 0 → (ch_C g m_r_lacksChild [.inr (3, 0, 0), .inr (1, j1, 0), .inl (.int p3)] m2 (ch_oi (fun (r3 : Int32) (m4 : ch_M) => ((¬ r3 = 0 → Q (.inl (some (.inl (.int 1)))) m4) ∧ (r3 = 0 → ((¬ p2 = p3 → (ch_C g m_r_lacksRange [.inr (3, 0, 0), .inl (.int p4), .inl (.int 1), .inl (.int 99)] m4 (ch_oi (fun (r5 : Int32) (m6 : ch_M) => ((¬ r5 = 0 → Q (.inl (some (.inl (.int 1)))) m6) ∧ (r5 = 0 → (ch_C g m_r_lacksPebbles [.inr (3, 0, 0), .inr (1, j1, 0), .inl (.int p2), .inl (.int p4)] m6 (ch_oi (fun (r7 : Int32) (m8 : ch_M) => ((r7 = 0 → Q (.inl (some (.inl (.int 0)))) m8) ∧ (¬ r7 = 0 → Q (.inl (some (.inl (.int 1)))) m8))))))))))) ∧ (p2 = p3 → (ch_C g m_r_keep [.inr (3, 0, 0), .inl (.int 11), .inl (.int p2)] m4 (ch_oi (fun (r9 : Int32) (m10 : ch_M) => ((¬ r9 = 0 → Q (.inl (some (.inl (.int 1)))) m10) ∧ (r9 = 0 → (ch_C g m_r_lacksRange [.inr (3, 0, 0), .inl (.int p4), .inl (.int 1), .inl (.int 99)] m10 (ch_oi (fun (r11 : Int32) (m12 : ch_M) => ((¬ r11 = 0 → Q (.inl (some (.inl (.int 1)))) m12) ∧ (r11 = 0 → (ch_C g m_r_lacksPebbles [.inr (3, 0, 0), .inr (1, j1, 0), .inl (.int p2), .inl (.int p4)] m12 (ch_oi (fun (r13 : Int32) (m14 : ch_M) => ((r13 = 0 → Q (.inl (some (.inl (.int 0)))) m14) ∧ (¬ r13 = 0 → Q (.inl (some (.inl (.int 1)))) m14)))))))))))))))))))))))))))) : ch_J g m_r_refuseGift (ch_rm m_r_refuseGift) (ch_E g m_r_refuseGift Q) 0 [some (.inr (3, 0, 0)), some (.inr (1, j1, 0)), some (.inl (.int p2)), some (.inl (.int p3)), some (.inl (.int p4))] [] m 0 := by
  refine ch_aload_n (i := 0) d_r_refuseGift_0 rfl rfl ?_
  refine ch_aload_n (i := 1) d_r_refuseGift_1 rfl rfl ?_
  refine ch_iload_n (i := 2) d_r_refuseGift_2 rfl rfl ?_
  refine ch_callV (as := [.inr (1, j1, 0), .inl (.int p2)]) d_r_refuseGift_3 lk_r_72 mi_r_lacksChild me_r_lacksChild rfl rfl rfl ⟨Nat.le_of_ble_eq_true rfl, Nat.le_of_ble_eq_true rfl⟩ (Nat.le_of_ble_eq_true rfl) ⟨Nat.le_of_ble_eq_true rfl, Nat.le_of_ble_eq_true rfl⟩ (ch_mono (ch_Ki (fun r1 m2 h => ?_)) h)
  refine ch_if_ne (tgt := 56) d_r_refuseGift_6 (by decide) (fun c => ?_) (fun c => ?_)
  · replace h := h.1 c
    refine ch_iconst (v := 1) d_r_refuseGift_56 (by decide) ?_
    refine ch_goto (tgt := 61) d_r_refuseGift_57 (by decide) ?_
    exact ch_iret (ty := .boolean) d_r_refuseGift_61 rfl rfl (Nat.le_of_ble_eq_true rfl) h
  · replace h := h.2 c
    refine ch_aload_n (i := 0) d_r_refuseGift_9 rfl rfl ?_
    refine ch_aload_n (i := 1) d_r_refuseGift_10 rfl rfl ?_
    refine ch_iload_n (i := 3) d_r_refuseGift_11 rfl rfl ?_
    refine ch_callV (as := [.inr (1, j1, 0), .inl (.int p3)]) d_r_refuseGift_12 lk_r_72 mi_r_lacksChild me_r_lacksChild rfl rfl rfl ⟨Nat.le_of_ble_eq_true rfl, Nat.le_of_ble_eq_true rfl⟩ (Nat.le_of_ble_eq_true rfl) ⟨Nat.le_of_ble_eq_true rfl, Nat.le_of_ble_eq_true rfl⟩ (ch_mono (ch_Ki (fun r3 m4 h => ?_)) h)
    refine ch_if_ne (tgt := 56) d_r_refuseGift_15 (by decide) (fun c => ?_) (fun c => ?_)
    · replace h := h.1 c
      refine ch_iconst (v := 1) d_r_refuseGift_56 (by decide) ?_
      refine ch_goto (tgt := 61) d_r_refuseGift_57 (by decide) ?_
      exact ch_iret (ty := .boolean) d_r_refuseGift_61 rfl rfl (Nat.le_of_ble_eq_true rfl) h
    · replace h := h.2 c
      refine ch_iload_n (i := 2) d_r_refuseGift_18 rfl rfl ?_
      refine ch_iload_n (i := 3) d_r_refuseGift_19 rfl rfl ?_
      refine ch_icmp_ne (tgt := 33) d_r_refuseGift_20 (by decide) (fun c => ?_) (fun c => ?_)
      · replace h := h.1 c
        refine ch_aload_n (i := 0) d_r_refuseGift_33 rfl rfl ?_
        refine ch_iload d_r_refuseGift_34 rfl ?_
        refine ch_iconst (v := 1) d_r_refuseGift_36 (by decide) ?_
        refine ch_bipush (v := 99) d_r_refuseGift_37 (by decide) ?_
        refine ch_callV (as := [.inl (.int p4), .inl (.int 1), .inl (.int 99)]) d_r_refuseGift_39 lk_r_59 mi_r_lacksRange me_r_lacksRange rfl rfl rfl ⟨Nat.le_of_ble_eq_true rfl, Nat.le_of_ble_eq_true rfl⟩ (Nat.le_of_ble_eq_true rfl) ⟨Nat.le_of_ble_eq_true rfl, Nat.le_of_ble_eq_true rfl⟩ (ch_mono (ch_Ki (fun r5 m6 h => ?_)) h)
        refine ch_if_ne (tgt := 56) d_r_refuseGift_42 (by decide) (fun c => ?_) (fun c => ?_)
        · replace h := h.1 c
          refine ch_iconst (v := 1) d_r_refuseGift_56 (by decide) ?_
          refine ch_goto (tgt := 61) d_r_refuseGift_57 (by decide) ?_
          exact ch_iret (ty := .boolean) d_r_refuseGift_61 rfl rfl (Nat.le_of_ble_eq_true rfl) h
        · replace h := h.2 c
          refine ch_aload_n (i := 0) d_r_refuseGift_45 rfl rfl ?_
          refine ch_aload_n (i := 1) d_r_refuseGift_46 rfl rfl ?_
          refine ch_iload_n (i := 2) d_r_refuseGift_47 rfl rfl ?_
          refine ch_iload d_r_refuseGift_48 rfl ?_
          refine ch_callV (as := [.inr (1, j1, 0), .inl (.int p2), .inl (.int p4)]) d_r_refuseGift_50 lk_r_82 mi_r_lacksPebbles me_r_lacksPebbles rfl rfl rfl ⟨Nat.le_of_ble_eq_true rfl, Nat.le_of_ble_eq_true rfl⟩ (Nat.le_of_ble_eq_true rfl) ⟨Nat.le_of_ble_eq_true rfl, Nat.le_of_ble_eq_true rfl⟩ (ch_mono (ch_Ki (fun r7 m8 h => ?_)) h)
          refine ch_if_eq (tgt := 60) d_r_refuseGift_53 (by decide) (fun c => ?_) (fun c => ?_)
          · replace h := h.1 c
            refine ch_iconst (v := 0) d_r_refuseGift_60 (by decide) ?_
            exact ch_iret (ty := .boolean) d_r_refuseGift_61 rfl rfl (Nat.le_of_ble_eq_true rfl) h
          · replace h := h.2 c
            refine ch_iconst (v := 1) d_r_refuseGift_56 (by decide) ?_
            refine ch_goto (tgt := 61) d_r_refuseGift_57 (by decide) ?_
            exact ch_iret (ty := .boolean) d_r_refuseGift_61 rfl rfl (Nat.le_of_ble_eq_true rfl) h
      · replace h := h.2 c
        refine ch_aload_n (i := 0) d_r_refuseGift_23 rfl rfl ?_
        refine ch_bipush (v := 11) d_r_refuseGift_24 (by decide) ?_
        refine ch_iload_n (i := 2) d_r_refuseGift_26 rfl rfl ?_
        refine ch_callV (as := [.inl (.int 11), .inl (.int p2)]) d_r_refuseGift_27 lk_r_68 mi_r_keep me_r_keep rfl rfl rfl ⟨Nat.le_of_ble_eq_true rfl, Nat.le_of_ble_eq_true rfl⟩ (Nat.le_of_ble_eq_true rfl) ⟨Nat.le_of_ble_eq_true rfl, Nat.le_of_ble_eq_true rfl⟩ (ch_mono (ch_Ki (fun r9 m10 h => ?_)) h)
        refine ch_if_ne (tgt := 56) d_r_refuseGift_30 (by decide) (fun c => ?_) (fun c => ?_)
        · replace h := h.1 c
          refine ch_iconst (v := 1) d_r_refuseGift_56 (by decide) ?_
          refine ch_goto (tgt := 61) d_r_refuseGift_57 (by decide) ?_
          exact ch_iret (ty := .boolean) d_r_refuseGift_61 rfl rfl (Nat.le_of_ble_eq_true rfl) h
        · replace h := h.2 c
          refine ch_aload_n (i := 0) d_r_refuseGift_33 rfl rfl ?_
          refine ch_iload d_r_refuseGift_34 rfl ?_
          refine ch_iconst (v := 1) d_r_refuseGift_36 (by decide) ?_
          refine ch_bipush (v := 99) d_r_refuseGift_37 (by decide) ?_
          refine ch_callV (as := [.inl (.int p4), .inl (.int 1), .inl (.int 99)]) d_r_refuseGift_39 lk_r_59 mi_r_lacksRange me_r_lacksRange rfl rfl rfl ⟨Nat.le_of_ble_eq_true rfl, Nat.le_of_ble_eq_true rfl⟩ (Nat.le_of_ble_eq_true rfl) ⟨Nat.le_of_ble_eq_true rfl, Nat.le_of_ble_eq_true rfl⟩ (ch_mono (ch_Ki (fun r11 m12 h => ?_)) h)
          refine ch_if_ne (tgt := 56) d_r_refuseGift_42 (by decide) (fun c => ?_) (fun c => ?_)
          · replace h := h.1 c
            refine ch_iconst (v := 1) d_r_refuseGift_56 (by decide) ?_
            refine ch_goto (tgt := 61) d_r_refuseGift_57 (by decide) ?_
            exact ch_iret (ty := .boolean) d_r_refuseGift_61 rfl rfl (Nat.le_of_ble_eq_true rfl) h
          · replace h := h.2 c
            refine ch_aload_n (i := 0) d_r_refuseGift_45 rfl rfl ?_
            refine ch_aload_n (i := 1) d_r_refuseGift_46 rfl rfl ?_
            refine ch_iload_n (i := 2) d_r_refuseGift_47 rfl rfl ?_
            refine ch_iload d_r_refuseGift_48 rfl ?_
            refine ch_callV (as := [.inr (1, j1, 0), .inl (.int p2), .inl (.int p4)]) d_r_refuseGift_50 lk_r_82 mi_r_lacksPebbles me_r_lacksPebbles rfl rfl rfl ⟨Nat.le_of_ble_eq_true rfl, Nat.le_of_ble_eq_true rfl⟩ (Nat.le_of_ble_eq_true rfl) ⟨Nat.le_of_ble_eq_true rfl, Nat.le_of_ble_eq_true rfl⟩ (ch_mono (ch_Ki (fun r13 m14 h => ?_)) h)
            refine ch_if_eq (tgt := 60) d_r_refuseGift_53 (by decide) (fun c => ?_) (fun c => ?_)
            · replace h := h.1 c
              refine ch_iconst (v := 0) d_r_refuseGift_60 (by decide) ?_
              exact ch_iret (ty := .boolean) d_r_refuseGift_61 rfl rfl (Nat.le_of_ble_eq_true rfl) h
            · replace h := h.2 c
              refine ch_iconst (v := 1) d_r_refuseGift_56 (by decide) ?_
              refine ch_goto (tgt := 61) d_r_refuseGift_57 (by decide) ?_
              exact ch_iret (ty := .boolean) d_r_refuseGift_61 rfl rfl (Nat.le_of_ble_eq_true rfl) h
theorem e_r_lacksRange (g : ch_G) (Q : ch_O → ch_M → Prop) (p1 : Int32) (p2 : Int32) (p3 : Int32) (m : ch_M) (h : ch_J g m_r_lacksRange (ch_rm m_r_lacksRange) (ch_E g m_r_lacksRange Q) 0 [some (.inr (3, 0, 0)), some (.inl (.int p1)), some (.inl (.int p2)), some (.inl (.int p3))] [] m 0) : ch_C g m_r_lacksRange [.inr (3, 0, 0), .inl (.int p1), .inl (.int p2), .inl (.int p3)] m Q :=
  ch_enter mf_r_lacksRange (by intro v hv; simp only [List.mem_cons, List.not_mem_nil, or_false] at hv; rcases hv with rfl | rfl | rfl | rfl <;> rfl) (Nat.le_of_ble_eq_true rfl) h
set_option maxHeartbeats 1600000 in
theorem g_r_lacksRange_0 (g : ch_G) (Q : ch_O → ch_M → Prop) (p1 : Int32) (p2 : Int32) (p3 : Int32) (m : ch_M) (h : ((p1 < p2 → (ch_C g m_r_keep [.inr (3, 0, 0), .inl (.int 1), .inl (.int 0)] m (ch_oi (fun (r1 : Int32) (m2 : ch_M) => ((r1 = 0 → Q (.inl (some (.inl (.int 0)))) m2) ∧ (¬ r1 = 0 → Q (.inl (some (.inl (.int 1)))) m2)))))) ∧ (¬ p1 < p2 → ((p1 ≤ p3 → Q (.inl (some (.inl (.int 0)))) m) ∧ (¬ p1 ≤ p3 → (ch_C g m_r_keep [.inr (3, 0, 0), .inl (.int 1), .inl (.int 0)] m (ch_oi (fun (r3 : Int32) (m4 : ch_M) => ((r3 = 0 → Q (.inl (some (.inl (.int 0)))) m4) ∧ (¬ r3 = 0 → Q (.inl (some (.inl (.int 1)))) m4)))))))))) : ch_J g m_r_lacksRange (ch_rm m_r_lacksRange) (ch_E g m_r_lacksRange Q) 0 [some (.inr (3, 0, 0)), some (.inl (.int p1)), some (.inl (.int p2)), some (.inl (.int p3))] [] m 0 := by
  refine ch_iload_n (i := 1) d_r_lacksRange_0 rfl rfl ?_
  refine ch_iload_n (i := 2) d_r_lacksRange_1 rfl rfl ?_
  refine ch_icmp_lt (tgt := 10) d_r_lacksRange_2 (by decide) (fun c => ?_) (fun c => ?_)
  · replace h := h.1 c
    refine ch_aload_n (i := 0) d_r_lacksRange_10 rfl rfl ?_
    refine ch_iconst (v := 1) d_r_lacksRange_11 (by decide) ?_
    refine ch_iconst (v := 0) d_r_lacksRange_12 (by decide) ?_
    refine ch_callV (as := [.inl (.int 1), .inl (.int 0)]) d_r_lacksRange_13 lk_r_68 mi_r_keep me_r_keep rfl rfl rfl ⟨Nat.le_of_ble_eq_true rfl, Nat.le_of_ble_eq_true rfl⟩ (Nat.le_of_ble_eq_true rfl) ⟨Nat.le_of_ble_eq_true rfl, Nat.le_of_ble_eq_true rfl⟩ (ch_mono (ch_Ki (fun r1 m2 h => ?_)) h)
    refine ch_if_eq (tgt := 23) d_r_lacksRange_16 (by decide) (fun c => ?_) (fun c => ?_)
    · replace h := h.1 c
      refine ch_iconst (v := 0) d_r_lacksRange_23 (by decide) ?_
      exact ch_iret (ty := .boolean) d_r_lacksRange_24 rfl rfl (Nat.le_of_ble_eq_true rfl) h
    · replace h := h.2 c
      refine ch_iconst (v := 1) d_r_lacksRange_19 (by decide) ?_
      refine ch_goto (tgt := 24) d_r_lacksRange_20 (by decide) ?_
      exact ch_iret (ty := .boolean) d_r_lacksRange_24 rfl rfl (Nat.le_of_ble_eq_true rfl) h
  · replace h := h.2 c
    refine ch_iload_n (i := 1) d_r_lacksRange_5 rfl rfl ?_
    refine ch_iload_n (i := 3) d_r_lacksRange_6 rfl rfl ?_
    refine ch_icmp_le (tgt := 23) d_r_lacksRange_7 (by decide) (fun c => ?_) (fun c => ?_)
    · replace h := h.1 c
      refine ch_iconst (v := 0) d_r_lacksRange_23 (by decide) ?_
      exact ch_iret (ty := .boolean) d_r_lacksRange_24 rfl rfl (Nat.le_of_ble_eq_true rfl) h
    · replace h := h.2 c
      refine ch_aload_n (i := 0) d_r_lacksRange_10 rfl rfl ?_
      refine ch_iconst (v := 1) d_r_lacksRange_11 (by decide) ?_
      refine ch_iconst (v := 0) d_r_lacksRange_12 (by decide) ?_
      refine ch_callV (as := [.inl (.int 1), .inl (.int 0)]) d_r_lacksRange_13 lk_r_68 mi_r_keep me_r_keep rfl rfl rfl ⟨Nat.le_of_ble_eq_true rfl, Nat.le_of_ble_eq_true rfl⟩ (Nat.le_of_ble_eq_true rfl) ⟨Nat.le_of_ble_eq_true rfl, Nat.le_of_ble_eq_true rfl⟩ (ch_mono (ch_Ki (fun r3 m4 h => ?_)) h)
      refine ch_if_eq (tgt := 23) d_r_lacksRange_16 (by decide) (fun c => ?_) (fun c => ?_)
      · replace h := h.1 c
        refine ch_iconst (v := 0) d_r_lacksRange_23 (by decide) ?_
        exact ch_iret (ty := .boolean) d_r_lacksRange_24 rfl rfl (Nat.le_of_ble_eq_true rfl) h
      · replace h := h.2 c
        refine ch_iconst (v := 1) d_r_lacksRange_19 (by decide) ?_
        refine ch_goto (tgt := 24) d_r_lacksRange_20 (by decide) ?_
        exact ch_iret (ty := .boolean) d_r_lacksRange_24 rfl rfl (Nat.le_of_ble_eq_true rfl) h
theorem e_r_lacksChild (g : ch_G) (Q : ch_O → ch_M → Prop) (j1 : Nat) (p2 : Int32) (m : ch_M) (h : ch_J g m_r_lacksChild (ch_rm m_r_lacksChild) (ch_E g m_r_lacksChild Q) 0 [some (.inr (3, 0, 0)), some (.inr (1, j1, 0)), some (.inl (.int p2))] [] m 0) : ch_C g m_r_lacksChild [.inr (3, 0, 0), .inr (1, j1, 0), .inl (.int p2)] m Q :=
  ch_enter mf_r_lacksChild (by intro v hv; simp only [List.mem_cons, List.not_mem_nil, or_false] at hv; rcases hv with rfl | rfl | rfl <;> rfl) (Nat.le_of_ble_eq_true rfl) h
set_option maxHeartbeats 1600000 in
theorem g_r_lacksChild_0 (g : ch_G) (Q : ch_O → ch_M → Prop) (j1 : Nat) (p2 : Int32) (m : ch_M) (h : (ch_C g m_y_hasChild [.inr (1, j1, 0), .inl (.int p2)] m (ch_oi (fun (r1 : Int32) (m2 : ch_M) => ((¬ r1 = 0 → Q (.inl (some (.inl (.int 0)))) m2) ∧ (r1 = 0 → (ch_C g m_r_keep [.inr (3, 0, 0), .inl (.int 3), .inl (.int (m2 (1, j1, 0) 8))] m2 (ch_oi (fun (r3 : Int32) (m4 : ch_M) => ((r3 = 0 → Q (.inl (some (.inl (.int 0)))) m4) ∧ (¬ r3 = 0 → Q (.inl (some (.inl (.int 1)))) m4))))))))))) : ch_J g m_r_lacksChild (ch_rm m_r_lacksChild) (ch_E g m_r_lacksChild Q) 0 [some (.inr (3, 0, 0)), some (.inr (1, j1, 0)), some (.inl (.int p2))] [] m 0 := by
  refine ch_aload_n (i := 1) d_r_lacksChild_0 rfl rfl ?_
  refine ch_iload_n (i := 2) d_r_lacksChild_1 rfl rfl ?_
  refine ch_callV (as := [.inl (.int p2)]) d_r_lacksChild_2 lk_r_110 mi_y_hasChild me_y_hasChild rfl rfl rfl ⟨Nat.le_of_ble_eq_true rfl, Nat.le_of_ble_eq_true rfl⟩ (Nat.le_of_ble_eq_true rfl) ⟨Nat.le_of_ble_eq_true rfl, Nat.le_of_ble_eq_true rfl⟩ (ch_mono (ch_Ki (fun r1 m2 h => ?_)) h)
  refine ch_if_ne (tgt := 24) d_r_lacksChild_5 (by decide) (fun c => ?_) (fun c => ?_)
  · replace h := h.1 c
    refine ch_iconst (v := 0) d_r_lacksChild_24 (by decide) ?_
    exact ch_iret (ty := .boolean) d_r_lacksChild_25 rfl rfl (Nat.le_of_ble_eq_true rfl) h
  · replace h := h.2 c
    refine ch_aload_n (i := 0) d_r_lacksChild_8 rfl rfl ?_
    refine ch_iconst (v := 3) d_r_lacksChild_9 (by decide) ?_
    refine ch_aload_n (i := 1) d_r_lacksChild_10 rfl rfl ?_
    refine ch_get (v := .inl (.int (m2 (1, j1, 0) 8))) d_r_lacksChild_11 fl_r_63 rfl ?_
    refine ch_callV (as := [.inl (.int 3), .inl (.int (m2 (1, j1, 0) 8))]) d_r_lacksChild_14 lk_r_68 mi_r_keep me_r_keep rfl rfl rfl ⟨Nat.le_of_ble_eq_true rfl, Nat.le_of_ble_eq_true rfl⟩ (Nat.le_of_ble_eq_true rfl) ⟨Nat.le_of_ble_eq_true rfl, Nat.le_of_ble_eq_true rfl⟩ (ch_mono (ch_Ki (fun r3 m4 h => ?_)) h)
    refine ch_if_eq (tgt := 24) d_r_lacksChild_17 (by decide) (fun c => ?_) (fun c => ?_)
    · replace h := h.1 c
      refine ch_iconst (v := 0) d_r_lacksChild_24 (by decide) ?_
      exact ch_iret (ty := .boolean) d_r_lacksChild_25 rfl rfl (Nat.le_of_ble_eq_true rfl) h
    · replace h := h.2 c
      refine ch_iconst (v := 1) d_r_lacksChild_20 (by decide) ?_
      refine ch_goto (tgt := 25) d_r_lacksChild_21 (by decide) ?_
      exact ch_iret (ty := .boolean) d_r_lacksChild_25 rfl rfl (Nat.le_of_ble_eq_true rfl) h
theorem e_r_isWanted (g : ch_G) (Q : ch_O → ch_M → Prop) (j1 : Nat) (p2 : Int32) (m : ch_M) (h : ch_J g m_r_isWanted (ch_rm m_r_isWanted) (ch_E g m_r_isWanted Q) 0 [some (.inr (3, 0, 0)), some (.inr (1, j1, 0)), some (.inl (.int p2))] [] m 0) : ch_C g m_r_isWanted [.inr (3, 0, 0), .inr (1, j1, 0), .inl (.int p2)] m Q :=
  ch_enter mf_r_isWanted (by intro v hv; simp only [List.mem_cons, List.not_mem_nil, or_false] at hv; rcases hv with rfl | rfl | rfl <;> rfl) (Nat.le_of_ble_eq_true rfl) h
set_option maxHeartbeats 1600000 in
theorem g_r_isWanted_0 (g : ch_G) (Q : ch_O → ch_M → Prop) (j1 : Nat) (p2 : Int32) (m : ch_M) (h : (vp_in p2 5) ∧ (((m (1, j1, 5) (Int32.toNatClampNeg p2)) ≤ 0 → Q (.inl (some (.inl (.int 0)))) m) ∧ (¬ (m (1, j1, 5) (Int32.toNatClampNeg p2)) ≤ 0 → (ch_C g m_r_keep [.inr (3, 0, 0), .inl (.int 7), .inl (.int (m (1, j1, 5) (Int32.toNatClampNeg p2)))] m (ch_oi (fun (r2 : Int32) (m3 : ch_M) => ((r2 = 0 → Q (.inl (some (.inl (.int 0)))) m3) ∧ (¬ r2 = 0 → Q (.inl (some (.inl (.int 1)))) m3)))))))) : ch_J g m_r_isWanted (ch_rm m_r_isWanted) (ch_E g m_r_isWanted Q) 0 [some (.inr (3, 0, 0)), some (.inr (1, j1, 0)), some (.inl (.int p2))] [] m 0 := by
  refine ch_aload_n (i := 1) d_r_isWanted_0 rfl rfl ?_
  refine ch_get (v := .inr (1, j1, 5)) d_r_isWanted_1 fl_r_100 rfl ?_
  refine ch_iload_n (i := 2) d_r_isWanted_4 rfl rfl ?_
  have b1 := h.1
  replace h := h.2
  refine ch_iald (n := 5) d_r_isWanted_5 (by decide) rfl b1 ?_
  refine ch_if_le (tgt := 28) d_r_isWanted_6 (by decide) (fun c => ?_) (fun c => ?_)
  · replace h := h.1 c
    refine ch_iconst (v := 0) d_r_isWanted_28 (by decide) ?_
    exact ch_iret (ty := .boolean) d_r_isWanted_29 rfl rfl (Nat.le_of_ble_eq_true rfl) h
  · replace h := h.2 c
    refine ch_aload_n (i := 0) d_r_isWanted_9 rfl rfl ?_
    refine ch_bipush (v := 7) d_r_isWanted_10 (by decide) ?_
    refine ch_aload_n (i := 1) d_r_isWanted_12 rfl rfl ?_
    refine ch_get (v := .inr (1, j1, 5)) d_r_isWanted_13 fl_r_100 rfl ?_
    refine ch_iload_n (i := 2) d_r_isWanted_16 rfl rfl ?_
    refine ch_iald (n := 5) d_r_isWanted_17 (by decide) rfl b1 ?_
    refine ch_callV (as := [.inl (.int 7), .inl (.int (m (1, j1, 5) (Int32.toNatClampNeg p2)))]) d_r_isWanted_18 lk_r_68 mi_r_keep me_r_keep rfl rfl rfl ⟨Nat.le_of_ble_eq_true rfl, Nat.le_of_ble_eq_true rfl⟩ (Nat.le_of_ble_eq_true rfl) ⟨Nat.le_of_ble_eq_true rfl, Nat.le_of_ble_eq_true rfl⟩ (ch_mono (ch_Ki (fun r2 m3 h => ?_)) h)
    refine ch_if_eq (tgt := 28) d_r_isWanted_21 (by decide) (fun c => ?_) (fun c => ?_)
    · replace h := h.1 c
      refine ch_iconst (v := 0) d_r_isWanted_28 (by decide) ?_
      exact ch_iret (ty := .boolean) d_r_isWanted_29 rfl rfl (Nat.le_of_ble_eq_true rfl) h
    · replace h := h.2 c
      refine ch_iconst (v := 1) d_r_isWanted_24 (by decide) ?_
      refine ch_goto (tgt := 29) d_r_isWanted_25 (by decide) ?_
      exact ch_iret (ty := .boolean) d_r_isWanted_29 rfl rfl (Nat.le_of_ble_eq_true rfl) h
theorem e_r_lacksPebbles (g : ch_G) (Q : ch_O → ch_M → Prop) (j1 : Nat) (p2 : Int32) (p3 : Int32) (m : ch_M) (h : ch_J g m_r_lacksPebbles (ch_rm m_r_lacksPebbles) (ch_E g m_r_lacksPebbles Q) 0 [some (.inr (3, 0, 0)), some (.inr (1, j1, 0)), some (.inl (.int p2)), some (.inl (.int p3))] [] m 0) : ch_C g m_r_lacksPebbles [.inr (3, 0, 0), .inr (1, j1, 0), .inl (.int p2), .inl (.int p3)] m Q :=
  ch_enter mf_r_lacksPebbles (by intro v hv; simp only [List.mem_cons, List.not_mem_nil, or_false] at hv; rcases hv with rfl | rfl | rfl | rfl <;> rfl) (Nat.le_of_ble_eq_true rfl) h
set_option maxHeartbeats 1600000 in
theorem g_r_lacksPebbles_0 (g : ch_G) (Q : ch_O → ch_M → Prop) (j1 : Nat) (p2 : Int32) (p3 : Int32) (m : ch_M) (h : (vp_in p2 5) ∧ ((p3 ≤ (m (1, j1, 3) (Int32.toNatClampNeg p2)) → Q (.inl (some (.inl (.int 0)))) m) ∧ (¬ p3 ≤ (m (1, j1, 3) (Int32.toNatClampNeg p2)) → (ch_C g m_r_keep [.inr (3, 0, 0), .inl (.int 5), .inl (.int (p3 - (m (1, j1, 3) (Int32.toNatClampNeg p2))))] m (ch_oi (fun (r2 : Int32) (m3 : ch_M) => ((r2 = 0 → Q (.inl (some (.inl (.int 0)))) m3) ∧ (¬ r2 = 0 → Q (.inl (some (.inl (.int 1)))) m3)))))))) : ch_J g m_r_lacksPebbles (ch_rm m_r_lacksPebbles) (ch_E g m_r_lacksPebbles Q) 0 [some (.inr (3, 0, 0)), some (.inr (1, j1, 0)), some (.inl (.int p2)), some (.inl (.int p3))] [] m 0 := by
  refine ch_aload_n (i := 1) d_r_lacksPebbles_0 rfl rfl ?_
  refine ch_get (v := .inr (1, j1, 3)) d_r_lacksPebbles_1 fl_r_114 rfl ?_
  refine ch_iload_n (i := 2) d_r_lacksPebbles_4 rfl rfl ?_
  have b1 := h.1
  replace h := h.2
  refine ch_iald (n := 5) d_r_lacksPebbles_5 (by decide) rfl b1 ?_
  refine ch_iload_n (i := 3) d_r_lacksPebbles_6 rfl rfl ?_
  refine ch_icmp_ge (tgt := 30) d_r_lacksPebbles_7 (by decide) (fun c => ?_) (fun c => ?_)
  · replace h := h.1 c
    refine ch_iconst (v := 0) d_r_lacksPebbles_30 (by decide) ?_
    exact ch_iret (ty := .boolean) d_r_lacksPebbles_31 rfl rfl (Nat.le_of_ble_eq_true rfl) h
  · replace h := h.2 c
    refine ch_aload_n (i := 0) d_r_lacksPebbles_10 rfl rfl ?_
    refine ch_iconst (v := 5) d_r_lacksPebbles_11 (by decide) ?_
    refine ch_iload_n (i := 3) d_r_lacksPebbles_12 rfl rfl ?_
    refine ch_aload_n (i := 1) d_r_lacksPebbles_13 rfl rfl ?_
    refine ch_get (v := .inr (1, j1, 3)) d_r_lacksPebbles_14 fl_r_114 rfl ?_
    refine ch_iload_n (i := 2) d_r_lacksPebbles_17 rfl rfl ?_
    refine ch_iald (n := 5) d_r_lacksPebbles_18 (by decide) rfl b1 ?_
    refine ch_isub d_r_lacksPebbles_19 ?_
    refine ch_callV (as := [.inl (.int 5), .inl (.int (p3 - (m (1, j1, 3) (Int32.toNatClampNeg p2))))]) d_r_lacksPebbles_20 lk_r_68 mi_r_keep me_r_keep rfl rfl rfl ⟨Nat.le_of_ble_eq_true rfl, Nat.le_of_ble_eq_true rfl⟩ (Nat.le_of_ble_eq_true rfl) ⟨Nat.le_of_ble_eq_true rfl, Nat.le_of_ble_eq_true rfl⟩ (ch_mono (ch_Ki (fun r2 m3 h => ?_)) h)
    refine ch_if_eq (tgt := 30) d_r_lacksPebbles_23 (by decide) (fun c => ?_) (fun c => ?_)
    · replace h := h.1 c
      refine ch_iconst (v := 0) d_r_lacksPebbles_30 (by decide) ?_
      exact ch_iret (ty := .boolean) d_r_lacksPebbles_31 rfl rfl (Nat.le_of_ble_eq_true rfl) h
    · replace h := h.2 c
      refine ch_iconst (v := 1) d_r_lacksPebbles_26 (by decide) ?_
      refine ch_goto (tgt := 31) d_r_lacksPebbles_27 (by decide) ?_
      exact ch_iret (ty := .boolean) d_r_lacksPebbles_31 rfl rfl (Nat.le_of_ble_eq_true rfl) h
theorem e_r_keep (g : ch_G) (Q : ch_O → ch_M → Prop) (p1 : Int32) (p2 : Int32) (m : ch_M) (h : ch_J g m_r_keep (ch_rm m_r_keep) (ch_E g m_r_keep Q) 0 [some (.inr (3, 0, 0)), some (.inl (.int p1)), some (.inl (.int p2))] [] m 0) : ch_C g m_r_keep [.inr (3, 0, 0), .inl (.int p1), .inl (.int p2)] m Q :=
  ch_enter mf_r_keep (by intro v hv; simp only [List.mem_cons, List.not_mem_nil, or_false] at hv; rcases hv with rfl | rfl | rfl <;> rfl) (Nat.le_of_ble_eq_true rfl) h
set_option maxHeartbeats 1600000 in
theorem g_r_keep_0 (g : ch_G) (Q : ch_O → ch_M → Prop) (p1 : Int32) (p2 : Int32) (m : ch_M) (h : (∀ m1 : ch_M, m1 = ch_wr m (3, 0, 0) 0 p1 → (∀ m2 : ch_M, m2 = ch_wr m1 (3, 0, 0) 1 p2 → (∀ m3 : ch_M, m3 = ch_wr m2 (3, 0, 0) 2 0 → Q (.inl (some (.inl (.int 1)))) m3)))) : ch_J g m_r_keep (ch_rm m_r_keep) (ch_E g m_r_keep Q) 0 [some (.inr (3, 0, 0)), some (.inl (.int p1)), some (.inl (.int p2))] [] m 0 := by
  refine ch_aload_n (i := 0) d_r_keep_0 rfl rfl ?_
  refine ch_iload_n (i := 1) d_r_keep_1 rfl rfl ?_
  refine ch_put d_r_keep_2 fp_r_117 rfl rfl rfl ?_
  generalize hmm1 : ch_wr m (3, 0, 0) 0 p1 = m1
  replace h := h m1 hmm1.symm
  refine ch_aload_n (i := 0) d_r_keep_5 rfl rfl ?_
  refine ch_iload_n (i := 2) d_r_keep_6 rfl rfl ?_
  refine ch_put d_r_keep_7 fp_r_118 rfl rfl rfl ?_
  generalize hmm2 : ch_wr m1 (3, 0, 0) 1 p2 = m2
  replace h := h m2 hmm2.symm
  refine ch_aload_n (i := 0) d_r_keep_10 rfl rfl ?_
  refine ch_iconst (v := 0) d_r_keep_11 (by decide) ?_
  refine ch_put d_r_keep_12 fp_r_121 rfl rfl rfl ?_
  generalize hmm3 : ch_wr m2 (3, 0, 0) 2 0 = m3
  replace h := h m3 hmm3.symm
  refine ch_iconst (v := 1) d_r_keep_15 (by decide) ?_
  exact ch_iret (ty := .boolean) d_r_keep_16 rfl rfl (Nat.le_of_ble_eq_true rfl) h
