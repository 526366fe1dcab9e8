theorem e_r_lacksRange (g : ch_G) (Q : ch_O → ch_M → Prop) (p1 : Int32) (p2 : Int32) (p3 : Int32) (m : ch_M) (h : ch_J g m_r_lacksRange (ch_rm m_r_lacksRange) (ch_E g m_r_lacksRange Q) 0 [some (.inr (3, 0, 0)), some (.inl (.int p1)), some (.inl (.int p2)), some (.inl (.int p3))] [] m 0) : ch_C g m_r_lacksRange [.inr (3, 0, 0), .inl (.int p1), .inl (.int p2), .inl (.int p3)] m Q :=
  ch_enter mf_r_lacksRange (by intro v hv; simp only [List.mem_cons, List.not_mem_nil, or_false] at hv; rcases hv with rfl | rfl | rfl | rfl <;> rfl) (Nat.le_of_ble_eq_true rfl) h
set_option maxHeartbeats 1600000 in
theorem g_r_lacksRange_0 (g : ch_G) (Q : ch_O → ch_M → Prop) (p1 : Int32) (p2 : Int32) (p3 : Int32) (m : ch_M) (h : ((p1 < p2 → ((∀ m2 : ch_M, m2 = r_kp m 1 0 → Q (.inl (some (.inl (.int 1)))) m2))) ∧ (¬ p1 < p2 → ((p1 ≤ p3 → Q (.inl (some (.inl (.int 0)))) m) ∧ (¬ p1 ≤ p3 → ((∀ m5 : ch_M, m5 = r_kp m 1 0 → Q (.inl (some (.inl (.int 1)))) m5))))))) : ch_J g m_r_lacksRange (ch_rm m_r_lacksRange) (ch_E g m_r_lacksRange Q) 0 [some (.inr (3, 0, 0)), some (.inl (.int p1)), some (.inl (.int p2)), some (.inl (.int p3))] [] m 0 := by
  refine ch_iload_n (i := 1) d_r_lacksRange_0 rfl rfl ?_
  refine ch_iload_n (i := 2) d_r_lacksRange_1 rfl rfl ?_
  refine ch_icmp_lt (tgt := 10) d_r_lacksRange_2 (by decide) (fun c => ?_) (fun c => ?_)
  · replace h := h.1 c
    refine ch_aload_n (i := 0) d_r_lacksRange_10 rfl rfl ?_
    refine ch_iconst (v := 1) d_r_lacksRange_11 (by decide) ?_
    refine ch_iconst (v := 0) d_r_lacksRange_12 (by decide) ?_
    refine ch_callV (as := [.inl (.int 1), .inl (.int 0)]) d_r_lacksRange_13 lk_r_68 mi_r_keep me_r_keep rfl rfl rfl ⟨Nat.le_of_ble_eq_true rfl, Nat.le_of_ble_eq_true rfl⟩ (Nat.le_of_ble_eq_true rfl) ⟨Nat.le_of_ble_eq_true rfl, Nat.le_of_ble_eq_true rfl⟩ (ch_mono (ch_Ki (fun r1 m2 q3 => ?_)) (s_r_keep g (fun (r_ : Int32) (m_ : ch_M) => (1 = r_ ∧ m_ = r_kp m 1 0)) (1) (0) m ⟨rfl, rfl⟩))
    obtain ⟨rfl, hm_⟩ := q3
    replace h := h m2 hm_
    refine ch_if_eq (tgt := 23) d_r_lacksRange_16 (by decide) (fun c => absurd c (by decide)) (fun _ => ?_)
    refine ch_iconst (v := 1) d_r_lacksRange_19 (by decide) ?_
    refine ch_goto (tgt := 24) d_r_lacksRange_20 (by decide) ?_
    exact ch_iret (ty := .boolean) d_r_lacksRange_24 rfl rfl (Nat.le_of_ble_eq_true rfl) h
  · replace h := h.2 c
    refine ch_iload_n (i := 1) d_r_lacksRange_5 rfl rfl ?_
    refine ch_iload_n (i := 3) d_r_lacksRange_6 rfl rfl ?_
    refine ch_icmp_le (tgt := 23) d_r_lacksRange_7 (by decide) (fun c => ?_) (fun c => ?_)
    · replace h := h.1 c
      refine ch_iconst (v := 0) d_r_lacksRange_23 (by decide) ?_
      exact ch_iret (ty := .boolean) d_r_lacksRange_24 rfl rfl (Nat.le_of_ble_eq_true rfl) h
    · replace h := h.2 c
      refine ch_aload_n (i := 0) d_r_lacksRange_10 rfl rfl ?_
      refine ch_iconst (v := 1) d_r_lacksRange_11 (by decide) ?_
      refine ch_iconst (v := 0) d_r_lacksRange_12 (by decide) ?_
      refine ch_callV (as := [.inl (.int 1), .inl (.int 0)]) d_r_lacksRange_13 lk_r_68 mi_r_keep me_r_keep rfl rfl rfl ⟨Nat.le_of_ble_eq_true rfl, Nat.le_of_ble_eq_true rfl⟩ (Nat.le_of_ble_eq_true rfl) ⟨Nat.le_of_ble_eq_true rfl, Nat.le_of_ble_eq_true rfl⟩ (ch_mono (ch_Ki (fun r4 m5 q6 => ?_)) (s_r_keep g (fun (r_ : Int32) (m_ : ch_M) => (1 = r_ ∧ m_ = r_kp m 1 0)) (1) (0) m ⟨rfl, rfl⟩))
      obtain ⟨rfl, hm_⟩ := q6
      replace h := h m5 hm_
      refine ch_if_eq (tgt := 23) d_r_lacksRange_16 (by decide) (fun c => absurd c (by decide)) (fun _ => ?_)
      refine ch_iconst (v := 1) d_r_lacksRange_19 (by decide) ?_
      refine ch_goto (tgt := 24) d_r_lacksRange_20 (by decide) ?_
      exact ch_iret (ty := .boolean) d_r_lacksRange_24 rfl rfl (Nat.le_of_ble_eq_true rfl) h
theorem e_r_lacksChild (g : ch_G) (Q : ch_O → ch_M → Prop) (j1 : Nat) (p2 : Int32) (m : ch_M) (h : ch_J g m_r_lacksChild (ch_rm m_r_lacksChild) (ch_E g m_r_lacksChild Q) 0 [some (.inr (3, 0, 0)), some (.inr (1, j1, 0)), some (.inl (.int p2))] [] m 0) : ch_C g m_r_lacksChild [.inr (3, 0, 0), .inr (1, j1, 0), .inl (.int p2)] m Q :=
  ch_enter mf_r_lacksChild (by intro v hv; simp only [List.mem_cons, List.not_mem_nil, or_false] at hv; rcases hv with rfl | rfl | rfl <;> rfl) (Nat.le_of_ble_eq_true rfl) h
set_option maxHeartbeats 1600000 in
theorem g_r_lacksChild_0 (g : ch_G) (Q : ch_O → ch_M → Prop) (j1 : Nat) (p2 : Int32) (m : ch_M) (h : (((0 ≤ p2 ∧ p2 < m (1, j1, 0) 8) → Q (.inl (some (.inl (.int 0)))) m) ∧ ((¬ (0 ≤ p2 ∧ p2 < m (1, j1, 0) 8)) → ((∀ m5 : ch_M, m5 = r_kp m 3 (m (1, j1, 0) 8) → Q (.inl (some (.inl (.int 1)))) m5))))) : ch_J g m_r_lacksChild (ch_rm m_r_lacksChild) (ch_E g m_r_lacksChild Q) 0 [some (.inr (3, 0, 0)), some (.inr (1, j1, 0)), some (.inl (.int p2))] [] m 0 := by
  refine ch_aload_n (i := 1) d_r_lacksChild_0 rfl rfl ?_
  refine ch_iload_n (i := 2) d_r_lacksChild_1 rfl rfl ?_
  refine ch_callV (as := [.inl (.int p2)]) d_r_lacksChild_2 lk_r_110 mi_y_hasChild me_y_hasChild rfl rfl rfl ⟨Nat.le_of_ble_eq_true rfl, Nat.le_of_ble_eq_true rfl⟩ (Nat.le_of_ble_eq_true rfl) ⟨Nat.le_of_ble_eq_true rfl, Nat.le_of_ble_eq_true rfl⟩ (ch_mono (ch_Ki (fun r1 m2 q3 => ?_)) (s_y_hasChild g (fun (r_ : Int32) (m_ : ch_M) => ((0 ≤ p2 ∧ p2 < m (1, j1, 0) 8) ∧ 1 = r_ ∧ m = m_) ∨ ((¬ (0 ≤ p2 ∧ p2 < m (1, j1, 0) 8)) ∧ 0 = r_ ∧ m = m_)) (j1) (p2) m ⟨(fun c_ => (Or.inl ⟨c_, rfl, rfl⟩)), (fun c_ => (Or.inr ⟨c_, rfl, rfl⟩))⟩))
  rcases q3 with ⟨c_, rfl, rfl⟩ | ⟨c_, rfl, rfl⟩
  · replace h := h.1 c_
    refine ch_if_ne (tgt := 24) d_r_lacksChild_5 (by decide) (fun _ => ?_) (fun c => absurd c (by decide))
    refine ch_iconst (v := 0) d_r_lacksChild_24 (by decide) ?_
    exact ch_iret (ty := .boolean) d_r_lacksChild_25 rfl rfl (Nat.le_of_ble_eq_true rfl) h
  · replace h := h.2 c_
    refine ch_if_ne (tgt := 24) d_r_lacksChild_5 (by decide) (fun c => absurd c (by decide)) (fun _ => ?_)
    refine ch_aload_n (i := 0) d_r_lacksChild_8 rfl rfl ?_
    refine ch_iconst (v := 3) d_r_lacksChild_9 (by decide) ?_
    refine ch_aload_n (i := 1) d_r_lacksChild_10 rfl rfl ?_
    refine ch_get (v := .inl (.int (m (1, j1, 0) 8))) d_r_lacksChild_11 fl_r_63 rfl ?_
    refine ch_callV (as := [.inl (.int 3), .inl (.int (m (1, j1, 0) 8))]) d_r_lacksChild_14 lk_r_68 mi_r_keep me_r_keep rfl rfl rfl ⟨Nat.le_of_ble_eq_true rfl, Nat.le_of_ble_eq_true rfl⟩ (Nat.le_of_ble_eq_true rfl) ⟨Nat.le_of_ble_eq_true rfl, Nat.le_of_ble_eq_true rfl⟩ (ch_mono (ch_Ki (fun r4 m5 q6 => ?_)) (s_r_keep g (fun (r_ : Int32) (m_ : ch_M) => (1 = r_ ∧ m_ = r_kp m 3 (m (1, j1, 0) 8))) (3) ((m (1, j1, 0) 8)) m ⟨rfl, rfl⟩))
    obtain ⟨rfl, hm_⟩ := q6
    replace h := h m5 hm_
    refine ch_if_eq (tgt := 24) d_r_lacksChild_17 (by decide) (fun c => absurd c (by decide)) (fun _ => ?_)
    refine ch_iconst (v := 1) d_r_lacksChild_20 (by decide) ?_
    refine ch_goto (tgt := 25) d_r_lacksChild_21 (by decide) ?_
    exact ch_iret (ty := .boolean) d_r_lacksChild_25 rfl rfl (Nat.le_of_ble_eq_true rfl) h
theorem e_r_isWanted (g : ch_G) (Q : ch_O → ch_M → Prop) (j1 : Nat) (p2 : Int32) (m : ch_M) (h : ch_J g m_r_isWanted (ch_rm m_r_isWanted) (ch_E g m_r_isWanted Q) 0 [some (.inr (3, 0, 0)), some (.inr (1, j1, 0)), some (.inl (.int p2))] [] m 0) : ch_C g m_r_isWanted [.inr (3, 0, 0), .inr (1, j1, 0), .inl (.int p2)] m Q :=
  ch_enter mf_r_isWanted (by intro v hv; simp only [List.mem_cons, List.not_mem_nil, or_false] at hv; rcases hv with rfl | rfl | rfl <;> rfl) (Nat.le_of_ble_eq_true rfl) h
set_option maxHeartbeats 1600000 in
theorem g_r_isWanted_0 (g : ch_G) (Q : ch_O → ch_M → Prop) (j1 : Nat) (p2 : Int32) (m : ch_M) (h : (vp_in p2 5) ∧ (((m (1, j1, 5) (Int32.toNatClampNeg p2)) ≤ 0 → Q (.inl (some (.inl (.int 0)))) m) ∧ (¬ (m (1, j1, 5) (Int32.toNatClampNeg p2)) ≤ 0 → ((∀ m3 : ch_M, m3 = r_kp m 7 (m (1, j1, 5) (Int32.toNatClampNeg p2)) → Q (.inl (some (.inl (.int 1)))) m3))))) : ch_J g m_r_isWanted (ch_rm m_r_isWanted) (ch_E g m_r_isWanted Q) 0 [some (.inr (3, 0, 0)), some (.inr (1, j1, 0)), some (.inl (.int p2))] [] m 0 := by
  refine ch_aload_n (i := 1) d_r_isWanted_0 rfl rfl ?_
  refine ch_get (v := .inr (1, j1, 5)) d_r_isWanted_1 fl_r_100 rfl ?_
  refine ch_iload_n (i := 2) d_r_isWanted_4 rfl rfl ?_
  have b1 := h.1
  replace h := h.2
  refine ch_iald (n := 5) d_r_isWanted_5 (by decide) rfl b1 ?_
  refine ch_if_le (tgt := 28) d_r_isWanted_6 (by decide) (fun c => ?_) (fun c => ?_)
  · replace h := h.1 c
    refine ch_iconst (v := 0) d_r_isWanted_28 (by decide) ?_
    exact ch_iret (ty := .boolean) d_r_isWanted_29 rfl rfl (Nat.le_of_ble_eq_true rfl) h
  · replace h := h.2 c
    refine ch_aload_n (i := 0) d_r_isWanted_9 rfl rfl ?_
    refine ch_bipush (v := 7) d_r_isWanted_10 (by decide) ?_
    refine ch_aload_n (i := 1) d_r_isWanted_12 rfl rfl ?_
    refine ch_get (v := .inr (1, j1, 5)) d_r_isWanted_13 fl_r_100 rfl ?_
    refine ch_iload_n (i := 2) d_r_isWanted_16 rfl rfl ?_
    refine ch_iald (n := 5) d_r_isWanted_17 (by decide) rfl b1 ?_
    refine ch_callV (as := [.inl (.int 7), .inl (.int (m (1, j1, 5) (Int32.toNatClampNeg p2)))]) d_r_isWanted_18 lk_r_68 mi_r_keep me_r_keep rfl rfl rfl ⟨Nat.le_of_ble_eq_true rfl, Nat.le_of_ble_eq_true rfl⟩ (Nat.le_of_ble_eq_true rfl) ⟨Nat.le_of_ble_eq_true rfl, Nat.le_of_ble_eq_true rfl⟩ (ch_mono (ch_Ki (fun r2 m3 q4 => ?_)) (s_r_keep g (fun (r_ : Int32) (m_ : ch_M) => (1 = r_ ∧ m_ = r_kp m 7 (m (1, j1, 5) (Int32.toNatClampNeg p2)))) (7) ((m (1, j1, 5) (Int32.toNatClampNeg p2))) m ⟨rfl, rfl⟩))
    obtain ⟨rfl, hm_⟩ := q4
    replace h := h m3 hm_
    refine ch_if_eq (tgt := 28) d_r_isWanted_21 (by decide) (fun c => absurd c (by decide)) (fun _ => ?_)
    refine ch_iconst (v := 1) d_r_isWanted_24 (by decide) ?_
    refine ch_goto (tgt := 29) d_r_isWanted_25 (by decide) ?_
    exact ch_iret (ty := .boolean) d_r_isWanted_29 rfl rfl (Nat.le_of_ble_eq_true rfl) h
theorem e_r_lacksPebbles (g : ch_G) (Q : ch_O → ch_M → Prop) (j1 : Nat) (p2 : Int32) (p3 : Int32) (m : ch_M) (h : ch_J g m_r_lacksPebbles (ch_rm m_r_lacksPebbles) (ch_E g m_r_lacksPebbles Q) 0 [some (.inr (3, 0, 0)), some (.inr (1, j1, 0)), some (.inl (.int p2)), some (.inl (.int p3))] [] m 0) : ch_C g m_r_lacksPebbles [.inr (3, 0, 0), .inr (1, j1, 0), .inl (.int p2), .inl (.int p3)] m Q :=
  ch_enter mf_r_lacksPebbles (by intro v hv; simp only [List.mem_cons, List.not_mem_nil, or_false] at hv; rcases hv with rfl | rfl | rfl | rfl <;> rfl) (Nat.le_of_ble_eq_true rfl) h
set_option maxHeartbeats 1600000 in
theorem g_r_lacksPebbles_0 (g : ch_G) (Q : ch_O → ch_M → Prop) (j1 : Nat) (p2 : Int32) (p3 : Int32) (m : ch_M) (h : (vp_in p2 5) ∧ ((p3 ≤ (m (1, j1, 3) (Int32.toNatClampNeg p2)) → Q (.inl (some (.inl (.int 0)))) m) ∧ (¬ p3 ≤ (m (1, j1, 3) (Int32.toNatClampNeg p2)) → ((∀ m3 : ch_M, m3 = r_kp m 5 (p3 - (m (1, j1, 3) (Int32.toNatClampNeg p2))) → Q (.inl (some (.inl (.int 1)))) m3))))) : ch_J g m_r_lacksPebbles (ch_rm m_r_lacksPebbles) (ch_E g m_r_lacksPebbles Q) 0 [some (.inr (3, 0, 0)), some (.inr (1, j1, 0)), some (.inl (.int p2)), some (.inl (.int p3))] [] m 0 := by
  refine ch_aload_n (i := 1) d_r_lacksPebbles_0 rfl rfl ?_
  refine ch_get (v := .inr (1, j1, 3)) d_r_lacksPebbles_1 fl_r_114 rfl ?_
  refine ch_iload_n (i := 2) d_r_lacksPebbles_4 rfl rfl ?_
  have b1 := h.1
  replace h := h.2
  refine ch_iald (n := 5) d_r_lacksPebbles_5 (by decide) rfl b1 ?_
  refine ch_iload_n (i := 3) d_r_lacksPebbles_6 rfl rfl ?_
  refine ch_icmp_ge (tgt := 30) d_r_lacksPebbles_7 (by decide) (fun c => ?_) (fun c => ?_)
  · replace h := h.1 c
    refine ch_iconst (v := 0) d_r_lacksPebbles_30 (by decide) ?_
    exact ch_iret (ty := .boolean) d_r_lacksPebbles_31 rfl rfl (Nat.le_of_ble_eq_true rfl) h
  · replace h := h.2 c
    refine ch_aload_n (i := 0) d_r_lacksPebbles_10 rfl rfl ?_
    refine ch_iconst (v := 5) d_r_lacksPebbles_11 (by decide) ?_
    refine ch_iload_n (i := 3) d_r_lacksPebbles_12 rfl rfl ?_
    refine ch_aload_n (i := 1) d_r_lacksPebbles_13 rfl rfl ?_
    refine ch_get (v := .inr (1, j1, 3)) d_r_lacksPebbles_14 fl_r_114 rfl ?_
    refine ch_iload_n (i := 2) d_r_lacksPebbles_17 rfl rfl ?_
    refine ch_iald (n := 5) d_r_lacksPebbles_18 (by decide) rfl b1 ?_
    refine ch_isub d_r_lacksPebbles_19 ?_
    refine ch_callV (as := [.inl (.int 5), .inl (.int (p3 - (m (1, j1, 3) (Int32.toNatClampNeg p2))))]) d_r_lacksPebbles_20 lk_r_68 mi_r_keep me_r_keep rfl rfl rfl ⟨Nat.le_of_ble_eq_true rfl, Nat.le_of_ble_eq_true rfl⟩ (Nat.le_of_ble_eq_true rfl) ⟨Nat.le_of_ble_eq_true rfl, Nat.le_of_ble_eq_true rfl⟩ (ch_mono (ch_Ki (fun r2 m3 q4 => ?_)) (s_r_keep g (fun (r_ : Int32) (m_ : ch_M) => (1 = r_ ∧ m_ = r_kp m 5 (p3 - (m (1, j1, 3) (Int32.toNatClampNeg p2))))) (5) ((p3 - (m (1, j1, 3) (Int32.toNatClampNeg p2)))) m ⟨rfl, rfl⟩))
    obtain ⟨rfl, hm_⟩ := q4
    replace h := h m3 hm_
    refine ch_if_eq (tgt := 30) d_r_lacksPebbles_23 (by decide) (fun c => absurd c (by decide)) (fun _ => ?_)
    refine ch_iconst (v := 1) d_r_lacksPebbles_26 (by decide) ?_
    refine ch_goto (tgt := 31) d_r_lacksPebbles_27 (by decide) ?_
    exact ch_iret (ty := .boolean) d_r_lacksPebbles_31 rfl rfl (Nat.le_of_ble_eq_true rfl) h
