theorem e_d_signAt (g : ch_G) (Q : ch_O → ch_M → Prop) (j1 : Nat) (m : ch_M) (h : ch_J g m_d_signAt (ch_rm m_d_signAt) (ch_E g m_d_signAt Q) 0 [some (.inr (7, 0, 0)), some (.inr (6, j1, 0))] [] m 0) : ch_C g m_d_signAt [.inr (7, 0, 0), .inr (6, j1, 0)] m Q :=
  ch_enter mf_d_signAt (by intro v hv; simp only [List.mem_cons, List.not_mem_nil, or_false] at hv; rcases hv with rfl | rfl <;> rfl) (Nat.le_of_ble_eq_true rfl) h
set_option maxHeartbeats 1600000 in
theorem g_d_signAt_0 (g : ch_G) (Q : ch_O → ch_M → Prop) (j1 : Nat) (m : ch_M) (h : (((m (7, 0, 0) 0) < 0 → Q (.inl (some (.inl (.int (-1))))) m) ∧ (¬ (m (7, 0, 0) 0) < 0 → (((m (6, j1, 0) 1) ≤ (m (7, 0, 0) 0) → Q (.inl (some (.inl (.int (-1))))) m) ∧ (¬ (m (6, j1, 0) 1) ≤ (m (7, 0, 0) 0) → ((60 ≤ (m (7, 0, 0) 0) → Q (.inl (some (.inl (.int (-1))))) m) ∧ (¬ 60 ≤ (m (7, 0, 0) 0) → (vp_in (m (7, 0, 0) 0) 60) ∧ Q (.inl (some (.inl (.int (m (6, j1, 1) (Int32.toNatClampNeg (m (7, 0, 0) 0))))))) m))))))) : ch_J g m_d_signAt (ch_rm m_d_signAt) (ch_E g m_d_signAt Q) 0 [some (.inr (7, 0, 0)), some (.inr (6, j1, 0))] [] m 0 := by
  refine ch_aload_n (i := 0) d_d_signAt_0 rfl rfl ?_
  refine ch_get (v := .inl (.int (m (7, 0, 0) 0))) d_d_signAt_1 fl_d_9 rfl ?_
  refine ch_if_lt (tgt := 42) d_d_signAt_4 (by decide) (fun c => ?_) (fun c => ?_)
  · replace h := h.1 c
    refine ch_iconst (v := (-1)) d_d_signAt_42 (by decide) ?_
    exact ch_iret (ty := .int) d_d_signAt_43 rfl rfl (Nat.le_of_ble_eq_true rfl) h
  · replace h := h.2 c
    refine ch_aload_n (i := 0) d_d_signAt_7 rfl rfl ?_
    refine ch_get (v := .inl (.int (m (7, 0, 0) 0))) d_d_signAt_8 fl_d_9 rfl ?_
    refine ch_aload_n (i := 1) d_d_signAt_11 rfl rfl ?_
    refine ch_get (v := .inl (.int (m (6, j1, 0) 1))) d_d_signAt_12 fl_d_19 rfl ?_
    refine ch_icmp_ge (tgt := 42) d_d_signAt_15 (by decide) (fun c => ?_) (fun c => ?_)
    · replace h := h.1 c
      refine ch_iconst (v := (-1)) d_d_signAt_42 (by decide) ?_
      exact ch_iret (ty := .int) d_d_signAt_43 rfl rfl (Nat.le_of_ble_eq_true rfl) h
    · replace h := h.2 c
      refine ch_aload_n (i := 0) d_d_signAt_18 rfl rfl ?_
      refine ch_get (v := .inl (.int (m (7, 0, 0) 0))) d_d_signAt_19 fl_d_9 rfl ?_
      refine ch_aload_n (i := 1) d_d_signAt_22 rfl rfl ?_
      refine ch_get (v := .inr (6, j1, 1)) d_d_signAt_23 fl_d_87 rfl ?_
      refine ch_alen (v := 60) d_d_signAt_26 (by decide) (t := 1) (by decide) rfl rfl ?_
      refine ch_icmp_ge (tgt := 42) d_d_signAt_27 (by decide) (fun c => ?_) (fun c => ?_)
      · replace h := h.1 c
        refine ch_iconst (v := (-1)) d_d_signAt_42 (by decide) ?_
        exact ch_iret (ty := .int) d_d_signAt_43 rfl rfl (Nat.le_of_ble_eq_true rfl) h
      · replace h := h.2 c
        refine ch_aload_n (i := 1) d_d_signAt_30 rfl rfl ?_
        refine ch_get (v := .inr (6, j1, 1)) d_d_signAt_31 fl_d_87 rfl ?_
        refine ch_aload_n (i := 0) d_d_signAt_34 rfl rfl ?_
        refine ch_get (v := .inl (.int (m (7, 0, 0) 0))) d_d_signAt_35 fl_d_9 rfl ?_
        have b1 := h.1
        replace h := h.2
        refine ch_cald (n := 60) d_d_signAt_38 (by decide) rfl b1 ?_
        refine ch_goto (tgt := 43) d_d_signAt_39 (by decide) ?_
        exact ch_iret (ty := .int) d_d_signAt_43 rfl rfl (Nat.le_of_ble_eq_true rfl) h
theorem e_d_isKind (g : ch_G) (Q : ch_O → ch_M → Prop) (p1 : Int32) (m : ch_M) (h : ch_J g m_d_isKind (ch_rm m_d_isKind) (ch_E g m_d_isKind Q) 0 [some (.inr (7, 0, 0)), some (.inl (.int p1))] [] m 0) : ch_C g m_d_isKind [.inr (7, 0, 0), .inl (.int p1)] m Q :=
  ch_enter mf_d_isKind (by intro v hv; simp only [List.mem_cons, List.not_mem_nil, or_false] at hv; rcases hv with rfl | rfl <;> rfl) (Nat.le_of_ble_eq_true rfl) h
set_option maxHeartbeats 1600000 in
theorem g_d_isKind_0 (g : ch_G) (Q : ch_O → ch_M → Prop) (p1 : Int32) (m : ch_M) (h : ((p1 = 99 → Q (.inl (some (.inl (.int 1)))) m) ∧ (p1 = 100 → Q (.inl (some (.inl (.int 0)))) m) ∧ (p1 = 101 → Q (.inl (some (.inl (.int 0)))) m) ∧ (p1 = 102 → Q (.inl (some (.inl (.int 0)))) m) ∧ (p1 = 103 → Q (.inl (some (.inl (.int 1)))) m) ∧ (p1 = 104 → Q (.inl (some (.inl (.int 1)))) m) ∧ (p1 = 105 → Q (.inl (some (.inl (.int 0)))) m) ∧ (p1 = 106 → Q (.inl (some (.inl (.int 0)))) m) ∧ (p1 = 107 → Q (.inl (some (.inl (.int 0)))) m) ∧ (p1 = 108 → Q (.inl (some (.inl (.int 0)))) m) ∧ (p1 = 109 → Q (.inl (some (.inl (.int 0)))) m) ∧ (p1 = 110 → Q (.inl (some (.inl (.int 1)))) m) ∧ (p1 = 111 → Q (.inl (some (.inl (.int 0)))) m) ∧ (p1 = 112 → Q (.inl (some (.inl (.int 0)))) m) ∧ (p1 = 113 → Q (.inl (some (.inl (.int 0)))) m) ∧ (p1 = 114 → Q (.inl (some (.inl (.int 1)))) m) ∧ (p1 = 115 → Q (.inl (some (.inl (.int 1)))) m) ∧ (p1 = 116 → Q (.inl (some (.inl (.int 1)))) m) ∧ (p1 = 117 → Q (.inl (some (.inl (.int 0)))) m) ∧ (p1 = 118 → Q (.inl (some (.inl (.int 0)))) m) ∧ (p1 = 119 → Q (.inl (some (.inl (.int 1)))) m) ∧ ((Int32.toInt p1 < 99 ∨ 119 < Int32.toInt p1) → Q (.inl (some (.inl (.int 0)))) m))) : ch_J g m_d_isKind (ch_rm m_d_isKind) (ch_E g m_d_isKind Q) 0 [some (.inr (7, 0, 0)), some (.inl (.int p1))] [] m 0 := by
  refine ch_iload_n (i := 1) d_d_isKind_0 rfl rfl ?_
  by_cases e99 : p1 = 99
  · replace h := h.1 e99
    refine ch_tswIn (tgt := 100) (off := 99) d_d_isKind_1 (by rw [e99]; decide) (by rw [e99]; decide) (by rw [e99]; rfl) (by decide) ?_
    refine ch_iconst (v := 1) d_d_isKind_100 (by decide) ?_
    exact ch_iret (ty := .boolean) d_d_isKind_101 rfl rfl (Nat.le_of_ble_eq_true rfl) h
  replace h := h.2
  by_cases e100 : p1 = 100
  · replace h := h.1 e100
    refine ch_tswIn (tgt := 102) (off := 101) d_d_isKind_1 (by rw [e100]; decide) (by rw [e100]; decide) (by rw [e100]; rfl) (by decide) ?_
    refine ch_iconst (v := 0) d_d_isKind_102 (by decide) ?_
    exact ch_iret (ty := .boolean) d_d_isKind_103 rfl rfl (Nat.le_of_ble_eq_true rfl) h
  replace h := h.2
  by_cases e101 : p1 = 101
  · replace h := h.1 e101
    refine ch_tswIn (tgt := 102) (off := 101) d_d_isKind_1 (by rw [e101]; decide) (by rw [e101]; decide) (by rw [e101]; rfl) (by decide) ?_
    refine ch_iconst (v := 0) d_d_isKind_102 (by decide) ?_
    exact ch_iret (ty := .boolean) d_d_isKind_103 rfl rfl (Nat.le_of_ble_eq_true rfl) h
  replace h := h.2
  by_cases e102 : p1 = 102
  · replace h := h.1 e102
    refine ch_tswIn (tgt := 102) (off := 101) d_d_isKind_1 (by rw [e102]; decide) (by rw [e102]; decide) (by rw [e102]; rfl) (by decide) ?_
    refine ch_iconst (v := 0) d_d_isKind_102 (by decide) ?_
    exact ch_iret (ty := .boolean) d_d_isKind_103 rfl rfl (Nat.le_of_ble_eq_true rfl) h
  replace h := h.2
  by_cases e103 : p1 = 103
  · replace h := h.1 e103
    refine ch_tswIn (tgt := 100) (off := 99) d_d_isKind_1 (by rw [e103]; decide) (by rw [e103]; decide) (by rw [e103]; rfl) (by decide) ?_
    refine ch_iconst (v := 1) d_d_isKind_100 (by decide) ?_
    exact ch_iret (ty := .boolean) d_d_isKind_101 rfl rfl (Nat.le_of_ble_eq_true rfl) h
  replace h := h.2
  by_cases e104 : p1 = 104
  · replace h := h.1 e104
    refine ch_tswIn (tgt := 100) (off := 99) d_d_isKind_1 (by rw [e104]; decide) (by rw [e104]; decide) (by rw [e104]; rfl) (by decide) ?_
    refine ch_iconst (v := 1) d_d_isKind_100 (by decide) ?_
    exact ch_iret (ty := .boolean) d_d_isKind_101 rfl rfl (Nat.le_of_ble_eq_true rfl) h
  replace h := h.2
  by_cases e105 : p1 = 105
  · replace h := h.1 e105
    refine ch_tswIn (tgt := 102) (off := 101) d_d_isKind_1 (by rw [e105]; decide) (by rw [e105]; decide) (by rw [e105]; rfl) (by decide) ?_
    refine ch_iconst (v := 0) d_d_isKind_102 (by decide) ?_
    exact ch_iret (ty := .boolean) d_d_isKind_103 rfl rfl (Nat.le_of_ble_eq_true rfl) h
  replace h := h.2
  by_cases e106 : p1 = 106
  · replace h := h.1 e106
    refine ch_tswIn (tgt := 102) (off := 101) d_d_isKind_1 (by rw [e106]; decide) (by rw [e106]; decide) (by rw [e106]; rfl) (by decide) ?_
    refine ch_iconst (v := 0) d_d_isKind_102 (by decide) ?_
    exact ch_iret (ty := .boolean) d_d_isKind_103 rfl rfl (Nat.le_of_ble_eq_true rfl) h
  replace h := h.2
  by_cases e107 : p1 = 107
  · replace h := h.1 e107
    refine ch_tswIn (tgt := 102) (off := 101) d_d_isKind_1 (by rw [e107]; decide) (by rw [e107]; decide) (by rw [e107]; rfl) (by decide) ?_
    refine ch_iconst (v := 0) d_d_isKind_102 (by decide) ?_
    exact ch_iret (ty := .boolean) d_d_isKind_103 rfl rfl (Nat.le_of_ble_eq_true rfl) h
  replace h := h.2
  by_cases e108 : p1 = 108
  · replace h := h.1 e108
    refine ch_tswIn (tgt := 102) (off := 101) d_d_isKind_1 (by rw [e108]; decide) (by rw [e108]; decide) (by rw [e108]; rfl) (by decide) ?_
    refine ch_iconst (v := 0) d_d_isKind_102 (by decide) ?_
    exact ch_iret (ty := .boolean) d_d_isKind_103 rfl rfl (Nat.le_of_ble_eq_true rfl) h
  replace h := h.2
  by_cases e109 : p1 = 109
  · replace h := h.1 e109
    refine ch_tswIn (tgt := 102) (off := 101) d_d_isKind_1 (by rw [e109]; decide) (by rw [e109]; decide) (by rw [e109]; rfl) (by decide) ?_
    refine ch_iconst (v := 0) d_d_isKind_102 (by decide) ?_
    exact ch_iret (ty := .boolean) d_d_isKind_103 rfl rfl (Nat.le_of_ble_eq_true rfl) h
  replace h := h.2
  by_cases e110 : p1 = 110
  · replace h := h.1 e110
    refine ch_tswIn (tgt := 100) (off := 99) d_d_isKind_1 (by rw [e110]; decide) (by rw [e110]; decide) (by rw [e110]; rfl) (by decide) ?_
    refine ch_iconst (v := 1) d_d_isKind_100 (by decide) ?_
    exact ch_iret (ty := .boolean) d_d_isKind_101 rfl rfl (Nat.le_of_ble_eq_true rfl) h
  replace h := h.2
  by_cases e111 : p1 = 111
  · replace h := h.1 e111
    refine ch_tswIn (tgt := 102) (off := 101) d_d_isKind_1 (by rw [e111]; decide) (by rw [e111]; decide) (by rw [e111]; rfl) (by decide) ?_
    refine ch_iconst (v := 0) d_d_isKind_102 (by decide) ?_
    exact ch_iret (ty := .boolean) d_d_isKind_103 rfl rfl (Nat.le_of_ble_eq_true rfl) h
  replace h := h.2
  by_cases e112 : p1 = 112
  · replace h := h.1 e112
    refine ch_tswIn (tgt := 102) (off := 101) d_d_isKind_1 (by rw [e112]; decide) (by rw [e112]; decide) (by rw [e112]; rfl) (by decide) ?_
    refine ch_iconst (v := 0) d_d_isKind_102 (by decide) ?_
    exact ch_iret (ty := .boolean) d_d_isKind_103 rfl rfl (Nat.le_of_ble_eq_true rfl) h
  replace h := h.2
  by_cases e113 : p1 = 113
  · replace h := h.1 e113
    refine ch_tswIn (tgt := 102) (off := 101) d_d_isKind_1 (by rw [e113]; decide) (by rw [e113]; decide) (by rw [e113]; rfl) (by decide) ?_
    refine ch_iconst (v := 0) d_d_isKind_102 (by decide) ?_
    exact ch_iret (ty := .boolean) d_d_isKind_103 rfl rfl (Nat.le_of_ble_eq_true rfl) h
  replace h := h.2
  by_cases e114 : p1 = 114
  · replace h := h.1 e114
    refine ch_tswIn (tgt := 100) (off := 99) d_d_isKind_1 (by rw [e114]; decide) (by rw [e114]; decide) (by rw [e114]; rfl) (by decide) ?_
    refine ch_iconst (v := 1) d_d_isKind_100 (by decide) ?_
    exact ch_iret (ty := .boolean) d_d_isKind_101 rfl rfl (Nat.le_of_ble_eq_true rfl) h
  replace h := h.2
  by_cases e115 : p1 = 115
  · replace h := h.1 e115
    refine ch_tswIn (tgt := 100) (off := 99) d_d_isKind_1 (by rw [e115]; decide) (by rw [e115]; decide) (by rw [e115]; rfl) (by decide) ?_
    refine ch_iconst (v := 1) d_d_isKind_100 (by decide) ?_
    exact ch_iret (ty := .boolean) d_d_isKind_101 rfl rfl (Nat.le_of_ble_eq_true rfl) h
  replace h := h.2
  by_cases e116 : p1 = 116
  · replace h := h.1 e116
    refine ch_tswIn (tgt := 100) (off := 99) d_d_isKind_1 (by rw [e116]; decide) (by rw [e116]; decide) (by rw [e116]; rfl) (by decide) ?_
    refine ch_iconst (v := 1) d_d_isKind_100 (by decide) ?_
    exact ch_iret (ty := .boolean) d_d_isKind_101 rfl rfl (Nat.le_of_ble_eq_true rfl) h
  replace h := h.2
  by_cases e117 : p1 = 117
  · replace h := h.1 e117
    refine ch_tswIn (tgt := 102) (off := 101) d_d_isKind_1 (by rw [e117]; decide) (by rw [e117]; decide) (by rw [e117]; rfl) (by decide) ?_
    refine ch_iconst (v := 0) d_d_isKind_102 (by decide) ?_
    exact ch_iret (ty := .boolean) d_d_isKind_103 rfl rfl (Nat.le_of_ble_eq_true rfl) h
  replace h := h.2
  by_cases e118 : p1 = 118
  · replace h := h.1 e118
    refine ch_tswIn (tgt := 102) (off := 101) d_d_isKind_1 (by rw [e118]; decide) (by rw [e118]; decide) (by rw [e118]; rfl) (by decide) ?_
    refine ch_iconst (v := 0) d_d_isKind_102 (by decide) ?_
    exact ch_iret (ty := .boolean) d_d_isKind_103 rfl rfl (Nat.le_of_ble_eq_true rfl) h
  replace h := h.2
  by_cases e119 : p1 = 119
  · replace h := h.1 e119
    refine ch_tswIn (tgt := 100) (off := 99) d_d_isKind_1 (by rw [e119]; decide) (by rw [e119]; decide) (by rw [e119]; rfl) (by decide) ?_
    refine ch_iconst (v := 1) d_d_isKind_100 (by decide) ?_
    exact ch_iret (ty := .boolean) d_d_isKind_101 rfl rfl (Nat.le_of_ble_eq_true rfl) h
  replace h := h.2
  have hx : (Int32.toInt p1 < 99 ∨ 119 < Int32.toInt p1) := by
    have f99 : Int32.toInt p1 ≠ 99 := fun q => e99 (Int32.toInt_inj.mp (q.trans (by decide)))
    have f100 : Int32.toInt p1 ≠ 100 := fun q => e100 (Int32.toInt_inj.mp (q.trans (by decide)))
    have f101 : Int32.toInt p1 ≠ 101 := fun q => e101 (Int32.toInt_inj.mp (q.trans (by decide)))
    have f102 : Int32.toInt p1 ≠ 102 := fun q => e102 (Int32.toInt_inj.mp (q.trans (by decide)))
    have f103 : Int32.toInt p1 ≠ 103 := fun q => e103 (Int32.toInt_inj.mp (q.trans (by decide)))
    have f104 : Int32.toInt p1 ≠ 104 := fun q => e104 (Int32.toInt_inj.mp (q.trans (by decide)))
    have f105 : Int32.toInt p1 ≠ 105 := fun q => e105 (Int32.toInt_inj.mp (q.trans (by decide)))
    have f106 : Int32.toInt p1 ≠ 106 := fun q => e106 (Int32.toInt_inj.mp (q.trans (by decide)))
    have f107 : Int32.toInt p1 ≠ 107 := fun q => e107 (Int32.toInt_inj.mp (q.trans (by decide)))
    have f108 : Int32.toInt p1 ≠ 108 := fun q => e108 (Int32.toInt_inj.mp (q.trans (by decide)))
    have f109 : Int32.toInt p1 ≠ 109 := fun q => e109 (Int32.toInt_inj.mp (q.trans (by decide)))
    have f110 : Int32.toInt p1 ≠ 110 := fun q => e110 (Int32.toInt_inj.mp (q.trans (by decide)))
    have f111 : Int32.toInt p1 ≠ 111 := fun q => e111 (Int32.toInt_inj.mp (q.trans (by decide)))
    have f112 : Int32.toInt p1 ≠ 112 := fun q => e112 (Int32.toInt_inj.mp (q.trans (by decide)))
    have f113 : Int32.toInt p1 ≠ 113 := fun q => e113 (Int32.toInt_inj.mp (q.trans (by decide)))
    have f114 : Int32.toInt p1 ≠ 114 := fun q => e114 (Int32.toInt_inj.mp (q.trans (by decide)))
    have f115 : Int32.toInt p1 ≠ 115 := fun q => e115 (Int32.toInt_inj.mp (q.trans (by decide)))
    have f116 : Int32.toInt p1 ≠ 116 := fun q => e116 (Int32.toInt_inj.mp (q.trans (by decide)))
    have f117 : Int32.toInt p1 ≠ 117 := fun q => e117 (Int32.toInt_inj.mp (q.trans (by decide)))
    have f118 : Int32.toInt p1 ≠ 118 := fun q => e118 (Int32.toInt_inj.mp (q.trans (by decide)))
    have f119 : Int32.toInt p1 ≠ 119 := fun q => e119 (Int32.toInt_inj.mp (q.trans (by decide)))
    omega
  replace h := h hx
  refine ch_tswOut (tgt := 102) d_d_isKind_1 hx (by decide) ?_
  refine ch_iconst (v := 0) d_d_isKind_102 (by decide) ?_
  exact ch_iret (ty := .boolean) d_d_isKind_103 rfl rfl (Nat.le_of_ble_eq_true rfl) h
