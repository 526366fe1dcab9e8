theorem e_a_isLatin1 (g : ch_G) (Q : ch_O → ch_M → Prop)  (m : ch_M) (h : ch_J g m_a_isLatin1 (ch_rm m_a_isLatin1) (ch_E g m_a_isLatin1 Q) 0 [some (.inr (9, 0, 0))] [] m 0) : ch_C g m_a_isLatin1 [.inr (9, 0, 0)] m Q :=
  ch_enter mf_a_isLatin1 (by intro v hv; simp only [List.mem_cons, List.not_mem_nil, or_false] at hv; rcases hv with rfl <;> rfl) (Nat.le_of_ble_eq_true rfl) h
set_option maxHeartbeats 1600000 in
theorem g_a_isLatin1_0 (g : ch_G) (Q : ch_O → ch_M → Prop)  (m : ch_M) (h : ((¬ (m (9, 0, 0) 1) = 0 → Q (.inl (some (.inl (.int 0)))) m) ∧ ((m (9, 0, 0) 1) = 0 → Q (.inl (some (.inl (.int 1)))) m))) : ch_J g m_a_isLatin1 (ch_rm m_a_isLatin1) (ch_E g m_a_isLatin1 Q) 0 [some (.inr (9, 0, 0))] [] m 0 := by
  refine ch_getsC d_a_isLatin1_0 fl_a_18 ?_
  refine ch_if_eq (tgt := 17) d_a_isLatin1_3 (by decide) (fun c => absurd c (by decide)) (fun _ => ?_)
  refine ch_aload_n (i := 0) d_a_isLatin1_6 rfl rfl ?_
  refine ch_get (v := .inl (.int (m (9, 0, 0) 1))) d_a_isLatin1_7 fl_a_22 rfl ?_
  refine ch_if_ne (tgt := 17) d_a_isLatin1_10 (by decide) (fun c => ?_) (fun c => ?_)
  · replace h := h.1 c
    refine ch_iconst (v := 0) d_a_isLatin1_17 (by decide) ?_
    exact ch_iret (ty := .boolean) d_a_isLatin1_18 rfl rfl (Nat.le_of_ble_eq_true rfl) h
  · replace h := h.2 c
    refine ch_iconst (v := 1) d_a_isLatin1_13 (by decide) ?_
    refine ch_goto (tgt := 18) d_a_isLatin1_14 (by decide) ?_
    exact ch_iret (ty := .boolean) d_a_isLatin1_18 rfl rfl (Nat.le_of_ble_eq_true rfl) h
set_option maxHeartbeats 1600000 in
theorem s_a_isLatin1 (g : ch_G) (q : Int32 → ch_M → Prop)  (m : ch_M) (h : (m (9, 0, 0) 1 = 0) ∧ q 1 m) : ch_C g m_a_isLatin1 [.inr (9, 0, 0)] m (ch_oi q) := by
  refine e_a_isLatin1 g _  m ?_
  refine g_a_isLatin1_0 g _ _ ?_
  exact ⟨fun z => absurd h.1 z, fun _ => ch_oi_iff.mpr h.2⟩
theorem e_a_ensureCapacityInternal (g : ch_G) (Q : ch_O → ch_M → Prop) (p1 : Int32) (m : ch_M) (h : ch_J g m_a_ensureCapacityInternal (ch_rm m_a_ensureCapacityInternal) (ch_E g m_a_ensureCapacityInternal Q) 0 [some (.inr (9, 0, 0)), some (.inl (.int p1)), none] [] m 0) : ch_C g m_a_ensureCapacityInternal [.inr (9, 0, 0), .inl (.int p1)] m Q :=
  ch_enter mf_a_ensureCapacityInternal (by intro v hv; simp only [List.mem_cons, List.not_mem_nil, or_false] at hv; rcases hv with rfl | rfl <;> rfl) (Nat.le_of_ble_eq_true rfl) h
set_option maxHeartbeats 1600000 in
theorem g_a_ensureCapacityInternal_0 (g : ch_G) (Q : ch_O → ch_M → Prop) (p1 : Int32) (m : ch_M) (h : (((p1 - (16 >>> ((m (9, 0, 0) 1) &&& (31 : Int32)))) ≤ 0 → Q (.inl none) m) ∧ (¬ (p1 - (16 >>> ((m (9, 0, 0) 1) &&& (31 : Int32)))) ≤ 0 → False))) : ch_J g m_a_ensureCapacityInternal (ch_rm m_a_ensureCapacityInternal) (ch_E g m_a_ensureCapacityInternal Q) 0 [some (.inr (9, 0, 0)), some (.inl (.int p1)), none] [] m 0 := by
  refine ch_aload_n (i := 0) d_a_ensureCapacityInternal_0 rfl rfl ?_
  refine ch_get (v := .inr (9, 0, 1)) d_a_ensureCapacityInternal_1 fl_a_15 rfl ?_
  refine ch_alen (v := 16) d_a_ensureCapacityInternal_4 (by decide) (t := 5) (by decide) rfl rfl ?_
  refine ch_aload_n (i := 0) d_a_ensureCapacityInternal_5 rfl rfl ?_
  refine ch_get (v := .inl (.int (m (9, 0, 0) 1))) d_a_ensureCapacityInternal_6 fl_a_22 rfl ?_
  refine ch_ishr d_a_ensureCapacityInternal_9 ?_
  refine ch_istore_n (i := 2) d_a_ensureCapacityInternal_10 rfl (Nat.le_of_ble_eq_true rfl) (ls' := [some (.inr (9, 0, 0)), some (.inl (.int p1)), some (.inl (.int (16 >>> ((m (9, 0, 0) 1) &&& (31 : Int32)))))]) rfl ?_
  refine ch_iload_n (i := 1) d_a_ensureCapacityInternal_11 rfl rfl ?_
  refine ch_iload_n (i := 2) d_a_ensureCapacityInternal_12 rfl rfl ?_
  refine ch_isub d_a_ensureCapacityInternal_13 ?_
  refine ch_if_le (tgt := 38) d_a_ensureCapacityInternal_14 (by decide) (fun c => ?_) (fun c => ?_)
  · replace h := h.1 c
    exact ch_vret d_a_ensureCapacityInternal_38 rfl (Nat.le_of_ble_eq_true rfl) h
  · replace h := h.2 c
    refine ch_aload_n (i := 0) d_a_ensureCapacityInternal_17 rfl rfl ?_
    refine ch_aload_n (i := 0) d_a_ensureCapacityInternal_18 rfl rfl ?_
    refine ch_get (v := .inr (9, 0, 1)) d_a_ensureCapacityInternal_19 fl_a_15 rfl ?_
    refine ch_aload_n (i := 0) d_a_ensureCapacityInternal_22 rfl rfl ?_
    refine ch_iload_n (i := 1) d_a_ensureCapacityInternal_23 rfl rfl ?_
    exact h.elim
set_option maxHeartbeats 1600000 in
theorem s_a_ensureCapacityInternal (g : ch_G) (q : ch_M → Prop) (p1 : Int32) (m : ch_M) (h : (m (9, 0, 0) 1 = 0) ∧ (bu_le p1) ∧ q m) : ch_C g m_a_ensureCapacityInternal [.inr (9, 0, 0), .inl (.int p1)] m (ch_ov q) := by
  refine e_a_ensureCapacityInternal g _ p1 m ?_
  obtain ⟨h0, h1, hq⟩ := h
  refine g_a_ensureCapacityInternal_0 g _ _ _ ?_
  rw [h0]
  have e : (16 : Int32) >>> ((0 : Int32) &&& (31 : Int32)) = 16 := sb_shr0 16
  rw [e]
  exact ⟨fun _ => ⟨rfl, hq⟩, fun z => z h1⟩
theorem e_a_inflateIfNeededFor (g : ch_G) (Q : ch_O → ch_M → Prop) (j1 : Nat) (m : ch_M) (h : ch_J g m_a_inflateIfNeededFor (ch_rm m_a_inflateIfNeededFor) (ch_E g m_a_inflateIfNeededFor Q) 0 [some (.inr (9, 0, 0)), some (.inr (12, j1, 0))] [] m 0) : ch_C g m_a_inflateIfNeededFor [.inr (9, 0, 0), .inr (12, j1, 0)] m Q :=
  ch_enter mf_a_inflateIfNeededFor (by intro v hv; simp only [List.mem_cons, List.not_mem_nil, or_false] at hv; rcases hv with rfl | rfl <;> rfl) (Nat.le_of_ble_eq_true rfl) h
set_option maxHeartbeats 1600000 in
theorem g_a_inflateIfNeededFor_0 (g : ch_G) (Q : ch_O → ch_M → Prop) (j1 : Nat) (m : ch_M) (h : ((((m (9, 0, 0) 1) = 0 → Q (.inl none) m) ∧ (¬ (m (9, 0, 0) 1) = 0 → False)))) : ch_J g m_a_inflateIfNeededFor (ch_rm m_a_inflateIfNeededFor) (ch_E g m_a_inflateIfNeededFor Q) 0 [some (.inr (9, 0, 0)), some (.inr (12, j1, 0))] [] m 0 := by
  refine ch_getsC d_a_inflateIfNeededFor_0 fl_a_18 ?_
  refine ch_if_eq (tgt := 21) d_a_inflateIfNeededFor_3 (by decide) (fun c => absurd c (by decide)) (fun _ => ?_)
  refine ch_aload_n (i := 0) d_a_inflateIfNeededFor_6 rfl rfl ?_
  refine ch_get (v := .inl (.int (m (9, 0, 0) 1))) d_a_inflateIfNeededFor_7 fl_a_22 rfl ?_
  refine ch_aload_n (i := 1) d_a_inflateIfNeededFor_10 rfl rfl ?_
  refine ch_callT (as := []) d_a_inflateIfNeededFor_11 lk_a_40 mi_q_coder me_q_coder rfl rfl rfl ⟨Nat.le_of_ble_eq_true rfl, Nat.le_of_ble_eq_true rfl⟩ (Nat.le_of_ble_eq_true rfl) ⟨Nat.le_of_ble_eq_true rfl, Nat.le_of_ble_eq_true rfl⟩ (ch_mono (ch_Ki (fun r1 m2 q3 => ?_)) (s_q_coder g (fun (r_ : Int32) (m_ : ch_M) => (0 = r_ ∧ m = m_)) (j1) m ⟨rfl, rfl⟩))
  obtain ⟨rfl, rfl⟩ := q3
  replace h := h
  refine ch_icmp_eq (tgt := 21) d_a_inflateIfNeededFor_14 (by decide) (fun c => ?_) (fun c => ?_)
  · replace h := h.1 c
    exact ch_vret d_a_inflateIfNeededFor_21 rfl (Nat.le_of_ble_eq_true rfl) h
  · replace h := h.2 c
    refine ch_aload_n (i := 0) d_a_inflateIfNeededFor_17 rfl rfl ?_
    exact h.elim
set_option maxHeartbeats 1600000 in
theorem s_a_inflateIfNeededFor (g : ch_G) (q : ch_M → Prop) (j1 : Nat) (m : ch_M) (h : (m (9, 0, 0) 1 = 0) ∧ q m) : ch_C g m_a_inflateIfNeededFor [.inr (9, 0, 0), .inr (12, j1, 0)] m (ch_ov q) := by
  refine e_a_inflateIfNeededFor g _ j1 m ?_
  refine g_a_inflateIfNeededFor_0 g _ _ _ ?_
  exact ⟨fun _ => ⟨rfl, h.2⟩, fun z => z h.1⟩
theorem e_i_stringSize (g : ch_G) (Q : ch_O → ch_M → Prop) (p0 : Int32) (m : ch_M) (h : ch_J g m_i_stringSize (ch_rm m_i_stringSize) (ch_E g m_i_stringSize Q) 0 [some (.inl (.int p0)), none, none, none] [] m 0) : ch_C g m_i_stringSize [.inl (.int p0)] m Q :=
  ch_enter mf_i_stringSize (by intro v hv; simp only [List.mem_cons, List.not_mem_nil, or_false] at hv; rcases hv with rfl <;> rfl) (Nat.le_of_ble_eq_true rfl) h
set_option maxHeartbeats 1600000 in
theorem g_i_stringSize_0 (g : ch_G) (Q : ch_O → ch_M → Prop) (p0 : Int32) (m : ch_M) (h : ((p0 < 0 → ch_J g m_i_stringSize (ch_rm m_i_stringSize) (ch_E g m_i_stringSize Q) 16 [some (.inl (.int p0)), some (.inl (.int 1)), some (.inl (.int (-10))), some (.inl (.int 1))] [] m 0) ∧ (¬ p0 < 0 → ch_J g m_i_stringSize (ch_rm m_i_stringSize) (ch_E g m_i_stringSize Q) 16 [some (.inl (.int (-p0))), some (.inl (.int 0)), some (.inl (.int (-10))), some (.inl (.int 1))] [] m 0))) : ch_J g m_i_stringSize (ch_rm m_i_stringSize) (ch_E g m_i_stringSize Q) 0 [some (.inl (.int p0)), none, none, none] [] m 0 := by
  refine ch_iconst (v := 1) d_i_stringSize_0 (by decide) ?_
  refine ch_istore_n (i := 1) d_i_stringSize_1 rfl (Nat.le_of_ble_eq_true rfl) (ls' := [some (.inl (.int p0)), some (.inl (.int 1)), none, none]) rfl ?_
  refine ch_iload_n (i := 0) d_i_stringSize_2 rfl rfl ?_
  refine ch_if_lt (tgt := 11) d_i_stringSize_3 (by decide) (fun c => ?_) (fun c => ?_)
  · replace h := h.1 c
    refine ch_bipush (v := (-10)) d_i_stringSize_11 (by decide) ?_
    refine ch_istore_n (i := 2) d_i_stringSize_13 rfl (Nat.le_of_ble_eq_true rfl) (ls' := [some (.inl (.int p0)), some (.inl (.int 1)), some (.inl (.int (-10))), none]) rfl ?_
    refine ch_iconst (v := 1) d_i_stringSize_14 (by decide) ?_
    refine ch_istore_n (i := 3) d_i_stringSize_15 rfl (Nat.le_of_ble_eq_true rfl) (ls' := [some (.inl (.int p0)), some (.inl (.int 1)), some (.inl (.int (-10))), some (.inl (.int 1))]) rfl ?_
    exact h
  · replace h := h.2 c
    refine ch_iconst (v := 0) d_i_stringSize_6 (by decide) ?_
    refine ch_istore_n (i := 1) d_i_stringSize_7 rfl (Nat.le_of_ble_eq_true rfl) (ls' := [some (.inl (.int p0)), some (.inl (.int 0)), none, none]) rfl ?_
    refine ch_iload_n (i := 0) d_i_stringSize_8 rfl rfl ?_
    refine ch_ineg d_i_stringSize_9 ?_
    refine ch_istore_n (i := 0) d_i_stringSize_10 rfl (Nat.le_of_ble_eq_true rfl) (ls' := [some (.inl (.int (-p0))), some (.inl (.int 0)), none, none]) rfl ?_
    refine ch_bipush (v := (-10)) d_i_stringSize_11 (by decide) ?_
    refine ch_istore_n (i := 2) d_i_stringSize_13 rfl (Nat.le_of_ble_eq_true rfl) (ls' := [some (.inl (.int (-p0))), some (.inl (.int 0)), some (.inl (.int (-10))), none]) rfl ?_
    refine ch_iconst (v := 1) d_i_stringSize_14 (by decide) ?_
    refine ch_istore_n (i := 3) d_i_stringSize_15 rfl (Nat.le_of_ble_eq_true rfl) (ls' := [some (.inl (.int (-p0))), some (.inl (.int 0)), some (.inl (.int (-10))), some (.inl (.int 1))]) rfl ?_
    exact h
set_option maxHeartbeats 1600000 in
theorem g_i_stringSize_16 (g : ch_G) (Q : ch_O → ch_M → Prop) (x0 : Int32) (x1 : Int32) (x2 : Int32) (x3 : Int32) (m : ch_M) (h : ((10 ≤ x3 → Q (.inl (some (.inl (.int (10 + x1))))) m) ∧ (¬ 10 ≤ x3 → ((x0 ≤ x2 → ch_J g m_i_stringSize (ch_rm m_i_stringSize) (ch_E g m_i_stringSize Q) 16 [some (.inl (.int x0)), some (.inl (.int x1)), some (.inl (.int (10 * x2))), some (.inl (.int (x3 + 1)))] [] m 0) ∧ (¬ x0 ≤ x2 → Q (.inl (some (.inl (.int (x3 + x1))))) m))))) : ch_J g m_i_stringSize (ch_rm m_i_stringSize) (ch_E g m_i_stringSize Q) 16 [some (.inl (.int x0)), some (.inl (.int x1)), some (.inl (.int x2)), some (.inl (.int x3))] [] m 0 := by
  refine ch_iload_n (i := 3) d_i_stringSize_16 rfl rfl ?_
  refine ch_bipush (v := 10) d_i_stringSize_17 (by decide) ?_
  refine ch_icmp_ge (tgt := 42) d_i_stringSize_19 (by decide) (fun c => ?_) (fun c => ?_)
  · replace h := h.1 c
    refine ch_bipush (v := 10) d_i_stringSize_42 (by decide) ?_
    refine ch_iload_n (i := 1) d_i_stringSize_44 rfl rfl ?_
    refine ch_iadd d_i_stringSize_45 ?_
    exact ch_iret (ty := .int) d_i_stringSize_46 rfl rfl (Nat.le_of_ble_eq_true rfl) h
  · replace h := h.2 c
    refine ch_iload_n (i := 0) d_i_stringSize_22 rfl rfl ?_
    refine ch_iload_n (i := 2) d_i_stringSize_23 rfl rfl ?_
    refine ch_icmp_le (tgt := 31) d_i_stringSize_24 (by decide) (fun c => ?_) (fun c => ?_)
    · replace h := h.1 c
      refine ch_bipush (v := 10) d_i_stringSize_31 (by decide) ?_
      refine ch_iload_n (i := 2) d_i_stringSize_33 rfl rfl ?_
      refine ch_imul d_i_stringSize_34 ?_
      refine ch_istore_n (i := 2) d_i_stringSize_35 rfl (Nat.le_of_ble_eq_true rfl) (ls' := [some (.inl (.int x0)), some (.inl (.int x1)), some (.inl (.int (10 * x2))), some (.inl (.int x3))]) rfl ?_
      refine ch_iinc (i := 3) (v := (x3 + 1)) d_i_stringSize_36 rfl rfl (Nat.le_of_ble_eq_true rfl) (ls' := [some (.inl (.int x0)), some (.inl (.int x1)), some (.inl (.int (10 * x2))), some (.inl (.int (x3 + 1)))]) rfl ?_
      refine ch_goto (tgt := 16) d_i_stringSize_39 (by decide) ?_
      exact h
    · replace h := h.2 c
      refine ch_iload_n (i := 3) d_i_stringSize_27 rfl rfl ?_
      refine ch_iload_n (i := 1) d_i_stringSize_28 rfl rfl ?_
      refine ch_iadd d_i_stringSize_29 ?_
      exact ch_iret (ty := .int) d_i_stringSize_30 rfl rfl (Nat.le_of_ble_eq_true rfl) h
set_option maxHeartbeats 1600000 in
theorem s_i_stringSize (g : ch_G) (q : Int32 → ch_M → Prop) (p0 : Int32) (m : ch_M) (h : (¬ p0 < 0) ∧ (∀ (d_ : Nat), (1 ≤ d_) → (d_ ≤ 10) → (Int32.toNatClampNeg p0 < 10 ^ d_) → (Int32.toNatClampNeg p0 < 100 → d_ ≤ 2) → q (nI d_) m)) : ch_C g m_i_stringSize [.inl (.int p0)] m (ch_oi q) := by
  refine e_i_stringSize g _ p0 m ?_
  obtain ⟨h0, hq⟩ := h
  obtain ⟨v, hv, rfl⟩ := nI_of h0
  rw [nI_clamp hv] at hq
  have p10 : ∀ i, i < 9 → (10 : Int32) * -nI (10 ^ i) = -nI (10 ^ (i + 1)) := by decide +kernel
  have b10 : ∀ i, i < 10 → 10 ^ i < 2 ^ 31 := by decide
  have key : ∀ i, i ≤ 10 → 1 ≤ i → (3 ≤ i → 100 ≤ v) → ∀ x2, (i ≤ 9 → x2 = -nI (10 ^ i)) → ch_J g m_i_stringSize (ch_rm m_i_stringSize) (ch_E g m_i_stringSize (ch_oi q)) 16 [some (.inl (.int (-nI v))), some (.inl (.int 0)), some (.inl (.int x2)), some (.inl (.int (nI i)))] [] m 0 := by
    refine ch_down (fun i => 1 ≤ i → (3 ≤ i → 100 ≤ v) → ∀ x2, (i ≤ 9 → x2 = -nI (10 ^ i)) → ch_J g m_i_stringSize (ch_rm m_i_stringSize) (ch_E g m_i_stringSize (ch_oi q)) 16 [some (.inl (.int (-nI v))), some (.inl (.int 0)), some (.inl (.int x2)), some (.inl (.int (nI i)))] [] m 0) 10 ?_ ?_
    · intro _ h3 x2 _
      refine g_i_stringSize_16 g _ _ _ _ _ m ⟨fun _ => ch_oi_iff.mpr ?_, fun z => absurd (nI_le (a := 10) (b := 10) (Nat.le_refl _) (by decide)) z⟩
      exact hq 10 (by decide) (Nat.le_refl _) (by omega) (fun w => absurd (h3 (by decide)) (by omega))
    · intro i hi ih h1 h3 x2 hx
      rw [hx (by omega)]
      refine g_i_stringSize_16 g _ _ _ _ _ m ⟨fun z => absurd z (nI_ge (b := 10) (a := i) hi (by decide)), fun _ => ⟨fun z => ?_, fun z => ch_oi_iff.mpr ?_⟩⟩
      · rw [nI_1]
        have hge : 10 ^ i ≤ v := (sb_nle hv (b10 i hi)).mp z
        exact ih (by omega) (fun h3' => Nat.le_trans (Nat.pow_le_pow_right (n := 10) (by decide) (show 2 ≤ i by omega)) hge) _ (fun h9 => p10 i (by omega))
      · have hlt : v < 10 ^ i := Nat.not_le.mp (fun w => z ((sb_nle hv (b10 i hi)).mpr w))
        rw [Int32.add_zero]
        exact hq i h1 (by omega) hlt (fun w => Nat.not_lt.mp (fun c => absurd (h3 c) (by omega)))
  refine g_i_stringSize_0 g _ _ _ ⟨fun z => absurd z h0, fun _ => ?_⟩
  exact key 1 (by decide) (Nat.le_refl _) (fun c => absurd c (by decide)) (-10) (fun _ => by decide)
theorem e_i_getChars (g : ch_G) (Q : ch_O → ch_M → Prop) (p0 : Int32) (p1 : Int32) (m : ch_M) (h : ch_J g m_i_getChars (ch_rm m_i_getChars) (ch_E g m_i_getChars Q) 0 [some (.inl (.int p0)), some (.inl (.int p1)), some (.inr (9, 0, 1)), none, none, none, none] [] m 0) : ch_C g m_i_getChars [.inl (.int p0), .inl (.int p1), .inr (9, 0, 1)] m Q :=
  ch_enter mf_i_getChars (by intro v hv; simp only [List.mem_cons, List.not_mem_nil, or_false] at hv; rcases hv with rfl | rfl | rfl <;> rfl) (Nat.le_of_ble_eq_true rfl) h
set_option maxHeartbeats 1600000 in
theorem g_i_getChars_0 (g : ch_G) (Q : ch_O → ch_M → Prop) (p0 : Int32) (p1 : Int32) (m : ch_M) (h : ((0 ≤ p0 → ch_J g m_i_getChars (ch_rm m_i_getChars) (ch_E g m_i_getChars Q) 22 [some (.inl (.int (-p0))), some (.inl (.int p1)), some (.inr (9, 0, 1)), none, none, some (.inl (.int p1)), some (.inl (.int 0))] [] m 0) ∧ (¬ 0 ≤ p0 → ch_J g m_i_getChars (ch_rm m_i_getChars) (ch_E g m_i_getChars Q) 22 [some (.inl (.int p0)), some (.inl (.int p1)), some (.inr (9, 0, 1)), none, none, some (.inl (.int p1)), some (.inl (.int 1))] [] m 0))) : ch_J g m_i_getChars (ch_rm m_i_getChars) (ch_E g m_i_getChars Q) 0 [some (.inl (.int p0)), some (.inl (.int p1)), some (.inr (9, 0, 1)), none, none, none, none] [] m 0 := by
  refine ch_iload_n (i := 1) d_i_getChars_0 rfl rfl ?_
  refine ch_istore (i := 5) d_i_getChars_1 (Nat.le_of_ble_eq_true rfl) (ls' := [some (.inl (.int p0)), some (.inl (.int p1)), some (.inr (9, 0, 1)), none, none, some (.inl (.int p1)), none]) rfl ?_
  refine ch_iload_n (i := 0) d_i_getChars_3 rfl rfl ?_
  refine ch_if_ge (tgt := 11) d_i_getChars_4 (by decide) (fun c => ?_) (fun c => ?_)
  · replace h := h.1 c
    refine ch_iconst (v := 0) d_i_getChars_11 (by decide) ?_
    refine ch_istore (i := 6) d_i_getChars_12 (Nat.le_of_ble_eq_true rfl) (ls' := [some (.inl (.int p0)), some (.inl (.int p1)), some (.inr (9, 0, 1)), none, none, some (.inl (.int p1)), some (.inl (.int 0))]) rfl ?_
    refine ch_iload d_i_getChars_14 rfl ?_
    refine ch_if_ne (tgt := 22) d_i_getChars_16 (by decide) (fun c => absurd c (by decide)) (fun _ => ?_)
    refine ch_iload_n (i := 0) d_i_getChars_19 rfl rfl ?_
    refine ch_ineg d_i_getChars_20 ?_
    refine ch_istore_n (i := 0) d_i_getChars_21 rfl (Nat.le_of_ble_eq_true rfl) (ls' := [some (.inl (.int (-p0))), some (.inl (.int p1)), some (.inr (9, 0, 1)), none, none, some (.inl (.int p1)), some (.inl (.int 0))]) rfl ?_
    exact h
  · replace h := h.2 c
    refine ch_iconst (v := 1) d_i_getChars_7 (by decide) ?_
    refine ch_goto (tgt := 12) d_i_getChars_8 (by decide) ?_
    refine ch_istore (i := 6) d_i_getChars_12 (Nat.le_of_ble_eq_true rfl) (ls' := [some (.inl (.int p0)), some (.inl (.int p1)), some (.inr (9, 0, 1)), none, none, some (.inl (.int p1)), some (.inl (.int 1))]) rfl ?_
    refine ch_iload d_i_getChars_14 rfl ?_
    refine ch_if_ne (tgt := 22) d_i_getChars_16 (by decide) (fun _ => ?_) (fun c => absurd c (by decide))
    exact h
set_option maxHeartbeats 1600000 in
theorem g_i_getChars_22 (g : ch_G) (Q : ch_O → ch_M → Prop) (x0 : Int32) (x1 : Int32) (x5 : Int32) (x6 : Int32) (m : ch_M) (h : (((-100) < x0 → (vp_in (-x0) 100) ∧ (vp_in (x5 + (-1)) 16) ∧ (∀ m3 : ch_M, m3 = ch_wr m (9, 0, 1) (Int32.toNatClampNeg (x5 + (-1))) (vp_nar .byte (ch_dig 0 (Int32.toNatClampNeg (-x0)))) → (((-9) ≤ x0 → ((x6 = 0 → Q (.inl (some (.inl (.int (x5 + (-1)))))) m3) ∧ (¬ x6 = 0 → (vp_in ((x5 + (-1)) + (-1)) 16) ∧ (∀ m5 : ch_M, m5 = ch_wr m3 (9, 0, 1) (Int32.toNatClampNeg ((x5 + (-1)) + (-1))) (vp_nar .byte 45) → Q (.inl (some (.inl (.int ((x5 + (-1)) + (-1)))))) m5)))) ∧ (¬ (-9) ≤ x0 → (vp_in (-x0) 100) ∧ (vp_in ((x5 + (-1)) + (-1)) 16) ∧ (∀ m8 : ch_M, m8 = ch_wr m3 (9, 0, 1) (Int32.toNatClampNeg ((x5 + (-1)) + (-1))) (vp_nar .byte (ch_dig 1 (Int32.toNatClampNeg (-x0)))) → ((x6 = 0 → Q (.inl (some (.inl (.int ((x5 + (-1)) + (-1)))))) m8) ∧ (¬ x6 = 0 → (vp_in (((x5 + (-1)) + (-1)) + (-1)) 16) ∧ (∀ m10 : ch_M, m10 = ch_wr m8 (9, 0, 1) (Int32.toNatClampNeg (((x5 + (-1)) + (-1)) + (-1))) (vp_nar .byte 45) → Q (.inl (some (.inl (.int (((x5 + (-1)) + (-1)) + (-1)))))) m10)))))))) ∧ (¬ (-100) < x0 → (vp_in (((x0 / 100) * 100) - x0) 100) ∧ (vp_in (x5 + (-1)) 16) ∧ (∀ m13 : ch_M, m13 = ch_wr m (9, 0, 1) (Int32.toNatClampNeg (x5 + (-1))) (vp_nar .byte (ch_dig 0 (Int32.toNatClampNeg (((x0 / 100) * 100) - x0)))) → (vp_in (((x0 / 100) * 100) - x0) 100) ∧ (vp_in ((x5 + (-1)) + (-1)) 16) ∧ (∀ m16 : ch_M, m16 = ch_wr m13 (9, 0, 1) (Int32.toNatClampNeg ((x5 + (-1)) + (-1))) (vp_nar .byte (ch_dig 1 (Int32.toNatClampNeg (((x0 / 100) * 100) - x0)))) → ch_J g m_i_getChars (ch_rm m_i_getChars) (ch_E g m_i_getChars Q) 22 [some (.inl (.int (x0 / 100))), some (.inl (.int x1)), some (.inr (9, 0, 1)), some (.inl (.int (x0 / 100))), some (.inl (.int (((x0 / 100) * 100) - x0))), some (.inl (.int ((x5 + (-1)) + (-1)))), some (.inl (.int x6))] [] m16 0))))) : ch_J g m_i_getChars (ch_rm m_i_getChars) (ch_E g m_i_getChars Q) 22 [some (.inl (.int x0)), some (.inl (.int x1)), some (.inr (9, 0, 1)), none, none, some (.inl (.int x5)), some (.inl (.int x6))] [] m 0 := by
  refine ch_iload_n (i := 0) d_i_getChars_22 rfl rfl ?_
  refine ch_bipush (v := (-100)) d_i_getChars_23 (by decide) ?_
  refine ch_icmp_gt (tgt := 72) d_i_getChars_25 (by decide) (fun c => ?_) (fun c => ?_)
  · replace h := h.1 c
    refine ch_aload_n (i := 2) d_i_getChars_72 rfl rfl ?_
    refine ch_iinc (i := 5) (v := (x5 + (-1))) d_i_getChars_73 rfl rfl (Nat.le_of_ble_eq_true rfl) (ls' := [some (.inl (.int x0)), some (.inl (.int x1)), some (.inr (9, 0, 1)), none, none, some (.inl (.int (x5 + (-1)))), some (.inl (.int x6))]) rfl ?_
    refine ch_iload d_i_getChars_76 rfl ?_
    refine ch_gets1 d_i_getChars_78 fl_i_83 ?_
    refine ch_iload_n (i := 0) d_i_getChars_81 rfl rfl ?_
    refine ch_ineg d_i_getChars_82 ?_
    have b1 := h.1
    replace h := h.2
    refine ch_bdig d_i_getChars_83 b1 ?_
    have b2 := h.1
    replace h := h.2
    refine ch_bast (n := 16) d_i_getChars_84 (by decide) rfl b2 ?_
    show ch_J g _ _ _ _ _ _ (ch_wr m (9, 0, 1) (Int32.toNatClampNeg (x5 + (-1))) (vp_nar .byte (ch_dig 0 (Int32.toNatClampNeg (-x0))))) _
    generalize hmm3 : ch_wr m (9, 0, 1) (Int32.toNatClampNeg (x5 + (-1))) (vp_nar .byte (ch_dig 0 (Int32.toNatClampNeg (-x0)))) = m3
    replace h := h m3 hmm3.symm
    refine ch_iload_n (i := 0) d_i_getChars_85 rfl rfl ?_
    refine ch_bipush (v := (-9)) d_i_getChars_86 (by decide) ?_
    refine ch_icmp_ge (tgt := 104) d_i_getChars_88 (by decide) (fun c => ?_) (fun c => ?_)
    · replace h := h.1 c
      refine ch_iload d_i_getChars_104 rfl ?_
      refine ch_if_eq (tgt := 118) d_i_getChars_106 (by decide) (fun c => ?_) (fun c => ?_)
      · replace h := h.1 c
        refine ch_iload d_i_getChars_118 rfl ?_
        exact ch_iret (ty := .int) d_i_getChars_120 rfl rfl (Nat.le_of_ble_eq_true rfl) h
      · replace h := h.2 c
        refine ch_aload_n (i := 2) d_i_getChars_109 rfl rfl ?_
        refine ch_iinc (i := 5) (v := ((x5 + (-1)) + (-1))) d_i_getChars_110 rfl rfl (Nat.le_of_ble_eq_true rfl) (ls' := [some (.inl (.int x0)), some (.inl (.int x1)), some (.inr (9, 0, 1)), none, none, some (.inl (.int ((x5 + (-1)) + (-1)))), some (.inl (.int x6))]) rfl ?_
        refine ch_iload d_i_getChars_113 rfl ?_
        refine ch_bipush (v := 45) d_i_getChars_115 (by decide) ?_
        have b4 := h.1
        replace h := h.2
        refine ch_bast (n := 16) d_i_getChars_117 (by decide) rfl b4 ?_
        show ch_J g _ _ _ _ _ _ (ch_wr m3 (9, 0, 1) (Int32.toNatClampNeg ((x5 + (-1)) + (-1))) (vp_nar .byte 45)) _
        generalize hmm5 : ch_wr m3 (9, 0, 1) (Int32.toNatClampNeg ((x5 + (-1)) + (-1))) (vp_nar .byte 45) = m5
        replace h := h m5 hmm5.symm
        refine ch_iload d_i_getChars_118 rfl ?_
        exact ch_iret (ty := .int) d_i_getChars_120 rfl rfl (Nat.le_of_ble_eq_true rfl) h
    · replace h := h.2 c
      refine ch_aload_n (i := 2) d_i_getChars_91 rfl rfl ?_
      refine ch_iinc (i := 5) (v := ((x5 + (-1)) + (-1))) d_i_getChars_92 rfl rfl (Nat.le_of_ble_eq_true rfl) (ls' := [some (.inl (.int x0)), some (.inl (.int x1)), some (.inr (9, 0, 1)), none, none, some (.inl (.int ((x5 + (-1)) + (-1)))), some (.inl (.int x6))]) rfl ?_
      refine ch_iload d_i_getChars_95 rfl ?_
      refine ch_gets10 d_i_getChars_97 fl_i_87 ?_
      refine ch_iload_n (i := 0) d_i_getChars_100 rfl rfl ?_
      refine ch_ineg d_i_getChars_101 ?_
      have b6 := h.1
      replace h := h.2
      refine ch_bdig d_i_getChars_102 b6 ?_
      have b7 := h.1
      replace h := h.2
      refine ch_bast (n := 16) d_i_getChars_103 (by decide) rfl b7 ?_
      show ch_J g _ _ _ _ _ _ (ch_wr m3 (9, 0, 1) (Int32.toNatClampNeg ((x5 + (-1)) + (-1))) (vp_nar .byte (ch_dig 1 (Int32.toNatClampNeg (-x0))))) _
      generalize hmm8 : ch_wr m3 (9, 0, 1) (Int32.toNatClampNeg ((x5 + (-1)) + (-1))) (vp_nar .byte (ch_dig 1 (Int32.toNatClampNeg (-x0)))) = m8
      replace h := h m8 hmm8.symm
      refine ch_iload d_i_getChars_104 rfl ?_
      refine ch_if_eq (tgt := 118) d_i_getChars_106 (by decide) (fun c => ?_) (fun c => ?_)
      · replace h := h.1 c
        refine ch_iload d_i_getChars_118 rfl ?_
        exact ch_iret (ty := .int) d_i_getChars_120 rfl rfl (Nat.le_of_ble_eq_true rfl) h
      · replace h := h.2 c
        refine ch_aload_n (i := 2) d_i_getChars_109 rfl rfl ?_
        refine ch_iinc (i := 5) (v := (((x5 + (-1)) + (-1)) + (-1))) d_i_getChars_110 rfl rfl (Nat.le_of_ble_eq_true rfl) (ls' := [some (.inl (.int x0)), some (.inl (.int x1)), some (.inr (9, 0, 1)), none, none, some (.inl (.int (((x5 + (-1)) + (-1)) + (-1)))), some (.inl (.int x6))]) rfl ?_
        refine ch_iload d_i_getChars_113 rfl ?_
        refine ch_bipush (v := 45) d_i_getChars_115 (by decide) ?_
        have b9 := h.1
        replace h := h.2
        refine ch_bast (n := 16) d_i_getChars_117 (by decide) rfl b9 ?_
        show ch_J g _ _ _ _ _ _ (ch_wr m8 (9, 0, 1) (Int32.toNatClampNeg (((x5 + (-1)) + (-1)) + (-1))) (vp_nar .byte 45)) _
        generalize hmm10 : ch_wr m8 (9, 0, 1) (Int32.toNatClampNeg (((x5 + (-1)) + (-1)) + (-1))) (vp_nar .byte 45) = m10
        replace h := h m10 hmm10.symm
        refine ch_iload d_i_getChars_118 rfl ?_
        exact ch_iret (ty := .int) d_i_getChars_120 rfl rfl (Nat.le_of_ble_eq_true rfl) h
  · replace h := h.2 c
    refine ch_iload_n (i := 0) d_i_getChars_28 rfl rfl ?_
    refine ch_bipush (v := 100) d_i_getChars_29 (by decide) ?_
    refine ch_idiv d_i_getChars_31 (by decide) ?_
    refine ch_istore_n (i := 3) d_i_getChars_32 rfl (Nat.le_of_ble_eq_true rfl) (ls' := [some (.inl (.int x0)), some (.inl (.int x1)), some (.inr (9, 0, 1)), some (.inl (.int (x0 / 100))), none, some (.inl (.int x5)), some (.inl (.int x6))]) rfl ?_
    refine ch_iload_n (i := 3) d_i_getChars_33 rfl rfl ?_
    refine ch_bipush (v := 100) d_i_getChars_34 (by decide) ?_
    refine ch_imul d_i_getChars_36 ?_
    refine ch_iload_n (i := 0) d_i_getChars_37 rfl rfl ?_
    refine ch_isub d_i_getChars_38 ?_
    refine ch_istore (i := 4) d_i_getChars_39 (Nat.le_of_ble_eq_true rfl) (ls' := [some (.inl (.int x0)), some (.inl (.int x1)), some (.inr (9, 0, 1)), some (.inl (.int (x0 / 100))), some (.inl (.int (((x0 / 100) * 100) - x0))), some (.inl (.int x5)), some (.inl (.int x6))]) rfl ?_
    refine ch_iload_n (i := 3) d_i_getChars_41 rfl rfl ?_
    refine ch_istore_n (i := 0) d_i_getChars_42 rfl (Nat.le_of_ble_eq_true rfl) (ls' := [some (.inl (.int (x0 / 100))), some (.inl (.int x1)), some (.inr (9, 0, 1)), some (.inl (.int (x0 / 100))), some (.inl (.int (((x0 / 100) * 100) - x0))), some (.inl (.int x5)), some (.inl (.int x6))]) rfl ?_
    refine ch_aload_n (i := 2) d_i_getChars_43 rfl rfl ?_
    refine ch_iinc (i := 5) (v := (x5 + (-1))) d_i_getChars_44 rfl rfl (Nat.le_of_ble_eq_true rfl) (ls' := [some (.inl (.int (x0 / 100))), some (.inl (.int x1)), some (.inr (9, 0, 1)), some (.inl (.int (x0 / 100))), some (.inl (.int (((x0 / 100) * 100) - x0))), some (.inl (.int (x5 + (-1)))), some (.inl (.int x6))]) rfl ?_
    refine ch_iload d_i_getChars_47 rfl ?_
    refine ch_gets1 d_i_getChars_49 fl_i_83 ?_
    refine ch_iload d_i_getChars_52 rfl ?_
    have b11 := h.1
    replace h := h.2
    refine ch_bdig d_i_getChars_54 b11 ?_
    have b12 := h.1
    replace h := h.2
    refine ch_bast (n := 16) d_i_getChars_55 (by decide) rfl b12 ?_
    show ch_J g _ _ _ _ _ _ (ch_wr m (9, 0, 1) (Int32.toNatClampNeg (x5 + (-1))) (vp_nar .byte (ch_dig 0 (Int32.toNatClampNeg (((x0 / 100) * 100) - x0))))) _
    generalize hmm13 : ch_wr m (9, 0, 1) (Int32.toNatClampNeg (x5 + (-1))) (vp_nar .byte (ch_dig 0 (Int32.toNatClampNeg (((x0 / 100) * 100) - x0)))) = m13
    replace h := h m13 hmm13.symm
    refine ch_aload_n (i := 2) d_i_getChars_56 rfl rfl ?_
    refine ch_iinc (i := 5) (v := ((x5 + (-1)) + (-1))) d_i_getChars_57 rfl rfl (Nat.le_of_ble_eq_true rfl) (ls' := [some (.inl (.int (x0 / 100))), some (.inl (.int x1)), some (.inr (9, 0, 1)), some (.inl (.int (x0 / 100))), some (.inl (.int (((x0 / 100) * 100) - x0))), some (.inl (.int ((x5 + (-1)) + (-1)))), some (.inl (.int x6))]) rfl ?_
    refine ch_iload d_i_getChars_60 rfl ?_
    refine ch_gets10 d_i_getChars_62 fl_i_87 ?_
    refine ch_iload d_i_getChars_65 rfl ?_
    have b14 := h.1
    replace h := h.2
    refine ch_bdig d_i_getChars_67 b14 ?_
    have b15 := h.1
    replace h := h.2
    refine ch_bast (n := 16) d_i_getChars_68 (by decide) rfl b15 ?_
    show ch_J g _ _ _ _ _ _ (ch_wr m13 (9, 0, 1) (Int32.toNatClampNeg ((x5 + (-1)) + (-1))) (vp_nar .byte (ch_dig 1 (Int32.toNatClampNeg (((x0 / 100) * 100) - x0))))) _
    generalize hmm16 : ch_wr m13 (9, 0, 1) (Int32.toNatClampNeg ((x5 + (-1)) + (-1))) (vp_nar .byte (ch_dig 1 (Int32.toNatClampNeg (((x0 / 100) * 100) - x0)))) = m16
    replace h := h m16 hmm16.symm
    refine ch_goto (tgt := 22) d_i_getChars_69 (by decide) ?_
    exact h
set_option maxHeartbeats 1600000 in
theorem s_i_getChars (g : ch_G) (q : Int32 → ch_M → Prop) (p0 : Int32) (p1 : Int32) (m : ch_M) (h : (bu_gc p0 p1) ∧ (sb_Fit (m (9, 0, 1))) ∧ (∀ (R_ : Int32) (M_ : ch_M), (bu_by m M_) → q R_ (M_))) : ch_C g m_i_getChars [.inl (.int p0), .inl (.int p1), .inr (9, 0, 1)] m (ch_oi q) := by
  refine e_i_getChars g _ p0 p1 m ?_
  obtain ⟨⟨h0, e, rfl, he1, he, hx⟩, hf, hq⟩ := h
  obtain ⟨v, hv, rfl⟩ := nI_of h0
  rw [nI_clamp hv] at hx
  have key : ∀ n e1 w M, e1 ≤ n → 1 ≤ e1 → e1 ≤ 16 → w < 2 ^ 31 → w < 10 ^ e1 → bu_by m M → ch_J g m_i_getChars (ch_rm m_i_getChars) (ch_E g m_i_getChars (ch_oi q)) 22 [some (.inl (.int (-nI w))), some (.inl (.int (nI e))), some (.inr (9, 0, 1)), none, none, some (.inl (.int (nI e1))), some (.inl (.int 0))] [] M 0 := by
    intro n
    induction n with
    | zero => intro e1 w M z1 z2; omega
    | succ n ih =>
      intro e1 w M hen h1 h16 hw hlt hM
      refine g_i_getChars_22 g _ _ _ _ _ M ⟨fun z => ?_, fun z => ?_⟩
      · have h100 : w < 100 := (sb_nlt (a := 100) (b := w) (by decide) hw).mp z
        rw [Int32.neg_neg, sb_m1 h1]
        refine ⟨vp_in_nI h100 (by decide), vp_in_nI (by omega) (by decide), fun m3 e3 => ⟨fun _ => ⟨fun _ => ?_, fun y => absurd rfl y⟩, fun y => ?_⟩⟩
        · subst e3
          exact ch_oi_iff.mpr (hq _ _ (bu_wr hM))
        · subst e3
          have h10 : 10 ≤ w := Nat.not_lt.mp (fun c => y ((sb_nle (a := 9) (b := w) (by decide) hw).mpr (by omega)))
          have h2 : 2 ≤ e1 := by
            rcases Nat.lt_or_ge e1 2 with c | c
            · have : e1 = 1 := by omega
              subst this
              omega
            · exact c
          rw [sb_m1 (show 0 < e1 - 1 by omega)]
          refine ⟨vp_in_nI h100 (by decide), vp_in_nI (by omega) (by decide), fun m8 e8 => ⟨fun _ => ?_, fun y => absurd rfl y⟩⟩
          subst e8
          exact ch_oi_iff.mpr (hq _ _ (bu_wr (bu_wr hM)))
      · have h100 : 100 ≤ w := Nat.not_lt.mp (fun c => z ((sb_nlt (a := 100) (b := w) (by decide) hw).mpr c))
        obtain ⟨d, rfl⟩ : ∃ d, e1 = d + 2 := ⟨e1 - 2, by
          rcases Nat.lt_or_ge e1 2 with c | c
          · have : e1 = 1 := by omega
            subst this
            omega
          · omega⟩
        rw [Nat.pow_succ, Nat.pow_succ] at hlt
        have hd : 1 ≤ d := by
          rcases Nat.eq_zero_or_pos d with c | c
          · subst c
            omega
          · exact c
        rw [sb_ndiv hw, sb_nrem hw, sb_m1 h1, sb_m1 (show 0 < d + 2 - 1 by omega)]
        refine ⟨vp_in_nI (Nat.mod_lt _ (by decide)) (by decide), vp_in_nI (by omega) (by decide), fun m13 e13 => ⟨vp_in_nI (Nat.mod_lt _ (by decide)) (by decide), vp_in_nI (by omega) (by decide), fun m16 e16 => ?_⟩⟩
        subst e13
        subst e16
        have := ih d (w / 100) _ (by omega) hd (by omega) (by omega) (by omega) (bu_wr (y := ch_dig 1 (nI (w % 100)).toNatClampNeg) (i := (nI (d + 2 - 1 - 1)).toNatClampNeg) (bu_wr (y := ch_dig 0 (nI (w % 100)).toNatClampNeg) (i := (nI (d + 2 - 1)).toNatClampNeg) hM))
        refine ch_J_weak (fun i v hv => ?_) this
        match i with
        | 0 => exact hv
        | 1 => exact hv
        | 2 => exact hv
        | 3 => cases hv
        | 4 => cases hv
        | 5 => exact hv
        | 6 => exact hv
        | i + 7 => cases hv
  refine g_i_getChars_0 g _ _ _ _ ⟨fun _ => ?_, fun z => absurd (nI_pos' hv) z⟩
  exact key e e v m (Nat.le_refl _) he1 he hv hx (bu_by_refl hf)
theorem e_q_getBytes (g : ch_G) (Q : ch_O → ch_M → Prop) (j : Nat) (p2 : Int32) (p3 : Int32) (m : ch_M) (h : ch_J g m_q_getBytes (ch_rm m_q_getBytes) (ch_E g m_q_getBytes Q) 0 [some (.inr (12, j, 0)), some (.inr (9, 0, 1)), some (.inl (.int p2)), some (.inl (.int p3))] [] m 0) : ch_C g m_q_getBytes [.inr (12, j, 0), .inr (9, 0, 1), .inl (.int p2), .inl (.int p3)] m Q :=
  ch_enter mf_q_getBytes (by intro v hv; simp only [List.mem_cons, List.not_mem_nil, or_false] at hv; rcases hv with rfl | rfl | rfl | rfl <;> rfl) (Nat.le_of_ble_eq_true rfl) h
set_option maxHeartbeats 1600000 in
theorem g_q_getBytes_0 (g : ch_G) (Q : ch_O → ch_M → Prop) (j : Nat) (p2 : Int32) (p3 : Int32) (m : ch_M) (h : (((¬ 0 = p3 → False) ∧ (0 = p3 → (¬ (0 : Int32) < 0) ∧ (¬ (p2 <<< (p3 &&& 31)) < 0) ∧ (¬ (nI (ch_tn g j)) < 0) ∧ (Int32.toNatClampNeg (0 : Int32) + Int32.toNatClampNeg (nI (ch_tn g j)) ≤ (ch_tn g j)) ∧ (Int32.toNatClampNeg (p2 <<< (p3 &&& 31)) + Int32.toNatClampNeg (nI (ch_tn g j)) ≤ 16) ∧ (sb_Fit (ch_tb g j)) ∧ (∀ m4 : ch_M, m4 = ch_cpt g m j (9, 0, 1) 0 (Int32.toNatClampNeg (p2 <<< (p3 &&& 31))) (Int32.toNatClampNeg (nI (ch_tn g j))) → Q (.inl none) m4))))) : ch_J g m_q_getBytes (ch_rm m_q_getBytes) (ch_E g m_q_getBytes Q) 0 [some (.inr (12, j, 0)), some (.inr (9, 0, 1)), some (.inl (.int p2)), some (.inl (.int p3))] [] m 0 := by
  refine ch_aload_n (i := 0) d_q_getBytes_0 rfl rfl ?_
  refine ch_callT (as := []) d_q_getBytes_1 lk_q_335 mi_q_coder me_q_coder rfl rfl rfl ⟨Nat.le_of_ble_eq_true rfl, Nat.le_of_ble_eq_true rfl⟩ (Nat.le_of_ble_eq_true rfl) ⟨Nat.le_of_ble_eq_true rfl, Nat.le_of_ble_eq_true rfl⟩ (ch_mono (ch_Ki (fun r1 m2 q3 => ?_)) (s_q_coder g (fun (r_ : Int32) (m_ : ch_M) => (0 = r_ ∧ m = m_)) (j) m ⟨rfl, rfl⟩))
  obtain ⟨rfl, rfl⟩ := q3
  replace h := h
  refine ch_iload_n (i := 3) d_q_getBytes_4 rfl rfl ?_
  refine ch_icmp_ne (tgt := 28) d_q_getBytes_5 (by decide) (fun c => ?_) (fun c => ?_)
  · replace h := h.1 c
    refine ch_aload_n (i := 0) d_q_getBytes_28 rfl rfl ?_
    refine ch_getVa d_q_getBytes_29 fl_q_9 ?_
    refine ch_iconst (v := 0) d_q_getBytes_32 (by decide) ?_
    refine ch_aload_n (i := 1) d_q_getBytes_33 rfl rfl ?_
    refine ch_iload_n (i := 2) d_q_getBytes_34 rfl rfl ?_
    refine ch_aload_n (i := 0) d_q_getBytes_35 rfl rfl ?_
    refine ch_getVa d_q_getBytes_36 fl_q_9 ?_
    refine ch_blen d_q_getBytes_39 ?_
    exact h.elim
  · replace h := h.2 c
    refine ch_aload_n (i := 0) d_q_getBytes_8 rfl rfl ?_
    refine ch_getVa d_q_getBytes_9 fl_q_9 ?_
    refine ch_iconst (v := 0) d_q_getBytes_12 (by decide) ?_
    refine ch_aload_n (i := 1) d_q_getBytes_13 rfl rfl ?_
    refine ch_iload_n (i := 2) d_q_getBytes_14 rfl rfl ?_
    refine ch_iload_n (i := 3) d_q_getBytes_15 rfl rfl ?_
    refine ch_ishl d_q_getBytes_16 ?_
    refine ch_aload_n (i := 0) d_q_getBytes_17 rfl rfl ?_
    refine ch_getVa d_q_getBytes_18 fl_q_9 ?_
    refine ch_blen d_q_getBytes_21 ?_
    have b5 := h.1
    replace h := h.2
    have b6 := h.1
    replace h := h.2
    have b7 := h.1
    replace h := h.2
    have b8 := h.1
    replace h := h.2
    have b9 := h.1
    replace h := h.2
    have b10 := h.1
    replace h := h.2
    refine ch_copyT (n2 := 16) d_q_getBytes_22 lk_q_212 (by decide) rfl ⟨Nat.le_of_ble_eq_true rfl, Nat.le_of_ble_eq_true rfl⟩ (Nat.le_of_ble_eq_true rfl) b5 b6 b7 b8 b9 b10 ?_
    show ch_J g _ _ _ _ _ _ (ch_cpt g m j (9, 0, 1) 0 (Int32.toNatClampNeg (p2 <<< (p3 &&& 31))) (Int32.toNatClampNeg (nI (ch_tn g j)))) _
    generalize hmm4 : ch_cpt g m j (9, 0, 1) 0 (Int32.toNatClampNeg (p2 <<< (p3 &&& 31))) (Int32.toNatClampNeg (nI (ch_tn g j))) = m4
    replace h := h m4 hmm4.symm
    refine ch_goto (tgt := 43) d_q_getBytes_25 (by decide) ?_
    exact ch_vret d_q_getBytes_43 rfl (Nat.le_of_ble_eq_true rfl) h
set_option maxHeartbeats 1600000 in
theorem s_q_getBytes (g : ch_G) (q : ch_M → Prop) (j : Nat) (p2 : Int32) (p3 : Int32) (m : ch_M) (h : (p3 = 0) ∧ (bu_pt g j p2) ∧ (bu_tf g j) ∧ (sb_Fit (m (9, 0, 1))) ∧ (∀ (M_ : ch_M), (bu_by m M_) → q (M_))) : ch_C g m_q_getBytes [.inr (12, j, 0), .inr (9, 0, 1), .inl (.int p2), .inl (.int p3)] m (ch_ov q) := by
  refine e_q_getBytes g _ j p2 p3 m ?_
  obtain ⟨rfl, ⟨n, rfl, hn⟩, ht, hf, hq⟩ := h
  refine g_q_getBytes_0 g _ _ _ _ _ ?_
  rw [sb_shl0]
  refine ⟨fun z => z rfl, fun _ => ⟨by decide, nI_pos (by omega), nI_pos (by omega), ?_, ?_, ht, fun m4 e4 => ?_⟩⟩
  · rw [nI_clamp (by omega), sb_cl0]
    omega
  · rw [nI_clamp (by omega), nI_clamp (by omega)]
    omega
  · subst e4
    refine ⟨rfl, hq _ ⟨fun a ha => ?_, fun k => ?_⟩⟩
    · funext q
      exact if_neg ha
    · unfold ch_cpt
      rw [if_pos rfl]
      exact sb_fitC ht hf k
theorem e_a_putStringAt (g : ch_G) (Q : ch_O → ch_M → Prop) (p1 : Int32) (j2 : Nat) (m : ch_M) (h : ch_J g m_a_putStringAt (ch_rm m_a_putStringAt) (ch_E g m_a_putStringAt Q) 0 [some (.inr (9, 0, 0)), some (.inl (.int p1)), some (.inr (12, j2, 0))] [] m 0) : ch_C g m_a_putStringAt [.inr (9, 0, 0), .inl (.int p1), .inr (12, j2, 0)] m Q :=
  ch_enter mf_a_putStringAt (by intro v hv; simp only [List.mem_cons, List.not_mem_nil, or_false] at hv; rcases hv with rfl | rfl | rfl <;> rfl) (Nat.le_of_ble_eq_true rfl) h
set_option maxHeartbeats 1600000 in
theorem g_a_putStringAt_0 (g : ch_G) (Q : ch_O → ch_M → Prop) (p1 : Int32) (j2 : Nat) (m : ch_M) (h : (m (9, 0, 0) 1 = 0) ∧ (((m (9, 0, 0) 1) = 0) ∧ (bu_pt g j2 p1) ∧ (bu_tf g j2) ∧ (sb_Fit (m (9, 0, 1))) ∧ ((∀ (M5 : ch_M), (bu_by m M5) → (∀ m7 : ch_M, m7 = M5 → Q (.inl none) m7))))) : ch_J g m_a_putStringAt (ch_rm m_a_putStringAt) (ch_E g m_a_putStringAt Q) 0 [some (.inr (9, 0, 0)), some (.inl (.int p1)), some (.inr (12, j2, 0))] [] m 0 := by
  refine ch_aload_n (i := 0) d_a_putStringAt_0 rfl rfl ?_
  refine ch_aload_n (i := 2) d_a_putStringAt_1 rfl rfl ?_
  have b4 := h.1
  replace h := h.2
  refine ch_callC (as := [.inr (12, j2, 0)]) d_a_putStringAt_2 lk_a_397 mi_a_inflateIfNeededFor (bu_selP pm_a_inflateIfNeededFor mi_a_inflateIfNeededFor) rfl rfl rfl ⟨Nat.le_of_ble_eq_true rfl, Nat.le_of_ble_eq_true rfl⟩ (Nat.le_of_ble_eq_true rfl) ⟨Nat.le_of_ble_eq_true rfl, Nat.le_of_ble_eq_true rfl⟩ (ch_mono (ch_Kv (fun m2 q3 => ?_)) (s_a_inflateIfNeededFor g (fun (m_ : ch_M) => (m = m_)) (j2) m ⟨b4, rfl⟩))
  obtain rfl := q3
  replace h := h
  refine ch_aload_n (i := 2) d_a_putStringAt_5 rfl rfl ?_
  refine ch_aload_n (i := 0) d_a_putStringAt_6 rfl rfl ?_
  refine ch_get (v := .inr (9, 0, 1)) d_a_putStringAt_7 fl_a_15 rfl ?_
  refine ch_iload_n (i := 1) d_a_putStringAt_10 rfl rfl ?_
  refine ch_aload_n (i := 0) d_a_putStringAt_11 rfl rfl ?_
  refine ch_get (v := .inl (.int (m (9, 0, 0) 1))) d_a_putStringAt_12 fl_a_22 rfl ?_
  have b9 := h.1
  replace h := h.2
  have b10 := h.1
  replace h := h.2
  have b11 := h.1
  replace h := h.2
  have b12 := h.1
  replace h := h.2
  refine ch_callT (as := [.inr (9, 0, 1), .inl (.int p1), .inl (.int (m (9, 0, 0) 1))]) d_a_putStringAt_15 lk_a_399 mi_q_getBytes me_q_getBytes rfl rfl rfl ⟨Nat.le_of_ble_eq_true rfl, Nat.le_of_ble_eq_true rfl⟩ (Nat.le_of_ble_eq_true rfl) ⟨Nat.le_of_ble_eq_true rfl, Nat.le_of_ble_eq_true rfl⟩ (ch_mono (ch_Kv (fun m7 q8 => ?_)) (s_q_getBytes g (fun (m_ : ch_M) => (∃ (M5 : ch_M), (bu_by m M5) ∧ m_ = M5)) (j2) (p1) ((m (9, 0, 0) 1)) m ⟨b9, b10, b11, b12, (fun M5 f0_ => ⟨M5, f0_, rfl⟩)⟩))
  obtain ⟨M5, f0_, hm_⟩ := q8
  replace h := h M5 f0_ m7 hm_
  exact ch_vret d_a_putStringAt_18 rfl (Nat.le_of_ble_eq_true rfl) h
set_option maxHeartbeats 1600000 in
theorem s_a_putStringAt (g : ch_G) (q : ch_M → Prop) (p1 : Int32) (j2 : Nat) (m : ch_M) (h : (m (9, 0, 0) 1 = 0) ∧ (bu_pt g j2 p1) ∧ (bu_tf g j2) ∧ (sb_Fit (m (9, 0, 1))) ∧ (∀ (M_ : ch_M), (bu_by m M_) → q (M_))) : ch_C g m_a_putStringAt [.inr (9, 0, 0), .inl (.int p1), .inr (12, j2, 0)] m (ch_ov q) := by
  refine e_a_putStringAt g _ p1 j2 m ?_
  obtain ⟨h0, h1, ht, hf, hq⟩ := h
  refine g_a_putStringAt_0 g _ _ _ _ ?_
  exact ⟨h0, h0, h1, ht, hf, fun M hM m7 e7 => ⟨rfl, by subst e7; exact hq _ hM⟩⟩
theorem e_a_append2 (g : ch_G) (Q : ch_O → ch_M → Prop) (j1 : Nat) (m : ch_M) (h : ch_J g m_a_append2 (ch_rm m_a_append2) (ch_E g m_a_append2 Q) 0 [some (.inr (9, 0, 0)), some (.inr (12, j1, 0)), none] [] m 0) : ch_C g m_a_append2 [.inr (9, 0, 0), .inr (12, j1, 0)] m Q :=
  ch_enter mf_a_append2 (by intro v hv; simp only [List.mem_cons, List.not_mem_nil, or_false] at hv; rcases hv with rfl | rfl <;> rfl) (Nat.le_of_ble_eq_true rfl) h
set_option maxHeartbeats 1600000 in
theorem g_a_append2_0 (g : ch_G) (Q : ch_O → ch_M → Prop) (j1 : Nat) (m : ch_M) (h : ((m (9, 0, 0) 1 = 0) ∧ (bu_le ((m (9, 0, 0) 3) + (nI (ch_tn g j1)))) ∧ ((m (9, 0, 0) 1 = 0) ∧ (bu_pt g j1 (m (9, 0, 0) 3)) ∧ (bu_tf g j1) ∧ (sb_Fit (m (9, 0, 1))) ∧ ((∀ (M9 : ch_M), (bu_by m M9) → (∀ m11 : ch_M, m11 = M9 → (∀ m17 : ch_M, m17 = ch_wr m11 (9, 0, 0) 3 ((m11 (9, 0, 0) 3) + (nI (ch_tn g j1))) → Q (.inl (some (.inr (9, 0, 0)))) m17))))))) : ch_J g m_a_append2 (ch_rm m_a_append2) (ch_E g m_a_append2 Q) 0 [some (.inr (9, 0, 0)), some (.inr (12, j1, 0)), none] [] m 0 := by
  refine ch_aload_n (i := 1) d_a_append2_0 rfl rfl ?_
  refine ch_ifnonnull (tgt := 9) d_a_append2_1 (by decide) ?_
  refine ch_aload_n (i := 1) d_a_append2_9 rfl rfl ?_
  refine ch_callT (as := []) d_a_append2_10 lk_a_32 mi_q_length me_q_length rfl rfl rfl ⟨Nat.le_of_ble_eq_true rfl, Nat.le_of_ble_eq_true rfl⟩ (Nat.le_of_ble_eq_true rfl) ⟨Nat.le_of_ble_eq_true rfl, Nat.le_of_ble_eq_true rfl⟩ (ch_mono (ch_Ki (fun r1 m2 q3 => ?_)) (s_q_length g (fun (r_ : Int32) (m_ : ch_M) => ((nI (ch_tn g j1)) = r_ ∧ m = m_)) (j1) m ⟨rfl, rfl⟩))
  obtain ⟨rfl, rfl⟩ := q3
  replace h := h
  refine ch_istore_n (i := 2) d_a_append2_13 rfl (Nat.le_of_ble_eq_true rfl) (ls' := [some (.inr (9, 0, 0)), some (.inr (12, j1, 0)), some (.inl (.int (nI (ch_tn g j1))))]) rfl ?_
  refine ch_aload_n (i := 0) d_a_append2_14 rfl rfl ?_
  refine ch_aload_n (i := 0) d_a_append2_15 rfl rfl ?_
  refine ch_get (v := .inl (.int (m (9, 0, 0) 3))) d_a_append2_16 fl_a_79 rfl ?_
  refine ch_iload_n (i := 2) d_a_append2_19 rfl rfl ?_
  refine ch_iadd d_a_append2_20 ?_
  have b7 := h.1
  replace h := h.2
  have b8 := h.1
  replace h := h.2
  refine ch_callC (as := [.inl (.int ((m (9, 0, 0) 3) + (nI (ch_tn g j1))))]) d_a_append2_21 lk_a_100 mi_a_ensureCapacityInternal (bu_selP pm_a_ensureCapacityInternal mi_a_ensureCapacityInternal) rfl rfl rfl ⟨Nat.le_of_ble_eq_true rfl, Nat.le_of_ble_eq_true rfl⟩ (Nat.le_of_ble_eq_true rfl) ⟨Nat.le_of_ble_eq_true rfl, Nat.le_of_ble_eq_true rfl⟩ (ch_mono (ch_Kv (fun m5 q6 => ?_)) (s_a_ensureCapacityInternal g (fun (m_ : ch_M) => (m = m_)) (((m (9, 0, 0) 3) + (nI (ch_tn g j1)))) m ⟨b7, b8, rfl⟩))
  obtain rfl := q6
  replace h := h
  refine ch_aload_n (i := 0) d_a_append2_24 rfl rfl ?_
  refine ch_aload_n (i := 0) d_a_append2_25 rfl rfl ?_
  refine ch_get (v := .inl (.int (m (9, 0, 0) 3))) d_a_append2_26 fl_a_79 rfl ?_
  refine ch_aload_n (i := 1) d_a_append2_29 rfl rfl ?_
  have b13 := h.1
  replace h := h.2
  have b14 := h.1
  replace h := h.2
  have b15 := h.1
  replace h := h.2
  have b16 := h.1
  replace h := h.2
  refine ch_callC (as := [.inl (.int (m (9, 0, 0) 3)), .inr (12, j1, 0)]) d_a_append2_30 lk_a_208 mi_a_putStringAt (bu_selP pm_a_putStringAt mi_a_putStringAt) rfl rfl rfl ⟨Nat.le_of_ble_eq_true rfl, Nat.le_of_ble_eq_true rfl⟩ (Nat.le_of_ble_eq_true rfl) ⟨Nat.le_of_ble_eq_true rfl, Nat.le_of_ble_eq_true rfl⟩ (ch_mono (ch_Kv (fun m11 q12 => ?_)) (s_a_putStringAt g (fun (m_ : ch_M) => (∃ (M9 : ch_M), (bu_by m M9) ∧ m_ = M9)) ((m (9, 0, 0) 3)) (j1) m ⟨b13, b14, b15, b16, (fun M9 f0_ => ⟨M9, f0_, rfl⟩)⟩))
  obtain ⟨M9, f0_, hm_⟩ := q12
  replace h := h M9 f0_ m11 hm_
  refine ch_aload_n (i := 0) d_a_append2_33 rfl rfl ?_
  refine ch_dup d_a_append2_34 rfl ?_
  refine ch_get (v := .inl (.int (m11 (9, 0, 0) 3))) d_a_append2_35 fl_a_79 rfl ?_
  refine ch_iload_n (i := 2) d_a_append2_38 rfl rfl ?_
  refine ch_iadd d_a_append2_39 ?_
  refine ch_put d_a_append2_40 fp_a_79 rfl rfl rfl ?_
  generalize hmm17 : ch_wr m11 (9, 0, 0) 3 ((m11 (9, 0, 0) 3) + (nI (ch_tn g j1))) = m17
  replace h := h m17 hmm17.symm
  refine ch_aload_n (i := 0) d_a_append2_43 rfl rfl ?_
  exact ch_aret d_a_append2_44 rfl (Or.inl ⟨_, rfl⟩) (Nat.le_of_ble_eq_true rfl) h
set_option maxHeartbeats 1600000 in
theorem s_a_append2 (g : ch_G) (q : ch_Ad → ch_M → Prop) (n_ : Nat) (j1 : Nat) (m : ch_M) (h : (bu_ok m n_) ∧ (n_ + ch_tn g j1 ≤ 16) ∧ (bu_tf g j1) ∧ (∀ (M_ : ch_M), (bu_ok M_ (n_ + ch_tn g j1)) → (bu_fr m M_) → q (9, 0, 0) (M_))) : ch_C g m_a_append2 [.inr (9, 0, 0), .inr (12, j1, 0)] m (ch_oa q) := by
  refine e_a_append2 g _ j1 m ?_
  obtain ⟨⟨h0, h3, h16, hf⟩, hn, ht, hq⟩ := h
  refine g_a_append2_0 g _ _ _ ?_
  rw [h3, nI_add]
  refine ⟨h0, bu_le_of hn, h0, ⟨n_, rfl, hn⟩, ht, hf, fun M hM m11 e11 m17 e17 => ?_⟩
  subst e11
  subst e17
  have e9 : m11 (9, 0, 0) = m (9, 0, 0) := hM.1 _ (by decide)
  refine ⟨_, rfl, hq _ ⟨?_, ?_, hn, ?_⟩ (fun a ha => ?_)⟩
  · rw [ch_wr_at, if_neg (by decide), e9]
    exact h0
  · rw [ch_wr_at, if_pos rfl, e9, h3, nI_add]
  · rw [ch_wr_ne (by decide)]
    exact hM.2
  · rw [ch_wr_ne (fun z => ha (by rw [z])), hM.1 a (fun z => ha (by rw [z]))]
theorem e_a_append (g : ch_G) (Q : ch_O → ch_M → Prop) (p1 : Int32) (m : ch_M) (h : ch_J g m_a_append (ch_rm m_a_append) (ch_E g m_a_append Q) 0 [some (.inr (9, 0, 0)), some (.inl (.int p1)), none, none] [] m 0) : ch_C g m_a_append [.inr (9, 0, 0), .inl (.int p1)] m Q :=
  ch_enter mf_a_append (by intro v hv; simp only [List.mem_cons, List.not_mem_nil, or_false] at hv; rcases hv with rfl | rfl <;> rfl) (Nat.le_of_ble_eq_true rfl) h
set_option maxHeartbeats 1600000 in
theorem g_a_append_0 (g : ch_G) (Q : ch_O → ch_M → Prop) (p1 : Int32) (m : ch_M) (h : (¬ p1 < 0) ∧ ((∀ (d1 : Nat), (1 ≤ d1) → (d1 ≤ 10) → (Int32.toNatClampNeg p1 < 10 ^ d1) → (Int32.toNatClampNeg p1 < 100 → d1 ≤ 2) → (m (9, 0, 0) 1 = 0) ∧ (bu_le ((m (9, 0, 0) 3) + (nI d1))) ∧ ((m (9, 0, 0) 1 = 0) ∧ ((bu_gc p1 ((m (9, 0, 0) 3) + (nI d1))) ∧ (sb_Fit (m (9, 0, 1))) ∧ ((∀ (R15 : Int32) (M16 : ch_M), (bu_by m M16) → (∀ m18 : ch_M, m18 = M16 → (∀ m22 : ch_M, m22 = ch_wr m18 (9, 0, 0) 3 ((m (9, 0, 0) 3) + (nI d1)) → Q (.inl (some (.inr (9, 0, 0)))) m22))))))))) : ch_J g m_a_append (ch_rm m_a_append) (ch_E g m_a_append Q) 0 [some (.inr (9, 0, 0)), some (.inl (.int p1)), none, none] [] m 0 := by
  refine ch_aload_n (i := 0) d_a_append_0 rfl rfl ?_
  refine ch_get (v := .inl (.int (m (9, 0, 0) 3))) d_a_append_1 fl_a_79 rfl ?_
  refine ch_istore_n (i := 2) d_a_append_4 rfl (Nat.le_of_ble_eq_true rfl) (ls' := [some (.inr (9, 0, 0)), some (.inl (.int p1)), some (.inl (.int (m (9, 0, 0) 3))), none]) rfl ?_
  refine ch_iload_n (i := 2) d_a_append_5 rfl rfl ?_
  refine ch_iload_n (i := 1) d_a_append_6 rfl rfl ?_
  have b5 := h.1
  replace h := h.2
  refine ch_callS (as := [.inl (.int p1)]) d_a_append_7 lk_a_245 ms_i_stringSize rfl rfl ⟨Nat.le_of_ble_eq_true rfl, Nat.le_of_ble_eq_true rfl⟩ (Nat.le_of_ble_eq_true rfl) ⟨Nat.le_of_ble_eq_true rfl, Nat.le_of_ble_eq_true rfl⟩ (ch_mono (ch_Ki (fun r2 m3 q4 => ?_)) (s_i_stringSize g (fun (r_ : Int32) (m_ : ch_M) => (∃ (d1 : Nat), (nI d1) = r_ ∧ (1 ≤ d1) ∧ (d1 ≤ 10) ∧ (Int32.toNatClampNeg p1 < 10 ^ d1) ∧ (Int32.toNatClampNeg p1 < 100 → d1 ≤ 2) ∧ m = m_)) (p1) m ⟨b5, (fun d1 f0_ f1_ f2_ f3_ => ⟨d1, rfl, f0_, f1_, f2_, f3_, rfl⟩)⟩))
  obtain ⟨d1, rfl, f0_, f1_, f2_, f3_, rfl⟩ := q4
  replace h := h d1 f0_ f1_ f2_ f3_
  refine ch_iadd d_a_append_10 ?_
  refine ch_istore_n (i := 3) d_a_append_11 rfl (Nat.le_of_ble_eq_true rfl) (ls' := [some (.inr (9, 0, 0)), some (.inl (.int p1)), some (.inl (.int (m (9, 0, 0) 3))), some (.inl (.int ((m (9, 0, 0) 3) + (nI d1))))]) rfl ?_
  refine ch_aload_n (i := 0) d_a_append_12 rfl rfl ?_
  refine ch_iload_n (i := 3) d_a_append_13 rfl rfl ?_
  have b9 := h.1
  replace h := h.2
  have b10 := h.1
  replace h := h.2
  refine ch_callC (as := [.inl (.int ((m (9, 0, 0) 3) + (nI d1)))]) d_a_append_14 lk_a_100 mi_a_ensureCapacityInternal (bu_selP pm_a_ensureCapacityInternal mi_a_ensureCapacityInternal) rfl rfl rfl ⟨Nat.le_of_ble_eq_true rfl, Nat.le_of_ble_eq_true rfl⟩ (Nat.le_of_ble_eq_true rfl) ⟨Nat.le_of_ble_eq_true rfl, Nat.le_of_ble_eq_true rfl⟩ (ch_mono (ch_Kv (fun m7 q8 => ?_)) (s_a_ensureCapacityInternal g (fun (m_ : ch_M) => (m = m_)) (((m (9, 0, 0) 3) + (nI d1))) m ⟨b9, b10, rfl⟩))
  obtain rfl := q8
  replace h := h
  refine ch_aload_n (i := 0) d_a_append_17 rfl rfl ?_
  have b14 := h.1
  replace h := h.2
  refine ch_callC (as := []) d_a_append_18 lk_a_83 mi_a_isLatin1 (bu_selW bu_latW) rfl rfl rfl ⟨Nat.le_of_ble_eq_true rfl, Nat.le_of_ble_eq_true rfl⟩ (Nat.le_of_ble_eq_true rfl) ⟨Nat.le_of_ble_eq_true rfl, Nat.le_of_ble_eq_true rfl⟩ (ch_mono (ch_Ki (fun r11 m12 q13 => ?_)) (s_a_isLatin1 g (fun (r_ : Int32) (m_ : ch_M) => (1 = r_ ∧ m = m_))  m ⟨b14, ⟨rfl, rfl⟩⟩))
  obtain ⟨rfl, rfl⟩ := q13
  replace h := h
  refine ch_if_eq (tgt := 37) d_a_append_21 (by decide) (fun c => absurd c (by decide)) (fun _ => ?_)
  refine ch_iload_n (i := 1) d_a_append_24 rfl rfl ?_
  refine ch_iload_n (i := 3) d_a_append_25 rfl rfl ?_
  refine ch_aload_n (i := 0) d_a_append_26 rfl rfl ?_
  refine ch_get (v := .inr (9, 0, 1)) d_a_append_27 fl_a_15 rfl ?_
  have b20 := h.1
  replace h := h.2
  have b21 := h.1
  replace h := h.2
  refine ch_callS (as := [.inl (.int p1), .inl (.int ((m (9, 0, 0) 3) + (nI d1))), .inr (9, 0, 1)]) d_a_append_30 lk_a_248 ms_i_getChars rfl rfl ⟨Nat.le_of_ble_eq_true rfl, Nat.le_of_ble_eq_true rfl⟩ (Nat.le_of_ble_eq_true rfl) ⟨Nat.le_of_ble_eq_true rfl, Nat.le_of_ble_eq_true rfl⟩ (ch_mono (ch_Ki (fun r17 m18 q19 => ?_)) (s_i_getChars g (fun (r_ : Int32) (m_ : ch_M) => (∃ (R15 : Int32) (M16 : ch_M), R15 = r_ ∧ (bu_by m M16) ∧ m_ = M16)) (p1) (((m (9, 0, 0) 3) + (nI d1))) m ⟨b20, b21, (fun R15 M16 f0_ => ⟨R15, M16, rfl, f0_, rfl⟩)⟩))
  obtain ⟨R15, M16, rfl, f0_, hm_⟩ := q19
  replace h := h R15 M16 f0_ m18 hm_
  refine ch_pop d_a_append_33 rfl ?_
  refine ch_goto (tgt := 48) d_a_append_34 (by decide) ?_
  refine ch_aload_n (i := 0) d_a_append_48 rfl rfl ?_
  refine ch_iload_n (i := 3) d_a_append_49 rfl rfl ?_
  refine ch_put d_a_append_50 fp_a_79 rfl rfl rfl ?_
  generalize hmm22 : ch_wr m18 (9, 0, 0) 3 ((m (9, 0, 0) 3) + (nI d1)) = m22
  replace h := h m22 hmm22.symm
  refine ch_aload_n (i := 0) d_a_append_53 rfl rfl ?_
  exact ch_aret d_a_append_54 rfl (Or.inl ⟨_, rfl⟩) (Nat.le_of_ble_eq_true rfl) h
set_option maxHeartbeats 1600000 in
theorem s_a_append (g : ch_G) (q : ch_Ad → ch_M → Prop) (n_ : Nat) (p1 : Int32) (m : ch_M) (h : (bu_ok m n_) ∧ (n_ ≤ 6) ∧ (¬ p1 < 0) ∧ (∀ (M_ : ch_M) (e_ : Nat), (bu_ok M_ e_) → (n_ ≤ e_) → (e_ ≤ n_ + 10) → (Int32.toNatClampNeg p1 < 100 → e_ ≤ n_ + 2) → (bu_fr m M_) → q (9, 0, 0) (M_))) : ch_C g m_a_append [.inr (9, 0, 0), .inl (.int p1)] m (ch_oa q) := by
  refine e_a_append g _ p1 m ?_
  obtain ⟨⟨h0, h3, h16, hf⟩, hn, hx, hq⟩ := h
  refine g_a_append_0 g _ _ _ ?_
  rw [h3]
  refine ⟨hx, fun d d1 d10 hd hd2 => ?_⟩
  rw [nI_add]
  refine ⟨h0, bu_le_of (by omega), h0, ⟨hx, n_ + d, rfl, by omega, by omega, Nat.lt_of_lt_of_le hd (Nat.pow_le_pow_right (by decide) (by omega))⟩, hf, fun R15 M hM m18 e18 m22 e22 => ?_⟩
  subst e18
  subst e22
  have e9 : m18 (9, 0, 0) = m (9, 0, 0) := hM.1 _ (by decide)
  refine ⟨_, rfl, hq _ (n_ + d) ⟨?_, ?_, by omega, ?_⟩ (by omega) (by omega) (fun w => by have := hd2 w; omega) (fun a ha => ?_)⟩
  · rw [ch_wr_at, if_neg (by decide), e9]
    exact h0
  · rw [ch_wr_at, if_pos rfl]
  · rw [ch_wr_ne (by decide)]
    exact hM.2
  · rw [ch_wr_ne (fun z => ha (by rw [z])), hM.1 a (fun z => ha (by rw [z]))]
