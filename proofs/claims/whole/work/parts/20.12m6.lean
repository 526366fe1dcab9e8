theorem e_m_longestOf (g : ch_G) (Q : ch_O → ch_M → Prop) (p1 : Int32) (m : ch_M) (h : ch_J g m_m_longestOf (ch_rm m_m_longestOf) (ch_E g m_m_longestOf Q) 0 [some (.inr (9, 0, 0)), some (.inl (.int p1)), none, none, none] [] m 0) : ch_C g m_m_longestOf [.inr (9, 0, 0), .inl (.int p1)] m Q :=
  ch_enter mf_m_longestOf (by intro v hv; simp only [List.mem_cons, List.not_mem_nil, or_false] at hv; rcases hv with rfl | rfl <;> rfl) (Nat.le_of_ble_eq_true rfl) h
set_option maxHeartbeats 1600000 in
theorem g_m_longestOf_0 (g : ch_G) (Q : ch_O → ch_M → Prop) (p1 : Int32) (m : ch_M) (h : ch_J g m_m_longestOf (ch_rm m_m_longestOf) (ch_E g m_m_longestOf Q) 7 [some (.inr (9, 0, 0)), some (.inl (.int p1)), some (.inl (.int 0)), some (.inl (.int 0)), some (.inl (.int 0))] [] m 0) : ch_J g m_m_longestOf (ch_rm m_m_longestOf) (ch_E g m_m_longestOf Q) 0 [some (.inr (9, 0, 0)), some (.inl (.int p1)), none, none, none] [] m 0 := by
  refine ch_iconst (v := 0) d_m_longestOf_0 (by decide) ?_
  refine ch_istore_n (i := 2) d_m_longestOf_1 rfl (Nat.le_of_ble_eq_true rfl) (ls' := [some (.inr (9, 0, 0)), some (.inl (.int p1)), some (.inl (.int 0)), none, none]) rfl ?_
  refine ch_iconst (v := 0) d_m_longestOf_2 (by decide) ?_
  refine ch_istore_n (i := 3) d_m_longestOf_3 rfl (Nat.le_of_ble_eq_true rfl) (ls' := [some (.inr (9, 0, 0)), some (.inl (.int p1)), some (.inl (.int 0)), some (.inl (.int 0)), none]) rfl ?_
  refine ch_iconst (v := 0) d_m_longestOf_4 (by decide) ?_
  refine ch_istore (i := 4) d_m_longestOf_5 (Nat.le_of_ble_eq_true rfl) (ls' := [some (.inr (9, 0, 0)), some (.inl (.int p1)), some (.inl (.int 0)), some (.inl (.int 0)), some (.inl (.int 0))]) rfl ?_
  exact h
set_option maxHeartbeats 1600000 in
theorem g_m_longestOf_7 (g : ch_G) (Q : ch_O → ch_M → Prop) (x1 : Int32) (x2 : Int32) (x3 : Int32) (x4 : Int32) (m : ch_M) (h : ((12 ≤ x4 → Q (.inl (some (.inl (.int x2)))) m) ∧ (¬ 12 ≤ x4 → (ch_C g m_m_owner [.inr (9, 0, 0), .inl (.int x4)] m (ch_oi (fun (r1 : Int32) (m2 : ch_M) => ((¬ r1 = x1 → ch_J g m_m_longestOf (ch_rm m_m_longestOf) (ch_E g m_m_longestOf Q) 7 [some (.inr (9, 0, 0)), some (.inl (.int x1)), some (.inl (.int (if x2 < 0 then 0 else x2))), some (.inl (.int 0)), some (.inl (.int (x4 + 1)))] [] m2 0) ∧ (r1 = x1 → ch_J g m_m_longestOf (ch_rm m_m_longestOf) (ch_E g m_m_longestOf Q) 7 [some (.inr (9, 0, 0)), some (.inl (.int x1)), some (.inl (.int (if x2 < (x3 + 1) then (x3 + 1) else x2))), some (.inl (.int (x3 + 1))), some (.inl (.int (x4 + 1)))] [] m2 0)))))))) : ch_J g m_m_longestOf (ch_rm m_m_longestOf) (ch_E g m_m_longestOf Q) 7 [some (.inr (9, 0, 0)), some (.inl (.int x1)), some (.inl (.int x2)), some (.inl (.int x3)), some (.inl (.int x4))] [] m 0 := by
  refine ch_iload d_m_longestOf_7 rfl ?_
  refine ch_bipush (v := 12) d_m_longestOf_9 (by decide) ?_
  refine ch_icmp_ge (tgt := 44) d_m_longestOf_11 (by decide) (fun c => ?_) (fun c => ?_)
  · replace h := h.1 c
    refine ch_iload_n (i := 2) d_m_longestOf_44 rfl rfl ?_
    exact ch_iret (ty := .int) d_m_longestOf_45 rfl rfl (Nat.le_of_ble_eq_true rfl) h
  · replace h := h.2 c
    refine ch_aload_n (i := 0) d_m_longestOf_14 rfl rfl ?_
    refine ch_iload d_m_longestOf_15 rfl ?_
    refine ch_callV (as := [.inl (.int x4)]) d_m_longestOf_17 lk_m_109 mi_m_owner me_m_owner rfl rfl rfl ⟨Nat.le_of_ble_eq_true rfl, Nat.le_of_ble_eq_true rfl⟩ (Nat.le_of_ble_eq_true rfl) ⟨Nat.le_of_ble_eq_true rfl, Nat.le_of_ble_eq_true rfl⟩ (ch_mono (ch_Ki (fun r1 m2 h => ?_)) h)
    refine ch_iload_n (i := 1) d_m_longestOf_20 rfl rfl ?_
    refine ch_icmp_ne (tgt := 30) d_m_longestOf_21 (by decide) (fun c => ?_) (fun c => ?_)
    · replace h := h.1 c
      refine ch_iconst (v := 0) d_m_longestOf_30 (by decide) ?_
      refine ch_istore_n (i := 3) d_m_longestOf_31 rfl (Nat.le_of_ble_eq_true rfl) (ls' := [some (.inr (9, 0, 0)), some (.inl (.int x1)), some (.inl (.int x2)), some (.inl (.int 0)), some (.inl (.int x4))]) rfl ?_
      refine ch_iload_n (i := 2) d_m_longestOf_32 rfl rfl ?_
      refine ch_iload_n (i := 3) d_m_longestOf_33 rfl rfl ?_
      refine ch_max d_m_longestOf_34 lk_m_197 ⟨Nat.le_of_ble_eq_true rfl, Nat.le_of_ble_eq_true rfl⟩ ⟨Nat.le_of_ble_eq_true rfl, Nat.le_of_ble_eq_true rfl⟩ (Nat.le_of_ble_eq_true rfl) ?_
      refine ch_istore_n (i := 2) d_m_longestOf_37 rfl (Nat.le_of_ble_eq_true rfl) (ls' := [some (.inr (9, 0, 0)), some (.inl (.int x1)), some (.inl (.int (if x2 < 0 then 0 else x2))), some (.inl (.int 0)), some (.inl (.int x4))]) rfl ?_
      refine ch_iinc (i := 4) (v := (x4 + 1)) d_m_longestOf_38 rfl rfl (Nat.le_of_ble_eq_true rfl) (ls' := [some (.inr (9, 0, 0)), some (.inl (.int x1)), some (.inl (.int (if x2 < 0 then 0 else x2))), some (.inl (.int 0)), some (.inl (.int (x4 + 1)))]) rfl ?_
      refine ch_goto (tgt := 7) d_m_longestOf_41 (by decide) ?_
      exact h
    · replace h := h.2 c
      refine ch_iload_n (i := 3) d_m_longestOf_24 rfl rfl ?_
      refine ch_iconst (v := 1) d_m_longestOf_25 (by decide) ?_
      refine ch_iadd d_m_longestOf_26 ?_
      refine ch_goto (tgt := 31) d_m_longestOf_27 (by decide) ?_
      refine ch_istore_n (i := 3) d_m_longestOf_31 rfl (Nat.le_of_ble_eq_true rfl) (ls' := [some (.inr (9, 0, 0)), some (.inl (.int x1)), some (.inl (.int x2)), some (.inl (.int (x3 + 1))), some (.inl (.int x4))]) rfl ?_
      refine ch_iload_n (i := 2) d_m_longestOf_32 rfl rfl ?_
      refine ch_iload_n (i := 3) d_m_longestOf_33 rfl rfl ?_
      refine ch_max d_m_longestOf_34 lk_m_197 ⟨Nat.le_of_ble_eq_true rfl, Nat.le_of_ble_eq_true rfl⟩ ⟨Nat.le_of_ble_eq_true rfl, Nat.le_of_ble_eq_true rfl⟩ (Nat.le_of_ble_eq_true rfl) ?_
      refine ch_istore_n (i := 2) d_m_longestOf_37 rfl (Nat.le_of_ble_eq_true rfl) (ls' := [some (.inr (9, 0, 0)), some (.inl (.int x1)), some (.inl (.int (if x2 < (x3 + 1) then (x3 + 1) else x2))), some (.inl (.int (x3 + 1))), some (.inl (.int x4))]) rfl ?_
      refine ch_iinc (i := 4) (v := (x4 + 1)) d_m_longestOf_38 rfl rfl (Nat.le_of_ble_eq_true rfl) (ls' := [some (.inr (9, 0, 0)), some (.inl (.int x1)), some (.inl (.int (if x2 < (x3 + 1) then (x3 + 1) else x2))), some (.inl (.int (x3 + 1))), some (.inl (.int (x4 + 1)))]) rfl ?_
      refine ch_goto (tgt := 7) d_m_longestOf_41 (by decide) ?_
      exact h
theorem e_m_longest (g : ch_G) (Q : ch_O → ch_M → Prop) (p1 : Int32) (m : ch_M) (h : ch_J g m_m_longest (ch_rm m_m_longest) (ch_E g m_m_longest Q) 0 [some (.inr (9, 0, 0)), some (.inl (.int p1))] [] m 0) : ch_C g m_m_longest [.inr (9, 0, 0), .inl (.int p1)] m Q :=
  ch_enter mf_m_longest (by intro v hv; simp only [List.mem_cons, List.not_mem_nil, or_false] at hv; rcases hv with rfl | rfl <;> rfl) (Nat.le_of_ble_eq_true rfl) h
set_option maxHeartbeats 1600000 in
theorem g_m_longest_0 (g : ch_G) (Q : ch_O → ch_M → Prop) (p1 : Int32) (m : ch_M) (h : (ch_C g m_m_isChild [.inr (9, 0, 0), .inl (.int p1)] m (ch_oi (fun (r1 : Int32) (m2 : ch_M) => ((r1 = 0 → (∀ m3 : ch_M, m3 = ch_wr m2 (9, 0, 0) 19 1 → ((¬ (m3 (9, 0, 0) 19) = 0 → Q (.inl (some (.inl (.int 0)))) m3) ∧ ((m3 (9, 0, 0) 19) = 0 → (ch_C g m_m_longestOf [.inr (9, 0, 0), .inl (.int p1)] m3 (ch_oi (fun (r4 : Int32) (m5 : ch_M) => Q (.inl (some (.inl (.int r4)))) m5))))))) ∧ (¬ r1 = 0 → (∀ m6 : ch_M, m6 = ch_wr m2 (9, 0, 0) 19 0 → ((¬ (m6 (9, 0, 0) 19) = 0 → Q (.inl (some (.inl (.int 0)))) m6) ∧ ((m6 (9, 0, 0) 19) = 0 → (ch_C g m_m_longestOf [.inr (9, 0, 0), .inl (.int p1)] m6 (ch_oi (fun (r7 : Int32) (m8 : ch_M) => Q (.inl (some (.inl (.int r7)))) m8)))))))))))) : ch_J g m_m_longest (ch_rm m_m_longest) (ch_E g m_m_longest Q) 0 [some (.inr (9, 0, 0)), some (.inl (.int p1))] [] m 0 := by
  refine ch_aload_n (i := 0) d_m_longest_0 rfl rfl ?_
  refine ch_aload_n (i := 0) d_m_longest_1 rfl rfl ?_
  refine ch_iload_n (i := 1) d_m_longest_2 rfl rfl ?_
  refine ch_callV (as := [.inl (.int p1)]) d_m_longest_3 lk_m_77 mi_m_isChild me_m_isChild rfl rfl rfl ⟨Nat.le_of_ble_eq_true rfl, Nat.le_of_ble_eq_true rfl⟩ (Nat.le_of_ble_eq_true rfl) ⟨Nat.le_of_ble_eq_true rfl, Nat.le_of_ble_eq_true rfl⟩ (ch_mono (ch_Ki (fun r1 m2 h => ?_)) h)
  refine ch_if_eq (tgt := 13) d_m_longest_6 (by decide) (fun c => ?_) (fun c => ?_)
  · replace h := h.1 c
    refine ch_iconst (v := 1) d_m_longest_13 (by decide) ?_
    refine ch_put d_m_longest_14 fp_m_48 rfl rfl rfl ?_
    generalize hmm3 : ch_wr m2 (9, 0, 0) 19 1 = m3
    replace h := h m3 hmm3.symm
    refine ch_aload_n (i := 0) d_m_longest_17 rfl rfl ?_
    refine ch_get (v := .inl (.int (m3 (9, 0, 0) 19))) d_m_longest_18 fl_m_48 rfl ?_
    refine ch_if_ne (tgt := 32) d_m_longest_21 (by decide) (fun c => ?_) (fun c => ?_)
    · replace h := h.1 c
      refine ch_iconst (v := 0) d_m_longest_32 (by decide) ?_
      exact ch_iret (ty := .int) d_m_longest_33 rfl rfl (Nat.le_of_ble_eq_true rfl) h
    · replace h := h.2 c
      refine ch_aload_n (i := 0) d_m_longest_24 rfl rfl ?_
      refine ch_iload_n (i := 1) d_m_longest_25 rfl rfl ?_
      refine ch_callV (as := [.inl (.int p1)]) d_m_longest_26 lk_m_200 mi_m_longestOf me_m_longestOf rfl rfl rfl ⟨Nat.le_of_ble_eq_true rfl, Nat.le_of_ble_eq_true rfl⟩ (Nat.le_of_ble_eq_true rfl) ⟨Nat.le_of_ble_eq_true rfl, Nat.le_of_ble_eq_true rfl⟩ (ch_mono (ch_Ki (fun r4 m5 h => ?_)) h)
      refine ch_goto (tgt := 33) d_m_longest_29 (by decide) ?_
      exact ch_iret (ty := .int) d_m_longest_33 rfl rfl (Nat.le_of_ble_eq_true rfl) h
  · replace h := h.2 c
    refine ch_iconst (v := 0) d_m_longest_9 (by decide) ?_
    refine ch_goto (tgt := 14) d_m_longest_10 (by decide) ?_
    refine ch_put d_m_longest_14 fp_m_48 rfl rfl rfl ?_
    generalize hmm6 : ch_wr m2 (9, 0, 0) 19 0 = m6
    replace h := h m6 hmm6.symm
    refine ch_aload_n (i := 0) d_m_longest_17 rfl rfl ?_
    refine ch_get (v := .inl (.int (m6 (9, 0, 0) 19))) d_m_longest_18 fl_m_48 rfl ?_
    refine ch_if_ne (tgt := 32) d_m_longest_21 (by decide) (fun c => ?_) (fun c => ?_)
    · replace h := h.1 c
      refine ch_iconst (v := 0) d_m_longest_32 (by decide) ?_
      exact ch_iret (ty := .int) d_m_longest_33 rfl rfl (Nat.le_of_ble_eq_true rfl) h
    · replace h := h.2 c
      refine ch_aload_n (i := 0) d_m_longest_24 rfl rfl ?_
      refine ch_iload_n (i := 1) d_m_longest_25 rfl rfl ?_
      refine ch_callV (as := [.inl (.int p1)]) d_m_longest_26 lk_m_200 mi_m_longestOf me_m_longestOf rfl rfl rfl ⟨Nat.le_of_ble_eq_true rfl, Nat.le_of_ble_eq_true rfl⟩ (Nat.le_of_ble_eq_true rfl) ⟨Nat.le_of_ble_eq_true rfl, Nat.le_of_ble_eq_true rfl⟩ (ch_mono (ch_Ki (fun r7 m8 h => ?_)) h)
      refine ch_goto (tgt := 33) d_m_longest_29 (by decide) ?_
      exact ch_iret (ty := .int) d_m_longest_33 rfl rfl (Nat.le_of_ble_eq_true rfl) h
theorem e_m_gap (g : ch_G) (Q : ch_O → ch_M → Prop)  (m : ch_M) (h : ch_J g m_m_gap (ch_rm m_m_gap) (ch_E g m_m_gap Q) 0 [some (.inr (9, 0, 0))] [] m 0) : ch_C g m_m_gap [.inr (9, 0, 0)] m Q :=
  ch_enter mf_m_gap (by intro v hv; simp only [List.mem_cons, List.not_mem_nil, or_false] at hv; rcases hv with rfl <;> rfl) (Nat.le_of_ble_eq_true rfl) h
set_option maxHeartbeats 1600000 in
theorem g_m_gap_0 (g : ch_G) (Q : ch_O → ch_M → Prop)  (m : ch_M) (h : (∀ m1 : ch_M, m1 = ch_wr m (9, 0, 0) 19 0 → (ch_C g m_m_longestOf [.inr (9, 0, 0), .inl (.int (-1))] m1 (ch_oi (fun (r2 : Int32) (m3 : ch_M) => Q (.inl (some (.inl (.int r2)))) m3))))) : ch_J g m_m_gap (ch_rm m_m_gap) (ch_E g m_m_gap Q) 0 [some (.inr (9, 0, 0))] [] m 0 := by
  refine ch_aload_n (i := 0) d_m_gap_0 rfl rfl ?_
  refine ch_iconst (v := 0) d_m_gap_1 (by decide) ?_
  refine ch_put d_m_gap_2 fp_m_48 rfl rfl rfl ?_
  generalize hmm1 : ch_wr m (9, 0, 0) 19 0 = m1
  replace h := h m1 hmm1.symm
  refine ch_aload_n (i := 0) d_m_gap_5 rfl rfl ?_
  refine ch_iconst (v := (-1)) d_m_gap_6 (by decide) ?_
  refine ch_callV (as := [.inl (.int (-1))]) d_m_gap_7 lk_m_200 mi_m_longestOf me_m_longestOf rfl rfl rfl ⟨Nat.le_of_ble_eq_true rfl, Nat.le_of_ble_eq_true rfl⟩ (Nat.le_of_ble_eq_true rfl) ⟨Nat.le_of_ble_eq_true rfl, Nat.le_of_ble_eq_true rfl⟩ (ch_mono (ch_Ki (fun r2 m3 h => ?_)) h)
  exact ch_iret (ty := .int) d_m_gap_10 rfl rfl (Nat.le_of_ble_eq_true rfl) h
theorem e_m_wouldEnd (g : ch_G) (Q : ch_O → ch_M → Prop) (p1 : Int32) (m : ch_M) (h : ch_J g m_m_wouldEnd (ch_rm m_m_wouldEnd) (ch_E g m_m_wouldEnd Q) 0 [some (.inr (9, 0, 0)), some (.inl (.int p1))] [] m 0) : ch_C g m_m_wouldEnd [.inr (9, 0, 0), .inl (.int p1)] m Q :=
  ch_enter mf_m_wouldEnd (by intro v hv; simp only [List.mem_cons, List.not_mem_nil, or_false] at hv; rcases hv with rfl | rfl <;> rfl) (Nat.le_of_ble_eq_true rfl) h
set_option maxHeartbeats 1600000 in
theorem g_m_wouldEnd_0 (g : ch_G) (Q : ch_O → ch_M → Prop) (p1 : Int32) (m : ch_M) (h : (ch_C g m_m_in [.inl (.int p1), .inl (.int 1), .inl (.int 9)] m (ch_oi (fun (r1 : Int32) (m2 : ch_M) => ((r1 = 0 → (∀ m3 : ch_M, m3 = ch_wr m2 (9, 0, 0) 19 1 → ((¬ (m3 (9, 0, 0) 19) = 0 → Q (.inl (some (.inl (.int 0)))) m3) ∧ ((m3 (9, 0, 0) 19) = 0 → (ch_C g m_m_endsBy [.inr (9, 0, 0), .inl (.int p1)] m3 (ch_oi (fun (r4 : Int32) (m5 : ch_M) => Q (.inl (some (.inl (.int r4)))) m5))))))) ∧ (¬ r1 = 0 → (∀ m6 : ch_M, m6 = ch_wr m2 (9, 0, 0) 19 0 → ((¬ (m6 (9, 0, 0) 19) = 0 → Q (.inl (some (.inl (.int 0)))) m6) ∧ ((m6 (9, 0, 0) 19) = 0 → (ch_C g m_m_endsBy [.inr (9, 0, 0), .inl (.int p1)] m6 (ch_oi (fun (r7 : Int32) (m8 : ch_M) => Q (.inl (some (.inl (.int r7)))) m8)))))))))))) : ch_J g m_m_wouldEnd (ch_rm m_m_wouldEnd) (ch_E g m_m_wouldEnd Q) 0 [some (.inr (9, 0, 0)), some (.inl (.int p1))] [] m 0 := by
  refine ch_aload_n (i := 0) d_m_wouldEnd_0 rfl rfl ?_
  refine ch_iload_n (i := 1) d_m_wouldEnd_1 rfl rfl ?_
  refine ch_iconst (v := 1) d_m_wouldEnd_2 (by decide) ?_
  refine ch_bipush (v := 9) d_m_wouldEnd_3 (by decide) ?_
  refine ch_callS (as := [.inl (.int p1), .inl (.int 1), .inl (.int 9)]) d_m_wouldEnd_5 lk_m_73 ms_m_in rfl rfl ⟨Nat.le_of_ble_eq_true rfl, Nat.le_of_ble_eq_true rfl⟩ (Nat.le_of_ble_eq_true rfl) ⟨Nat.le_of_ble_eq_true rfl, Nat.le_of_ble_eq_true rfl⟩ (ch_mono (ch_Ki (fun r1 m2 h => ?_)) h)
  refine ch_if_eq (tgt := 15) d_m_wouldEnd_8 (by decide) (fun c => ?_) (fun c => ?_)
  · replace h := h.1 c
    refine ch_iconst (v := 1) d_m_wouldEnd_15 (by decide) ?_
    refine ch_put d_m_wouldEnd_16 fp_m_48 rfl rfl rfl ?_
    generalize hmm3 : ch_wr m2 (9, 0, 0) 19 1 = m3
    replace h := h m3 hmm3.symm
    refine ch_aload_n (i := 0) d_m_wouldEnd_19 rfl rfl ?_
    refine ch_get (v := .inl (.int (m3 (9, 0, 0) 19))) d_m_wouldEnd_20 fl_m_48 rfl ?_
    refine ch_if_ne (tgt := 34) d_m_wouldEnd_23 (by decide) (fun c => ?_) (fun c => ?_)
    · replace h := h.1 c
      refine ch_iconst (v := 0) d_m_wouldEnd_34 (by decide) ?_
      exact ch_iret (ty := .int) d_m_wouldEnd_35 rfl rfl (Nat.le_of_ble_eq_true rfl) h
    · replace h := h.2 c
      refine ch_aload_n (i := 0) d_m_wouldEnd_26 rfl rfl ?_
      refine ch_iload_n (i := 1) d_m_wouldEnd_27 rfl rfl ?_
      refine ch_callV (as := [.inl (.int p1)]) d_m_wouldEnd_28 lk_m_165 mi_m_endsBy me_m_endsBy rfl rfl rfl ⟨Nat.le_of_ble_eq_true rfl, Nat.le_of_ble_eq_true rfl⟩ (Nat.le_of_ble_eq_true rfl) ⟨Nat.le_of_ble_eq_true rfl, Nat.le_of_ble_eq_true rfl⟩ (ch_mono (ch_Ki (fun r4 m5 h => ?_)) h)
      refine ch_goto (tgt := 35) d_m_wouldEnd_31 (by decide) ?_
      exact ch_iret (ty := .int) d_m_wouldEnd_35 rfl rfl (Nat.le_of_ble_eq_true rfl) h
  · replace h := h.2 c
    refine ch_iconst (v := 0) d_m_wouldEnd_11 (by decide) ?_
    refine ch_goto (tgt := 16) d_m_wouldEnd_12 (by decide) ?_
    refine ch_put d_m_wouldEnd_16 fp_m_48 rfl rfl rfl ?_
    generalize hmm6 : ch_wr m2 (9, 0, 0) 19 0 = m6
    replace h := h m6 hmm6.symm
    refine ch_aload_n (i := 0) d_m_wouldEnd_19 rfl rfl ?_
    refine ch_get (v := .inl (.int (m6 (9, 0, 0) 19))) d_m_wouldEnd_20 fl_m_48 rfl ?_
    refine ch_if_ne (tgt := 34) d_m_wouldEnd_23 (by decide) (fun c => ?_) (fun c => ?_)
    · replace h := h.1 c
      refine ch_iconst (v := 0) d_m_wouldEnd_34 (by decide) ?_
      exact ch_iret (ty := .int) d_m_wouldEnd_35 rfl rfl (Nat.le_of_ble_eq_true rfl) h
    · replace h := h.2 c
      refine ch_aload_n (i := 0) d_m_wouldEnd_26 rfl rfl ?_
      refine ch_iload_n (i := 1) d_m_wouldEnd_27 rfl rfl ?_
      refine ch_callV (as := [.inl (.int p1)]) d_m_wouldEnd_28 lk_m_165 mi_m_endsBy me_m_endsBy rfl rfl rfl ⟨Nat.le_of_ble_eq_true rfl, Nat.le_of_ble_eq_true rfl⟩ (Nat.le_of_ble_eq_true rfl) ⟨Nat.le_of_ble_eq_true rfl, Nat.le_of_ble_eq_true rfl⟩ (ch_mono (ch_Ki (fun r7 m8 h => ?_)) h)
      refine ch_goto (tgt := 35) d_m_wouldEnd_31 (by decide) ?_
      exact ch_iret (ty := .int) d_m_wouldEnd_35 rfl rfl (Nat.le_of_ble_eq_true rfl) h
theorem e_m_rainFor (g : ch_G) (Q : ch_O → ch_M → Prop) (p1 : Int32) (m : ch_M) (h : ch_J g m_m_rainFor (ch_rm m_m_rainFor) (ch_E g m_m_rainFor Q) 0 [some (.inr (9, 0, 0)), some (.inl (.int p1))] [] m 0) : ch_C g m_m_rainFor [.inr (9, 0, 0), .inl (.int p1)] m Q :=
  ch_enter mf_m_rainFor (by intro v hv; simp only [List.mem_cons, List.not_mem_nil, or_false] at hv; rcases hv with rfl | rfl <;> rfl) (Nat.le_of_ble_eq_true rfl) h
set_option maxHeartbeats 1600000 in
theorem g_m_rainFor_0 (g : ch_G) (Q : ch_O → ch_M → Prop) (p1 : Int32) (m : ch_M) (h : (∀ m1 : ch_M, m1 = ch_wr m (9, 0, 0) 19 0 → (ch_C g m_m_isChild [.inr (9, 0, 0), .inl (.int p1)] m1 (ch_oi (fun (r2 : Int32) (m3 : ch_M) => ((¬ r2 = 0 → (ch_C g m_m_of [.inr (9, 0, 0), .inl (.int p1), .inl (.int 2)] m3 (ch_oi (fun (r4 : Int32) (m5 : ch_M) => ((¬ r4 = 0 → (ch_C g m_m_of [.inr (9, 0, 0), .inl (.int p1), .inl (.int 2)] m5 (ch_oi (fun (r6 : Int32) (m7 : ch_M) => Q (.inl (some (.inl (.int r6)))) m7)))) ∧ (r4 = 0 → (ch_C g m_m_raises [.inr (9, 0, 0), .inl (.int 2)] m5 (ch_oi (fun (r8 : Int32) (m9 : ch_M) => Q (.inl (some (.inl (.int r8)))) m9))))))))) ∧ (r2 = 0 → (ch_C g m_m_raises [.inr (9, 0, 0), .inl (.int 1)] m3 (ch_oi (fun (r10 : Int32) (m11 : ch_M) => Q (.inl (some (.inl (.int r10)))) m11)))))))))) : ch_J g m_m_rainFor (ch_rm m_m_rainFor) (ch_E g m_m_rainFor Q) 0 [some (.inr (9, 0, 0)), some (.inl (.int p1))] [] m 0 := by
  refine ch_aload_n (i := 0) d_m_rainFor_0 rfl rfl ?_
  refine ch_iconst (v := 0) d_m_rainFor_1 (by decide) ?_
  refine ch_put d_m_rainFor_2 fp_m_48 rfl rfl rfl ?_
  generalize hmm1 : ch_wr m (9, 0, 0) 19 0 = m1
  replace h := h m1 hmm1.symm
  refine ch_aload_n (i := 0) d_m_rainFor_5 rfl rfl ?_
  refine ch_iload_n (i := 1) d_m_rainFor_6 rfl rfl ?_
  refine ch_callV (as := [.inl (.int p1)]) d_m_rainFor_7 lk_m_77 mi_m_isChild me_m_isChild rfl rfl rfl ⟨Nat.le_of_ble_eq_true rfl, Nat.le_of_ble_eq_true rfl⟩ (Nat.le_of_ble_eq_true rfl) ⟨Nat.le_of_ble_eq_true rfl, Nat.le_of_ble_eq_true rfl⟩ (ch_mono (ch_Ki (fun r2 m3 h => ?_)) h)
  refine ch_if_ne (tgt := 19) d_m_rainFor_10 (by decide) (fun c => ?_) (fun c => ?_)
  · replace h := h.1 c
    refine ch_aload_n (i := 0) d_m_rainFor_19 rfl rfl ?_
    refine ch_iload_n (i := 1) d_m_rainFor_20 rfl rfl ?_
    refine ch_iconst (v := 2) d_m_rainFor_21 (by decide) ?_
    refine ch_callV (as := [.inl (.int p1), .inl (.int 2)]) d_m_rainFor_22 lk_m_85 mi_m_of me_m_of rfl rfl rfl ⟨Nat.le_of_ble_eq_true rfl, Nat.le_of_ble_eq_true rfl⟩ (Nat.le_of_ble_eq_true rfl) ⟨Nat.le_of_ble_eq_true rfl, Nat.le_of_ble_eq_true rfl⟩ (ch_mono (ch_Ki (fun r4 m5 h => ?_)) h)
    refine ch_if_ne (tgt := 36) d_m_rainFor_25 (by decide) (fun c => ?_) (fun c => ?_)
    · replace h := h.1 c
      refine ch_aload_n (i := 0) d_m_rainFor_36 rfl rfl ?_
      refine ch_iload_n (i := 1) d_m_rainFor_37 rfl rfl ?_
      refine ch_iconst (v := 2) d_m_rainFor_38 (by decide) ?_
      refine ch_callV (as := [.inl (.int p1), .inl (.int 2)]) d_m_rainFor_39 lk_m_85 mi_m_of me_m_of rfl rfl rfl ⟨Nat.le_of_ble_eq_true rfl, Nat.le_of_ble_eq_true rfl⟩ (Nat.le_of_ble_eq_true rfl) ⟨Nat.le_of_ble_eq_true rfl, Nat.le_of_ble_eq_true rfl⟩ (ch_mono (ch_Ki (fun r6 m7 h => ?_)) h)
      exact ch_iret (ty := .int) d_m_rainFor_42 rfl rfl (Nat.le_of_ble_eq_true rfl) h
    · replace h := h.2 c
      refine ch_aload_n (i := 0) d_m_rainFor_28 rfl rfl ?_
      refine ch_iconst (v := 2) d_m_rainFor_29 (by decide) ?_
      refine ch_callV (as := [.inl (.int 2)]) d_m_rainFor_30 lk_m_70 mi_m_raises me_m_raises rfl rfl rfl ⟨Nat.le_of_ble_eq_true rfl, Nat.le_of_ble_eq_true rfl⟩ (Nat.le_of_ble_eq_true rfl) ⟨Nat.le_of_ble_eq_true rfl, Nat.le_of_ble_eq_true rfl⟩ (ch_mono (ch_Ki (fun r8 m9 h => ?_)) h)
      refine ch_goto (tgt := 42) d_m_rainFor_33 (by decide) ?_
      exact ch_iret (ty := .int) d_m_rainFor_42 rfl rfl (Nat.le_of_ble_eq_true rfl) h
  · replace h := h.2 c
    refine ch_aload_n (i := 0) d_m_rainFor_13 rfl rfl ?_
    refine ch_iconst (v := 1) d_m_rainFor_14 (by decide) ?_
    refine ch_callV (as := [.inl (.int 1)]) d_m_rainFor_15 lk_m_70 mi_m_raises me_m_raises rfl rfl rfl ⟨Nat.le_of_ble_eq_true rfl, Nat.le_of_ble_eq_true rfl⟩ (Nat.le_of_ble_eq_true rfl) ⟨Nat.le_of_ble_eq_true rfl, Nat.le_of_ble_eq_true rfl⟩ (ch_mono (ch_Ki (fun r10 m11 h => ?_)) h)
    exact ch_iret (ty := .int) d_m_rainFor_18 rfl rfl (Nat.le_of_ble_eq_true rfl) h
theorem e_m_wouldLose (g : ch_G) (Q : ch_O → ch_M → Prop) (p1 : Int32) (m : ch_M) (h : ch_J g m_m_wouldLose (ch_rm m_m_wouldLose) (ch_E g m_m_wouldLose Q) 0 [some (.inr (9, 0, 0)), some (.inl (.int p1)), none, none, none] [] m 0) : ch_C g m_m_wouldLose [.inr (9, 0, 0), .inl (.int p1)] m Q :=
  ch_enter mf_m_wouldLose (by intro v hv; simp only [List.mem_cons, List.not_mem_nil, or_false] at hv; rcases hv with rfl | rfl <;> rfl) (Nat.le_of_ble_eq_true rfl) h
set_option maxHeartbeats 1600000 in
theorem g_m_wouldLose_0 (g : ch_G) (Q : ch_O → ch_M → Prop) (p1 : Int32) (m : ch_M) (h : (∀ m1 : ch_M, m1 = ch_wr m (9, 0, 0) 19 0 → (ch_C g m_m_isChild [.inr (9, 0, 0), .inl (.int p1)] m1 (ch_oi (fun (r2 : Int32) (m3 : ch_M) => ((¬ r2 = 0 → (ch_C g m_m_of [.inr (9, 0, 0), .inl (.int p1), .inl (.int 0)] m3 (ch_oi (fun (r4 : Int32) (m5 : ch_M) => ch_J g m_m_wouldLose (ch_rm m_m_wouldLose) (ch_E g m_m_wouldLose Q) 31 [some (.inr (9, 0, 0)), some (.inl (.int p1)), some (.inl (.int 0)), some (.inl (.int r4)), some (.inl (.int 0))] [] m5 0)))) ∧ (r2 = 0 → (ch_C g m_m_raises [.inr (9, 0, 0), .inl (.int 1)] m3 (ch_oi (fun (r6 : Int32) (m7 : ch_M) => Q (.inl (some (.inl (.int r6)))) m7)))))))))) : ch_J g m_m_wouldLose (ch_rm m_m_wouldLose) (ch_E g m_m_wouldLose Q) 0 [some (.inr (9, 0, 0)), some (.inl (.int p1)), none, none, none] [] m 0 := by
  refine ch_aload_n (i := 0) d_m_wouldLose_0 rfl rfl ?_
  refine ch_iconst (v := 0) d_m_wouldLose_1 (by decide) ?_
  refine ch_put d_m_wouldLose_2 fp_m_48 rfl rfl rfl ?_
  generalize hmm1 : ch_wr m (9, 0, 0) 19 0 = m1
  replace h := h m1 hmm1.symm
  refine ch_aload_n (i := 0) d_m_wouldLose_5 rfl rfl ?_
  refine ch_iload_n (i := 1) d_m_wouldLose_6 rfl rfl ?_
  refine ch_callV (as := [.inl (.int p1)]) d_m_wouldLose_7 lk_m_77 mi_m_isChild me_m_isChild rfl rfl rfl ⟨Nat.le_of_ble_eq_true rfl, Nat.le_of_ble_eq_true rfl⟩ (Nat.le_of_ble_eq_true rfl) ⟨Nat.le_of_ble_eq_true rfl, Nat.le_of_ble_eq_true rfl⟩ (ch_mono (ch_Ki (fun r2 m3 h => ?_)) h)
  refine ch_if_ne (tgt := 19) d_m_wouldLose_10 (by decide) (fun c => ?_) (fun c => ?_)
  · replace h := h.1 c
    refine ch_iconst (v := 0) d_m_wouldLose_19 (by decide) ?_
    refine ch_istore_n (i := 2) d_m_wouldLose_20 rfl (Nat.le_of_ble_eq_true rfl) (ls' := [some (.inr (9, 0, 0)), some (.inl (.int p1)), some (.inl (.int 0)), none, none]) rfl ?_
    refine ch_aload_n (i := 0) d_m_wouldLose_21 rfl rfl ?_
    refine ch_iload_n (i := 1) d_m_wouldLose_22 rfl rfl ?_
    refine ch_iconst (v := 0) d_m_wouldLose_23 (by decide) ?_
    refine ch_callV (as := [.inl (.int p1), .inl (.int 0)]) d_m_wouldLose_24 lk_m_85 mi_m_of me_m_of rfl rfl rfl ⟨Nat.le_of_ble_eq_true rfl, Nat.le_of_ble_eq_true rfl⟩ (Nat.le_of_ble_eq_true rfl) ⟨Nat.le_of_ble_eq_true rfl, Nat.le_of_ble_eq_true rfl⟩ (ch_mono (ch_Ki (fun r4 m5 h => ?_)) h)
    refine ch_istore_n (i := 3) d_m_wouldLose_27 rfl (Nat.le_of_ble_eq_true rfl) (ls' := [some (.inr (9, 0, 0)), some (.inl (.int p1)), some (.inl (.int 0)), some (.inl (.int r4)), none]) rfl ?_
    refine ch_iconst (v := 0) d_m_wouldLose_28 (by decide) ?_
    refine ch_istore (i := 4) d_m_wouldLose_29 (Nat.le_of_ble_eq_true rfl) (ls' := [some (.inr (9, 0, 0)), some (.inl (.int p1)), some (.inl (.int 0)), some (.inl (.int r4)), some (.inl (.int 0))]) rfl ?_
    exact h
  · replace h := h.2 c
    refine ch_aload_n (i := 0) d_m_wouldLose_13 rfl rfl ?_
    refine ch_iconst (v := 1) d_m_wouldLose_14 (by decide) ?_
    refine ch_callV (as := [.inl (.int 1)]) d_m_wouldLose_15 lk_m_70 mi_m_raises me_m_raises rfl rfl rfl ⟨Nat.le_of_ble_eq_true rfl, Nat.le_of_ble_eq_true rfl⟩ (Nat.le_of_ble_eq_true rfl) ⟨Nat.le_of_ble_eq_true rfl, Nat.le_of_ble_eq_true rfl⟩ (ch_mono (ch_Ki (fun r6 m7 h => ?_)) h)
    exact ch_iret (ty := .int) d_m_wouldLose_18 rfl rfl (Nat.le_of_ble_eq_true rfl) h
set_option maxHeartbeats 1600000 in
theorem g_m_wouldLose_31 (g : ch_G) (Q : ch_O → ch_M → Prop) (x1 : Int32) (x2 : Int32) (x3 : Int32) (x4 : Int32) (m : ch_M) (h : ((12 ≤ x4 → Q (.inl (some (.inl (.int x2)))) m) ∧ (¬ 12 ≤ x4 → (ch_C g m_m_owner [.inr (9, 0, 0), .inl (.int x4)] m (ch_oi (fun (r1 : Int32) (m2 : ch_M) => ((¬ r1 = x1 → ch_J g m_m_wouldLose (ch_rm m_m_wouldLose) (ch_E g m_m_wouldLose Q) 31 [some (.inr (9, 0, 0)), some (.inl (.int x1)), some (.inl (.int x2)), some (.inl (.int x3)), some (.inl (.int (x4 + 1)))] [] m2 0) ∧ (r1 = x1 → ((0 < x3 → ch_J g m_m_wouldLose (ch_rm m_m_wouldLose) (ch_E g m_m_wouldLose Q) 31 [some (.inr (9, 0, 0)), some (.inl (.int x1)), some (.inl (.int x2)), some (.inl (.int (x3 + (-1)))), some (.inl (.int (x4 + 1)))] [] m2 0) ∧ (¬ 0 < x3 → ch_J g m_m_wouldLose (ch_rm m_m_wouldLose) (ch_E g m_m_wouldLose Q) 31 [some (.inr (9, 0, 0)), some (.inl (.int x1)), some (.inl (.int (x2 ||| (1 <<< (x4 &&& 31))))), some (.inl (.int (x3 + (-1)))), some (.inl (.int (x4 + 1)))] [] m2 0)))))))))) : ch_J g m_m_wouldLose (ch_rm m_m_wouldLose) (ch_E g m_m_wouldLose Q) 31 [some (.inr (9, 0, 0)), some (.inl (.int x1)), some (.inl (.int x2)), some (.inl (.int x3)), some (.inl (.int x4))] [] m 0 := by
  refine ch_iload d_m_wouldLose_31 rfl ?_
  refine ch_bipush (v := 12) d_m_wouldLose_33 (by decide) ?_
  refine ch_icmp_ge (tgt := 68) d_m_wouldLose_35 (by decide) (fun c => ?_) (fun c => ?_)
  · replace h := h.1 c
    refine ch_iload_n (i := 2) d_m_wouldLose_68 rfl rfl ?_
    exact ch_iret (ty := .int) d_m_wouldLose_69 rfl rfl (Nat.le_of_ble_eq_true rfl) h
  · replace h := h.2 c
    refine ch_aload_n (i := 0) d_m_wouldLose_38 rfl rfl ?_
    refine ch_iload d_m_wouldLose_39 rfl ?_
    refine ch_callV (as := [.inl (.int x4)]) d_m_wouldLose_41 lk_m_109 mi_m_owner me_m_owner rfl rfl rfl ⟨Nat.le_of_ble_eq_true rfl, Nat.le_of_ble_eq_true rfl⟩ (Nat.le_of_ble_eq_true rfl) ⟨Nat.le_of_ble_eq_true rfl, Nat.le_of_ble_eq_true rfl⟩ (ch_mono (ch_Ki (fun r1 m2 h => ?_)) h)
    refine ch_iload_n (i := 1) d_m_wouldLose_44 rfl rfl ?_
    refine ch_icmp_ne (tgt := 62) d_m_wouldLose_45 (by decide) (fun c => ?_) (fun c => ?_)
    · replace h := h.1 c
      refine ch_iinc (i := 4) (v := (x4 + 1)) d_m_wouldLose_62 rfl rfl (Nat.le_of_ble_eq_true rfl) (ls' := [some (.inr (9, 0, 0)), some (.inl (.int x1)), some (.inl (.int x2)), some (.inl (.int x3)), some (.inl (.int (x4 + 1)))]) rfl ?_
      refine ch_goto (tgt := 31) d_m_wouldLose_65 (by decide) ?_
      exact h
    · replace h := h.2 c
      refine ch_iload_n (i := 3) d_m_wouldLose_48 rfl rfl ?_
      refine ch_iinc (i := 3) (v := (x3 + (-1))) d_m_wouldLose_49 rfl rfl (Nat.le_of_ble_eq_true rfl) (ls' := [some (.inr (9, 0, 0)), some (.inl (.int x1)), some (.inl (.int x2)), some (.inl (.int (x3 + (-1)))), some (.inl (.int x4))]) rfl ?_
      refine ch_if_gt (tgt := 62) d_m_wouldLose_52 (by decide) (fun c => ?_) (fun c => ?_)
      · replace h := h.1 c
        refine ch_iinc (i := 4) (v := (x4 + 1)) d_m_wouldLose_62 rfl rfl (Nat.le_of_ble_eq_true rfl) (ls' := [some (.inr (9, 0, 0)), some (.inl (.int x1)), some (.inl (.int x2)), some (.inl (.int (x3 + (-1)))), some (.inl (.int (x4 + 1)))]) rfl ?_
        refine ch_goto (tgt := 31) d_m_wouldLose_65 (by decide) ?_
        exact h
      · replace h := h.2 c
        refine ch_iload_n (i := 2) d_m_wouldLose_55 rfl rfl ?_
        refine ch_iconst (v := 1) d_m_wouldLose_56 (by decide) ?_
        refine ch_iload d_m_wouldLose_57 rfl ?_
        refine ch_ishl d_m_wouldLose_59 ?_
        refine ch_ior d_m_wouldLose_60 ?_
        refine ch_istore_n (i := 2) d_m_wouldLose_61 rfl (Nat.le_of_ble_eq_true rfl) (ls' := [some (.inr (9, 0, 0)), some (.inl (.int x1)), some (.inl (.int (x2 ||| (1 <<< (x4 &&& 31))))), some (.inl (.int (x3 + (-1)))), some (.inl (.int x4))]) rfl ?_
        refine ch_iinc (i := 4) (v := (x4 + 1)) d_m_wouldLose_62 rfl rfl (Nat.le_of_ble_eq_true rfl) (ls' := [some (.inr (9, 0, 0)), some (.inl (.int x1)), some (.inl (.int (x2 ||| (1 <<< (x4 &&& 31))))), some (.inl (.int (x3 + (-1)))), some (.inl (.int (x4 + 1)))]) rfl ?_
        refine ch_goto (tgt := 31) d_m_wouldLose_65 (by decide) ?_
        exact h
theorem e_m_termsFor (g : ch_G) (Q : ch_O → ch_M → Prop) (p1 : Int32) (m : ch_M) (h : ch_J g m_m_termsFor (ch_rm m_m_termsFor) (ch_E g m_m_termsFor Q) 0 [some (.inr (9, 0, 0)), some (.inl (.int p1)), none, none, none] [] m 0) : ch_C g m_m_termsFor [.inr (9, 0, 0), .inl (.int p1)] m Q :=
  ch_enter mf_m_termsFor (by intro v hv; simp only [List.mem_cons, List.not_mem_nil, or_false] at hv; rcases hv with rfl | rfl <;> rfl) (Nat.le_of_ble_eq_true rfl) h
set_option maxHeartbeats 1600000 in
theorem g_m_termsFor_0 (g : ch_G) (Q : ch_O → ch_M → Prop) (p1 : Int32) (m : ch_M) (h : (∀ m1 : ch_M, m1 = ch_wr m (9, 0, 0) 19 0 → (ch_C g m_m_isChild [.inr (9, 0, 0), .inl (.int p1)] m1 (ch_oi (fun (r2 : Int32) (m3 : ch_M) => ((¬ r2 = 0 → ch_J g m_m_termsFor (ch_rm m_m_termsFor) (ch_E g m_m_termsFor Q) 21 [some (.inr (9, 0, 0)), some (.inl (.int p1)), some (.inl (.int 0)), none, none] [] m3 0) ∧ (r2 = 0 → (ch_C g m_m_raises [.inr (9, 0, 0), .inl (.int 1)] m3 (ch_oi (fun (r4 : Int32) (m5 : ch_M) => Q (.inl (some (.inl (.int r4)))) m5)))))))))) : ch_J g m_m_termsFor (ch_rm m_m_termsFor) (ch_E g m_m_termsFor Q) 0 [some (.inr (9, 0, 0)), some (.inl (.int p1)), none, none, none] [] m 0 := by
  refine ch_aload_n (i := 0) d_m_termsFor_0 rfl rfl ?_
  refine ch_iconst (v := 0) d_m_termsFor_1 (by decide) ?_
  refine ch_put d_m_termsFor_2 fp_m_48 rfl rfl rfl ?_
  generalize hmm1 : ch_wr m (9, 0, 0) 19 0 = m1
  replace h := h m1 hmm1.symm
  refine ch_aload_n (i := 0) d_m_termsFor_5 rfl rfl ?_
  refine ch_iload_n (i := 1) d_m_termsFor_6 rfl rfl ?_
  refine ch_callV (as := [.inl (.int p1)]) d_m_termsFor_7 lk_m_77 mi_m_isChild me_m_isChild rfl rfl rfl ⟨Nat.le_of_ble_eq_true rfl, Nat.le_of_ble_eq_true rfl⟩ (Nat.le_of_ble_eq_true rfl) ⟨Nat.le_of_ble_eq_true rfl, Nat.le_of_ble_eq_true rfl⟩ (ch_mono (ch_Ki (fun r2 m3 h => ?_)) h)
  refine ch_if_ne (tgt := 19) d_m_termsFor_10 (by decide) (fun c => ?_) (fun c => ?_)
  · replace h := h.1 c
    refine ch_iconst (v := 0) d_m_termsFor_19 (by decide) ?_
    refine ch_istore_n (i := 2) d_m_termsFor_20 rfl (Nat.le_of_ble_eq_true rfl) (ls' := [some (.inr (9, 0, 0)), some (.inl (.int p1)), some (.inl (.int 0)), none, none]) rfl ?_
    exact h
  · replace h := h.2 c
    refine ch_aload_n (i := 0) d_m_termsFor_13 rfl rfl ?_
    refine ch_iconst (v := 1) d_m_termsFor_14 (by decide) ?_
    refine ch_callV (as := [.inl (.int 1)]) d_m_termsFor_15 lk_m_70 mi_m_raises me_m_raises rfl rfl rfl ⟨Nat.le_of_ble_eq_true rfl, Nat.le_of_ble_eq_true rfl⟩ (Nat.le_of_ble_eq_true rfl) ⟨Nat.le_of_ble_eq_true rfl, Nat.le_of_ble_eq_true rfl⟩ (ch_mono (ch_Ki (fun r4 m5 h => ?_)) h)
    exact ch_iret (ty := .int) d_m_termsFor_18 rfl rfl (Nat.le_of_ble_eq_true rfl) h
set_option maxHeartbeats 1600000 in
theorem g_m_termsFor_21 (g : ch_G) (Q : ch_O → ch_M → Prop) (x1 : Int32) (x2 : Int32) (o3 : Option ch_V) (o4 : Option ch_V) (m : ch_M) (h : ((63 ≤ x2 → ch_J g m_m_termsFor (ch_rm m_m_termsFor) (ch_E g m_m_termsFor Q) 49 [some (.inr (9, 0, 0)), some (.inl (.int x1)), some (.inl (.int 0)), some (.inl (.int 1)), o4] [] m 0) ∧ (¬ 63 ≤ x2 → (vp_in x2 63) ∧ (∀ m2 : ch_M, m2 = ch_wr m (9, 0, 3) (Int32.toNatClampNeg x2) (m (9, 0, 1) (Int32.toNatClampNeg x2)) → ch_J g m_m_termsFor (ch_rm m_m_termsFor) (ch_E g m_m_termsFor Q) 21 [some (.inr (9, 0, 0)), some (.inl (.int x1)), some (.inl (.int (x2 + 1))), o3, o4] [] m2 0)))) : ch_J g m_m_termsFor (ch_rm m_m_termsFor) (ch_E g m_m_termsFor Q) 21 [some (.inr (9, 0, 0)), some (.inl (.int x1)), some (.inl (.int x2)), o3, o4] [] m 0 := by
  refine ch_iload_n (i := 2) d_m_termsFor_21 rfl rfl ?_
  refine ch_bipush (v := 63) d_m_termsFor_22 (by decide) ?_
  refine ch_icmp_ge (tgt := 45) d_m_termsFor_24 (by decide) (fun c => ?_) (fun c => ?_)
  · replace h := h.1 c
    refine ch_iconst (v := 0) d_m_termsFor_45 (by decide) ?_
    refine ch_istore_n (i := 2) d_m_termsFor_46 rfl (Nat.le_of_ble_eq_true rfl) (ls' := [some (.inr (9, 0, 0)), some (.inl (.int x1)), some (.inl (.int 0)), o3, o4]) rfl ?_
    refine ch_iconst (v := 1) d_m_termsFor_47 (by decide) ?_
    refine ch_istore_n (i := 3) d_m_termsFor_48 rfl (Nat.le_of_ble_eq_true rfl) (ls' := [some (.inr (9, 0, 0)), some (.inl (.int x1)), some (.inl (.int 0)), some (.inl (.int 1)), o4]) rfl ?_
    exact h
  · replace h := h.2 c
    refine ch_aload_n (i := 0) d_m_termsFor_27 rfl rfl ?_
    refine ch_get (v := .inr (9, 0, 3)) d_m_termsFor_28 fl_m_16 rfl ?_
    refine ch_iload_n (i := 2) d_m_termsFor_31 rfl rfl ?_
    refine ch_aload_n (i := 0) d_m_termsFor_32 rfl rfl ?_
    refine ch_get (v := .inr (9, 0, 1)) d_m_termsFor_33 fl_m_9 rfl ?_
    refine ch_iload_n (i := 2) d_m_termsFor_36 rfl rfl ?_
    have b1 := h.1
    replace h := h.2
    refine ch_iald (n := 63) d_m_termsFor_37 (by decide) rfl b1 ?_
    refine ch_iast (n := 63) d_m_termsFor_38 (by decide) rfl b1 ?_
    show ch_J g _ _ _ _ _ _ (ch_wr m (9, 0, 3) (Int32.toNatClampNeg x2) (m (9, 0, 1) (Int32.toNatClampNeg x2))) _
    generalize hmm2 : ch_wr m (9, 0, 3) (Int32.toNatClampNeg x2) (m (9, 0, 1) (Int32.toNatClampNeg x2)) = m2
    replace h := h m2 hmm2.symm
    refine ch_iinc (i := 2) (v := (x2 + 1)) d_m_termsFor_39 rfl rfl (Nat.le_of_ble_eq_true rfl) (ls' := [some (.inr (9, 0, 0)), some (.inl (.int x1)), some (.inl (.int (x2 + 1))), o3, o4]) rfl ?_
    refine ch_goto (tgt := 21) d_m_termsFor_42 (by decide) ?_
    exact h
set_option maxHeartbeats 1600000 in
theorem g_m_termsFor_49 (g : ch_G) (Q : ch_O → ch_M → Prop) (x1 : Int32) (x2 : Int32) (x3 : Int32) (o4 : Option ch_V) (m : ch_M) (h : ((41 ≤ x3 → ch_J g m_m_termsFor (ch_rm m_m_termsFor) (ch_E g m_m_termsFor Q) 86 [some (.inr (9, 0, 0)), some (.inl (.int x1)), some (.inl (.int x2)), some (.inl (.int 0)), o4] [] m 0) ∧ (¬ 41 ≤ x3 → ((¬ x2 = 0 → ch_J g m_m_termsFor (ch_rm m_m_termsFor) (ch_E g m_m_termsFor Q) 86 [some (.inr (9, 0, 0)), some (.inl (.int x1)), some (.inl (.int x2)), some (.inl (.int 0)), o4] [] m 0) ∧ (x2 = 0 → (ch_C g m_m_ownSet [.inr (9, 0, 0), .inl (.int x1)] m (ch_oi (fun (r1 : Int32) (m2 : ch_M) => (ch_C g m_m_goesBy [.inr (9, 0, 0)] m2 (ch_oi (fun (r3 : Int32) (m4 : ch_M) => (((r3 &&& r1) = 0 → ch_J g m_m_termsFor (ch_rm m_m_termsFor) (ch_E g m_m_termsFor Q) 49 [some (.inr (9, 0, 0)), some (.inl (.int x1)), some (.inl (.int x2)), some (.inl (.int (x3 + 1))), some (.inl (.int r1))] [] m4 0) ∧ (¬ (r3 &&& r1) = 0 → ch_J g m_m_termsFor (ch_rm m_m_termsFor) (ch_E g m_m_termsFor Q) 49 [some (.inr (9, 0, 0)), some (.inl (.int x1)), some (.inl (.int x3)), some (.inl (.int (x3 + 1))), some (.inl (.int r1))] [] m4 0))))))))))))) : ch_J g m_m_termsFor (ch_rm m_m_termsFor) (ch_E g m_m_termsFor Q) 49 [some (.inr (9, 0, 0)), some (.inl (.int x1)), some (.inl (.int x2)), some (.inl (.int x3)), o4] [] m 0 := by
  refine ch_iload_n (i := 3) d_m_termsFor_49 rfl rfl ?_
  refine ch_bipush (v := 41) d_m_termsFor_50 (by decide) ?_
  refine ch_icmp_ge (tgt := 84) d_m_termsFor_52 (by decide) (fun c => ?_) (fun c => ?_)
  · replace h := h.1 c
    refine ch_iconst (v := 0) d_m_termsFor_84 (by decide) ?_
    refine ch_istore_n (i := 3) d_m_termsFor_85 rfl (Nat.le_of_ble_eq_true rfl) (ls' := [some (.inr (9, 0, 0)), some (.inl (.int x1)), some (.inl (.int x2)), some (.inl (.int 0)), o4]) rfl ?_
    exact h
  · replace h := h.2 c
    refine ch_iload_n (i := 2) d_m_termsFor_55 rfl rfl ?_
    refine ch_if_ne (tgt := 84) d_m_termsFor_56 (by decide) (fun c => ?_) (fun c => ?_)
    · replace h := h.1 c
      refine ch_iconst (v := 0) d_m_termsFor_84 (by decide) ?_
      refine ch_istore_n (i := 3) d_m_termsFor_85 rfl (Nat.le_of_ble_eq_true rfl) (ls' := [some (.inr (9, 0, 0)), some (.inl (.int x1)), some (.inl (.int x2)), some (.inl (.int 0)), o4]) rfl ?_
      exact h
    · replace h := h.2 c
      refine ch_aload_n (i := 0) d_m_termsFor_59 rfl rfl ?_
      refine ch_iload_n (i := 1) d_m_termsFor_60 rfl rfl ?_
      refine ch_callV (as := [.inl (.int x1)]) d_m_termsFor_61 lk_m_182 mi_m_ownSet me_m_ownSet rfl rfl rfl ⟨Nat.le_of_ble_eq_true rfl, Nat.le_of_ble_eq_true rfl⟩ (Nat.le_of_ble_eq_true rfl) ⟨Nat.le_of_ble_eq_true rfl, Nat.le_of_ble_eq_true rfl⟩ (ch_mono (ch_Ki (fun r1 m2 h => ?_)) h)
      refine ch_istore (i := 4) d_m_termsFor_64 (Nat.le_of_ble_eq_true rfl) (ls' := [some (.inr (9, 0, 0)), some (.inl (.int x1)), some (.inl (.int x2)), some (.inl (.int x3)), some (.inl (.int r1))]) rfl ?_
      refine ch_aload_n (i := 0) d_m_termsFor_66 rfl rfl ?_
      refine ch_callV (as := []) d_m_termsFor_67 lk_m_176 mi_m_goesBy me_m_goesBy rfl rfl rfl ⟨Nat.le_of_ble_eq_true rfl, Nat.le_of_ble_eq_true rfl⟩ (Nat.le_of_ble_eq_true rfl) ⟨Nat.le_of_ble_eq_true rfl, Nat.le_of_ble_eq_true rfl⟩ (ch_mono (ch_Ki (fun r3 m4 h => ?_)) h)
      refine ch_iload d_m_termsFor_70 rfl ?_
      refine ch_iand d_m_termsFor_72 ?_
      refine ch_if_eq (tgt := 78) d_m_termsFor_73 (by decide) (fun c => ?_) (fun c => ?_)
      · replace h := h.1 c
        refine ch_iinc (i := 3) (v := (x3 + 1)) d_m_termsFor_78 rfl rfl (Nat.le_of_ble_eq_true rfl) (ls' := [some (.inr (9, 0, 0)), some (.inl (.int x1)), some (.inl (.int x2)), some (.inl (.int (x3 + 1))), some (.inl (.int r1))]) rfl ?_
        refine ch_goto (tgt := 49) d_m_termsFor_81 (by decide) ?_
        exact h
      · replace h := h.2 c
        refine ch_iload_n (i := 3) d_m_termsFor_76 rfl rfl ?_
        refine ch_istore_n (i := 2) d_m_termsFor_77 rfl (Nat.le_of_ble_eq_true rfl) (ls' := [some (.inr (9, 0, 0)), some (.inl (.int x1)), some (.inl (.int x3)), some (.inl (.int x3)), some (.inl (.int r1))]) rfl ?_
        refine ch_iinc (i := 3) (v := (x3 + 1)) d_m_termsFor_78 rfl rfl (Nat.le_of_ble_eq_true rfl) (ls' := [some (.inr (9, 0, 0)), some (.inl (.int x1)), some (.inl (.int x3)), some (.inl (.int (x3 + 1))), some (.inl (.int r1))]) rfl ?_
        refine ch_goto (tgt := 49) d_m_termsFor_81 (by decide) ?_
        exact h
set_option maxHeartbeats 1600000 in
theorem g_m_termsFor_86 (g : ch_G) (Q : ch_O → ch_M → Prop) (x1 : Int32) (x2 : Int32) (x3 : Int32) (o4 : Option ch_V) (m : ch_M) (h : ((63 ≤ x3 → ((¬ x2 = 0 → Q (.inl (some (.inl (.int x2)))) m) ∧ (x2 = 0 → (ch_C g m_m_raises [.inr (9, 0, 0), .inl (.int 2)] m (ch_oi (fun (r1 : Int32) (m2 : ch_M) => Q (.inl (some (.inl (.int r1)))) m2)))))) ∧ (¬ 63 ≤ x3 → (vp_in x3 63) ∧ (∀ m4 : ch_M, m4 = ch_wr m (9, 0, 1) (Int32.toNatClampNeg x3) (m (9, 0, 3) (Int32.toNatClampNeg x3)) → ch_J g m_m_termsFor (ch_rm m_m_termsFor) (ch_E g m_m_termsFor Q) 86 [some (.inr (9, 0, 0)), some (.inl (.int x1)), some (.inl (.int x2)), some (.inl (.int (x3 + 1))), o4] [] m4 0)))) : ch_J g m_m_termsFor (ch_rm m_m_termsFor) (ch_E g m_m_termsFor Q) 86 [some (.inr (9, 0, 0)), some (.inl (.int x1)), some (.inl (.int x2)), some (.inl (.int x3)), o4] [] m 0 := by
  refine ch_iload_n (i := 3) d_m_termsFor_86 rfl rfl ?_
  refine ch_bipush (v := 63) d_m_termsFor_87 (by decide) ?_
  refine ch_icmp_ge (tgt := 110) d_m_termsFor_89 (by decide) (fun c => ?_) (fun c => ?_)
  · replace h := h.1 c
    refine ch_iload_n (i := 2) d_m_termsFor_110 rfl rfl ?_
    refine ch_if_ne (tgt := 122) d_m_termsFor_111 (by decide) (fun c => ?_) (fun c => ?_)
    · replace h := h.1 c
      refine ch_iload_n (i := 2) d_m_termsFor_122 rfl rfl ?_
      exact ch_iret (ty := .int) d_m_termsFor_123 rfl rfl (Nat.le_of_ble_eq_true rfl) h
    · replace h := h.2 c
      refine ch_aload_n (i := 0) d_m_termsFor_114 rfl rfl ?_
      refine ch_iconst (v := 2) d_m_termsFor_115 (by decide) ?_
      refine ch_callV (as := [.inl (.int 2)]) d_m_termsFor_116 lk_m_70 mi_m_raises me_m_raises rfl rfl rfl ⟨Nat.le_of_ble_eq_true rfl, Nat.le_of_ble_eq_true rfl⟩ (Nat.le_of_ble_eq_true rfl) ⟨Nat.le_of_ble_eq_true rfl, Nat.le_of_ble_eq_true rfl⟩ (ch_mono (ch_Ki (fun r1 m2 h => ?_)) h)
      refine ch_goto (tgt := 123) d_m_termsFor_119 (by decide) ?_
      exact ch_iret (ty := .int) d_m_termsFor_123 rfl rfl (Nat.le_of_ble_eq_true rfl) h
  · replace h := h.2 c
    refine ch_aload_n (i := 0) d_m_termsFor_92 rfl rfl ?_
    refine ch_get (v := .inr (9, 0, 1)) d_m_termsFor_93 fl_m_9 rfl ?_
    refine ch_iload_n (i := 3) d_m_termsFor_96 rfl rfl ?_
    refine ch_aload_n (i := 0) d_m_termsFor_97 rfl rfl ?_
    refine ch_get (v := .inr (9, 0, 3)) d_m_termsFor_98 fl_m_16 rfl ?_
    refine ch_iload_n (i := 3) d_m_termsFor_101 rfl rfl ?_
    have b3 := h.1
    replace h := h.2
    refine ch_iald (n := 63) d_m_termsFor_102 (by decide) rfl b3 ?_
    refine ch_iast (n := 63) d_m_termsFor_103 (by decide) rfl b3 ?_
    show ch_J g _ _ _ _ _ _ (ch_wr m (9, 0, 1) (Int32.toNatClampNeg x3) (m (9, 0, 3) (Int32.toNatClampNeg x3))) _
    generalize hmm4 : ch_wr m (9, 0, 1) (Int32.toNatClampNeg x3) (m (9, 0, 3) (Int32.toNatClampNeg x3)) = m4
    replace h := h m4 hmm4.symm
    refine ch_iinc (i := 3) (v := (x3 + 1)) d_m_termsFor_104 rfl rfl (Nat.le_of_ble_eq_true rfl) (ls' := [some (.inr (9, 0, 0)), some (.inl (.int x1)), some (.inl (.int x2)), some (.inl (.int (x3 + 1))), o4]) rfl ?_
    refine ch_goto (tgt := 86) d_m_termsFor_107 (by decide) ?_
    exact h
theorem e_m_measure (g : ch_G) (Q : ch_O → ch_M → Prop) (p1 : Int32) (p2 : Int32) (m : ch_M) (h : ch_J g m_m_measure (ch_rm m_m_measure) (ch_E g m_m_measure Q) 0 [some (.inr (9, 0, 0)), some (.inl (.int p1)), some (.inl (.int p2))] [] m 0) : ch_C g m_m_measure [.inr (9, 0, 0), .inl (.int p1), .inl (.int p2)] m Q :=
  ch_enter mf_m_measure (by intro v hv; simp only [List.mem_cons, List.not_mem_nil, or_false] at hv; rcases hv with rfl | rfl | rfl <;> rfl) (Nat.le_of_ble_eq_true rfl) h
set_option maxHeartbeats 1600000 in
theorem g_m_measure_0 (g : ch_G) (Q : ch_O → ch_M → Prop) (p1 : Int32) (p2 : Int32) (m : ch_M) (h : ((¬ p2 = 0 → ((¬ p2 = 1 → (ch_C g m_m_of [.inr (9, 0, 0), .inl (.int p1), .inl (.int (p2 - 1))] m (ch_oi (fun (r1 : Int32) (m2 : ch_M) => Q (.inl (some (.inl (.int r1)))) m2)))) ∧ (p2 = 1 → (ch_C g m_m_ownSet [.inr (9, 0, 0), .inl (.int p1)] m (ch_oi (fun (r3 : Int32) (m4 : ch_M) => (ch_C g m_i_bitCount [.inl (.int r3)] m4 (ch_oi (fun (r5 : Int32) (m6 : ch_M) => Q (.inl (some (.inl (.int r5)))) m6))))))))) ∧ (p2 = 0 → (ch_C g m_m_of [.inr (9, 0, 0), .inl (.int p1), .inl (.int 0)] m (ch_oi (fun (r7 : Int32) (m8 : ch_M) => Q (.inl (some (.inl (.int r7)))) m8)))))) : ch_J g m_m_measure (ch_rm m_m_measure) (ch_E g m_m_measure Q) 0 [some (.inr (9, 0, 0)), some (.inl (.int p1)), some (.inl (.int p2))] [] m 0 := by
  refine ch_iload_n (i := 2) d_m_measure_0 rfl rfl ?_
  refine ch_if_ne (tgt := 13) d_m_measure_1 (by decide) (fun c => ?_) (fun c => ?_)
  · replace h := h.1 c
    refine ch_iload_n (i := 2) d_m_measure_13 rfl rfl ?_
    refine ch_iconst (v := 1) d_m_measure_14 (by decide) ?_
    refine ch_icmp_ne (tgt := 29) d_m_measure_15 (by decide) (fun c => ?_) (fun c => ?_)
    · replace h := h.1 c
      refine ch_aload_n (i := 0) d_m_measure_29 rfl rfl ?_
      refine ch_iload_n (i := 1) d_m_measure_30 rfl rfl ?_
      refine ch_iload_n (i := 2) d_m_measure_31 rfl rfl ?_
      refine ch_iconst (v := 1) d_m_measure_32 (by decide) ?_
      refine ch_isub d_m_measure_33 ?_
      refine ch_callV (as := [.inl (.int p1), .inl (.int (p2 - 1))]) d_m_measure_34 lk_m_85 mi_m_of me_m_of rfl rfl rfl ⟨Nat.le_of_ble_eq_true rfl, Nat.le_of_ble_eq_true rfl⟩ (Nat.le_of_ble_eq_true rfl) ⟨Nat.le_of_ble_eq_true rfl, Nat.le_of_ble_eq_true rfl⟩ (ch_mono (ch_Ki (fun r1 m2 h => ?_)) h)
      exact ch_iret (ty := .int) d_m_measure_37 rfl rfl (Nat.le_of_ble_eq_true rfl) h
    · replace h := h.2 c
      refine ch_aload_n (i := 0) d_m_measure_18 rfl rfl ?_
      refine ch_iload_n (i := 1) d_m_measure_19 rfl rfl ?_
      refine ch_callV (as := [.inl (.int p1)]) d_m_measure_20 lk_m_182 mi_m_ownSet me_m_ownSet rfl rfl rfl ⟨Nat.le_of_ble_eq_true rfl, Nat.le_of_ble_eq_true rfl⟩ (Nat.le_of_ble_eq_true rfl) ⟨Nat.le_of_ble_eq_true rfl, Nat.le_of_ble_eq_true rfl⟩ (ch_mono (ch_Ki (fun r3 m4 h => ?_)) h)
      refine ch_callS (as := [.inl (.int r3)]) d_m_measure_23 lk_m_171 ms_i_bitCount rfl rfl ⟨Nat.le_of_ble_eq_true rfl, Nat.le_of_ble_eq_true rfl⟩ (Nat.le_of_ble_eq_true rfl) ⟨Nat.le_of_ble_eq_true rfl, Nat.le_of_ble_eq_true rfl⟩ (ch_mono (ch_Ki (fun r5 m6 h => ?_)) h)
      refine ch_goto (tgt := 37) d_m_measure_26 (by decide) ?_
      exact ch_iret (ty := .int) d_m_measure_37 rfl rfl (Nat.le_of_ble_eq_true rfl) h
  · replace h := h.2 c
    refine ch_aload_n (i := 0) d_m_measure_4 rfl rfl ?_
    refine ch_iload_n (i := 1) d_m_measure_5 rfl rfl ?_
    refine ch_iconst (v := 0) d_m_measure_6 (by decide) ?_
    refine ch_callV (as := [.inl (.int p1), .inl (.int 0)]) d_m_measure_7 lk_m_85 mi_m_of me_m_of rfl rfl rfl ⟨Nat.le_of_ble_eq_true rfl, Nat.le_of_ble_eq_true rfl⟩ (Nat.le_of_ble_eq_true rfl) ⟨Nat.le_of_ble_eq_true rfl, Nat.le_of_ble_eq_true rfl⟩ (ch_mono (ch_Ki (fun r7 m8 h => ?_)) h)
    refine ch_goto (tgt := 37) d_m_measure_10 (by decide) ?_
    exact ch_iret (ty := .int) d_m_measure_37 rfl rfl (Nat.le_of_ble_eq_true rfl) h
theorem e_m_ranked (g : ch_G) (Q : ch_O → ch_M → Prop) (p1 : Int32) (p2 : Int32) (m : ch_M) (h : ch_J g m_m_ranked (ch_rm m_m_ranked) (ch_E g m_m_ranked Q) 0 [some (.inr (9, 0, 0)), some (.inl (.int p1)), some (.inl (.int p2)), none, none, none, none] [] m 0) : ch_C g m_m_ranked [.inr (9, 0, 0), .inl (.int p1), .inl (.int p2)] m Q :=
  ch_enter mf_m_ranked (by intro v hv; simp only [List.mem_cons, List.not_mem_nil, or_false] at hv; rcases hv with rfl | rfl | rfl <;> rfl) (Nat.le_of_ble_eq_true rfl) h
set_option maxHeartbeats 1600000 in
theorem g_m_ranked_0 (g : ch_G) (Q : ch_O → ch_M → Prop) (p1 : Int32) (p2 : Int32) (m : ch_M) (h : (∀ m1 : ch_M, m1 = ch_wr m (9, 0, 0) 19 0 → (ch_C g m_m_in [.inl (.int p1), .inl (.int 0), .inl (.int 3)] m1 (ch_oi (fun (r2 : Int32) (m3 : ch_M) => ((¬ r2 = 0 → ch_J g m_m_ranked (ch_rm m_m_ranked) (ch_E g m_m_ranked Q) 22 [some (.inr (9, 0, 0)), some (.inl (.int p1)), some (.inl (.int p2)), some (.inl (.int 0)), none, none, none] [] m3 0) ∧ (r2 = 0 → (ch_C g m_m_raises [.inr (9, 0, 0), .inl (.int 1)] m3 (ch_oi (fun (r4 : Int32) (m5 : ch_M) => Q (.inl (some (.inl (.int r4)))) m5)))))))))) : ch_J g m_m_ranked (ch_rm m_m_ranked) (ch_E g m_m_ranked Q) 0 [some (.inr (9, 0, 0)), some (.inl (.int p1)), some (.inl (.int p2)), none, none, none, none] [] m 0 := by
  refine ch_aload_n (i := 0) d_m_ranked_0 rfl rfl ?_
  refine ch_iconst (v := 0) d_m_ranked_1 (by decide) ?_
  refine ch_put d_m_ranked_2 fp_m_48 rfl rfl rfl ?_
  generalize hmm1 : ch_wr m (9, 0, 0) 19 0 = m1
  replace h := h m1 hmm1.symm
  refine ch_iload_n (i := 1) d_m_ranked_5 rfl rfl ?_
  refine ch_iconst (v := 0) d_m_ranked_6 (by decide) ?_
  refine ch_iconst (v := 3) d_m_ranked_7 (by decide) ?_
  refine ch_callS (as := [.inl (.int p1), .inl (.int 0), .inl (.int 3)]) d_m_ranked_8 lk_m_73 ms_m_in rfl rfl ⟨Nat.le_of_ble_eq_true rfl, Nat.le_of_ble_eq_true rfl⟩ (Nat.le_of_ble_eq_true rfl) ⟨Nat.le_of_ble_eq_true rfl, Nat.le_of_ble_eq_true rfl⟩ (ch_mono (ch_Ki (fun r2 m3 h => ?_)) h)
  refine ch_if_ne (tgt := 20) d_m_ranked_11 (by decide) (fun c => ?_) (fun c => ?_)
  · replace h := h.1 c
    refine ch_iconst (v := 0) d_m_ranked_20 (by decide) ?_
    refine ch_istore_n (i := 3) d_m_ranked_21 rfl (Nat.le_of_ble_eq_true rfl) (ls' := [some (.inr (9, 0, 0)), some (.inl (.int p1)), some (.inl (.int p2)), some (.inl (.int 0)), none, none, none]) rfl ?_
    exact h
  · replace h := h.2 c
    refine ch_aload_n (i := 0) d_m_ranked_14 rfl rfl ?_
    refine ch_iconst (v := 1) d_m_ranked_15 (by decide) ?_
    refine ch_callV (as := [.inl (.int 1)]) d_m_ranked_16 lk_m_70 mi_m_raises me_m_raises rfl rfl rfl ⟨Nat.le_of_ble_eq_true rfl, Nat.le_of_ble_eq_true rfl⟩ (Nat.le_of_ble_eq_true rfl) ⟨Nat.le_of_ble_eq_true rfl, Nat.le_of_ble_eq_true rfl⟩ (ch_mono (ch_Ki (fun r4 m5 h => ?_)) h)
    exact ch_iret (ty := .int) d_m_ranked_19 rfl rfl (Nat.le_of_ble_eq_true rfl) h
set_option maxHeartbeats 1600000 in
theorem g_m_ranked_22 (g : ch_G) (Q : ch_O → ch_M → Prop) (x1 : Int32) (x2 : Int32) (x3 : Int32) (o4 : Option ch_V) (o5 : Option ch_V) (o6 : Option ch_V) (m : ch_M) (h : (((m (9, 0, 1) (0)) ≤ x3 → (ch_C g m_m_raises [.inr (9, 0, 0), .inl (.int 2)] m (ch_oi (fun (r1 : Int32) (m2 : ch_M) => Q (.inl (some (.inl (.int r1)))) m2)))) ∧ (¬ (m (9, 0, 1) (0)) ≤ x3 → ch_J g m_m_ranked (ch_rm m_m_ranked) (ch_E g m_m_ranked Q) 38 [some (.inr (9, 0, 0)), some (.inl (.int x1)), some (.inl (.int x2)), some (.inl (.int x3)), some (.inl (.int 0)), some (.inl (.int 0)), o6] [] m 0))) : ch_J g m_m_ranked (ch_rm m_m_ranked) (ch_E g m_m_ranked Q) 22 [some (.inr (9, 0, 0)), some (.inl (.int x1)), some (.inl (.int x2)), some (.inl (.int x3)), o4, o5, o6] [] m 0 := by
  refine ch_iload_n (i := 3) d_m_ranked_22 rfl rfl ?_
  refine ch_aload_n (i := 0) d_m_ranked_23 rfl rfl ?_
  refine ch_get (v := .inr (9, 0, 1)) d_m_ranked_24 fl_m_9 rfl ?_
  refine ch_iconst (v := 0) d_m_ranked_27 (by decide) ?_
  refine ch_iald (n := 63) d_m_ranked_28 (by decide) rfl (vp_in_nI (n := 0) (by decide) (by decide)) ?_
  refine ch_icmp_ge (tgt := 104) d_m_ranked_29 (by decide) (fun c => ?_) (fun c => ?_)
  · replace h := h.1 c
    refine ch_aload_n (i := 0) d_m_ranked_104 rfl rfl ?_
    refine ch_iconst (v := 2) d_m_ranked_105 (by decide) ?_
    refine ch_callV (as := [.inl (.int 2)]) d_m_ranked_106 lk_m_70 mi_m_raises me_m_raises rfl rfl rfl ⟨Nat.le_of_ble_eq_true rfl, Nat.le_of_ble_eq_true rfl⟩ (Nat.le_of_ble_eq_true rfl) ⟨Nat.le_of_ble_eq_true rfl, Nat.le_of_ble_eq_true rfl⟩ (ch_mono (ch_Ki (fun r1 m2 h => ?_)) h)
    exact ch_iret (ty := .int) d_m_ranked_109 rfl rfl (Nat.le_of_ble_eq_true rfl) h
  · replace h := h.2 c
    refine ch_iconst (v := 0) d_m_ranked_32 (by decide) ?_
    refine ch_istore (i := 4) d_m_ranked_33 (Nat.le_of_ble_eq_true rfl) (ls' := [some (.inr (9, 0, 0)), some (.inl (.int x1)), some (.inl (.int x2)), some (.inl (.int x3)), some (.inl (.int 0)), o5, o6]) rfl ?_
    refine ch_iconst (v := 0) d_m_ranked_35 (by decide) ?_
    refine ch_istore (i := 5) d_m_ranked_36 (Nat.le_of_ble_eq_true rfl) (ls' := [some (.inr (9, 0, 0)), some (.inl (.int x1)), some (.inl (.int x2)), some (.inl (.int x3)), some (.inl (.int 0)), some (.inl (.int 0)), o6]) rfl ?_
    exact h
set_option maxHeartbeats 1600000 in
theorem g_m_ranked_38 (g : ch_G) (Q : ch_O → ch_M → Prop) (x1 : Int32) (x2 : Int32) (x3 : Int32) (x4 : Int32) (x5 : Int32) (o6 : Option ch_V) (m : ch_M) (h : (((m (9, 0, 1) (0)) ≤ x5 → ((¬ x4 = x2 → ch_J g m_m_ranked (ch_rm m_m_ranked) (ch_E g m_m_ranked Q) 22 [some (.inr (9, 0, 0)), some (.inl (.int x1)), some (.inl (.int x2)), some (.inl (.int (x3 + 1))), some (.inl (.int x4)), some (.inl (.int x5)), o6] [] m 0) ∧ (x4 = x2 → Q (.inl (some (.inl (.int x3)))) m))) ∧ (¬ (m (9, 0, 1) (0)) ≤ x5 → (ch_C g m_m_measure [.inr (9, 0, 0), .inl (.int x5), .inl (.int x1)] m (ch_oi (fun (r1 : Int32) (m2 : ch_M) => (ch_C g m_m_measure [.inr (9, 0, 0), .inl (.int x3), .inl (.int x1)] m2 (ch_oi (fun (r3 : Int32) (m4 : ch_M) => ((0 < (r1 - r3) → ch_J g m_m_ranked (ch_rm m_m_ranked) (ch_E g m_m_ranked Q) 38 [some (.inr (9, 0, 0)), some (.inl (.int x1)), some (.inl (.int x2)), some (.inl (.int x3)), some (.inl (.int (x4 + 1))), some (.inl (.int (x5 + 1))), some (.inl (.int (r1 - r3)))] [] m4 0) ∧ (¬ 0 < (r1 - r3) → ((¬ (r1 - r3) = 0 → ch_J g m_m_ranked (ch_rm m_m_ranked) (ch_E g m_m_ranked Q) 38 [some (.inr (9, 0, 0)), some (.inl (.int x1)), some (.inl (.int x2)), some (.inl (.int x3)), some (.inl (.int x4)), some (.inl (.int (x5 + 1))), some (.inl (.int (r1 - r3)))] [] m4 0) ∧ ((r1 - r3) = 0 → ((x3 ≤ x5 → ch_J g m_m_ranked (ch_rm m_m_ranked) (ch_E g m_m_ranked Q) 38 [some (.inr (9, 0, 0)), some (.inl (.int x1)), some (.inl (.int x2)), some (.inl (.int x3)), some (.inl (.int x4)), some (.inl (.int (x5 + 1))), some (.inl (.int (r1 - r3)))] [] m4 0) ∧ (¬ x3 ≤ x5 → ch_J g m_m_ranked (ch_rm m_m_ranked) (ch_E g m_m_ranked Q) 38 [some (.inr (9, 0, 0)), some (.inl (.int x1)), some (.inl (.int x2)), some (.inl (.int x3)), some (.inl (.int (x4 + 1))), some (.inl (.int (x5 + 1))), some (.inl (.int (r1 - r3)))] [] m4 0))))))))))))))) : ch_J g m_m_ranked (ch_rm m_m_ranked) (ch_E g m_m_ranked Q) 38 [some (.inr (9, 0, 0)), some (.inl (.int x1)), some (.inl (.int x2)), some (.inl (.int x3)), some (.inl (.int x4)), some (.inl (.int x5)), o6] [] m 0 := by
  refine ch_iload d_m_ranked_38 rfl ?_
  refine ch_aload_n (i := 0) d_m_ranked_40 rfl rfl ?_
  refine ch_get (v := .inr (9, 0, 1)) d_m_ranked_41 fl_m_9 rfl ?_
  refine ch_iconst (v := 0) d_m_ranked_44 (by decide) ?_
  refine ch_iald (n := 63) d_m_ranked_45 (by decide) rfl (vp_in_nI (n := 0) (by decide) (by decide)) ?_
  refine ch_icmp_ge (tgt := 90) d_m_ranked_46 (by decide) (fun c => ?_) (fun c => ?_)
  · replace h := h.1 c
    refine ch_iload d_m_ranked_90 rfl ?_
    refine ch_iload_n (i := 2) d_m_ranked_92 rfl rfl ?_
    refine ch_icmp_ne (tgt := 98) d_m_ranked_93 (by decide) (fun c => ?_) (fun c => ?_)
    · replace h := h.1 c
      refine ch_iinc (i := 3) (v := (x3 + 1)) d_m_ranked_98 rfl rfl (Nat.le_of_ble_eq_true rfl) (ls' := [some (.inr (9, 0, 0)), some (.inl (.int x1)), some (.inl (.int x2)), some (.inl (.int (x3 + 1))), some (.inl (.int x4)), some (.inl (.int x5)), o6]) rfl ?_
      refine ch_goto (tgt := 22) d_m_ranked_101 (by decide) ?_
      exact h
    · replace h := h.2 c
      refine ch_iload_n (i := 3) d_m_ranked_96 rfl rfl ?_
      exact ch_iret (ty := .int) d_m_ranked_97 rfl rfl (Nat.le_of_ble_eq_true rfl) h
  · replace h := h.2 c
    refine ch_aload_n (i := 0) d_m_ranked_49 rfl rfl ?_
    refine ch_iload d_m_ranked_50 rfl ?_
    refine ch_iload_n (i := 1) d_m_ranked_52 rfl rfl ?_
    refine ch_callV (as := [.inl (.int x5), .inl (.int x1)]) d_m_ranked_53 lk_m_203 mi_m_measure me_m_measure rfl rfl rfl ⟨Nat.le_of_ble_eq_true rfl, Nat.le_of_ble_eq_true rfl⟩ (Nat.le_of_ble_eq_true rfl) ⟨Nat.le_of_ble_eq_true rfl, Nat.le_of_ble_eq_true rfl⟩ (ch_mono (ch_Ki (fun r1 m2 h => ?_)) h)
    refine ch_aload_n (i := 0) d_m_ranked_56 rfl rfl ?_
    refine ch_iload_n (i := 3) d_m_ranked_57 rfl rfl ?_
    refine ch_iload_n (i := 1) d_m_ranked_58 rfl rfl ?_
    refine ch_callV (as := [.inl (.int x3), .inl (.int x1)]) d_m_ranked_59 lk_m_203 mi_m_measure me_m_measure rfl rfl rfl ⟨Nat.le_of_ble_eq_true rfl, Nat.le_of_ble_eq_true rfl⟩ (Nat.le_of_ble_eq_true rfl) ⟨Nat.le_of_ble_eq_true rfl, Nat.le_of_ble_eq_true rfl⟩ (ch_mono (ch_Ki (fun r3 m4 h => ?_)) h)
    refine ch_isub d_m_ranked_62 ?_
    refine ch_istore (i := 6) d_m_ranked_63 (Nat.le_of_ble_eq_true rfl) (ls' := [some (.inr (9, 0, 0)), some (.inl (.int x1)), some (.inl (.int x2)), some (.inl (.int x3)), some (.inl (.int x4)), some (.inl (.int x5)), some (.inl (.int (r1 - r3)))]) rfl ?_
    refine ch_iload d_m_ranked_65 rfl ?_
    refine ch_if_gt (tgt := 81) d_m_ranked_67 (by decide) (fun c => ?_) (fun c => ?_)
    · replace h := h.1 c
      refine ch_iinc (i := 4) (v := (x4 + 1)) d_m_ranked_81 rfl rfl (Nat.le_of_ble_eq_true rfl) (ls' := [some (.inr (9, 0, 0)), some (.inl (.int x1)), some (.inl (.int x2)), some (.inl (.int x3)), some (.inl (.int (x4 + 1))), some (.inl (.int x5)), some (.inl (.int (r1 - r3)))]) rfl ?_
      refine ch_iinc (i := 5) (v := (x5 + 1)) d_m_ranked_84 rfl rfl (Nat.le_of_ble_eq_true rfl) (ls' := [some (.inr (9, 0, 0)), some (.inl (.int x1)), some (.inl (.int x2)), some (.inl (.int x3)), some (.inl (.int (x4 + 1))), some (.inl (.int (x5 + 1))), some (.inl (.int (r1 - r3)))]) rfl ?_
      refine ch_goto (tgt := 38) d_m_ranked_87 (by decide) ?_
      exact h
    · replace h := h.2 c
      refine ch_iload d_m_ranked_70 rfl ?_
      refine ch_if_ne (tgt := 84) d_m_ranked_72 (by decide) (fun c => ?_) (fun c => ?_)
      · replace h := h.1 c
        refine ch_iinc (i := 5) (v := (x5 + 1)) d_m_ranked_84 rfl rfl (Nat.le_of_ble_eq_true rfl) (ls' := [some (.inr (9, 0, 0)), some (.inl (.int x1)), some (.inl (.int x2)), some (.inl (.int x3)), some (.inl (.int x4)), some (.inl (.int (x5 + 1))), some (.inl (.int (r1 - r3)))]) rfl ?_
        refine ch_goto (tgt := 38) d_m_ranked_87 (by decide) ?_
        exact h
      · replace h := h.2 c
        refine ch_iload d_m_ranked_75 rfl ?_
        refine ch_iload_n (i := 3) d_m_ranked_77 rfl rfl ?_
        refine ch_icmp_ge (tgt := 84) d_m_ranked_78 (by decide) (fun c => ?_) (fun c => ?_)
        · replace h := h.1 c
          refine ch_iinc (i := 5) (v := (x5 + 1)) d_m_ranked_84 rfl rfl (Nat.le_of_ble_eq_true rfl) (ls' := [some (.inr (9, 0, 0)), some (.inl (.int x1)), some (.inl (.int x2)), some (.inl (.int x3)), some (.inl (.int x4)), some (.inl (.int (x5 + 1))), some (.inl (.int (r1 - r3)))]) rfl ?_
          refine ch_goto (tgt := 38) d_m_ranked_87 (by decide) ?_
          exact h
        · replace h := h.2 c
          refine ch_iinc (i := 4) (v := (x4 + 1)) d_m_ranked_81 rfl rfl (Nat.le_of_ble_eq_true rfl) (ls' := [some (.inr (9, 0, 0)), some (.inl (.int x1)), some (.inl (.int x2)), some (.inl (.int x3)), some (.inl (.int (x4 + 1))), some (.inl (.int x5)), some (.inl (.int (r1 - r3)))]) rfl ?_
          refine ch_iinc (i := 5) (v := (x5 + 1)) d_m_ranked_84 rfl rfl (Nat.le_of_ble_eq_true rfl) (ls' := [some (.inr (9, 0, 0)), some (.inl (.int x1)), some (.inl (.int x2)), some (.inl (.int x3)), some (.inl (.int (x4 + 1))), some (.inl (.int (x5 + 1))), some (.inl (.int (r1 - r3)))]) rfl ?_
          refine ch_goto (tgt := 38) d_m_ranked_87 (by decide) ?_
          exact h
theorem e_m_isEven (g : ch_G) (Q : ch_O → ch_M → Prop)  (m : ch_M) (h : ch_J g m_m_isEven (ch_rm m_m_isEven) (ch_E g m_m_isEven Q) 0 [some (.inr (9, 0, 0))] [] m 0) : ch_C g m_m_isEven [.inr (9, 0, 0)] m Q :=
  ch_enter mf_m_isEven (by intro v hv; simp only [List.mem_cons, List.not_mem_nil, or_false] at hv; rcases hv with rfl <;> rfl) (Nat.le_of_ble_eq_true rfl) h
set_option maxHeartbeats 1600000 in
theorem g_m_isEven_0 (g : ch_G) (Q : ch_O → ch_M → Prop)  (m : ch_M) (h : (∀ m1 : ch_M, m1 = ch_wr m (9, 0, 0) 19 0 → Q (.inl (some (.inl (.int 1)))) m1)) : ch_J g m_m_isEven (ch_rm m_m_isEven) (ch_E g m_m_isEven Q) 0 [some (.inr (9, 0, 0))] [] m 0 := by
  refine ch_aload_n (i := 0) d_m_isEven_0 rfl rfl ?_
  refine ch_iconst (v := 0) d_m_isEven_1 (by decide) ?_
  refine ch_put d_m_isEven_2 fp_m_48 rfl rfl rfl ?_
  generalize hmm1 : ch_wr m (9, 0, 0) 19 0 = m1
  replace h := h m1 hmm1.symm
  refine ch_iconst (v := 1) d_m_isEven_5 (by decide) ?_
  exact ch_iret (ty := .boolean) d_m_isEven_6 rfl rfl (Nat.le_of_ble_eq_true rfl) h
