theorem e_m_thrown (g : ch_G) (Q : ch_O → ch_M → Prop)  (m : ch_M) (h : ch_J g m_m_thrown (ch_rm m_m_thrown) (ch_E g m_m_thrown Q) 0 [some (.inr (9, 0, 0))] [] m 0) : ch_C g m_m_thrown [.inr (9, 0, 0)] m Q :=
  ch_enter mf_m_thrown (by intro v hv; simp only [List.mem_cons, List.not_mem_nil, or_false] at hv; rcases hv with rfl <;> rfl) (Nat.le_of_ble_eq_true rfl) h
set_option maxHeartbeats 1600000 in
theorem g_m_thrown_0 (g : ch_G) (Q : ch_O → ch_M → Prop)  (m : ch_M) (h : Q (.inl (some (.inl (.int (m (9, 0, 0) 19))))) m) : ch_J g m_m_thrown (ch_rm m_m_thrown) (ch_E g m_m_thrown Q) 0 [some (.inr (9, 0, 0))] [] m 0 := by
  refine ch_aload_n (i := 0) d_m_thrown_0 rfl rfl ?_
  refine ch_get (v := .inl (.int (m (9, 0, 0) 19))) d_m_thrown_1 fl_m_48 rfl ?_
  exact ch_iret (ty := .int) d_m_thrown_4 rfl rfl (Nat.le_of_ble_eq_true rfl) h
theorem e_m_squareOf (g : ch_G) (Q : ch_O → ch_M → Prop) (p1 : Int32) (p2 : Int32) (m : ch_M) (h : ch_J g m_m_squareOf (ch_rm m_m_squareOf) (ch_E g m_m_squareOf Q) 0 [some (.inr (9, 0, 0)), some (.inl (.int p1)), some (.inl (.int p2))] [] m 0) : ch_C g m_m_squareOf [.inr (9, 0, 0), .inl (.int p1), .inl (.int p2)] m Q :=
  ch_enter mf_m_squareOf (by intro v hv; simp only [List.mem_cons, List.not_mem_nil, or_false] at hv; rcases hv with rfl | rfl | rfl <;> rfl) (Nat.le_of_ble_eq_true rfl) h
set_option maxHeartbeats 1600000 in
theorem g_m_squareOf_0 (g : ch_G) (Q : ch_O → ch_M → Prop) (p1 : Int32) (p2 : Int32) (m : ch_M) (h : (((0 ≤ p1 ∧ p1 ≤ 11) → (∀ m4 : ch_M, m4 = ch_wr m (9, 0, 0) 19 0 → (((m4 (9, 0, 0) 19) ≤ 0 → ((p2 = 0 → (vp_in p1 12) ∧ (Q (.inl (some (.inl (.int (m4 (9, 0, 1) (14 + 2 * Int32.toNatClampNeg p1) - 1))))) m4)) ∧ (¬ p2 = 0 → (vp_in p1 12) ∧ (Q (.inl (some (.inl (.int (m4 (9, 0, 1) (15 + 2 * Int32.toNatClampNeg p1)))))) m4)))) ∧ (¬ (m4 (9, 0, 0) 19) ≤ 0 → Q (.inl (some (.inl (.int 0)))) m4)))) ∧ ((¬ (0 ≤ p1 ∧ p1 ≤ 11)) → (∀ m13 : ch_M, m13 = ch_wr m (9, 0, 0) 19 1 → (((m13 (9, 0, 0) 19) ≤ 0 → ((p2 = 0 → (vp_in p1 12) ∧ (Q (.inl (some (.inl (.int (m13 (9, 0, 1) (14 + 2 * Int32.toNatClampNeg p1) - 1))))) m13)) ∧ (¬ p2 = 0 → (vp_in p1 12) ∧ (Q (.inl (some (.inl (.int (m13 (9, 0, 1) (15 + 2 * Int32.toNatClampNeg p1)))))) m13)))) ∧ (¬ (m13 (9, 0, 0) 19) ≤ 0 → Q (.inl (some (.inl (.int 0)))) m13)))))) : ch_J g m_m_squareOf (ch_rm m_m_squareOf) (ch_E g m_m_squareOf Q) 0 [some (.inr (9, 0, 0)), some (.inl (.int p1)), some (.inl (.int p2))] [] m 0 := by
  refine ch_aload_n (i := 0) d_m_squareOf_0 rfl rfl ?_
  refine ch_iload_n (i := 1) d_m_squareOf_1 rfl rfl ?_
  refine ch_iconst (v := 0) d_m_squareOf_2 (by decide) ?_
  refine ch_bipush (v := 11) d_m_squareOf_3 (by decide) ?_
  refine ch_callS (as := [.inl (.int p1), .inl (.int 0), .inl (.int 11)]) d_m_squareOf_5 lk_m_73 ms_m_in rfl rfl ⟨Nat.le_of_ble_eq_true rfl, Nat.le_of_ble_eq_true rfl⟩ (Nat.le_of_ble_eq_true rfl) ⟨Nat.le_of_ble_eq_true rfl, Nat.le_of_ble_eq_true rfl⟩ (ch_mono (ch_Ki (fun r1 m2 q3 => ?_)) (s_m_in g (fun (r_ : Int32) (m_ : ch_M) => ((0 ≤ p1 ∧ p1 ≤ 11) ∧ 1 = r_ ∧ m = m_) ∨ ((¬ (0 ≤ p1 ∧ p1 ≤ 11)) ∧ 0 = r_ ∧ m = m_)) (p1) (0) (11) m ⟨(fun c_ => (Or.inl ⟨c_, rfl, rfl⟩)), (fun c_ => (Or.inr ⟨c_, rfl, rfl⟩))⟩))
  rcases q3 with ⟨c_, rfl, rfl⟩ | ⟨c_, rfl, rfl⟩
  · replace h := h.1 c_
    refine ch_if_eq (tgt := 15) d_m_squareOf_8 (by decide) (fun c => absurd c (by decide)) (fun _ => ?_)
    refine ch_iconst (v := 0) d_m_squareOf_11 (by decide) ?_
    refine ch_goto (tgt := 16) d_m_squareOf_12 (by decide) ?_
    refine ch_put d_m_squareOf_16 fp_m_48 rfl rfl rfl ?_
    generalize hmm4 : ch_wr m (9, 0, 0) 19 0 = m4
    replace h := h m4 hmm4.symm
    refine ch_aload_n (i := 0) d_m_squareOf_19 rfl rfl ?_
    refine ch_get (v := .inl (.int (m4 (9, 0, 0) 19))) d_m_squareOf_20 fl_m_48 rfl ?_
    refine ch_if_le (tgt := 30) d_m_squareOf_23 (by decide) (fun c => ?_) (fun c => ?_)
    · replace h := h.1 c
      refine ch_iload_n (i := 2) d_m_squareOf_30 rfl rfl ?_
      refine ch_if_eq (tgt := 42) d_m_squareOf_31 (by decide) (fun c => ?_) (fun c => ?_)
      · replace h := h.1 c
        refine ch_aload_n (i := 0) d_m_squareOf_42 rfl rfl ?_
        refine ch_iload_n (i := 1) d_m_squareOf_43 rfl rfl ?_
        have b8 := h.1
        replace h := h.2
        refine ch_callV (as := [.inl (.int p1)]) d_m_squareOf_44 lk_m_109 mi_m_owner me_m_owner rfl rfl rfl ⟨Nat.le_of_ble_eq_true rfl, Nat.le_of_ble_eq_true rfl⟩ (Nat.le_of_ble_eq_true rfl) ⟨Nat.le_of_ble_eq_true rfl, Nat.le_of_ble_eq_true rfl⟩ (ch_mono (ch_Ki (fun r5 m6 q7 => ?_)) (s_m_owner g (fun (r_ : Int32) (m_ : ch_M) => ((m4 (9, 0, 1) (14 + 2 * Int32.toNatClampNeg p1) - 1) = r_ ∧ m4 = m_)) (p1) m4 ⟨b8, ⟨rfl, rfl⟩⟩))
        obtain ⟨rfl, rfl⟩ := q7
        replace h := h
        exact ch_iret (ty := .int) d_m_squareOf_47 rfl rfl (Nat.le_of_ble_eq_true rfl) h
      · replace h := h.2 c
        refine ch_aload_n (i := 0) d_m_squareOf_34 rfl rfl ?_
        refine ch_iload_n (i := 1) d_m_squareOf_35 rfl rfl ?_
        have b12 := h.1
        replace h := h.2
        refine ch_callV (as := [.inl (.int p1)]) d_m_squareOf_36 lk_m_112 mi_m_chalkOf me_m_chalkOf rfl rfl rfl ⟨Nat.le_of_ble_eq_true rfl, Nat.le_of_ble_eq_true rfl⟩ (Nat.le_of_ble_eq_true rfl) ⟨Nat.le_of_ble_eq_true rfl, Nat.le_of_ble_eq_true rfl⟩ (ch_mono (ch_Ki (fun r9 m10 q11 => ?_)) (s_m_chalkOf g (fun (r_ : Int32) (m_ : ch_M) => ((m4 (9, 0, 1) (15 + 2 * Int32.toNatClampNeg p1)) = r_ ∧ m4 = m_)) (p1) m4 ⟨b12, ⟨rfl, rfl⟩⟩))
        obtain ⟨rfl, rfl⟩ := q11
        replace h := h
        refine ch_goto (tgt := 47) d_m_squareOf_39 (by decide) ?_
        exact ch_iret (ty := .int) d_m_squareOf_47 rfl rfl (Nat.le_of_ble_eq_true rfl) h
    · replace h := h.2 c
      refine ch_iconst (v := 0) d_m_squareOf_26 (by decide) ?_
      refine ch_goto (tgt := 47) d_m_squareOf_27 (by decide) ?_
      exact ch_iret (ty := .int) d_m_squareOf_47 rfl rfl (Nat.le_of_ble_eq_true rfl) h
  · replace h := h.2 c_
    refine ch_if_eq (tgt := 15) d_m_squareOf_8 (by decide) (fun _ => ?_) (fun c => absurd c (by decide))
    refine ch_iconst (v := 1) d_m_squareOf_15 (by decide) ?_
    refine ch_put d_m_squareOf_16 fp_m_48 rfl rfl rfl ?_
    generalize hmm13 : ch_wr m (9, 0, 0) 19 1 = m13
    replace h := h m13 hmm13.symm
    refine ch_aload_n (i := 0) d_m_squareOf_19 rfl rfl ?_
    refine ch_get (v := .inl (.int (m13 (9, 0, 0) 19))) d_m_squareOf_20 fl_m_48 rfl ?_
    refine ch_if_le (tgt := 30) d_m_squareOf_23 (by decide) (fun c => ?_) (fun c => ?_)
    · replace h := h.1 c
      refine ch_iload_n (i := 2) d_m_squareOf_30 rfl rfl ?_
      refine ch_if_eq (tgt := 42) d_m_squareOf_31 (by decide) (fun c => ?_) (fun c => ?_)
      · replace h := h.1 c
        refine ch_aload_n (i := 0) d_m_squareOf_42 rfl rfl ?_
        refine ch_iload_n (i := 1) d_m_squareOf_43 rfl rfl ?_
        have b17 := h.1
        replace h := h.2
        refine ch_callV (as := [.inl (.int p1)]) d_m_squareOf_44 lk_m_109 mi_m_owner me_m_owner rfl rfl rfl ⟨Nat.le_of_ble_eq_true rfl, Nat.le_of_ble_eq_true rfl⟩ (Nat.le_of_ble_eq_true rfl) ⟨Nat.le_of_ble_eq_true rfl, Nat.le_of_ble_eq_true rfl⟩ (ch_mono (ch_Ki (fun r14 m15 q16 => ?_)) (s_m_owner g (fun (r_ : Int32) (m_ : ch_M) => ((m13 (9, 0, 1) (14 + 2 * Int32.toNatClampNeg p1) - 1) = r_ ∧ m13 = m_)) (p1) m13 ⟨b17, ⟨rfl, rfl⟩⟩))
        obtain ⟨rfl, rfl⟩ := q16
        replace h := h
        exact ch_iret (ty := .int) d_m_squareOf_47 rfl rfl (Nat.le_of_ble_eq_true rfl) h
      · replace h := h.2 c
        refine ch_aload_n (i := 0) d_m_squareOf_34 rfl rfl ?_
        refine ch_iload_n (i := 1) d_m_squareOf_35 rfl rfl ?_
        have b21 := h.1
        replace h := h.2
        refine ch_callV (as := [.inl (.int p1)]) d_m_squareOf_36 lk_m_112 mi_m_chalkOf me_m_chalkOf rfl rfl rfl ⟨Nat.le_of_ble_eq_true rfl, Nat.le_of_ble_eq_true rfl⟩ (Nat.le_of_ble_eq_true rfl) ⟨Nat.le_of_ble_eq_true rfl, Nat.le_of_ble_eq_true rfl⟩ (ch_mono (ch_Ki (fun r18 m19 q20 => ?_)) (s_m_chalkOf g (fun (r_ : Int32) (m_ : ch_M) => ((m13 (9, 0, 1) (15 + 2 * Int32.toNatClampNeg p1)) = r_ ∧ m13 = m_)) (p1) m13 ⟨b21, ⟨rfl, rfl⟩⟩))
        obtain ⟨rfl, rfl⟩ := q20
        replace h := h
        refine ch_goto (tgt := 47) d_m_squareOf_39 (by decide) ?_
        exact ch_iret (ty := .int) d_m_squareOf_47 rfl rfl (Nat.le_of_ble_eq_true rfl) h
    · replace h := h.2 c
      refine ch_iconst (v := 0) d_m_squareOf_26 (by decide) ?_
      refine ch_goto (tgt := 47) d_m_squareOf_27 (by decide) ?_
      exact ch_iret (ty := .int) d_m_squareOf_47 rfl rfl (Nat.le_of_ble_eq_true rfl) h
theorem e_m_ownSet (g : ch_G) (Q : ch_O → ch_M → Prop) (p1 : Int32) (m : ch_M) (h : ch_J g m_m_ownSet (ch_rm m_m_ownSet) (ch_E g m_m_ownSet Q) 0 [some (.inr (9, 0, 0)), some (.inl (.int p1)), none, none] [] m 0) : ch_C g m_m_ownSet [.inr (9, 0, 0), .inl (.int p1)] m Q :=
  ch_enter mf_m_ownSet (by intro v hv; simp only [List.mem_cons, List.not_mem_nil, or_false] at hv; rcases hv with rfl | rfl <;> rfl) (Nat.le_of_ble_eq_true rfl) h
set_option maxHeartbeats 1600000 in
theorem g_m_ownSet_0 (g : ch_G) (Q : ch_O → ch_M → Prop) (p1 : Int32) (m : ch_M) (h : ch_J g m_m_ownSet (ch_rm m_m_ownSet) (ch_E g m_m_ownSet Q) 4 [some (.inr (9, 0, 0)), some (.inl (.int p1)), some (.inl (.int 0)), some (.inl (.int 0))] [] m 0) : ch_J g m_m_ownSet (ch_rm m_m_ownSet) (ch_E g m_m_ownSet Q) 0 [some (.inr (9, 0, 0)), some (.inl (.int p1)), none, none] [] m 0 := by
  refine ch_iconst (v := 0) d_m_ownSet_0 (by decide) ?_
  refine ch_istore_n (i := 2) d_m_ownSet_1 rfl (Nat.le_of_ble_eq_true rfl) (ls' := [some (.inr (9, 0, 0)), some (.inl (.int p1)), some (.inl (.int 0)), none]) rfl ?_
  refine ch_iconst (v := 0) d_m_ownSet_2 (by decide) ?_
  refine ch_istore_n (i := 3) d_m_ownSet_3 rfl (Nat.le_of_ble_eq_true rfl) (ls' := [some (.inr (9, 0, 0)), some (.inl (.int p1)), some (.inl (.int 0)), some (.inl (.int 0))]) rfl ?_
  exact h
set_option maxHeartbeats 1600000 in
theorem g_m_ownSet_4 (g : ch_G) (Q : ch_O → ch_M → Prop) (x1 : Int32) (x2 : Int32) (x3 : Int32) (m : ch_M) (h : ((12 ≤ x3 → Q (.inl (some (.inl (.int x2)))) m) ∧ (¬ 12 ≤ x3 → (vp_in x3 12) ∧ (((¬ (m (9, 0, 1) (14 + 2 * Int32.toNatClampNeg x3) - 1) = x1 → ch_J g m_m_ownSet (ch_rm m_m_ownSet) (ch_E g m_m_ownSet Q) 4 [some (.inr (9, 0, 0)), some (.inl (.int x1)), some (.inl (.int x2)), some (.inl (.int (x3 + 1)))] [] m 0) ∧ ((m (9, 0, 1) (14 + 2 * Int32.toNatClampNeg x3) - 1) = x1 → ch_J g m_m_ownSet (ch_rm m_m_ownSet) (ch_E g m_m_ownSet Q) 4 [some (.inr (9, 0, 0)), some (.inl (.int x1)), some (.inl (.int (x2 ||| (1 <<< (x3 &&& 31))))), some (.inl (.int (x3 + 1)))] [] m 0)))))) : ch_J g m_m_ownSet (ch_rm m_m_ownSet) (ch_E g m_m_ownSet Q) 4 [some (.inr (9, 0, 0)), some (.inl (.int x1)), some (.inl (.int x2)), some (.inl (.int x3))] [] m 0 := by
  refine ch_iload_n (i := 3) d_m_ownSet_4 rfl rfl ?_
  refine ch_bipush (v := 12) d_m_ownSet_5 (by decide) ?_
  refine ch_icmp_ge (tgt := 31) d_m_ownSet_7 (by decide) (fun c => ?_) (fun c => ?_)
  · replace h := h.1 c
    refine ch_iload_n (i := 2) d_m_ownSet_31 rfl rfl ?_
    exact ch_iret (ty := .int) d_m_ownSet_32 rfl rfl (Nat.le_of_ble_eq_true rfl) h
  · replace h := h.2 c
    refine ch_aload_n (i := 0) d_m_ownSet_10 rfl rfl ?_
    refine ch_iload_n (i := 3) d_m_ownSet_11 rfl rfl ?_
    have b4 := h.1
    replace h := h.2
    refine ch_callV (as := [.inl (.int x3)]) d_m_ownSet_12 lk_m_109 mi_m_owner me_m_owner rfl rfl rfl ⟨Nat.le_of_ble_eq_true rfl, Nat.le_of_ble_eq_true rfl⟩ (Nat.le_of_ble_eq_true rfl) ⟨Nat.le_of_ble_eq_true rfl, Nat.le_of_ble_eq_true rfl⟩ (ch_mono (ch_Ki (fun r1 m2 q3 => ?_)) (s_m_owner g (fun (r_ : Int32) (m_ : ch_M) => ((m (9, 0, 1) (14 + 2 * Int32.toNatClampNeg x3) - 1) = r_ ∧ m = m_)) (x3) m ⟨b4, ⟨rfl, rfl⟩⟩))
    obtain ⟨rfl, rfl⟩ := q3
    replace h := h
    refine ch_iload_n (i := 1) d_m_ownSet_15 rfl rfl ?_
    refine ch_icmp_ne (tgt := 25) d_m_ownSet_16 (by decide) (fun c => ?_) (fun c => ?_)
    · replace h := h.1 c
      refine ch_iinc (i := 3) (v := (x3 + 1)) d_m_ownSet_25 rfl rfl (Nat.le_of_ble_eq_true rfl) (ls' := [some (.inr (9, 0, 0)), some (.inl (.int x1)), some (.inl (.int x2)), some (.inl (.int (x3 + 1)))]) rfl ?_
      refine ch_goto (tgt := 4) d_m_ownSet_28 (by decide) ?_
      exact h
    · replace h := h.2 c
      refine ch_iload_n (i := 2) d_m_ownSet_19 rfl rfl ?_
      refine ch_iconst (v := 1) d_m_ownSet_20 (by decide) ?_
      refine ch_iload_n (i := 3) d_m_ownSet_21 rfl rfl ?_
      refine ch_ishl d_m_ownSet_22 ?_
      refine ch_ior d_m_ownSet_23 ?_
      refine ch_istore_n (i := 2) d_m_ownSet_24 rfl (Nat.le_of_ble_eq_true rfl) (ls' := [some (.inr (9, 0, 0)), some (.inl (.int x1)), some (.inl (.int (x2 ||| (1 <<< (x3 &&& 31))))), some (.inl (.int x3))]) rfl ?_
      refine ch_iinc (i := 3) (v := (x3 + 1)) d_m_ownSet_25 rfl rfl (Nat.le_of_ble_eq_true rfl) (ls' := [some (.inr (9, 0, 0)), some (.inl (.int x1)), some (.inl (.int (x2 ||| (1 <<< (x3 &&& 31))))), some (.inl (.int (x3 + 1)))]) rfl ?_
      refine ch_goto (tgt := 4) d_m_ownSet_28 (by decide) ?_
      exact h
theorem e_m_owned (g : ch_G) (Q : ch_O → ch_M → Prop)  (m : ch_M) (h : ch_J g m_m_owned (ch_rm m_m_owned) (ch_E g m_m_owned Q) 0 [some (.inr (9, 0, 0)), none, none] [] m 0) : ch_C g m_m_owned [.inr (9, 0, 0)] m Q :=
  ch_enter mf_m_owned (by intro v hv; simp only [List.mem_cons, List.not_mem_nil, or_false] at hv; rcases hv with rfl <;> rfl) (Nat.le_of_ble_eq_true rfl) h
set_option maxHeartbeats 1600000 in
theorem g_m_owned_0 (g : ch_G) (Q : ch_O → ch_M → Prop)  (m : ch_M) (h : ch_J g m_m_owned (ch_rm m_m_owned) (ch_E g m_m_owned Q) 4 [some (.inr (9, 0, 0)), some (.inl (.int 0)), some (.inl (.int 0))] [] m 0) : ch_J g m_m_owned (ch_rm m_m_owned) (ch_E g m_m_owned Q) 0 [some (.inr (9, 0, 0)), none, none] [] m 0 := by
  refine ch_iconst (v := 0) d_m_owned_0 (by decide) ?_
  refine ch_istore_n (i := 1) d_m_owned_1 rfl (Nat.le_of_ble_eq_true rfl) (ls' := [some (.inr (9, 0, 0)), some (.inl (.int 0)), none]) rfl ?_
  refine ch_iconst (v := 0) d_m_owned_2 (by decide) ?_
  refine ch_istore_n (i := 2) d_m_owned_3 rfl (Nat.le_of_ble_eq_true rfl) (ls' := [some (.inr (9, 0, 0)), some (.inl (.int 0)), some (.inl (.int 0))]) rfl ?_
  exact h
set_option maxHeartbeats 1600000 in
theorem g_m_owned_4 (g : ch_G) (Q : ch_O → ch_M → Prop) (x1 : Int32) (x2 : Int32) (m : ch_M) (h : ((12 ≤ x2 → Q (.inl (some (.inl (.int x1)))) m) ∧ (¬ 12 ≤ x2 → (vp_in x2 12) ∧ ((((m (9, 0, 1) (14 + 2 * Int32.toNatClampNeg x2) - 1) < 0 → ch_J g m_m_owned (ch_rm m_m_owned) (ch_E g m_m_owned Q) 4 [some (.inr (9, 0, 0)), some (.inl (.int x1)), some (.inl (.int (x2 + 1)))] [] m 0) ∧ (¬ (m (9, 0, 1) (14 + 2 * Int32.toNatClampNeg x2) - 1) < 0 → ch_J g m_m_owned (ch_rm m_m_owned) (ch_E g m_m_owned Q) 4 [some (.inr (9, 0, 0)), some (.inl (.int (x1 + 1))), some (.inl (.int (x2 + 1)))] [] m 0)))))) : ch_J g m_m_owned (ch_rm m_m_owned) (ch_E g m_m_owned Q) 4 [some (.inr (9, 0, 0)), some (.inl (.int x1)), some (.inl (.int x2))] [] m 0 := by
  refine ch_iload_n (i := 2) d_m_owned_4 rfl rfl ?_
  refine ch_bipush (v := 12) d_m_owned_5 (by decide) ?_
  refine ch_icmp_ge (tgt := 27) d_m_owned_7 (by decide) (fun c => ?_) (fun c => ?_)
  · replace h := h.1 c
    refine ch_iload_n (i := 1) d_m_owned_27 rfl rfl ?_
    exact ch_iret (ty := .int) d_m_owned_28 rfl rfl (Nat.le_of_ble_eq_true rfl) h
  · replace h := h.2 c
    refine ch_aload_n (i := 0) d_m_owned_10 rfl rfl ?_
    refine ch_iload_n (i := 2) d_m_owned_11 rfl rfl ?_
    have b4 := h.1
    replace h := h.2
    refine ch_callV (as := [.inl (.int x2)]) d_m_owned_12 lk_m_109 mi_m_owner me_m_owner rfl rfl rfl ⟨Nat.le_of_ble_eq_true rfl, Nat.le_of_ble_eq_true rfl⟩ (Nat.le_of_ble_eq_true rfl) ⟨Nat.le_of_ble_eq_true rfl, Nat.le_of_ble_eq_true rfl⟩ (ch_mono (ch_Ki (fun r1 m2 q3 => ?_)) (s_m_owner g (fun (r_ : Int32) (m_ : ch_M) => ((m (9, 0, 1) (14 + 2 * Int32.toNatClampNeg x2) - 1) = r_ ∧ m = m_)) (x2) m ⟨b4, ⟨rfl, rfl⟩⟩))
    obtain ⟨rfl, rfl⟩ := q3
    replace h := h
    refine ch_if_lt (tgt := 21) d_m_owned_15 (by decide) (fun c => ?_) (fun c => ?_)
    · replace h := h.1 c
      refine ch_iinc (i := 2) (v := (x2 + 1)) d_m_owned_21 rfl rfl (Nat.le_of_ble_eq_true rfl) (ls' := [some (.inr (9, 0, 0)), some (.inl (.int x1)), some (.inl (.int (x2 + 1)))]) rfl ?_
      refine ch_goto (tgt := 4) d_m_owned_24 (by decide) ?_
      exact h
    · replace h := h.2 c
      refine ch_iinc (i := 1) (v := (x1 + 1)) d_m_owned_18 rfl rfl (Nat.le_of_ble_eq_true rfl) (ls' := [some (.inr (9, 0, 0)), some (.inl (.int (x1 + 1))), some (.inl (.int x2))]) rfl ?_
      refine ch_iinc (i := 2) (v := (x2 + 1)) d_m_owned_21 rfl rfl (Nat.le_of_ble_eq_true rfl) (ls' := [some (.inr (9, 0, 0)), some (.inl (.int (x1 + 1))), some (.inl (.int (x2 + 1)))]) rfl ?_
      refine ch_goto (tgt := 4) d_m_owned_24 (by decide) ?_
      exact h
theorem e_m_endsBy (g : ch_G) (Q : ch_O → ch_M → Prop) (p1 : Int32) (m : ch_M) (h : ch_J g m_m_endsBy (ch_rm m_m_endsBy) (ch_E g m_m_endsBy Q) 0 [some (.inr (9, 0, 0)), some (.inl (.int p1)), none, none] [] m 0) : ch_C g m_m_endsBy [.inr (9, 0, 0), .inl (.int p1)] m Q :=
  ch_enter mf_m_endsBy (by intro v hv; simp only [List.mem_cons, List.not_mem_nil, or_false] at hv; rcases hv with rfl | rfl <;> rfl) (Nat.le_of_ble_eq_true rfl) h
set_option maxHeartbeats 1600000 in
theorem g_m_endsBy_0 (g : ch_G) (Q : ch_O → ch_M → Prop) (p1 : Int32) (m : ch_M) (h : ch_J g m_m_endsBy (ch_rm m_m_endsBy) (ch_E g m_m_endsBy Q) 4 [some (.inr (9, 0, 0)), some (.inl (.int p1)), some (.inl (.int 0)), some (.inl (.int 0))] [] m 0) : ch_J g m_m_endsBy (ch_rm m_m_endsBy) (ch_E g m_m_endsBy Q) 0 [some (.inr (9, 0, 0)), some (.inl (.int p1)), none, none] [] m 0 := by
  refine ch_iconst (v := 0) d_m_endsBy_0 (by decide) ?_
  refine ch_istore_n (i := 2) d_m_endsBy_1 rfl (Nat.le_of_ble_eq_true rfl) (ls' := [some (.inr (9, 0, 0)), some (.inl (.int p1)), some (.inl (.int 0)), none]) rfl ?_
  refine ch_iconst (v := 0) d_m_endsBy_2 (by decide) ?_
  refine ch_istore_n (i := 3) d_m_endsBy_3 rfl (Nat.le_of_ble_eq_true rfl) (ls' := [some (.inr (9, 0, 0)), some (.inl (.int p1)), some (.inl (.int 0)), some (.inl (.int 0))]) rfl ?_
  exact h
set_option maxHeartbeats 1600000 in
theorem g_m_endsBy_4 (g : ch_G) (Q : ch_O → ch_M → Prop) (x1 : Int32) (x2 : Int32) (x3 : Int32) (m : ch_M) (h : ((12 ≤ x3 → ch_J g m_m_endsBy (ch_rm m_m_endsBy) (ch_E g m_m_endsBy Q) 34 [some (.inr (9, 0, 0)), some (.inl (.int x1)), some (.inl (.int x2)), some (.inl (.int 0))] [] m 0) ∧ (¬ 12 ≤ x3 → (vp_in x3 12) ∧ ((((1 ≤ (m (9, 0, 1) (15 + 2 * Int32.toNatClampNeg x3)) ∧ (m (9, 0, 1) (15 + 2 * Int32.toNatClampNeg x3)) ≤ x1) → ch_J g m_m_endsBy (ch_rm m_m_endsBy) (ch_E g m_m_endsBy Q) 4 [some (.inr (9, 0, 0)), some (.inl (.int x1)), some (.inl (.int (x2 + 1))), some (.inl (.int (x3 + 1)))] [] m 0) ∧ ((¬ (1 ≤ (m (9, 0, 1) (15 + 2 * Int32.toNatClampNeg x3)) ∧ (m (9, 0, 1) (15 + 2 * Int32.toNatClampNeg x3)) ≤ x1)) → ch_J g m_m_endsBy (ch_rm m_m_endsBy) (ch_E g m_m_endsBy Q) 4 [some (.inr (9, 0, 0)), some (.inl (.int x1)), some (.inl (.int x2)), some (.inl (.int (x3 + 1)))] [] m 0)))))) : ch_J g m_m_endsBy (ch_rm m_m_endsBy) (ch_E g m_m_endsBy Q) 4 [some (.inr (9, 0, 0)), some (.inl (.int x1)), some (.inl (.int x2)), some (.inl (.int x3))] [] m 0 := by
  refine ch_iload_n (i := 3) d_m_endsBy_4 rfl rfl ?_
  refine ch_bipush (v := 12) d_m_endsBy_5 (by decide) ?_
  refine ch_icmp_ge (tgt := 32) d_m_endsBy_7 (by decide) (fun c => ?_) (fun c => ?_)
  · replace h := h.1 c
    refine ch_iconst (v := 0) d_m_endsBy_32 (by decide) ?_
    refine ch_istore_n (i := 3) d_m_endsBy_33 rfl (Nat.le_of_ble_eq_true rfl) (ls' := [some (.inr (9, 0, 0)), some (.inl (.int x1)), some (.inl (.int x2)), some (.inl (.int 0))]) rfl ?_
    exact h
  · replace h := h.2 c
    refine ch_aload_n (i := 0) d_m_endsBy_10 rfl rfl ?_
    refine ch_iload_n (i := 3) d_m_endsBy_11 rfl rfl ?_
    have b4 := h.1
    replace h := h.2
    refine ch_callV (as := [.inl (.int x3)]) d_m_endsBy_12 lk_m_112 mi_m_chalkOf me_m_chalkOf rfl rfl rfl ⟨Nat.le_of_ble_eq_true rfl, Nat.le_of_ble_eq_true rfl⟩ (Nat.le_of_ble_eq_true rfl) ⟨Nat.le_of_ble_eq_true rfl, Nat.le_of_ble_eq_true rfl⟩ (ch_mono (ch_Ki (fun r1 m2 q3 => ?_)) (s_m_chalkOf g (fun (r_ : Int32) (m_ : ch_M) => ((m (9, 0, 1) (15 + 2 * Int32.toNatClampNeg x3)) = r_ ∧ m = m_)) (x3) m ⟨b4, ⟨rfl, rfl⟩⟩))
    obtain ⟨rfl, rfl⟩ := q3
    replace h := h
    refine ch_iconst (v := 1) d_m_endsBy_15 (by decide) ?_
    refine ch_iload_n (i := 1) d_m_endsBy_16 rfl rfl ?_
    refine ch_callS (as := [.inl (.int (m (9, 0, 1) (15 + 2 * Int32.toNatClampNeg x3))), .inl (.int 1), .inl (.int x1)]) d_m_endsBy_17 lk_m_73 ms_m_in rfl rfl ⟨Nat.le_of_ble_eq_true rfl, Nat.le_of_ble_eq_true rfl⟩ (Nat.le_of_ble_eq_true rfl) ⟨Nat.le_of_ble_eq_true rfl, Nat.le_of_ble_eq_true rfl⟩ (ch_mono (ch_Ki (fun r5 m6 q7 => ?_)) (s_m_in g (fun (r_ : Int32) (m_ : ch_M) => ((1 ≤ (m (9, 0, 1) (15 + 2 * Int32.toNatClampNeg x3)) ∧ (m (9, 0, 1) (15 + 2 * Int32.toNatClampNeg x3)) ≤ x1) ∧ 1 = r_ ∧ m = m_) ∨ ((¬ (1 ≤ (m (9, 0, 1) (15 + 2 * Int32.toNatClampNeg x3)) ∧ (m (9, 0, 1) (15 + 2 * Int32.toNatClampNeg x3)) ≤ x1)) ∧ 0 = r_ ∧ m = m_)) ((m (9, 0, 1) (15 + 2 * Int32.toNatClampNeg x3))) (1) (x1) m ⟨(fun c_ => (Or.inl ⟨c_, rfl, rfl⟩)), (fun c_ => (Or.inr ⟨c_, rfl, rfl⟩))⟩))
    rcases q7 with ⟨c_, rfl, rfl⟩ | ⟨c_, rfl, rfl⟩
    · replace h := h.1 c_
      refine ch_if_eq (tgt := 26) d_m_endsBy_20 (by decide) (fun c => absurd c (by decide)) (fun _ => ?_)
      refine ch_iinc (i := 2) (v := (x2 + 1)) d_m_endsBy_23 rfl rfl (Nat.le_of_ble_eq_true rfl) (ls' := [some (.inr (9, 0, 0)), some (.inl (.int x1)), some (.inl (.int (x2 + 1))), some (.inl (.int x3))]) rfl ?_
      refine ch_iinc (i := 3) (v := (x3 + 1)) d_m_endsBy_26 rfl rfl (Nat.le_of_ble_eq_true rfl) (ls' := [some (.inr (9, 0, 0)), some (.inl (.int x1)), some (.inl (.int (x2 + 1))), some (.inl (.int (x3 + 1)))]) rfl ?_
      refine ch_goto (tgt := 4) d_m_endsBy_29 (by decide) ?_
      exact h
    · replace h := h.2 c_
      refine ch_if_eq (tgt := 26) d_m_endsBy_20 (by decide) (fun _ => ?_) (fun c => absurd c (by decide))
      refine ch_iinc (i := 3) (v := (x3 + 1)) d_m_endsBy_26 rfl rfl (Nat.le_of_ble_eq_true rfl) (ls' := [some (.inr (9, 0, 0)), some (.inl (.int x1)), some (.inl (.int x2)), some (.inl (.int (x3 + 1)))]) rfl ?_
      refine ch_goto (tgt := 4) d_m_endsBy_29 (by decide) ?_
      exact h
set_option maxHeartbeats 1600000 in
theorem g_m_endsBy_34 (g : ch_G) (Q : ch_O → ch_M → Prop) (x1 : Int32) (x2 : Int32) (x3 : Int32) (m : ch_M) (h : (((m (9, 0, 1) (0)) ≤ x3 → Q (.inl (some (.inl (.int x2)))) m) ∧ (¬ (m (9, 0, 1) (0)) ≤ x3 → (vp_in x3 5) ∧ ((((1 ≤ (m (9, 0, 1) (38 + 5 * Int32.toNatClampNeg x3 + 2)) ∧ (m (9, 0, 1) (38 + 5 * Int32.toNatClampNeg x3 + 2)) ≤ x1) → ch_J g m_m_endsBy (ch_rm m_m_endsBy) (ch_E g m_m_endsBy Q) 34 [some (.inr (9, 0, 0)), some (.inl (.int x1)), some (.inl (.int (x2 + 1))), some (.inl (.int (x3 + 1)))] [] m 0) ∧ ((¬ (1 ≤ (m (9, 0, 1) (38 + 5 * Int32.toNatClampNeg x3 + 2)) ∧ (m (9, 0, 1) (38 + 5 * Int32.toNatClampNeg x3 + 2)) ≤ x1)) → ch_J g m_m_endsBy (ch_rm m_m_endsBy) (ch_E g m_m_endsBy Q) 34 [some (.inr (9, 0, 0)), some (.inl (.int x1)), some (.inl (.int x2)), some (.inl (.int (x3 + 1)))] [] m 0)))))) : ch_J g m_m_endsBy (ch_rm m_m_endsBy) (ch_E g m_m_endsBy Q) 34 [some (.inr (9, 0, 0)), some (.inl (.int x1)), some (.inl (.int x2)), some (.inl (.int x3))] [] m 0 := by
  refine ch_iload_n (i := 3) d_m_endsBy_34 rfl rfl ?_
  refine ch_aload_n (i := 0) d_m_endsBy_35 rfl rfl ?_
  refine ch_get (v := .inr (9, 0, 1)) d_m_endsBy_36 fl_m_9 rfl ?_
  refine ch_iconst (v := 0) d_m_endsBy_39 (by decide) ?_
  refine ch_iald (n := 63) d_m_endsBy_40 (by decide) rfl (vp_in_nI (n := 0) (by decide) (by decide)) ?_
  refine ch_icmp_ge (tgt := 67) d_m_endsBy_41 (by decide) (fun c => ?_) (fun c => ?_)
  · replace h := h.1 c
    refine ch_iload_n (i := 2) d_m_endsBy_67 rfl rfl ?_
    exact ch_iret (ty := .int) d_m_endsBy_68 rfl rfl (Nat.le_of_ble_eq_true rfl) h
  · replace h := h.2 c
    refine ch_aload_n (i := 0) d_m_endsBy_44 rfl rfl ?_
    refine ch_iload_n (i := 3) d_m_endsBy_45 rfl rfl ?_
    refine ch_iconst (v := 2) d_m_endsBy_46 (by decide) ?_
    have b4 := h.1
    replace h := h.2
    refine ch_callV (as := [.inl (.int x3), .inl (.int 2)]) d_m_endsBy_47 lk_m_85 mi_m_of me_m_of rfl rfl rfl ⟨Nat.le_of_ble_eq_true rfl, Nat.le_of_ble_eq_true rfl⟩ (Nat.le_of_ble_eq_true rfl) ⟨Nat.le_of_ble_eq_true rfl, Nat.le_of_ble_eq_true rfl⟩ (ch_mono (ch_Ki (fun r1 m2 q3 => ?_)) (s_m_of g (fun (r_ : Int32) (m_ : ch_M) => ((m (9, 0, 1) (38 + 5 * Int32.toNatClampNeg x3 + 2)) = r_ ∧ m = m_)) (x3) (2) m ⟨b4, (vp_in_nI (n := 2) (by decide) (by decide)), ⟨rfl, rfl⟩⟩))
    obtain ⟨rfl, rfl⟩ := q3
    replace h := h
    refine ch_iconst (v := 1) d_m_endsBy_50 (by decide) ?_
    refine ch_iload_n (i := 1) d_m_endsBy_51 rfl rfl ?_
    refine ch_callS (as := [.inl (.int (m (9, 0, 1) (38 + 5 * Int32.toNatClampNeg x3 + 2))), .inl (.int 1), .inl (.int x1)]) d_m_endsBy_52 lk_m_73 ms_m_in rfl rfl ⟨Nat.le_of_ble_eq_true rfl, Nat.le_of_ble_eq_true rfl⟩ (Nat.le_of_ble_eq_true rfl) ⟨Nat.le_of_ble_eq_true rfl, Nat.le_of_ble_eq_true rfl⟩ (ch_mono (ch_Ki (fun r5 m6 q7 => ?_)) (s_m_in g (fun (r_ : Int32) (m_ : ch_M) => ((1 ≤ (m (9, 0, 1) (38 + 5 * Int32.toNatClampNeg x3 + 2)) ∧ (m (9, 0, 1) (38 + 5 * Int32.toNatClampNeg x3 + 2)) ≤ x1) ∧ 1 = r_ ∧ m = m_) ∨ ((¬ (1 ≤ (m (9, 0, 1) (38 + 5 * Int32.toNatClampNeg x3 + 2)) ∧ (m (9, 0, 1) (38 + 5 * Int32.toNatClampNeg x3 + 2)) ≤ x1)) ∧ 0 = r_ ∧ m = m_)) ((m (9, 0, 1) (38 + 5 * Int32.toNatClampNeg x3 + 2))) (1) (x1) m ⟨(fun c_ => (Or.inl ⟨c_, rfl, rfl⟩)), (fun c_ => (Or.inr ⟨c_, rfl, rfl⟩))⟩))
    rcases q7 with ⟨c_, rfl, rfl⟩ | ⟨c_, rfl, rfl⟩
    · replace h := h.1 c_
      refine ch_if_eq (tgt := 61) d_m_endsBy_55 (by decide) (fun c => absurd c (by decide)) (fun _ => ?_)
      refine ch_iinc (i := 2) (v := (x2 + 1)) d_m_endsBy_58 rfl rfl (Nat.le_of_ble_eq_true rfl) (ls' := [some (.inr (9, 0, 0)), some (.inl (.int x1)), some (.inl (.int (x2 + 1))), some (.inl (.int x3))]) rfl ?_
      refine ch_iinc (i := 3) (v := (x3 + 1)) d_m_endsBy_61 rfl rfl (Nat.le_of_ble_eq_true rfl) (ls' := [some (.inr (9, 0, 0)), some (.inl (.int x1)), some (.inl (.int (x2 + 1))), some (.inl (.int (x3 + 1)))]) rfl ?_
      refine ch_goto (tgt := 34) d_m_endsBy_64 (by decide) ?_
      exact h
    · replace h := h.2 c_
      refine ch_if_eq (tgt := 61) d_m_endsBy_55 (by decide) (fun _ => ?_) (fun c => absurd c (by decide))
      refine ch_iinc (i := 3) (v := (x3 + 1)) d_m_endsBy_61 rfl rfl (Nat.le_of_ble_eq_true rfl) (ls' := [some (.inr (9, 0, 0)), some (.inl (.int x1)), some (.inl (.int x2)), some (.inl (.int (x3 + 1)))]) rfl ?_
      refine ch_goto (tgt := 34) d_m_endsBy_64 (by decide) ?_
      exact h
theorem e_m_longestOf (g : ch_G) (Q : ch_O → ch_M → Prop) (p1 : Int32) (m : ch_M) (h : ch_J g m_m_longestOf (ch_rm m_m_longestOf) (ch_E g m_m_longestOf Q) 0 [some (.inr (9, 0, 0)), some (.inl (.int p1)), none, none, none] [] m 0) : ch_C g m_m_longestOf [.inr (9, 0, 0), .inl (.int p1)] m Q :=
  ch_enter mf_m_longestOf (by intro v hv; simp only [List.mem_cons, List.not_mem_nil, or_false] at hv; rcases hv with rfl | rfl <;> rfl) (Nat.le_of_ble_eq_true rfl) h
set_option maxHeartbeats 1600000 in
theorem g_m_longestOf_0 (g : ch_G) (Q : ch_O → ch_M → Prop) (p1 : Int32) (m : ch_M) (h : ch_J g m_m_longestOf (ch_rm m_m_longestOf) (ch_E g m_m_longestOf Q) 7 [some (.inr (9, 0, 0)), some (.inl (.int p1)), some (.inl (.int 0)), some (.inl (.int 0)), some (.inl (.int 0))] [] m 0) : ch_J g m_m_longestOf (ch_rm m_m_longestOf) (ch_E g m_m_longestOf Q) 0 [some (.inr (9, 0, 0)), some (.inl (.int p1)), none, none, none] [] m 0 := by
  refine ch_iconst (v := 0) d_m_longestOf_0 (by decide) ?_
  refine ch_istore_n (i := 2) d_m_longestOf_1 rfl (Nat.le_of_ble_eq_true rfl) (ls' := [some (.inr (9, 0, 0)), some (.inl (.int p1)), some (.inl (.int 0)), none, none]) rfl ?_
  refine ch_iconst (v := 0) d_m_longestOf_2 (by decide) ?_
  refine ch_istore_n (i := 3) d_m_longestOf_3 rfl (Nat.le_of_ble_eq_true rfl) (ls' := [some (.inr (9, 0, 0)), some (.inl (.int p1)), some (.inl (.int 0)), some (.inl (.int 0)), none]) rfl ?_
  refine ch_iconst (v := 0) d_m_longestOf_4 (by decide) ?_
  refine ch_istore (i := 4) d_m_longestOf_5 (Nat.le_of_ble_eq_true rfl) (ls' := [some (.inr (9, 0, 0)), some (.inl (.int p1)), some (.inl (.int 0)), some (.inl (.int 0)), some (.inl (.int 0))]) rfl ?_
  exact h
set_option maxHeartbeats 1600000 in
theorem g_m_longestOf_7 (g : ch_G) (Q : ch_O → ch_M → Prop) (x1 : Int32) (x2 : Int32) (x3 : Int32) (x4 : Int32) (m : ch_M) (h : ((12 ≤ x4 → Q (.inl (some (.inl (.int x2)))) m) ∧ (¬ 12 ≤ x4 → (vp_in x4 12) ∧ (((¬ (m (9, 0, 1) (14 + 2 * Int32.toNatClampNeg x4) - 1) = x1 → ch_J g m_m_longestOf (ch_rm m_m_longestOf) (ch_E g m_m_longestOf Q) 7 [some (.inr (9, 0, 0)), some (.inl (.int x1)), some (.inl (.int (if x2 < 0 then 0 else x2))), some (.inl (.int 0)), some (.inl (.int (x4 + 1)))] [] m 0) ∧ ((m (9, 0, 1) (14 + 2 * Int32.toNatClampNeg x4) - 1) = x1 → ch_J g m_m_longestOf (ch_rm m_m_longestOf) (ch_E g m_m_longestOf Q) 7 [some (.inr (9, 0, 0)), some (.inl (.int x1)), some (.inl (.int (if x2 < (x3 + 1) then (x3 + 1) else x2))), some (.inl (.int (x3 + 1))), some (.inl (.int (x4 + 1)))] [] m 0)))))) : ch_J g m_m_longestOf (ch_rm m_m_longestOf) (ch_E g m_m_longestOf Q) 7 [some (.inr (9, 0, 0)), some (.inl (.int x1)), some (.inl (.int x2)), some (.inl (.int x3)), some (.inl (.int x4))] [] m 0 := by
  refine ch_iload d_m_longestOf_7 rfl ?_
  refine ch_bipush (v := 12) d_m_longestOf_9 (by decide) ?_
  refine ch_icmp_ge (tgt := 44) d_m_longestOf_11 (by decide) (fun c => ?_) (fun c => ?_)
  · replace h := h.1 c
    refine ch_iload_n (i := 2) d_m_longestOf_44 rfl rfl ?_
    exact ch_iret (ty := .int) d_m_longestOf_45 rfl rfl (Nat.le_of_ble_eq_true rfl) h
  · replace h := h.2 c
    refine ch_aload_n (i := 0) d_m_longestOf_14 rfl rfl ?_
    refine ch_iload d_m_longestOf_15 rfl ?_
    have b4 := h.1
    replace h := h.2
    refine ch_callV (as := [.inl (.int x4)]) d_m_longestOf_17 lk_m_109 mi_m_owner me_m_owner rfl rfl rfl ⟨Nat.le_of_ble_eq_true rfl, Nat.le_of_ble_eq_true rfl⟩ (Nat.le_of_ble_eq_true rfl) ⟨Nat.le_of_ble_eq_true rfl, Nat.le_of_ble_eq_true rfl⟩ (ch_mono (ch_Ki (fun r1 m2 q3 => ?_)) (s_m_owner g (fun (r_ : Int32) (m_ : ch_M) => ((m (9, 0, 1) (14 + 2 * Int32.toNatClampNeg x4) - 1) = r_ ∧ m = m_)) (x4) m ⟨b4, ⟨rfl, rfl⟩⟩))
    obtain ⟨rfl, rfl⟩ := q3
    replace h := h
    refine ch_iload_n (i := 1) d_m_longestOf_20 rfl rfl ?_
    refine ch_icmp_ne (tgt := 30) d_m_longestOf_21 (by decide) (fun c => ?_) (fun c => ?_)
    · replace h := h.1 c
      refine ch_iconst (v := 0) d_m_longestOf_30 (by decide) ?_
      refine ch_istore_n (i := 3) d_m_longestOf_31 rfl (Nat.le_of_ble_eq_true rfl) (ls' := [some (.inr (9, 0, 0)), some (.inl (.int x1)), some (.inl (.int x2)), some (.inl (.int 0)), some (.inl (.int x4))]) rfl ?_
      refine ch_iload_n (i := 2) d_m_longestOf_32 rfl rfl ?_
      refine ch_iload_n (i := 3) d_m_longestOf_33 rfl rfl ?_
      refine ch_max d_m_longestOf_34 lk_m_197 ⟨Nat.le_of_ble_eq_true rfl, Nat.le_of_ble_eq_true rfl⟩ ⟨Nat.le_of_ble_eq_true rfl, Nat.le_of_ble_eq_true rfl⟩ (Nat.le_of_ble_eq_true rfl) ?_
      refine ch_istore_n (i := 2) d_m_longestOf_37 rfl (Nat.le_of_ble_eq_true rfl) (ls' := [some (.inr (9, 0, 0)), some (.inl (.int x1)), some (.inl (.int (if x2 < 0 then 0 else x2))), some (.inl (.int 0)), some (.inl (.int x4))]) rfl ?_
      refine ch_iinc (i := 4) (v := (x4 + 1)) d_m_longestOf_38 rfl rfl (Nat.le_of_ble_eq_true rfl) (ls' := [some (.inr (9, 0, 0)), some (.inl (.int x1)), some (.inl (.int (if x2 < 0 then 0 else x2))), some (.inl (.int 0)), some (.inl (.int (x4 + 1)))]) rfl ?_
      refine ch_goto (tgt := 7) d_m_longestOf_41 (by decide) ?_
      exact h
    · replace h := h.2 c
      refine ch_iload_n (i := 3) d_m_longestOf_24 rfl rfl ?_
      refine ch_iconst (v := 1) d_m_longestOf_25 (by decide) ?_
      refine ch_iadd d_m_longestOf_26 ?_
      refine ch_goto (tgt := 31) d_m_longestOf_27 (by decide) ?_
      refine ch_istore_n (i := 3) d_m_longestOf_31 rfl (Nat.le_of_ble_eq_true rfl) (ls' := [some (.inr (9, 0, 0)), some (.inl (.int x1)), some (.inl (.int x2)), some (.inl (.int (x3 + 1))), some (.inl (.int x4))]) rfl ?_
      refine ch_iload_n (i := 2) d_m_longestOf_32 rfl rfl ?_
      refine ch_iload_n (i := 3) d_m_longestOf_33 rfl rfl ?_
      refine ch_max d_m_longestOf_34 lk_m_197 ⟨Nat.le_of_ble_eq_true rfl, Nat.le_of_ble_eq_true rfl⟩ ⟨Nat.le_of_ble_eq_true rfl, Nat.le_of_ble_eq_true rfl⟩ (Nat.le_of_ble_eq_true rfl) ?_
      refine ch_istore_n (i := 2) d_m_longestOf_37 rfl (Nat.le_of_ble_eq_true rfl) (ls' := [some (.inr (9, 0, 0)), some (.inl (.int x1)), some (.inl (.int (if x2 < (x3 + 1) then (x3 + 1) else x2))), some (.inl (.int (x3 + 1))), some (.inl (.int x4))]) rfl ?_
      refine ch_iinc (i := 4) (v := (x4 + 1)) d_m_longestOf_38 rfl rfl (Nat.le_of_ble_eq_true rfl) (ls' := [some (.inr (9, 0, 0)), some (.inl (.int x1)), some (.inl (.int (if x2 < (x3 + 1) then (x3 + 1) else x2))), some (.inl (.int (x3 + 1))), some (.inl (.int (x4 + 1)))]) rfl ?_
      refine ch_goto (tgt := 7) d_m_longestOf_41 (by decide) ?_
      exact h
theorem e_m_isLine (g : ch_G) (Q : ch_O → ch_M → Prop) (p1 : Int32) (p2 : Int32) (m : ch_M) (h : ch_J g m_m_isLine (ch_rm m_m_isLine) (ch_E g m_m_isLine Q) 0 [some (.inr (9, 0, 0)), some (.inl (.int p1)), some (.inl (.int p2))] [] m 0) : ch_C g m_m_isLine [.inr (9, 0, 0), .inl (.int p1), .inl (.int p2)] m Q :=
  ch_enter mf_m_isLine (by intro v hv; simp only [List.mem_cons, List.not_mem_nil, or_false] at hv; rcases hv with rfl | rfl | rfl <;> rfl) (Nat.le_of_ble_eq_true rfl) h
set_option maxHeartbeats 1600000 in
theorem g_m_isLine_0 (g : ch_G) (Q : ch_O → ch_M → Prop) (p1 : Int32) (p2 : Int32) (m : ch_M) (h : ((12 ≤ p2 → Q (.inl (some (.inl (.int 0)))) m) ∧ (¬ 12 ≤ p2 → (vp_in p2 12) ∧ ((((m (9, 0, 1) (14 + 2 * Int32.toNatClampNeg p2) - 1) < 0 → Q (.inl (some (.inl (.int 0)))) m) ∧ (¬ (m (9, 0, 1) (14 + 2 * Int32.toNatClampNeg p2) - 1) < 0 → ((((m (9, 0, 1) (14 + 2 * Int32.toNatClampNeg p2) - 1) = p1 → Q (.inl (some (.inl (.int 0)))) m) ∧ (¬ (m (9, 0, 1) (14 + 2 * Int32.toNatClampNeg p2) - 1) = p1 → Q (.inl (some (.inl (.int 1)))) m))))))))) : ch_J g m_m_isLine (ch_rm m_m_isLine) (ch_E g m_m_isLine Q) 0 [some (.inr (9, 0, 0)), some (.inl (.int p1)), some (.inl (.int p2))] [] m 0 := by
  refine ch_iload_n (i := 2) d_m_isLine_0 rfl rfl ?_
  refine ch_bipush (v := 12) d_m_isLine_1 (by decide) ?_
  refine ch_icmp_ge (tgt := 27) d_m_isLine_3 (by decide) (fun c => ?_) (fun c => ?_)
  · replace h := h.1 c
    refine ch_iconst (v := 0) d_m_isLine_27 (by decide) ?_
    exact ch_iret (ty := .boolean) d_m_isLine_28 rfl rfl (Nat.le_of_ble_eq_true rfl) h
  · replace h := h.2 c
    refine ch_aload_n (i := 0) d_m_isLine_6 rfl rfl ?_
    refine ch_iload_n (i := 2) d_m_isLine_7 rfl rfl ?_
    have b4 := h.1
    replace h := h.2
    refine ch_callV (as := [.inl (.int p2)]) d_m_isLine_8 lk_m_109 mi_m_owner me_m_owner rfl rfl rfl ⟨Nat.le_of_ble_eq_true rfl, Nat.le_of_ble_eq_true rfl⟩ (Nat.le_of_ble_eq_true rfl) ⟨Nat.le_of_ble_eq_true rfl, Nat.le_of_ble_eq_true rfl⟩ (ch_mono (ch_Ki (fun r1 m2 q3 => ?_)) (s_m_owner g (fun (r_ : Int32) (m_ : ch_M) => ((m (9, 0, 1) (14 + 2 * Int32.toNatClampNeg p2) - 1) = r_ ∧ m = m_)) (p2) m ⟨b4, ⟨rfl, rfl⟩⟩))
    obtain ⟨rfl, rfl⟩ := q3
    replace h := h
    refine ch_if_lt (tgt := 27) d_m_isLine_11 (by decide) (fun c => ?_) (fun c => ?_)
    · replace h := h.1 c
      refine ch_iconst (v := 0) d_m_isLine_27 (by decide) ?_
      exact ch_iret (ty := .boolean) d_m_isLine_28 rfl rfl (Nat.le_of_ble_eq_true rfl) h
    · replace h := h.2 c
      refine ch_aload_n (i := 0) d_m_isLine_14 rfl rfl ?_
      refine ch_iload_n (i := 2) d_m_isLine_15 rfl rfl ?_
      refine ch_callV (as := [.inl (.int p2)]) d_m_isLine_16 lk_m_109 mi_m_owner me_m_owner rfl rfl rfl ⟨Nat.le_of_ble_eq_true rfl, Nat.le_of_ble_eq_true rfl⟩ (Nat.le_of_ble_eq_true rfl) ⟨Nat.le_of_ble_eq_true rfl, Nat.le_of_ble_eq_true rfl⟩ (ch_mono (ch_Ki (fun r5 m6 q7 => ?_)) (s_m_owner g (fun (r_ : Int32) (m_ : ch_M) => ((m (9, 0, 1) (14 + 2 * Int32.toNatClampNeg p2) - 1) = r_ ∧ m = m_)) (p2) m ⟨b4, ⟨rfl, rfl⟩⟩))
      obtain ⟨rfl, rfl⟩ := q7
      replace h := h
      refine ch_iload_n (i := 1) d_m_isLine_19 rfl rfl ?_
      refine ch_icmp_eq (tgt := 27) d_m_isLine_20 (by decide) (fun c => ?_) (fun c => ?_)
      · replace h := h.1 c
        refine ch_iconst (v := 0) d_m_isLine_27 (by decide) ?_
        exact ch_iret (ty := .boolean) d_m_isLine_28 rfl rfl (Nat.le_of_ble_eq_true rfl) h
      · replace h := h.2 c
        refine ch_iconst (v := 1) d_m_isLine_23 (by decide) ?_
        refine ch_goto (tgt := 28) d_m_isLine_24 (by decide) ?_
        exact ch_iret (ty := .boolean) d_m_isLine_28 rfl rfl (Nat.le_of_ble_eq_true rfl) h
theorem e_m_where (g : ch_G) (Q : ch_O → ch_M → Prop)  (m : ch_M) (h : ch_J g m_m_where (ch_rm m_m_where) (ch_E g m_m_where Q) 0 [some (.inr (9, 0, 0)), none, none] [] m 0) : ch_C g m_m_where [.inr (9, 0, 0)] m Q :=
  ch_enter mf_m_where (by intro v hv; simp only [List.mem_cons, List.not_mem_nil, or_false] at hv; rcases hv with rfl <;> rfl) (Nat.le_of_ble_eq_true rfl) h
set_option maxHeartbeats 1600000 in
theorem g_m_where_0 (g : ch_G) (Q : ch_O → ch_M → Prop)  (m : ch_M) (h : ch_J g m_m_where (ch_rm m_m_where) (ch_E g m_m_where Q) 4 [some (.inr (9, 0, 0)), some (.inl (.int (-1))), some (.inl (.int 0))] [] m 0) : ch_J g m_m_where (ch_rm m_m_where) (ch_E g m_m_where Q) 0 [some (.inr (9, 0, 0)), none, none] [] m 0 := by
  refine ch_iconst (v := (-1)) d_m_where_0 (by decide) ?_
  refine ch_istore_n (i := 1) d_m_where_1 rfl (Nat.le_of_ble_eq_true rfl) (ls' := [some (.inr (9, 0, 0)), some (.inl (.int (-1))), none]) rfl ?_
  refine ch_iconst (v := 0) d_m_where_2 (by decide) ?_
  refine ch_istore_n (i := 2) d_m_where_3 rfl (Nat.le_of_ble_eq_true rfl) (ls' := [some (.inr (9, 0, 0)), some (.inl (.int (-1))), some (.inl (.int 0))]) rfl ?_
  exact h
set_option maxHeartbeats 1600000 in
theorem g_m_where_4 (g : ch_G) (Q : ch_O → ch_M → Prop) (x1 : Int32) (x2 : Int32) (m : ch_M) (h : (((m (9, 0, 0) 21) ≤ x2 → Q (.inl (some (.inl (.int x1)))) m) ∧ (¬ (m (9, 0, 0) 21) ≤ x2 → ((x1 < 11 → (vp_in x2 12) ∧ ch_J g m_m_where (ch_rm m_m_where) (ch_E g m_m_where Q) 4 [some (.inr (9, 0, 0)), some (.inl (.int (x1 + (m (9, 0, 9) (Int32.toNatClampNeg x2))))), some (.inl (.int (x2 + 1)))] [] m 0) ∧ (¬ x1 < 11 → Q (.inl (some (.inl (.int 12)))) m))))) : ch_J g m_m_where (ch_rm m_m_where) (ch_E g m_m_where Q) 4 [some (.inr (9, 0, 0)), some (.inl (.int x1)), some (.inl (.int x2))] [] m 0 := by
  refine ch_iload_n (i := 2) d_m_where_4 rfl rfl ?_
  refine ch_aload_n (i := 0) d_m_where_5 rfl rfl ?_
  refine ch_get (v := .inl (.int (m (9, 0, 0) 21))) d_m_where_6 fl_m_126 rfl ?_
  refine ch_icmp_ge (tgt := 36) d_m_where_9 (by decide) (fun c => ?_) (fun c => ?_)
  · replace h := h.1 c
    refine ch_iload_n (i := 1) d_m_where_36 rfl rfl ?_
    exact ch_iret (ty := .int) d_m_where_37 rfl rfl (Nat.le_of_ble_eq_true rfl) h
  · replace h := h.2 c
    refine ch_iload_n (i := 1) d_m_where_12 rfl rfl ?_
    refine ch_bipush (v := 11) d_m_where_13 (by decide) ?_
    refine ch_icmp_lt (tgt := 21) d_m_where_15 (by decide) (fun c => ?_) (fun c => ?_)
    · replace h := h.1 c
      refine ch_iload_n (i := 1) d_m_where_21 rfl rfl ?_
      refine ch_aload_n (i := 0) d_m_where_22 rfl rfl ?_
      refine ch_get (v := .inr (9, 0, 9)) d_m_where_23 fl_m_39 rfl ?_
      refine ch_iload_n (i := 2) d_m_where_26 rfl rfl ?_
      have b1 := h.1
      replace h := h.2
      refine ch_iald (n := 12) d_m_where_27 (by decide) rfl b1 ?_
      refine ch_iadd d_m_where_28 ?_
      refine ch_istore_n (i := 1) d_m_where_29 rfl (Nat.le_of_ble_eq_true rfl) (ls' := [some (.inr (9, 0, 0)), some (.inl (.int (x1 + (m (9, 0, 9) (Int32.toNatClampNeg x2))))), some (.inl (.int x2))]) rfl ?_
      refine ch_iinc (i := 2) (v := (x2 + 1)) d_m_where_30 rfl rfl (Nat.le_of_ble_eq_true rfl) (ls' := [some (.inr (9, 0, 0)), some (.inl (.int (x1 + (m (9, 0, 9) (Int32.toNatClampNeg x2))))), some (.inl (.int (x2 + 1)))]) rfl ?_
      refine ch_goto (tgt := 4) d_m_where_33 (by decide) ?_
      exact h
    · replace h := h.2 c
      refine ch_bipush (v := 12) d_m_where_18 (by decide) ?_
      exact ch_iret (ty := .int) d_m_where_20 rfl rfl (Nat.le_of_ble_eq_true rfl) h
theorem e_m_isOver (g : ch_G) (Q : ch_O → ch_M → Prop)  (m : ch_M) (h : ch_J g m_m_isOver (ch_rm m_m_isOver) (ch_E g m_m_isOver Q) 0 [some (.inr (9, 0, 0)), none, none] [] m 0) : ch_C g m_m_isOver [.inr (9, 0, 0)] m Q :=
  ch_enter mf_m_isOver (by intro v hv; simp only [List.mem_cons, List.not_mem_nil, or_false] at hv; rcases hv with rfl <;> rfl) (Nat.le_of_ble_eq_true rfl) h
set_option maxHeartbeats 1600000 in
theorem g_m_isOver_0 (g : ch_G) (Q : ch_O → ch_M → Prop)  (m : ch_M) (h : ch_J g m_m_isOver (ch_rm m_m_isOver) (ch_E g m_m_isOver Q) 4 [some (.inr (9, 0, 0)), some (.inl (.int (-1))), some (.inl (.int 0))] [] m 0) : ch_J g m_m_isOver (ch_rm m_m_isOver) (ch_E g m_m_isOver Q) 0 [some (.inr (9, 0, 0)), none, none] [] m 0 := by
  refine ch_iconst (v := (-1)) d_m_isOver_0 (by decide) ?_
  refine ch_istore_n (i := 1) d_m_isOver_1 rfl (Nat.le_of_ble_eq_true rfl) (ls' := [some (.inr (9, 0, 0)), some (.inl (.int (-1))), none]) rfl ?_
  refine ch_iconst (v := 0) d_m_isOver_2 (by decide) ?_
  refine ch_istore_n (i := 2) d_m_isOver_3 rfl (Nat.le_of_ble_eq_true rfl) (ls' := [some (.inr (9, 0, 0)), some (.inl (.int (-1))), some (.inl (.int 0))]) rfl ?_
  exact h
set_option maxHeartbeats 1600000 in
theorem g_m_isOver_4 (g : ch_G) (Q : ch_O → ch_M → Prop) (x1 : Int32) (x2 : Int32) (m : ch_M) (h : (((m (9, 0, 0) 21) ≤ x2 → ((x1 < 11 → Q (.inl (some (.inl (.int 0)))) m) ∧ (¬ x1 < 11 → Q (.inl (some (.inl (.int 1)))) m))) ∧ (¬ (m (9, 0, 0) 21) ≤ x2 → ((x1 < 11 → (vp_in x2 12) ∧ ch_J g m_m_isOver (ch_rm m_m_isOver) (ch_E g m_m_isOver Q) 4 [some (.inr (9, 0, 0)), some (.inl (.int (x1 + (m (9, 0, 9) (Int32.toNatClampNeg x2))))), some (.inl (.int (x2 + 1)))] [] m 0) ∧ (¬ x1 < 11 → Q (.inl (some (.inl (.int 0)))) m))))) : ch_J g m_m_isOver (ch_rm m_m_isOver) (ch_E g m_m_isOver Q) 4 [some (.inr (9, 0, 0)), some (.inl (.int x1)), some (.inl (.int x2))] [] m 0 := by
  refine ch_iload_n (i := 2) d_m_isOver_4 rfl rfl ?_
  refine ch_aload_n (i := 0) d_m_isOver_5 rfl rfl ?_
  refine ch_get (v := .inl (.int (m (9, 0, 0) 21))) d_m_isOver_6 fl_m_126 rfl ?_
  refine ch_icmp_ge (tgt := 35) d_m_isOver_9 (by decide) (fun c => ?_) (fun c => ?_)
  · replace h := h.1 c
    refine ch_iload_n (i := 1) d_m_isOver_35 rfl rfl ?_
    refine ch_bipush (v := 11) d_m_isOver_36 (by decide) ?_
    refine ch_icmp_lt (tgt := 45) d_m_isOver_38 (by decide) (fun c => ?_) (fun c => ?_)
    · replace h := h.1 c
      refine ch_iconst (v := 0) d_m_isOver_45 (by decide) ?_
      exact ch_iret (ty := .boolean) d_m_isOver_46 rfl rfl (Nat.le_of_ble_eq_true rfl) h
    · replace h := h.2 c
      refine ch_iconst (v := 1) d_m_isOver_41 (by decide) ?_
      refine ch_goto (tgt := 46) d_m_isOver_42 (by decide) ?_
      exact ch_iret (ty := .boolean) d_m_isOver_46 rfl rfl (Nat.le_of_ble_eq_true rfl) h
  · replace h := h.2 c
    refine ch_iload_n (i := 1) d_m_isOver_12 rfl rfl ?_
    refine ch_bipush (v := 11) d_m_isOver_13 (by decide) ?_
    refine ch_icmp_lt (tgt := 20) d_m_isOver_15 (by decide) (fun c => ?_) (fun c => ?_)
    · replace h := h.1 c
      refine ch_iload_n (i := 1) d_m_isOver_20 rfl rfl ?_
      refine ch_aload_n (i := 0) d_m_isOver_21 rfl rfl ?_
      refine ch_get (v := .inr (9, 0, 9)) d_m_isOver_22 fl_m_39 rfl ?_
      refine ch_iload_n (i := 2) d_m_isOver_25 rfl rfl ?_
      have b1 := h.1
      replace h := h.2
      refine ch_iald (n := 12) d_m_isOver_26 (by decide) rfl b1 ?_
      refine ch_iadd d_m_isOver_27 ?_
      refine ch_istore_n (i := 1) d_m_isOver_28 rfl (Nat.le_of_ble_eq_true rfl) (ls' := [some (.inr (9, 0, 0)), some (.inl (.int (x1 + (m (9, 0, 9) (Int32.toNatClampNeg x2))))), some (.inl (.int x2))]) rfl ?_
      refine ch_iinc (i := 2) (v := (x2 + 1)) d_m_isOver_29 rfl rfl (Nat.le_of_ble_eq_true rfl) (ls' := [some (.inr (9, 0, 0)), some (.inl (.int (x1 + (m (9, 0, 9) (Int32.toNatClampNeg x2))))), some (.inl (.int (x2 + 1)))]) rfl ?_
      refine ch_goto (tgt := 4) d_m_isOver_32 (by decide) ?_
      exact h
    · replace h := h.2 c
      refine ch_iconst (v := 0) d_m_isOver_18 (by decide) ?_
      exact ch_iret (ty := .boolean) d_m_isOver_19 rfl rfl (Nat.le_of_ble_eq_true rfl) h
