theorem e_m_treadsBy (g : ch_G) (Q : ch_O → ch_M → Prop) (p1 : Int32) (m : ch_M) (h : ch_J g m_m_treadsBy (ch_rm m_m_treadsBy) (ch_E g m_m_treadsBy Q) 0 [some (.inr (9, 0, 0)), some (.inl (.int p1)), none, none, none] [] m 0) : ch_C g m_m_treadsBy [.inr (9, 0, 0), .inl (.int p1)] m Q :=
  ch_enter mf_m_treadsBy (by intro v hv; simp only [List.mem_cons, List.not_mem_nil, or_false] at hv; rcases hv with rfl | rfl <;> rfl) (Nat.le_of_ble_eq_true rfl) h
set_option maxHeartbeats 1600000 in
theorem g_m_treadsBy_0 (g : ch_G) (Q : ch_O → ch_M → Prop) (p1 : Int32) (m : ch_M) (h : ch_J g m_m_treadsBy (ch_rm m_m_treadsBy) (ch_E g m_m_treadsBy Q) 7 [some (.inr (9, 0, 0)), some (.inl (.int p1)), some (.inl (.int 0)), some (.inl (.int (-1))), some (.inl (.int 0))] [] m 0) : ch_J g m_m_treadsBy (ch_rm m_m_treadsBy) (ch_E g m_m_treadsBy Q) 0 [some (.inr (9, 0, 0)), some (.inl (.int p1)), none, none, none] [] m 0 := by
  refine ch_iconst (v := 0) d_m_treadsBy_0 (by decide) ?_
  refine ch_istore_n (i := 2) d_m_treadsBy_1 rfl (Nat.le_of_ble_eq_true rfl) (ls' := [some (.inr (9, 0, 0)), some (.inl (.int p1)), some (.inl (.int 0)), none, none]) rfl ?_
  refine ch_iconst (v := (-1)) d_m_treadsBy_2 (by decide) ?_
  refine ch_istore_n (i := 3) d_m_treadsBy_3 rfl (Nat.le_of_ble_eq_true rfl) (ls' := [some (.inr (9, 0, 0)), some (.inl (.int p1)), some (.inl (.int 0)), some (.inl (.int (-1))), none]) rfl ?_
  refine ch_iconst (v := 0) d_m_treadsBy_4 (by decide) ?_
  refine ch_istore (i := 4) d_m_treadsBy_5 (Nat.le_of_ble_eq_true rfl) (ls' := [some (.inr (9, 0, 0)), some (.inl (.int p1)), some (.inl (.int 0)), some (.inl (.int (-1))), some (.inl (.int 0))]) rfl ?_
  exact h
set_option maxHeartbeats 1600000 in
theorem g_m_treadsBy_7 (g : ch_G) (Q : ch_O → ch_M → Prop) (x1 : Int32) (x2 : Int32) (x3 : Int32) (x4 : Int32) (m : ch_M) (h : (((m (9, 0, 0) 21) ≤ x4 → Q (.inl (some (.inl (.int x2)))) m) ∧ (¬ (m (9, 0, 0) 21) ≤ x4 → (vp_in x4 12) ∧ (∃ Y_2 : ch_B, (m_rel Y_2 (m (9, 0, 1))) ∧ (∀ i_, i_ < 12 → Y_2 1 i_ = -1 ∨ vp_in (Y_2 1 i_) 5) ∧ (¬ (x3 + (m (9, 0, 9) (Int32.toNatClampNeg x4))) < 0) ∧ (((ch_line Y_2 x1 (x3 + (m (9, 0, 9) (Int32.toNatClampNeg x4)))) → ch_J g m_m_treadsBy (ch_rm m_m_treadsBy) (ch_E g m_m_treadsBy Q) 7 [some (.inr (9, 0, 0)), some (.inl (.int x1)), some (.inl (.int (x2 + 1))), some (.inl (.int (x3 + (m (9, 0, 9) (Int32.toNatClampNeg x4))))), some (.inl (.int (x4 + 1)))] [] m 0) ∧ ((¬ ch_line Y_2 x1 (x3 + (m (9, 0, 9) (Int32.toNatClampNeg x4)))) → ch_J g m_m_treadsBy (ch_rm m_m_treadsBy) (ch_E g m_m_treadsBy Q) 7 [some (.inr (9, 0, 0)), some (.inl (.int x1)), some (.inl (.int x2)), some (.inl (.int (x3 + (m (9, 0, 9) (Int32.toNatClampNeg x4))))), some (.inl (.int (x4 + 1)))] [] m 0)))))) : ch_J g m_m_treadsBy (ch_rm m_m_treadsBy) (ch_E g m_m_treadsBy Q) 7 [some (.inr (9, 0, 0)), some (.inl (.int x1)), some (.inl (.int x2)), some (.inl (.int x3)), some (.inl (.int x4))] [] m 0 := by
  refine ch_iload d_m_treadsBy_7 rfl ?_
  refine ch_aload_n (i := 0) d_m_treadsBy_9 rfl rfl ?_
  refine ch_get (v := .inl (.int (m (9, 0, 0) 21))) d_m_treadsBy_10 fl_m_126 rfl ?_
  refine ch_icmp_ge (tgt := 44) d_m_treadsBy_13 (by decide) (fun c => ?_) (fun c => ?_)
  · replace h := h.1 c
    refine ch_iload_n (i := 2) d_m_treadsBy_44 rfl rfl ?_
    exact ch_iret (ty := .int) d_m_treadsBy_45 rfl rfl (Nat.le_of_ble_eq_true rfl) h
  · replace h := h.2 c
    refine ch_iload_n (i := 3) d_m_treadsBy_16 rfl rfl ?_
    refine ch_aload_n (i := 0) d_m_treadsBy_17 rfl rfl ?_
    refine ch_get (v := .inr (9, 0, 9)) d_m_treadsBy_18 fl_m_39 rfl ?_
    refine ch_iload d_m_treadsBy_21 rfl ?_
    have b1 := h.1
    replace h := h.2
    refine ch_iald (n := 12) d_m_treadsBy_23 (by decide) rfl b1 ?_
    refine ch_iadd d_m_treadsBy_24 ?_
    refine ch_istore_n (i := 3) d_m_treadsBy_25 rfl (Nat.le_of_ble_eq_true rfl) (ls' := [some (.inr (9, 0, 0)), some (.inl (.int x1)), some (.inl (.int x2)), some (.inl (.int (x3 + (m (9, 0, 9) (Int32.toNatClampNeg x4))))), some (.inl (.int x4))]) rfl ?_
    refine ch_aload_n (i := 0) d_m_treadsBy_26 rfl rfl ?_
    refine ch_iload_n (i := 1) d_m_treadsBy_27 rfl rfl ?_
    refine ch_iload_n (i := 3) d_m_treadsBy_28 rfl rfl ?_
    obtain ⟨Y_2, h⟩ := h
    have b6 := h.1
    replace h := h.2
    have b7 := h.1
    replace h := h.2
    have b8 := h.1
    replace h := h.2
    refine ch_callV (as := [.inl (.int x1), .inl (.int (x3 + (m (9, 0, 9) (Int32.toNatClampNeg x4))))]) d_m_treadsBy_29 lk_m_129 mi_m_isLine me_m_isLine rfl rfl rfl ⟨Nat.le_of_ble_eq_true rfl, Nat.le_of_ble_eq_true rfl⟩ (Nat.le_of_ble_eq_true rfl) ⟨Nat.le_of_ble_eq_true rfl, Nat.le_of_ble_eq_true rfl⟩ (ch_mono (ch_Ki (fun r3 m4 q5 => ?_)) (s_m_isLine g (fun (r_ : Int32) (m_ : ch_M) => ((ch_line Y_2 x1 (x3 + (m (9, 0, 9) (Int32.toNatClampNeg x4)))) ∧ 1 = r_ ∧ m = m_) ∨ ((¬ ch_line Y_2 x1 (x3 + (m (9, 0, 9) (Int32.toNatClampNeg x4)))) ∧ 0 = r_ ∧ m = m_)) (Y_2) (x1) ((x3 + (m (9, 0, 9) (Int32.toNatClampNeg x4)))) m ⟨b6, b7, b8, (fun c_ => (Or.inl ⟨c_, rfl, rfl⟩)), (fun c_ => (Or.inr ⟨c_, rfl, rfl⟩))⟩))
    rcases q5 with ⟨c_, rfl, rfl⟩ | ⟨c_, rfl, rfl⟩
    · replace h := h.1 c_
      refine ch_if_eq (tgt := 38) d_m_treadsBy_32 (by decide) (fun c => absurd c (by decide)) (fun _ => ?_)
      refine ch_iinc (i := 2) (v := (x2 + 1)) d_m_treadsBy_35 rfl rfl (Nat.le_of_ble_eq_true rfl) (ls' := [some (.inr (9, 0, 0)), some (.inl (.int x1)), some (.inl (.int (x2 + 1))), some (.inl (.int (x3 + (m (9, 0, 9) (Int32.toNatClampNeg x4))))), some (.inl (.int x4))]) rfl ?_
      refine ch_iinc (i := 4) (v := (x4 + 1)) d_m_treadsBy_38 rfl rfl (Nat.le_of_ble_eq_true rfl) (ls' := [some (.inr (9, 0, 0)), some (.inl (.int x1)), some (.inl (.int (x2 + 1))), some (.inl (.int (x3 + (m (9, 0, 9) (Int32.toNatClampNeg x4))))), some (.inl (.int (x4 + 1)))]) rfl ?_
      refine ch_goto (tgt := 7) d_m_treadsBy_41 (by decide) ?_
      exact h
    · replace h := h.2 c_
      refine ch_if_eq (tgt := 38) d_m_treadsBy_32 (by decide) (fun _ => ?_) (fun c => absurd c (by decide))
      refine ch_iinc (i := 4) (v := (x4 + 1)) d_m_treadsBy_38 rfl rfl (Nat.le_of_ble_eq_true rfl) (ls' := [some (.inr (9, 0, 0)), some (.inl (.int x1)), some (.inl (.int x2)), some (.inl (.int (x3 + (m (9, 0, 9) (Int32.toNatClampNeg x4))))), some (.inl (.int (x4 + 1)))]) rfl ?_
      refine ch_goto (tgt := 7) d_m_treadsBy_41 (by decide) ?_
      exact h
theorem e_m_childOf (g : ch_G) (Q : ch_O → ch_M → Prop) (p1 : Int32) (p2 : Int32) (m : ch_M) (h : ch_J g m_m_childOf (ch_rm m_m_childOf) (ch_E g m_m_childOf Q) 0 [some (.inr (9, 0, 0)), some (.inl (.int p1)), some (.inl (.int p2)), none, none] [] m 0) : ch_C g m_m_childOf [.inr (9, 0, 0), .inl (.int p1), .inl (.int p2)] m Q :=
  ch_enter mf_m_childOf (by intro v hv; simp only [List.mem_cons, List.not_mem_nil, or_false] at hv; rcases hv with rfl | rfl | rfl <;> rfl) (Nat.le_of_ble_eq_true rfl) h
set_option maxHeartbeats 1600000 in
theorem g_m_childOf_0 (g : ch_G) (Q : ch_O → ch_M → Prop) (p1 : Int32) (p2 : Int32) (m : ch_M) (h : (∀ m1 : ch_M, m1 = ch_wr m (9, 0, 0) 19 0 → (((0 ≤ p1 ∧ p1 ≤ m1 (9, 0, 1) 0 - 1) → ((p2 = 0 → (vp_in p1 5) ∧ (vp_in p2 5) ∧ (Q (.inl (some (.inl (.int (m1 (9, 0, 1) (38 + 5 * Int32.toNatClampNeg p1 + Int32.toNatClampNeg p2)))))) m1)) ∧ (p2 = 1 → (vp_in p1 5) ∧ (vp_in p2 5) ∧ (Q (.inl (some (.inl (.int (m1 (9, 0, 1) (38 + 5 * Int32.toNatClampNeg p1 + Int32.toNatClampNeg p2)))))) m1)) ∧ (p2 = 2 → (vp_in p1 5) ∧ (vp_in p2 5) ∧ (Q (.inl (some (.inl (.int (m1 (9, 0, 1) (38 + 5 * Int32.toNatClampNeg p1 + Int32.toNatClampNeg p2)))))) m1)) ∧ (p2 = 3 → (∃ Y_20 : ch_B, (m_rel Y_20 (m1 (9, 0, 1))) ∧ ((Q (.inl (some (.inl (.int (i_bc (y_ofS (Y_20 1) p1 0 12)))))) m1)))) ∧ (p2 = 4 → ch_J g m_m_childOf (ch_rm m_m_childOf) (ch_E g m_m_childOf Q) 83 [some (.inr (9, 0, 0)), some (.inl (.int p1)), some (.inl (.int p2)), some (.inl (.int 0)), some (.inl (.int 0))] [] m1 0) ∧ (p2 = 5 → (vp_in p1 5) ∧ (Q (.inl (some (.inl (.int (m1 (9, 0, 1) (38 + 5 * Int32.toNatClampNeg p1 + 3)))))) m1)) ∧ (p2 = 6 → (vp_in p1 5) ∧ (Q (.inl (some (.inl (.int (m1 (9, 0, 1) (38 + 5 * Int32.toNatClampNeg p1 + 4)))))) m1)) ∧ ((Int32.toInt p2 < 0 ∨ 6 < Int32.toInt p2) → ((∀ m37 : ch_M, m37 = ch_wr m1 (9, 0, 0) 19 2 → Q (.inl (some (.inl (.int 0)))) m37))))) ∧ ((¬ (0 ≤ p1 ∧ p1 ≤ m1 (9, 0, 1) 0 - 1)) → ((∀ m40 : ch_M, m40 = ch_wr m1 (9, 0, 0) 19 1 → Q (.inl (some (.inl (.int 0)))) m40)))))) : ch_J g m_m_childOf (ch_rm m_m_childOf) (ch_E g m_m_childOf Q) 0 [some (.inr (9, 0, 0)), some (.inl (.int p1)), some (.inl (.int p2)), none, none] [] m 0 := by
  refine ch_aload_n (i := 0) d_m_childOf_0 rfl rfl ?_
  refine ch_iconst (v := 0) d_m_childOf_1 (by decide) ?_
  refine ch_put d_m_childOf_2 fp_m_48 rfl rfl rfl ?_
  generalize hmm1 : ch_wr m (9, 0, 0) 19 0 = m1
  replace h := h m1 hmm1.symm
  refine ch_aload_n (i := 0) d_m_childOf_5 rfl rfl ?_
  refine ch_iload_n (i := 1) d_m_childOf_6 rfl rfl ?_
  refine ch_callV (as := [.inl (.int p1)]) d_m_childOf_7 lk_m_77 mi_m_isChild me_m_isChild rfl rfl rfl ⟨Nat.le_of_ble_eq_true rfl, Nat.le_of_ble_eq_true rfl⟩ (Nat.le_of_ble_eq_true rfl) ⟨Nat.le_of_ble_eq_true rfl, Nat.le_of_ble_eq_true rfl⟩ (ch_mono (ch_Ki (fun r2 m3 q4 => ?_)) (s_m_isChild g (fun (r_ : Int32) (m_ : ch_M) => ((0 ≤ p1 ∧ p1 ≤ m1 (9, 0, 1) 0 - 1) ∧ 1 = r_ ∧ m1 = m_) ∨ ((¬ (0 ≤ p1 ∧ p1 ≤ m1 (9, 0, 1) 0 - 1)) ∧ 0 = r_ ∧ m1 = m_)) (p1) m1 ⟨(fun c_ => (Or.inl ⟨c_, rfl, rfl⟩)), (fun c_ => (Or.inr ⟨c_, rfl, rfl⟩))⟩))
  rcases q4 with ⟨c_, rfl, rfl⟩ | ⟨c_, rfl, rfl⟩
  · replace h := h.1 c_
    refine ch_if_ne (tgt := 19) d_m_childOf_10 (by decide) (fun _ => ?_) (fun c => absurd c (by decide))
    refine ch_iconst (v := 0) d_m_childOf_19 (by decide) ?_
    refine ch_istore_n (i := 3) d_m_childOf_20 rfl (Nat.le_of_ble_eq_true rfl) (ls' := [some (.inr (9, 0, 0)), some (.inl (.int p1)), some (.inl (.int p2)), some (.inl (.int 0)), none]) rfl ?_
    refine ch_iload_n (i := 2) d_m_childOf_21 rfl rfl ?_
    by_cases e0 : p2 = 0
    · replace h := h.1 e0
      refine ch_tswIn (tgt := 64) (off := 42) d_m_childOf_22 (by rw [e0]; decide) (by rw [e0]; decide) (by rw [e0]; rfl) (by decide) ?_
      refine ch_aload_n (i := 0) d_m_childOf_64 rfl rfl ?_
      refine ch_iload_n (i := 1) d_m_childOf_65 rfl rfl ?_
      refine ch_iload_n (i := 2) d_m_childOf_66 rfl rfl ?_
      have b8 := h.1
      replace h := h.2
      have b9 := h.1
      replace h := h.2
      refine ch_callV (as := [.inl (.int p1), .inl (.int p2)]) d_m_childOf_67 lk_m_85 mi_m_of me_m_of rfl rfl rfl ⟨Nat.le_of_ble_eq_true rfl, Nat.le_of_ble_eq_true rfl⟩ (Nat.le_of_ble_eq_true rfl) ⟨Nat.le_of_ble_eq_true rfl, Nat.le_of_ble_eq_true rfl⟩ (ch_mono (ch_Ki (fun r5 m6 q7 => ?_)) (s_m_of g (fun (r_ : Int32) (m_ : ch_M) => ((m1 (9, 0, 1) (38 + 5 * Int32.toNatClampNeg p1 + Int32.toNatClampNeg p2)) = r_ ∧ m1 = m_)) (p1) (p2) m1 ⟨b8, b9, ⟨rfl, rfl⟩⟩))
      obtain ⟨rfl, rfl⟩ := q7
      replace h := h
      exact ch_iret (ty := .int) d_m_childOf_70 rfl rfl (Nat.le_of_ble_eq_true rfl) h
    replace h := h.2
    by_cases e1 : p2 = 1
    · replace h := h.1 e1
      refine ch_tswIn (tgt := 64) (off := 42) d_m_childOf_22 (by rw [e1]; decide) (by rw [e1]; decide) (by rw [e1]; rfl) (by decide) ?_
      refine ch_aload_n (i := 0) d_m_childOf_64 rfl rfl ?_
      refine ch_iload_n (i := 1) d_m_childOf_65 rfl rfl ?_
      refine ch_iload_n (i := 2) d_m_childOf_66 rfl rfl ?_
      have b13 := h.1
      replace h := h.2
      have b14 := h.1
      replace h := h.2
      refine ch_callV (as := [.inl (.int p1), .inl (.int p2)]) d_m_childOf_67 lk_m_85 mi_m_of me_m_of rfl rfl rfl ⟨Nat.le_of_ble_eq_true rfl, Nat.le_of_ble_eq_true rfl⟩ (Nat.le_of_ble_eq_true rfl) ⟨Nat.le_of_ble_eq_true rfl, Nat.le_of_ble_eq_true rfl⟩ (ch_mono (ch_Ki (fun r10 m11 q12 => ?_)) (s_m_of g (fun (r_ : Int32) (m_ : ch_M) => ((m1 (9, 0, 1) (38 + 5 * Int32.toNatClampNeg p1 + Int32.toNatClampNeg p2)) = r_ ∧ m1 = m_)) (p1) (p2) m1 ⟨b13, b14, ⟨rfl, rfl⟩⟩))
      obtain ⟨rfl, rfl⟩ := q12
      replace h := h
      exact ch_iret (ty := .int) d_m_childOf_70 rfl rfl (Nat.le_of_ble_eq_true rfl) h
    replace h := h.2
    by_cases e2 : p2 = 2
    · replace h := h.1 e2
      refine ch_tswIn (tgt := 64) (off := 42) d_m_childOf_22 (by rw [e2]; decide) (by rw [e2]; decide) (by rw [e2]; rfl) (by decide) ?_
      refine ch_aload_n (i := 0) d_m_childOf_64 rfl rfl ?_
      refine ch_iload_n (i := 1) d_m_childOf_65 rfl rfl ?_
      refine ch_iload_n (i := 2) d_m_childOf_66 rfl rfl ?_
      have b18 := h.1
      replace h := h.2
      have b19 := h.1
      replace h := h.2
      refine ch_callV (as := [.inl (.int p1), .inl (.int p2)]) d_m_childOf_67 lk_m_85 mi_m_of me_m_of rfl rfl rfl ⟨Nat.le_of_ble_eq_true rfl, Nat.le_of_ble_eq_true rfl⟩ (Nat.le_of_ble_eq_true rfl) ⟨Nat.le_of_ble_eq_true rfl, Nat.le_of_ble_eq_true rfl⟩ (ch_mono (ch_Ki (fun r15 m16 q17 => ?_)) (s_m_of g (fun (r_ : Int32) (m_ : ch_M) => ((m1 (9, 0, 1) (38 + 5 * Int32.toNatClampNeg p1 + Int32.toNatClampNeg p2)) = r_ ∧ m1 = m_)) (p1) (p2) m1 ⟨b18, b19, ⟨rfl, rfl⟩⟩))
      obtain ⟨rfl, rfl⟩ := q17
      replace h := h
      exact ch_iret (ty := .int) d_m_childOf_70 rfl rfl (Nat.le_of_ble_eq_true rfl) h
    replace h := h.2
    by_cases e3 : p2 = 3
    · replace h := h.1 e3
      refine ch_tswIn (tgt := 71) (off := 49) d_m_childOf_22 (by rw [e3]; decide) (by rw [e3]; decide) (by rw [e3]; rfl) (by decide) ?_
      refine ch_aload_n (i := 0) d_m_childOf_71 rfl rfl ?_
      refine ch_iload_n (i := 1) d_m_childOf_72 rfl rfl ?_
      obtain ⟨Y_20, h⟩ := h
      have b24 := h.1
      replace h := h.2
      refine ch_callV (as := [.inl (.int p1)]) d_m_childOf_73 lk_m_182 mi_m_ownSet me_m_ownSet rfl rfl rfl ⟨Nat.le_of_ble_eq_true rfl, Nat.le_of_ble_eq_true rfl⟩ (Nat.le_of_ble_eq_true rfl) ⟨Nat.le_of_ble_eq_true rfl, Nat.le_of_ble_eq_true rfl⟩ (ch_mono (ch_Ki (fun r21 m22 q23 => ?_)) (s_m_ownSet g (fun (r_ : Int32) (m_ : ch_M) => ((y_ofS (Y_20 1) p1 0 12) = r_ ∧ m1 = m_)) (Y_20) (p1) m1 ⟨b24, ⟨rfl, rfl⟩⟩))
      obtain ⟨rfl, rfl⟩ := q23
      replace h := h
      refine ch_callS (as := [.inl (.int (y_ofS (Y_20 1) p1 0 12))]) d_m_childOf_76 lk_m_171 ms_i_bitCount rfl rfl ⟨Nat.le_of_ble_eq_true rfl, Nat.le_of_ble_eq_true rfl⟩ (Nat.le_of_ble_eq_true rfl) ⟨Nat.le_of_ble_eq_true rfl, Nat.le_of_ble_eq_true rfl⟩ (ch_mono (ch_Ki (fun r25 m26 q27 => ?_)) (s_i_bitCount g (fun (r_ : Int32) (m_ : ch_M) => ((i_bc (y_ofS (Y_20 1) p1 0 12)) = r_ ∧ m1 = m_)) ((y_ofS (Y_20 1) p1 0 12)) m1 ⟨rfl, rfl⟩))
      obtain ⟨rfl, rfl⟩ := q27
      replace h := h
      exact ch_iret (ty := .int) d_m_childOf_79 rfl rfl (Nat.le_of_ble_eq_true rfl) h
    replace h := h.2
    by_cases e4 : p2 = 4
    · replace h := h.1 e4
      refine ch_tswIn (tgt := 80) (off := 58) d_m_childOf_22 (by rw [e4]; decide) (by rw [e4]; decide) (by rw [e4]; rfl) (by decide) ?_
      refine ch_iconst (v := 0) d_m_childOf_80 (by decide) ?_
      refine ch_istore (i := 4) d_m_childOf_81 (Nat.le_of_ble_eq_true rfl) (ls' := [some (.inr (9, 0, 0)), some (.inl (.int p1)), some (.inl (.int p2)), some (.inl (.int 0)), some (.inl (.int 0))]) rfl ?_
      exact h
    replace h := h.2
    by_cases e5 : p2 = 5
    · replace h := h.1 e5
      refine ch_tswIn (tgt := 117) (off := 95) d_m_childOf_22 (by rw [e5]; decide) (by rw [e5]; decide) (by rw [e5]; rfl) (by decide) ?_
      refine ch_aload_n (i := 0) d_m_childOf_117 rfl rfl ?_
      refine ch_iload_n (i := 1) d_m_childOf_118 rfl rfl ?_
      refine ch_iconst (v := 3) d_m_childOf_119 (by decide) ?_
      have b31 := h.1
      replace h := h.2
      refine ch_callV (as := [.inl (.int p1), .inl (.int 3)]) d_m_childOf_120 lk_m_85 mi_m_of me_m_of rfl rfl rfl ⟨Nat.le_of_ble_eq_true rfl, Nat.le_of_ble_eq_true rfl⟩ (Nat.le_of_ble_eq_true rfl) ⟨Nat.le_of_ble_eq_true rfl, Nat.le_of_ble_eq_true rfl⟩ (ch_mono (ch_Ki (fun r28 m29 q30 => ?_)) (s_m_of g (fun (r_ : Int32) (m_ : ch_M) => ((m1 (9, 0, 1) (38 + 5 * Int32.toNatClampNeg p1 + 3)) = r_ ∧ m1 = m_)) (p1) (3) m1 ⟨b31, (vp_in_nI (n := 3) (by decide) (by decide)), ⟨rfl, rfl⟩⟩))
      obtain ⟨rfl, rfl⟩ := q30
      replace h := h
      exact ch_iret (ty := .int) d_m_childOf_123 rfl rfl (Nat.le_of_ble_eq_true rfl) h
    replace h := h.2
    by_cases e6 : p2 = 6
    · replace h := h.1 e6
      refine ch_tswIn (tgt := 124) (off := 102) d_m_childOf_22 (by rw [e6]; decide) (by rw [e6]; decide) (by rw [e6]; rfl) (by decide) ?_
      refine ch_aload_n (i := 0) d_m_childOf_124 rfl rfl ?_
      refine ch_iload_n (i := 1) d_m_childOf_125 rfl rfl ?_
      refine ch_iconst (v := 4) d_m_childOf_126 (by decide) ?_
      have b35 := h.1
      replace h := h.2
      refine ch_callV (as := [.inl (.int p1), .inl (.int 4)]) d_m_childOf_127 lk_m_85 mi_m_of me_m_of rfl rfl rfl ⟨Nat.le_of_ble_eq_true rfl, Nat.le_of_ble_eq_true rfl⟩ (Nat.le_of_ble_eq_true rfl) ⟨Nat.le_of_ble_eq_true rfl, Nat.le_of_ble_eq_true rfl⟩ (ch_mono (ch_Ki (fun r32 m33 q34 => ?_)) (s_m_of g (fun (r_ : Int32) (m_ : ch_M) => ((m1 (9, 0, 1) (38 + 5 * Int32.toNatClampNeg p1 + 4)) = r_ ∧ m1 = m_)) (p1) (4) m1 ⟨b35, (vp_in_nI (n := 4) (by decide) (by decide)), ⟨rfl, rfl⟩⟩))
      obtain ⟨rfl, rfl⟩ := q34
      replace h := h
      exact ch_iret (ty := .int) d_m_childOf_130 rfl rfl (Nat.le_of_ble_eq_true rfl) h
    replace h := h.2
    have hx : (Int32.toInt p2 < 0 ∨ 6 < Int32.toInt p2) := by
      have f0 : Int32.toInt p2 ≠ 0 := fun q => e0 (Int32.toInt_inj.mp (q.trans (by decide)))
      have f1 : Int32.toInt p2 ≠ 1 := fun q => e1 (Int32.toInt_inj.mp (q.trans (by decide)))
      have f2 : Int32.toInt p2 ≠ 2 := fun q => e2 (Int32.toInt_inj.mp (q.trans (by decide)))
      have f3 : Int32.toInt p2 ≠ 3 := fun q => e3 (Int32.toInt_inj.mp (q.trans (by decide)))
      have f4 : Int32.toInt p2 ≠ 4 := fun q => e4 (Int32.toInt_inj.mp (q.trans (by decide)))
      have f5 : Int32.toInt p2 ≠ 5 := fun q => e5 (Int32.toInt_inj.mp (q.trans (by decide)))
      have f6 : Int32.toInt p2 ≠ 6 := fun q => e6 (Int32.toInt_inj.mp (q.trans (by decide)))
      omega
    replace h := h hx
    refine ch_tswOut (tgt := 131) d_m_childOf_22 hx (by decide) ?_
    refine ch_aload_n (i := 0) d_m_childOf_131 rfl rfl ?_
    refine ch_iconst (v := 2) d_m_childOf_132 (by decide) ?_
    refine ch_callV (as := [.inl (.int 2)]) d_m_childOf_133 lk_m_70 mi_m_raises me_m_raises rfl rfl rfl ⟨Nat.le_of_ble_eq_true rfl, Nat.le_of_ble_eq_true rfl⟩ (Nat.le_of_ble_eq_true rfl) ⟨Nat.le_of_ble_eq_true rfl, Nat.le_of_ble_eq_true rfl⟩ (ch_mono (ch_Ki (fun r36 m37 q38 => ?_)) (s_m_raises g (fun (r_ : Int32) (m_ : ch_M) => (0 = r_ ∧ m_ = ch_wr m1 (9, 0, 0) 19 2)) (2) m1 ⟨rfl, rfl⟩))
    obtain ⟨rfl, hm_⟩ := q38
    replace h := h m37 hm_
    exact ch_iret (ty := .int) d_m_childOf_136 rfl rfl (Nat.le_of_ble_eq_true rfl) h
  · replace h := h.2 c_
    refine ch_if_ne (tgt := 19) d_m_childOf_10 (by decide) (fun c => absurd c (by decide)) (fun _ => ?_)
    refine ch_aload_n (i := 0) d_m_childOf_13 rfl rfl ?_
    refine ch_iconst (v := 1) d_m_childOf_14 (by decide) ?_
    refine ch_callV (as := [.inl (.int 1)]) d_m_childOf_15 lk_m_70 mi_m_raises me_m_raises rfl rfl rfl ⟨Nat.le_of_ble_eq_true rfl, Nat.le_of_ble_eq_true rfl⟩ (Nat.le_of_ble_eq_true rfl) ⟨Nat.le_of_ble_eq_true rfl, Nat.le_of_ble_eq_true rfl⟩ (ch_mono (ch_Ki (fun r39 m40 q41 => ?_)) (s_m_raises g (fun (r_ : Int32) (m_ : ch_M) => (0 = r_ ∧ m_ = ch_wr m1 (9, 0, 0) 19 1)) (1) m1 ⟨rfl, rfl⟩))
    obtain ⟨rfl, hm_⟩ := q41
    replace h := h m40 hm_
    exact ch_iret (ty := .int) d_m_childOf_18 rfl rfl (Nat.le_of_ble_eq_true rfl) h
set_option maxHeartbeats 1600000 in
theorem g_m_childOf_83 (g : ch_G) (Q : ch_O → ch_M → Prop) (x1 : Int32) (x2 : Int32) (x3 : Int32) (x4 : Int32) (m : ch_M) (h : ((12 ≤ x4 → Q (.inl (some (.inl (.int x3)))) m) ∧ (¬ 12 ≤ x4 → (vp_in x4 12) ∧ (((¬ (m (9, 0, 1) (14 + 2 * Int32.toNatClampNeg x4) - 1) = x1 → ch_J g m_m_childOf (ch_rm m_m_childOf) (ch_E g m_m_childOf Q) 83 [some (.inr (9, 0, 0)), some (.inl (.int x1)), some (.inl (.int x2)), some (.inl (.int x3)), some (.inl (.int (x4 + 1)))] [] m 0) ∧ ((m (9, 0, 1) (14 + 2 * Int32.toNatClampNeg x4) - 1) = x1 → (ch_J g m_m_childOf (ch_rm m_m_childOf) (ch_E g m_m_childOf Q) 83 [some (.inr (9, 0, 0)), some (.inl (.int x1)), some (.inl (.int x2)), some (.inl (.int (x3 + (m (9, 0, 1) (15 + 2 * Int32.toNatClampNeg x4))))), some (.inl (.int (x4 + 1)))] [] m 0))))))) : ch_J g m_m_childOf (ch_rm m_m_childOf) (ch_E g m_m_childOf Q) 83 [some (.inr (9, 0, 0)), some (.inl (.int x1)), some (.inl (.int x2)), some (.inl (.int x3)), some (.inl (.int x4))] [] m 0 := by
  refine ch_iload d_m_childOf_83 rfl ?_
  refine ch_bipush (v := 12) d_m_childOf_85 (by decide) ?_
  refine ch_icmp_ge (tgt := 115) d_m_childOf_87 (by decide) (fun c => ?_) (fun c => ?_)
  · replace h := h.1 c
    refine ch_iload_n (i := 3) d_m_childOf_115 rfl rfl ?_
    exact ch_iret (ty := .int) d_m_childOf_116 rfl rfl (Nat.le_of_ble_eq_true rfl) h
  · replace h := h.2 c
    refine ch_aload_n (i := 0) d_m_childOf_90 rfl rfl ?_
    refine ch_iload d_m_childOf_91 rfl ?_
    have b4 := h.1
    replace h := h.2
    refine ch_callV (as := [.inl (.int x4)]) d_m_childOf_93 lk_m_109 mi_m_owner me_m_owner rfl rfl rfl ⟨Nat.le_of_ble_eq_true rfl, Nat.le_of_ble_eq_true rfl⟩ (Nat.le_of_ble_eq_true rfl) ⟨Nat.le_of_ble_eq_true rfl, Nat.le_of_ble_eq_true rfl⟩ (ch_mono (ch_Ki (fun r1 m2 q3 => ?_)) (s_m_owner g (fun (r_ : Int32) (m_ : ch_M) => ((m (9, 0, 1) (14 + 2 * Int32.toNatClampNeg x4) - 1) = r_ ∧ m = m_)) (x4) m ⟨b4, ⟨rfl, rfl⟩⟩))
    obtain ⟨rfl, rfl⟩ := q3
    replace h := h
    refine ch_iload_n (i := 1) d_m_childOf_96 rfl rfl ?_
    refine ch_icmp_ne (tgt := 109) d_m_childOf_97 (by decide) (fun c => ?_) (fun c => ?_)
    · replace h := h.1 c
      refine ch_iinc (i := 4) (v := (x4 + 1)) d_m_childOf_109 rfl rfl (Nat.le_of_ble_eq_true rfl) (ls' := [some (.inr (9, 0, 0)), some (.inl (.int x1)), some (.inl (.int x2)), some (.inl (.int x3)), some (.inl (.int (x4 + 1)))]) rfl ?_
      refine ch_goto (tgt := 83) d_m_childOf_112 (by decide) ?_
      exact h
    · replace h := h.2 c
      refine ch_iload_n (i := 3) d_m_childOf_100 rfl rfl ?_
      refine ch_aload_n (i := 0) d_m_childOf_101 rfl rfl ?_
      refine ch_iload d_m_childOf_102 rfl ?_
      refine ch_callV (as := [.inl (.int x4)]) d_m_childOf_104 lk_m_112 mi_m_chalkOf me_m_chalkOf rfl rfl rfl ⟨Nat.le_of_ble_eq_true rfl, Nat.le_of_ble_eq_true rfl⟩ (Nat.le_of_ble_eq_true rfl) ⟨Nat.le_of_ble_eq_true rfl, Nat.le_of_ble_eq_true rfl⟩ (ch_mono (ch_Ki (fun r5 m6 q7 => ?_)) (s_m_chalkOf g (fun (r_ : Int32) (m_ : ch_M) => ((m (9, 0, 1) (15 + 2 * Int32.toNatClampNeg x4)) = r_ ∧ m = m_)) (x4) m ⟨b4, ⟨rfl, rfl⟩⟩))
      obtain ⟨rfl, rfl⟩ := q7
      replace h := h
      refine ch_iadd d_m_childOf_107 ?_
      refine ch_istore_n (i := 3) d_m_childOf_108 rfl (Nat.le_of_ble_eq_true rfl) (ls' := [some (.inr (9, 0, 0)), some (.inl (.int x1)), some (.inl (.int x2)), some (.inl (.int (x3 + (m (9, 0, 1) (15 + 2 * Int32.toNatClampNeg x4))))), some (.inl (.int x4))]) rfl ?_
      refine ch_iinc (i := 4) (v := (x4 + 1)) d_m_childOf_109 rfl rfl (Nat.le_of_ble_eq_true rfl) (ls' := [some (.inr (9, 0, 0)), some (.inl (.int x1)), some (.inl (.int x2)), some (.inl (.int (x3 + (m (9, 0, 1) (15 + 2 * Int32.toNatClampNeg x4))))), some (.inl (.int (x4 + 1)))]) rfl ?_
      refine ch_goto (tgt := 83) d_m_childOf_112 (by decide) ?_
      exact h
theorem e_m_squares (g : ch_G) (Q : ch_O → ch_M → Prop) (p1 : Int32) (m : ch_M) (h : ch_J g m_m_squares (ch_rm m_m_squares) (ch_E g m_m_squares Q) 0 [some (.inr (9, 0, 0)), some (.inl (.int p1))] [] m 0) : ch_C g m_m_squares [.inr (9, 0, 0), .inl (.int p1)] m Q :=
  ch_enter mf_m_squares (by intro v hv; simp only [List.mem_cons, List.not_mem_nil, or_false] at hv; rcases hv with rfl | rfl <;> rfl) (Nat.le_of_ble_eq_true rfl) h
set_option maxHeartbeats 1600000 in
theorem g_m_squares_0 (g : ch_G) (Q : ch_O → ch_M → Prop) (p1 : Int32) (m : ch_M) (h : (((0 ≤ p1 ∧ p1 ≤ m (9, 0, 1) 0 - 1) → (∀ m4 : ch_M, m4 = ch_wr m (9, 0, 0) 19 0 → ((¬ (m4 (9, 0, 0) 19) = 0 → Q (.inl (some (.inl (.int 0)))) m4) ∧ ((m4 (9, 0, 0) 19) = 0 → (∃ Y_5 : ch_B, (m_rel Y_5 (m4 (9, 0, 1))) ∧ (Q (.inl (some (.inl (.int (y_ofS (Y_5 1) p1 0 12))))) m4)))))) ∧ ((¬ (0 ≤ p1 ∧ p1 ≤ m (9, 0, 1) 0 - 1)) → (∀ m10 : ch_M, m10 = ch_wr m (9, 0, 0) 19 1 → ((¬ (m10 (9, 0, 0) 19) = 0 → Q (.inl (some (.inl (.int 0)))) m10) ∧ ((m10 (9, 0, 0) 19) = 0 → (∃ Y_11 : ch_B, (m_rel Y_11 (m10 (9, 0, 1))) ∧ (Q (.inl (some (.inl (.int (y_ofS (Y_11 1) p1 0 12))))) m10)))))))) : ch_J g m_m_squares (ch_rm m_m_squares) (ch_E g m_m_squares Q) 0 [some (.inr (9, 0, 0)), some (.inl (.int p1))] [] m 0 := by
  refine ch_aload_n (i := 0) d_m_squares_0 rfl rfl ?_
  refine ch_aload_n (i := 0) d_m_squares_1 rfl rfl ?_
  refine ch_iload_n (i := 1) d_m_squares_2 rfl rfl ?_
  refine ch_callV (as := [.inl (.int p1)]) d_m_squares_3 lk_m_77 mi_m_isChild me_m_isChild rfl rfl rfl ⟨Nat.le_of_ble_eq_true rfl, Nat.le_of_ble_eq_true rfl⟩ (Nat.le_of_ble_eq_true rfl) ⟨Nat.le_of_ble_eq_true rfl, Nat.le_of_ble_eq_true rfl⟩ (ch_mono (ch_Ki (fun r1 m2 q3 => ?_)) (s_m_isChild g (fun (r_ : Int32) (m_ : ch_M) => ((0 ≤ p1 ∧ p1 ≤ m (9, 0, 1) 0 - 1) ∧ 1 = r_ ∧ m = m_) ∨ ((¬ (0 ≤ p1 ∧ p1 ≤ m (9, 0, 1) 0 - 1)) ∧ 0 = r_ ∧ m = m_)) (p1) m ⟨(fun c_ => (Or.inl ⟨c_, rfl, rfl⟩)), (fun c_ => (Or.inr ⟨c_, rfl, rfl⟩))⟩))
  rcases q3 with ⟨c_, rfl, rfl⟩ | ⟨c_, rfl, rfl⟩
  · replace h := h.1 c_
    refine ch_if_eq (tgt := 13) d_m_squares_6 (by decide) (fun c => absurd c (by decide)) (fun _ => ?_)
    refine ch_iconst (v := 0) d_m_squares_9 (by decide) ?_
    refine ch_goto (tgt := 14) d_m_squares_10 (by decide) ?_
    refine ch_put d_m_squares_14 fp_m_48 rfl rfl rfl ?_
    generalize hmm4 : ch_wr m (9, 0, 0) 19 0 = m4
    replace h := h m4 hmm4.symm
    refine ch_aload_n (i := 0) d_m_squares_17 rfl rfl ?_
    refine ch_get (v := .inl (.int (m4 (9, 0, 0) 19))) d_m_squares_18 fl_m_48 rfl ?_
    refine ch_if_ne (tgt := 32) d_m_squares_21 (by decide) (fun c => ?_) (fun c => ?_)
    · replace h := h.1 c
      refine ch_iconst (v := 0) d_m_squares_32 (by decide) ?_
      exact ch_iret (ty := .int) d_m_squares_33 rfl rfl (Nat.le_of_ble_eq_true rfl) h
    · replace h := h.2 c
      refine ch_aload_n (i := 0) d_m_squares_24 rfl rfl ?_
      refine ch_iload_n (i := 1) d_m_squares_25 rfl rfl ?_
      obtain ⟨Y_5, h⟩ := h
      have b9 := h.1
      replace h := h.2
      refine ch_callV (as := [.inl (.int p1)]) d_m_squares_26 lk_m_182 mi_m_ownSet me_m_ownSet rfl rfl rfl ⟨Nat.le_of_ble_eq_true rfl, Nat.le_of_ble_eq_true rfl⟩ (Nat.le_of_ble_eq_true rfl) ⟨Nat.le_of_ble_eq_true rfl, Nat.le_of_ble_eq_true rfl⟩ (ch_mono (ch_Ki (fun r6 m7 q8 => ?_)) (s_m_ownSet g (fun (r_ : Int32) (m_ : ch_M) => ((y_ofS (Y_5 1) p1 0 12) = r_ ∧ m4 = m_)) (Y_5) (p1) m4 ⟨b9, ⟨rfl, rfl⟩⟩))
      obtain ⟨rfl, rfl⟩ := q8
      replace h := h
      refine ch_goto (tgt := 33) d_m_squares_29 (by decide) ?_
      exact ch_iret (ty := .int) d_m_squares_33 rfl rfl (Nat.le_of_ble_eq_true rfl) h
  · replace h := h.2 c_
    refine ch_if_eq (tgt := 13) d_m_squares_6 (by decide) (fun _ => ?_) (fun c => absurd c (by decide))
    refine ch_iconst (v := 1) d_m_squares_13 (by decide) ?_
    refine ch_put d_m_squares_14 fp_m_48 rfl rfl rfl ?_
    generalize hmm10 : ch_wr m (9, 0, 0) 19 1 = m10
    replace h := h m10 hmm10.symm
    refine ch_aload_n (i := 0) d_m_squares_17 rfl rfl ?_
    refine ch_get (v := .inl (.int (m10 (9, 0, 0) 19))) d_m_squares_18 fl_m_48 rfl ?_
    refine ch_if_ne (tgt := 32) d_m_squares_21 (by decide) (fun c => ?_) (fun c => ?_)
    · replace h := h.1 c
      refine ch_iconst (v := 0) d_m_squares_32 (by decide) ?_
      exact ch_iret (ty := .int) d_m_squares_33 rfl rfl (Nat.le_of_ble_eq_true rfl) h
    · replace h := h.2 c
      refine ch_aload_n (i := 0) d_m_squares_24 rfl rfl ?_
      refine ch_iload_n (i := 1) d_m_squares_25 rfl rfl ?_
      obtain ⟨Y_11, h⟩ := h
      have b15 := h.1
      replace h := h.2
      refine ch_callV (as := [.inl (.int p1)]) d_m_squares_26 lk_m_182 mi_m_ownSet me_m_ownSet rfl rfl rfl ⟨Nat.le_of_ble_eq_true rfl, Nat.le_of_ble_eq_true rfl⟩ (Nat.le_of_ble_eq_true rfl) ⟨Nat.le_of_ble_eq_true rfl, Nat.le_of_ble_eq_true rfl⟩ (ch_mono (ch_Ki (fun r12 m13 q14 => ?_)) (s_m_ownSet g (fun (r_ : Int32) (m_ : ch_M) => ((y_ofS (Y_11 1) p1 0 12) = r_ ∧ m10 = m_)) (Y_11) (p1) m10 ⟨b15, ⟨rfl, rfl⟩⟩))
      obtain ⟨rfl, rfl⟩ := q14
      replace h := h
      refine ch_goto (tgt := 33) d_m_squares_29 (by decide) ?_
      exact ch_iret (ty := .int) d_m_squares_33 rfl rfl (Nat.le_of_ble_eq_true rfl) h
theorem e_m_warrantAt (g : ch_G) (Q : ch_O → ch_M → Prop) (p1 : Int32) (m : ch_M) (h : ch_J g m_m_warrantAt (ch_rm m_m_warrantAt) (ch_E g m_m_warrantAt Q) 0 [some (.inr (9, 0, 0)), some (.inl (.int p1))] [] m 0) : ch_C g m_m_warrantAt [.inr (9, 0, 0), .inl (.int p1)] m Q :=
  ch_enter mf_m_warrantAt (by intro v hv; simp only [List.mem_cons, List.not_mem_nil, or_false] at hv; rcases hv with rfl | rfl <;> rfl) (Nat.le_of_ble_eq_true rfl) h
set_option maxHeartbeats 1600000 in
theorem g_m_warrantAt_0 (g : ch_G) (Q : ch_O → ch_M → Prop) (p1 : Int32) (m : ch_M) (h : (((0 ≤ p1 ∧ p1 ≤ ((m (9, 0, 1) (8)) - 1)) → (∀ m4 : ch_M, m4 = ch_wr m (9, 0, 0) 19 0 → ((¬ (m4 (9, 0, 0) 19) = 0 → Q (.inl (some (.inl (.int 0)))) m4) ∧ ((m4 (9, 0, 0) 19) = 0 → (vp_in (9 + p1) 63) ∧ Q (.inl (some (.inl (.int (m4 (9, 0, 1) (Int32.toNatClampNeg (9 + p1))))))) m4)))) ∧ ((¬ (0 ≤ p1 ∧ p1 ≤ ((m (9, 0, 1) (8)) - 1))) → (∀ m6 : ch_M, m6 = ch_wr m (9, 0, 0) 19 1 → ((¬ (m6 (9, 0, 0) 19) = 0 → Q (.inl (some (.inl (.int 0)))) m6) ∧ ((m6 (9, 0, 0) 19) = 0 → (vp_in (9 + p1) 63) ∧ Q (.inl (some (.inl (.int (m6 (9, 0, 1) (Int32.toNatClampNeg (9 + p1))))))) m6)))))) : ch_J g m_m_warrantAt (ch_rm m_m_warrantAt) (ch_E g m_m_warrantAt Q) 0 [some (.inr (9, 0, 0)), some (.inl (.int p1))] [] m 0 := by
  refine ch_aload_n (i := 0) d_m_warrantAt_0 rfl rfl ?_
  refine ch_iload_n (i := 1) d_m_warrantAt_1 rfl rfl ?_
  refine ch_iconst (v := 0) d_m_warrantAt_2 (by decide) ?_
  refine ch_aload_n (i := 0) d_m_warrantAt_3 rfl rfl ?_
  refine ch_get (v := .inr (9, 0, 1)) d_m_warrantAt_4 fl_m_9 rfl ?_
  refine ch_bipush (v := 8) d_m_warrantAt_7 (by decide) ?_
  refine ch_iald (n := 63) d_m_warrantAt_9 (by decide) rfl (vp_in_nI (n := 8) (by decide) (by decide)) ?_
  refine ch_iconst (v := 1) d_m_warrantAt_10 (by decide) ?_
  refine ch_isub d_m_warrantAt_11 ?_
  refine ch_callS (as := [.inl (.int p1), .inl (.int 0), .inl (.int ((m (9, 0, 1) (8)) - 1))]) d_m_warrantAt_12 lk_m_73 ms_m_in rfl rfl ⟨Nat.le_of_ble_eq_true rfl, Nat.le_of_ble_eq_true rfl⟩ (Nat.le_of_ble_eq_true rfl) ⟨Nat.le_of_ble_eq_true rfl, Nat.le_of_ble_eq_true rfl⟩ (ch_mono (ch_Ki (fun r1 m2 q3 => ?_)) (s_m_in g (fun (r_ : Int32) (m_ : ch_M) => ((0 ≤ p1 ∧ p1 ≤ ((m (9, 0, 1) (8)) - 1)) ∧ 1 = r_ ∧ m = m_) ∨ ((¬ (0 ≤ p1 ∧ p1 ≤ ((m (9, 0, 1) (8)) - 1))) ∧ 0 = r_ ∧ m = m_)) (p1) (0) (((m (9, 0, 1) (8)) - 1)) m ⟨(fun c_ => (Or.inl ⟨c_, rfl, rfl⟩)), (fun c_ => (Or.inr ⟨c_, rfl, rfl⟩))⟩))
  rcases q3 with ⟨c_, rfl, rfl⟩ | ⟨c_, rfl, rfl⟩
  · replace h := h.1 c_
    refine ch_if_eq (tgt := 22) d_m_warrantAt_15 (by decide) (fun c => absurd c (by decide)) (fun _ => ?_)
    refine ch_iconst (v := 0) d_m_warrantAt_18 (by decide) ?_
    refine ch_goto (tgt := 23) d_m_warrantAt_19 (by decide) ?_
    refine ch_put d_m_warrantAt_23 fp_m_48 rfl rfl rfl ?_
    generalize hmm4 : ch_wr m (9, 0, 0) 19 0 = m4
    replace h := h m4 hmm4.symm
    refine ch_aload_n (i := 0) d_m_warrantAt_26 rfl rfl ?_
    refine ch_get (v := .inl (.int (m4 (9, 0, 0) 19))) d_m_warrantAt_27 fl_m_48 rfl ?_
    refine ch_if_ne (tgt := 45) d_m_warrantAt_30 (by decide) (fun c => ?_) (fun c => ?_)
    · replace h := h.1 c
      refine ch_iconst (v := 0) d_m_warrantAt_45 (by decide) ?_
      exact ch_iret (ty := .int) d_m_warrantAt_46 rfl rfl (Nat.le_of_ble_eq_true rfl) h
    · replace h := h.2 c
      refine ch_aload_n (i := 0) d_m_warrantAt_33 rfl rfl ?_
      refine ch_get (v := .inr (9, 0, 1)) d_m_warrantAt_34 fl_m_9 rfl ?_
      refine ch_bipush (v := 9) d_m_warrantAt_37 (by decide) ?_
      refine ch_iload_n (i := 1) d_m_warrantAt_39 rfl rfl ?_
      refine ch_iadd d_m_warrantAt_40 ?_
      have b5 := h.1
      replace h := h.2
      refine ch_iald (n := 63) d_m_warrantAt_41 (by decide) rfl b5 ?_
      refine ch_goto (tgt := 46) d_m_warrantAt_42 (by decide) ?_
      exact ch_iret (ty := .int) d_m_warrantAt_46 rfl rfl (Nat.le_of_ble_eq_true rfl) h
  · replace h := h.2 c_
    refine ch_if_eq (tgt := 22) d_m_warrantAt_15 (by decide) (fun _ => ?_) (fun c => absurd c (by decide))
    refine ch_iconst (v := 1) d_m_warrantAt_22 (by decide) ?_
    refine ch_put d_m_warrantAt_23 fp_m_48 rfl rfl rfl ?_
    generalize hmm6 : ch_wr m (9, 0, 0) 19 1 = m6
    replace h := h m6 hmm6.symm
    refine ch_aload_n (i := 0) d_m_warrantAt_26 rfl rfl ?_
    refine ch_get (v := .inl (.int (m6 (9, 0, 0) 19))) d_m_warrantAt_27 fl_m_48 rfl ?_
    refine ch_if_ne (tgt := 45) d_m_warrantAt_30 (by decide) (fun c => ?_) (fun c => ?_)
    · replace h := h.1 c
      refine ch_iconst (v := 0) d_m_warrantAt_45 (by decide) ?_
      exact ch_iret (ty := .int) d_m_warrantAt_46 rfl rfl (Nat.le_of_ble_eq_true rfl) h
    · replace h := h.2 c
      refine ch_aload_n (i := 0) d_m_warrantAt_33 rfl rfl ?_
      refine ch_get (v := .inr (9, 0, 1)) d_m_warrantAt_34 fl_m_9 rfl ?_
      refine ch_bipush (v := 9) d_m_warrantAt_37 (by decide) ?_
      refine ch_iload_n (i := 1) d_m_warrantAt_39 rfl rfl ?_
      refine ch_iadd d_m_warrantAt_40 ?_
      have b7 := h.1
      replace h := h.2
      refine ch_iald (n := 63) d_m_warrantAt_41 (by decide) rfl b7 ?_
      refine ch_goto (tgt := 46) d_m_warrantAt_42 (by decide) ?_
      exact ch_iret (ty := .int) d_m_warrantAt_46 rfl rfl (Nat.le_of_ble_eq_true rfl) h
theorem e_m_longest (g : ch_G) (Q : ch_O → ch_M → Prop) (p1 : Int32) (m : ch_M) (h : ch_J g m_m_longest (ch_rm m_m_longest) (ch_E g m_m_longest Q) 0 [some (.inr (9, 0, 0)), some (.inl (.int p1))] [] m 0) : ch_C g m_m_longest [.inr (9, 0, 0), .inl (.int p1)] m Q :=
  ch_enter mf_m_longest (by intro v hv; simp only [List.mem_cons, List.not_mem_nil, or_false] at hv; rcases hv with rfl | rfl <;> rfl) (Nat.le_of_ble_eq_true rfl) h
set_option maxHeartbeats 1600000 in
theorem g_m_longest_0 (g : ch_G) (Q : ch_O → ch_M → Prop) (p1 : Int32) (m : ch_M) (h : (((0 ≤ p1 ∧ p1 ≤ m (9, 0, 1) 0 - 1) → (∀ m4 : ch_M, m4 = ch_wr m (9, 0, 0) 19 0 → ((¬ (m4 (9, 0, 0) 19) = 0 → Q (.inl (some (.inl (.int 0)))) m4) ∧ ((m4 (9, 0, 0) 19) = 0 → (∃ Y_5 : ch_B, (m_rel Y_5 (m4 (9, 0, 1))) ∧ (Q (.inl (some (.inl (.int ((y_lr (Y_5 1) p1 12).1))))) m4)))))) ∧ ((¬ (0 ≤ p1 ∧ p1 ≤ m (9, 0, 1) 0 - 1)) → (∀ m10 : ch_M, m10 = ch_wr m (9, 0, 0) 19 1 → ((¬ (m10 (9, 0, 0) 19) = 0 → Q (.inl (some (.inl (.int 0)))) m10) ∧ ((m10 (9, 0, 0) 19) = 0 → (∃ Y_11 : ch_B, (m_rel Y_11 (m10 (9, 0, 1))) ∧ (Q (.inl (some (.inl (.int ((y_lr (Y_11 1) p1 12).1))))) m10)))))))) : ch_J g m_m_longest (ch_rm m_m_longest) (ch_E g m_m_longest Q) 0 [some (.inr (9, 0, 0)), some (.inl (.int p1))] [] m 0 := by
  refine ch_aload_n (i := 0) d_m_longest_0 rfl rfl ?_
  refine ch_aload_n (i := 0) d_m_longest_1 rfl rfl ?_
  refine ch_iload_n (i := 1) d_m_longest_2 rfl rfl ?_
  refine ch_callV (as := [.inl (.int p1)]) d_m_longest_3 lk_m_77 mi_m_isChild me_m_isChild rfl rfl rfl ⟨Nat.le_of_ble_eq_true rfl, Nat.le_of_ble_eq_true rfl⟩ (Nat.le_of_ble_eq_true rfl) ⟨Nat.le_of_ble_eq_true rfl, Nat.le_of_ble_eq_true rfl⟩ (ch_mono (ch_Ki (fun r1 m2 q3 => ?_)) (s_m_isChild g (fun (r_ : Int32) (m_ : ch_M) => ((0 ≤ p1 ∧ p1 ≤ m (9, 0, 1) 0 - 1) ∧ 1 = r_ ∧ m = m_) ∨ ((¬ (0 ≤ p1 ∧ p1 ≤ m (9, 0, 1) 0 - 1)) ∧ 0 = r_ ∧ m = m_)) (p1) m ⟨(fun c_ => (Or.inl ⟨c_, rfl, rfl⟩)), (fun c_ => (Or.inr ⟨c_, rfl, rfl⟩))⟩))
  rcases q3 with ⟨c_, rfl, rfl⟩ | ⟨c_, rfl, rfl⟩
  · replace h := h.1 c_
    refine ch_if_eq (tgt := 13) d_m_longest_6 (by decide) (fun c => absurd c (by decide)) (fun _ => ?_)
    refine ch_iconst (v := 0) d_m_longest_9 (by decide) ?_
    refine ch_goto (tgt := 14) d_m_longest_10 (by decide) ?_
    refine ch_put d_m_longest_14 fp_m_48 rfl rfl rfl ?_
    generalize hmm4 : ch_wr m (9, 0, 0) 19 0 = m4
    replace h := h m4 hmm4.symm
    refine ch_aload_n (i := 0) d_m_longest_17 rfl rfl ?_
    refine ch_get (v := .inl (.int (m4 (9, 0, 0) 19))) d_m_longest_18 fl_m_48 rfl ?_
    refine ch_if_ne (tgt := 32) d_m_longest_21 (by decide) (fun c => ?_) (fun c => ?_)
    · replace h := h.1 c
      refine ch_iconst (v := 0) d_m_longest_32 (by decide) ?_
      exact ch_iret (ty := .int) d_m_longest_33 rfl rfl (Nat.le_of_ble_eq_true rfl) h
    · replace h := h.2 c
      refine ch_aload_n (i := 0) d_m_longest_24 rfl rfl ?_
      refine ch_iload_n (i := 1) d_m_longest_25 rfl rfl ?_
      obtain ⟨Y_5, h⟩ := h
      have b9 := h.1
      replace h := h.2
      refine ch_callV (as := [.inl (.int p1)]) d_m_longest_26 lk_m_200 mi_m_longestOf me_m_longestOf rfl rfl rfl ⟨Nat.le_of_ble_eq_true rfl, Nat.le_of_ble_eq_true rfl⟩ (Nat.le_of_ble_eq_true rfl) ⟨Nat.le_of_ble_eq_true rfl, Nat.le_of_ble_eq_true rfl⟩ (ch_mono (ch_Ki (fun r6 m7 q8 => ?_)) (s_m_longestOf g (fun (r_ : Int32) (m_ : ch_M) => (((y_lr (Y_5 1) p1 12).1) = r_ ∧ m4 = m_)) (Y_5) (p1) m4 ⟨b9, ⟨rfl, rfl⟩⟩))
      obtain ⟨rfl, rfl⟩ := q8
      replace h := h
      refine ch_goto (tgt := 33) d_m_longest_29 (by decide) ?_
      exact ch_iret (ty := .int) d_m_longest_33 rfl rfl (Nat.le_of_ble_eq_true rfl) h
  · replace h := h.2 c_
    refine ch_if_eq (tgt := 13) d_m_longest_6 (by decide) (fun _ => ?_) (fun c => absurd c (by decide))
    refine ch_iconst (v := 1) d_m_longest_13 (by decide) ?_
    refine ch_put d_m_longest_14 fp_m_48 rfl rfl rfl ?_
    generalize hmm10 : ch_wr m (9, 0, 0) 19 1 = m10
    replace h := h m10 hmm10.symm
    refine ch_aload_n (i := 0) d_m_longest_17 rfl rfl ?_
    refine ch_get (v := .inl (.int (m10 (9, 0, 0) 19))) d_m_longest_18 fl_m_48 rfl ?_
    refine ch_if_ne (tgt := 32) d_m_longest_21 (by decide) (fun c => ?_) (fun c => ?_)
    · replace h := h.1 c
      refine ch_iconst (v := 0) d_m_longest_32 (by decide) ?_
      exact ch_iret (ty := .int) d_m_longest_33 rfl rfl (Nat.le_of_ble_eq_true rfl) h
    · replace h := h.2 c
      refine ch_aload_n (i := 0) d_m_longest_24 rfl rfl ?_
      refine ch_iload_n (i := 1) d_m_longest_25 rfl rfl ?_
      obtain ⟨Y_11, h⟩ := h
      have b15 := h.1
      replace h := h.2
      refine ch_callV (as := [.inl (.int p1)]) d_m_longest_26 lk_m_200 mi_m_longestOf me_m_longestOf rfl rfl rfl ⟨Nat.le_of_ble_eq_true rfl, Nat.le_of_ble_eq_true rfl⟩ (Nat.le_of_ble_eq_true rfl) ⟨Nat.le_of_ble_eq_true rfl, Nat.le_of_ble_eq_true rfl⟩ (ch_mono (ch_Ki (fun r12 m13 q14 => ?_)) (s_m_longestOf g (fun (r_ : Int32) (m_ : ch_M) => (((y_lr (Y_11 1) p1 12).1) = r_ ∧ m10 = m_)) (Y_11) (p1) m10 ⟨b15, ⟨rfl, rfl⟩⟩))
      obtain ⟨rfl, rfl⟩ := q14
      replace h := h
      refine ch_goto (tgt := 33) d_m_longest_29 (by decide) ?_
      exact ch_iret (ty := .int) d_m_longest_33 rfl rfl (Nat.le_of_ble_eq_true rfl) h
theorem e_m_gap (g : ch_G) (Q : ch_O → ch_M → Prop)  (m : ch_M) (h : ch_J g m_m_gap (ch_rm m_m_gap) (ch_E g m_m_gap Q) 0 [some (.inr (9, 0, 0))] [] m 0) : ch_C g m_m_gap [.inr (9, 0, 0)] m Q :=
  ch_enter mf_m_gap (by intro v hv; simp only [List.mem_cons, List.not_mem_nil, or_false] at hv; rcases hv with rfl <;> rfl) (Nat.le_of_ble_eq_true rfl) h
set_option maxHeartbeats 1600000 in
theorem g_m_gap_0 (g : ch_G) (Q : ch_O → ch_M → Prop)  (m : ch_M) (h : (∀ m1 : ch_M, m1 = ch_wr m (9, 0, 0) 19 0 → (∃ Y_2 : ch_B, (m_rel Y_2 (m1 (9, 0, 1))) ∧ (Q (.inl (some (.inl (.int ((y_lr (Y_2 1) (-1) 12).1))))) m1)))) : ch_J g m_m_gap (ch_rm m_m_gap) (ch_E g m_m_gap Q) 0 [some (.inr (9, 0, 0))] [] m 0 := by
  refine ch_aload_n (i := 0) d_m_gap_0 rfl rfl ?_
  refine ch_iconst (v := 0) d_m_gap_1 (by decide) ?_
  refine ch_put d_m_gap_2 fp_m_48 rfl rfl rfl ?_
  generalize hmm1 : ch_wr m (9, 0, 0) 19 0 = m1
  replace h := h m1 hmm1.symm
  refine ch_aload_n (i := 0) d_m_gap_5 rfl rfl ?_
  refine ch_iconst (v := (-1)) d_m_gap_6 (by decide) ?_
  obtain ⟨Y_2, h⟩ := h
  have b6 := h.1
  replace h := h.2
  refine ch_callV (as := [.inl (.int (-1))]) d_m_gap_7 lk_m_200 mi_m_longestOf me_m_longestOf rfl rfl rfl ⟨Nat.le_of_ble_eq_true rfl, Nat.le_of_ble_eq_true rfl⟩ (Nat.le_of_ble_eq_true rfl) ⟨Nat.le_of_ble_eq_true rfl, Nat.le_of_ble_eq_true rfl⟩ (ch_mono (ch_Ki (fun r3 m4 q5 => ?_)) (s_m_longestOf g (fun (r_ : Int32) (m_ : ch_M) => (((y_lr (Y_2 1) (-1) 12).1) = r_ ∧ m1 = m_)) (Y_2) ((-1)) m1 ⟨b6, ⟨rfl, rfl⟩⟩))
  obtain ⟨rfl, rfl⟩ := q5
  replace h := h
  exact ch_iret (ty := .int) d_m_gap_10 rfl rfl (Nat.le_of_ble_eq_true rfl) h
theorem e_m_wouldEnd (g : ch_G) (Q : ch_O → ch_M → Prop) (p1 : Int32) (m : ch_M) (h : ch_J g m_m_wouldEnd (ch_rm m_m_wouldEnd) (ch_E g m_m_wouldEnd Q) 0 [some (.inr (9, 0, 0)), some (.inl (.int p1))] [] m 0) : ch_C g m_m_wouldEnd [.inr (9, 0, 0), .inl (.int p1)] m Q :=
  ch_enter mf_m_wouldEnd (by intro v hv; simp only [List.mem_cons, List.not_mem_nil, or_false] at hv; rcases hv with rfl | rfl <;> rfl) (Nat.le_of_ble_eq_true rfl) h
set_option maxHeartbeats 1600000 in
theorem g_m_wouldEnd_0 (g : ch_G) (Q : ch_O → ch_M → Prop) (p1 : Int32) (m : ch_M) (h : (((1 ≤ p1 ∧ p1 ≤ 9) → (∀ m4 : ch_M, m4 = ch_wr m (9, 0, 0) 19 0 → ((¬ (m4 (9, 0, 0) 19) = 0 → Q (.inl (some (.inl (.int 0)))) m4) ∧ ((m4 (9, 0, 0) 19) = 0 → (∃ Y_5 : ch_B, (m_rel Y_5 (m4 (9, 0, 1))) ∧ (vp_in (Y_5 0 8) 6) ∧ (Q (.inl (some (.inl (.int (m_ci (Y_5 2) p1 12 + m_ci (Y_5 5) p1 (Int32.toNatClampNeg (Y_5 0 8))))))) m4)))))) ∧ ((¬ (1 ≤ p1 ∧ p1 ≤ 9)) → (∀ m11 : ch_M, m11 = ch_wr m (9, 0, 0) 19 1 → ((¬ (m11 (9, 0, 0) 19) = 0 → Q (.inl (some (.inl (.int 0)))) m11) ∧ ((m11 (9, 0, 0) 19) = 0 → (∃ Y_12 : ch_B, (m_rel Y_12 (m11 (9, 0, 1))) ∧ (vp_in (Y_12 0 8) 6) ∧ (Q (.inl (some (.inl (.int (m_ci (Y_12 2) p1 12 + m_ci (Y_12 5) p1 (Int32.toNatClampNeg (Y_12 0 8))))))) m11)))))))) : ch_J g m_m_wouldEnd (ch_rm m_m_wouldEnd) (ch_E g m_m_wouldEnd Q) 0 [some (.inr (9, 0, 0)), some (.inl (.int p1))] [] m 0 := by
  refine ch_aload_n (i := 0) d_m_wouldEnd_0 rfl rfl ?_
  refine ch_iload_n (i := 1) d_m_wouldEnd_1 rfl rfl ?_
  refine ch_iconst (v := 1) d_m_wouldEnd_2 (by decide) ?_
  refine ch_bipush (v := 9) d_m_wouldEnd_3 (by decide) ?_
  refine ch_callS (as := [.inl (.int p1), .inl (.int 1), .inl (.int 9)]) d_m_wouldEnd_5 lk_m_73 ms_m_in rfl rfl ⟨Nat.le_of_ble_eq_true rfl, Nat.le_of_ble_eq_true rfl⟩ (Nat.le_of_ble_eq_true rfl) ⟨Nat.le_of_ble_eq_true rfl, Nat.le_of_ble_eq_true rfl⟩ (ch_mono (ch_Ki (fun r1 m2 q3 => ?_)) (s_m_in g (fun (r_ : Int32) (m_ : ch_M) => ((1 ≤ p1 ∧ p1 ≤ 9) ∧ 1 = r_ ∧ m = m_) ∨ ((¬ (1 ≤ p1 ∧ p1 ≤ 9)) ∧ 0 = r_ ∧ m = m_)) (p1) (1) (9) m ⟨(fun c_ => (Or.inl ⟨c_, rfl, rfl⟩)), (fun c_ => (Or.inr ⟨c_, rfl, rfl⟩))⟩))
  rcases q3 with ⟨c_, rfl, rfl⟩ | ⟨c_, rfl, rfl⟩
  · replace h := h.1 c_
    refine ch_if_eq (tgt := 15) d_m_wouldEnd_8 (by decide) (fun c => absurd c (by decide)) (fun _ => ?_)
    refine ch_iconst (v := 0) d_m_wouldEnd_11 (by decide) ?_
    refine ch_goto (tgt := 16) d_m_wouldEnd_12 (by decide) ?_
    refine ch_put d_m_wouldEnd_16 fp_m_48 rfl rfl rfl ?_
    generalize hmm4 : ch_wr m (9, 0, 0) 19 0 = m4
    replace h := h m4 hmm4.symm
    refine ch_aload_n (i := 0) d_m_wouldEnd_19 rfl rfl ?_
    refine ch_get (v := .inl (.int (m4 (9, 0, 0) 19))) d_m_wouldEnd_20 fl_m_48 rfl ?_
    refine ch_if_ne (tgt := 34) d_m_wouldEnd_23 (by decide) (fun c => ?_) (fun c => ?_)
    · replace h := h.1 c
      refine ch_iconst (v := 0) d_m_wouldEnd_34 (by decide) ?_
      exact ch_iret (ty := .int) d_m_wouldEnd_35 rfl rfl (Nat.le_of_ble_eq_true rfl) h
    · replace h := h.2 c
      refine ch_aload_n (i := 0) d_m_wouldEnd_26 rfl rfl ?_
      refine ch_iload_n (i := 1) d_m_wouldEnd_27 rfl rfl ?_
      obtain ⟨Y_5, h⟩ := h
      have b9 := h.1
      replace h := h.2
      have b10 := h.1
      replace h := h.2
      refine ch_callV (as := [.inl (.int p1)]) d_m_wouldEnd_28 lk_m_165 mi_m_endsBy me_m_endsBy rfl rfl rfl ⟨Nat.le_of_ble_eq_true rfl, Nat.le_of_ble_eq_true rfl⟩ (Nat.le_of_ble_eq_true rfl) ⟨Nat.le_of_ble_eq_true rfl, Nat.le_of_ble_eq_true rfl⟩ (ch_mono (ch_Ki (fun r6 m7 q8 => ?_)) (s_m_endsBy g (fun (r_ : Int32) (m_ : ch_M) => ((m_ci (Y_5 2) p1 12 + m_ci (Y_5 5) p1 (Int32.toNatClampNeg (Y_5 0 8))) = r_ ∧ m4 = m_)) (Y_5) (p1) m4 ⟨b9, b10, ⟨rfl, rfl⟩⟩))
      obtain ⟨rfl, rfl⟩ := q8
      replace h := h
      refine ch_goto (tgt := 35) d_m_wouldEnd_31 (by decide) ?_
      exact ch_iret (ty := .int) d_m_wouldEnd_35 rfl rfl (Nat.le_of_ble_eq_true rfl) h
  · replace h := h.2 c_
    refine ch_if_eq (tgt := 15) d_m_wouldEnd_8 (by decide) (fun _ => ?_) (fun c => absurd c (by decide))
    refine ch_iconst (v := 1) d_m_wouldEnd_15 (by decide) ?_
    refine ch_put d_m_wouldEnd_16 fp_m_48 rfl rfl rfl ?_
    generalize hmm11 : ch_wr m (9, 0, 0) 19 1 = m11
    replace h := h m11 hmm11.symm
    refine ch_aload_n (i := 0) d_m_wouldEnd_19 rfl rfl ?_
    refine ch_get (v := .inl (.int (m11 (9, 0, 0) 19))) d_m_wouldEnd_20 fl_m_48 rfl ?_
    refine ch_if_ne (tgt := 34) d_m_wouldEnd_23 (by decide) (fun c => ?_) (fun c => ?_)
    · replace h := h.1 c
      refine ch_iconst (v := 0) d_m_wouldEnd_34 (by decide) ?_
      exact ch_iret (ty := .int) d_m_wouldEnd_35 rfl rfl (Nat.le_of_ble_eq_true rfl) h
    · replace h := h.2 c
      refine ch_aload_n (i := 0) d_m_wouldEnd_26 rfl rfl ?_
      refine ch_iload_n (i := 1) d_m_wouldEnd_27 rfl rfl ?_
      obtain ⟨Y_12, h⟩ := h
      have b16 := h.1
      replace h := h.2
      have b17 := h.1
      replace h := h.2
      refine ch_callV (as := [.inl (.int p1)]) d_m_wouldEnd_28 lk_m_165 mi_m_endsBy me_m_endsBy rfl rfl rfl ⟨Nat.le_of_ble_eq_true rfl, Nat.le_of_ble_eq_true rfl⟩ (Nat.le_of_ble_eq_true rfl) ⟨Nat.le_of_ble_eq_true rfl, Nat.le_of_ble_eq_true rfl⟩ (ch_mono (ch_Ki (fun r13 m14 q15 => ?_)) (s_m_endsBy g (fun (r_ : Int32) (m_ : ch_M) => ((m_ci (Y_12 2) p1 12 + m_ci (Y_12 5) p1 (Int32.toNatClampNeg (Y_12 0 8))) = r_ ∧ m11 = m_)) (Y_12) (p1) m11 ⟨b16, b17, ⟨rfl, rfl⟩⟩))
      obtain ⟨rfl, rfl⟩ := q15
      replace h := h
      refine ch_goto (tgt := 35) d_m_wouldEnd_31 (by decide) ?_
      exact ch_iret (ty := .int) d_m_wouldEnd_35 rfl rfl (Nat.le_of_ble_eq_true rfl) h
theorem e_m_rainFor (g : ch_G) (Q : ch_O → ch_M → Prop) (p1 : Int32) (m : ch_M) (h : ch_J g m_m_rainFor (ch_rm m_m_rainFor) (ch_E g m_m_rainFor Q) 0 [some (.inr (9, 0, 0)), some (.inl (.int p1))] [] m 0) : ch_C g m_m_rainFor [.inr (9, 0, 0), .inl (.int p1)] m Q :=
  ch_enter mf_m_rainFor (by intro v hv; simp only [List.mem_cons, List.not_mem_nil, or_false] at hv; rcases hv with rfl | rfl <;> rfl) (Nat.le_of_ble_eq_true rfl) h
set_option maxHeartbeats 1600000 in
theorem g_m_rainFor_0 (g : ch_G) (Q : ch_O → ch_M → Prop) (p1 : Int32) (m : ch_M) (h : (∀ m1 : ch_M, m1 = ch_wr m (9, 0, 0) 19 0 → (((0 ≤ p1 ∧ p1 ≤ m1 (9, 0, 1) 0 - 1) → (vp_in p1 5) ∧ (((¬ (m1 (9, 0, 1) (38 + 5 * Int32.toNatClampNeg p1 + 2)) = 0 → (Q (.inl (some (.inl (.int (m1 (9, 0, 1) (38 + 5 * Int32.toNatClampNeg p1 + 2)))))) m1)) ∧ ((m1 (9, 0, 1) (38 + 5 * Int32.toNatClampNeg p1 + 2)) = 0 → ((∀ m13 : ch_M, m13 = ch_wr m1 (9, 0, 0) 19 2 → Q (.inl (some (.inl (.int 0)))) m13)))))) ∧ ((¬ (0 ≤ p1 ∧ p1 ≤ m1 (9, 0, 1) 0 - 1)) → ((∀ m16 : ch_M, m16 = ch_wr m1 (9, 0, 0) 19 1 → Q (.inl (some (.inl (.int 0)))) m16)))))) : ch_J g m_m_rainFor (ch_rm m_m_rainFor) (ch_E g m_m_rainFor Q) 0 [some (.inr (9, 0, 0)), some (.inl (.int p1))] [] m 0 := by
  refine ch_aload_n (i := 0) d_m_rainFor_0 rfl rfl ?_
  refine ch_iconst (v := 0) d_m_rainFor_1 (by decide) ?_
  refine ch_put d_m_rainFor_2 fp_m_48 rfl rfl rfl ?_
  generalize hmm1 : ch_wr m (9, 0, 0) 19 0 = m1
  replace h := h m1 hmm1.symm
  refine ch_aload_n (i := 0) d_m_rainFor_5 rfl rfl ?_
  refine ch_iload_n (i := 1) d_m_rainFor_6 rfl rfl ?_
  refine ch_callV (as := [.inl (.int p1)]) d_m_rainFor_7 lk_m_77 mi_m_isChild me_m_isChild rfl rfl rfl ⟨Nat.le_of_ble_eq_true rfl, Nat.le_of_ble_eq_true rfl⟩ (Nat.le_of_ble_eq_true rfl) ⟨Nat.le_of_ble_eq_true rfl, Nat.le_of_ble_eq_true rfl⟩ (ch_mono (ch_Ki (fun r2 m3 q4 => ?_)) (s_m_isChild g (fun (r_ : Int32) (m_ : ch_M) => ((0 ≤ p1 ∧ p1 ≤ m1 (9, 0, 1) 0 - 1) ∧ 1 = r_ ∧ m1 = m_) ∨ ((¬ (0 ≤ p1 ∧ p1 ≤ m1 (9, 0, 1) 0 - 1)) ∧ 0 = r_ ∧ m1 = m_)) (p1) m1 ⟨(fun c_ => (Or.inl ⟨c_, rfl, rfl⟩)), (fun c_ => (Or.inr ⟨c_, rfl, rfl⟩))⟩))
  rcases q4 with ⟨c_, rfl, rfl⟩ | ⟨c_, rfl, rfl⟩
  · replace h := h.1 c_
    refine ch_if_ne (tgt := 19) d_m_rainFor_10 (by decide) (fun _ => ?_) (fun c => absurd c (by decide))
    refine ch_aload_n (i := 0) d_m_rainFor_19 rfl rfl ?_
    refine ch_iload_n (i := 1) d_m_rainFor_20 rfl rfl ?_
    refine ch_iconst (v := 2) d_m_rainFor_21 (by decide) ?_
    have b8 := h.1
    replace h := h.2
    refine ch_callV (as := [.inl (.int p1), .inl (.int 2)]) d_m_rainFor_22 lk_m_85 mi_m_of me_m_of rfl rfl rfl ⟨Nat.le_of_ble_eq_true rfl, Nat.le_of_ble_eq_true rfl⟩ (Nat.le_of_ble_eq_true rfl) ⟨Nat.le_of_ble_eq_true rfl, Nat.le_of_ble_eq_true rfl⟩ (ch_mono (ch_Ki (fun r5 m6 q7 => ?_)) (s_m_of g (fun (r_ : Int32) (m_ : ch_M) => ((m1 (9, 0, 1) (38 + 5 * Int32.toNatClampNeg p1 + 2)) = r_ ∧ m1 = m_)) (p1) (2) m1 ⟨b8, (vp_in_nI (n := 2) (by decide) (by decide)), ⟨rfl, rfl⟩⟩))
    obtain ⟨rfl, rfl⟩ := q7
    replace h := h
    refine ch_if_ne (tgt := 36) d_m_rainFor_25 (by decide) (fun c => ?_) (fun c => ?_)
    · replace h := h.1 c
      refine ch_aload_n (i := 0) d_m_rainFor_36 rfl rfl ?_
      refine ch_iload_n (i := 1) d_m_rainFor_37 rfl rfl ?_
      refine ch_iconst (v := 2) d_m_rainFor_38 (by decide) ?_
      refine ch_callV (as := [.inl (.int p1), .inl (.int 2)]) d_m_rainFor_39 lk_m_85 mi_m_of me_m_of rfl rfl rfl ⟨Nat.le_of_ble_eq_true rfl, Nat.le_of_ble_eq_true rfl⟩ (Nat.le_of_ble_eq_true rfl) ⟨Nat.le_of_ble_eq_true rfl, Nat.le_of_ble_eq_true rfl⟩ (ch_mono (ch_Ki (fun r9 m10 q11 => ?_)) (s_m_of g (fun (r_ : Int32) (m_ : ch_M) => ((m1 (9, 0, 1) (38 + 5 * Int32.toNatClampNeg p1 + 2)) = r_ ∧ m1 = m_)) (p1) (2) m1 ⟨b8, (vp_in_nI (n := 2) (by decide) (by decide)), ⟨rfl, rfl⟩⟩))
      obtain ⟨rfl, rfl⟩ := q11
      replace h := h
      exact ch_iret (ty := .int) d_m_rainFor_42 rfl rfl (Nat.le_of_ble_eq_true rfl) h
    · replace h := h.2 c
      refine ch_aload_n (i := 0) d_m_rainFor_28 rfl rfl ?_
      refine ch_iconst (v := 2) d_m_rainFor_29 (by decide) ?_
      refine ch_callV (as := [.inl (.int 2)]) d_m_rainFor_30 lk_m_70 mi_m_raises me_m_raises rfl rfl rfl ⟨Nat.le_of_ble_eq_true rfl, Nat.le_of_ble_eq_true rfl⟩ (Nat.le_of_ble_eq_true rfl) ⟨Nat.le_of_ble_eq_true rfl, Nat.le_of_ble_eq_true rfl⟩ (ch_mono (ch_Ki (fun r12 m13 q14 => ?_)) (s_m_raises g (fun (r_ : Int32) (m_ : ch_M) => (0 = r_ ∧ m_ = ch_wr m1 (9, 0, 0) 19 2)) (2) m1 ⟨rfl, rfl⟩))
      obtain ⟨rfl, hm_⟩ := q14
      replace h := h m13 hm_
      refine ch_goto (tgt := 42) d_m_rainFor_33 (by decide) ?_
      exact ch_iret (ty := .int) d_m_rainFor_42 rfl rfl (Nat.le_of_ble_eq_true rfl) h
  · replace h := h.2 c_
    refine ch_if_ne (tgt := 19) d_m_rainFor_10 (by decide) (fun c => absurd c (by decide)) (fun _ => ?_)
    refine ch_aload_n (i := 0) d_m_rainFor_13 rfl rfl ?_
    refine ch_iconst (v := 1) d_m_rainFor_14 (by decide) ?_
    refine ch_callV (as := [.inl (.int 1)]) d_m_rainFor_15 lk_m_70 mi_m_raises me_m_raises rfl rfl rfl ⟨Nat.le_of_ble_eq_true rfl, Nat.le_of_ble_eq_true rfl⟩ (Nat.le_of_ble_eq_true rfl) ⟨Nat.le_of_ble_eq_true rfl, Nat.le_of_ble_eq_true rfl⟩ (ch_mono (ch_Ki (fun r15 m16 q17 => ?_)) (s_m_raises g (fun (r_ : Int32) (m_ : ch_M) => (0 = r_ ∧ m_ = ch_wr m1 (9, 0, 0) 19 1)) (1) m1 ⟨rfl, rfl⟩))
    obtain ⟨rfl, hm_⟩ := q17
    replace h := h m16 hm_
    exact ch_iret (ty := .int) d_m_rainFor_18 rfl rfl (Nat.le_of_ble_eq_true rfl) h
theorem e_m_wouldLose (g : ch_G) (Q : ch_O → ch_M → Prop) (p1 : Int32) (m : ch_M) (h : ch_J g m_m_wouldLose (ch_rm m_m_wouldLose) (ch_E g m_m_wouldLose Q) 0 [some (.inr (9, 0, 0)), some (.inl (.int p1)), none, none, none] [] m 0) : ch_C g m_m_wouldLose [.inr (9, 0, 0), .inl (.int p1)] m Q :=
  ch_enter mf_m_wouldLose (by intro v hv; simp only [List.mem_cons, List.not_mem_nil, or_false] at hv; rcases hv with rfl | rfl <;> rfl) (Nat.le_of_ble_eq_true rfl) h
set_option maxHeartbeats 1600000 in
theorem g_m_wouldLose_0 (g : ch_G) (Q : ch_O → ch_M → Prop) (p1 : Int32) (m : ch_M) (h : (∀ m1 : ch_M, m1 = ch_wr m (9, 0, 0) 19 0 → (((0 ≤ p1 ∧ p1 ≤ m1 (9, 0, 1) 0 - 1) → (vp_in p1 5) ∧ (ch_J g m_m_wouldLose (ch_rm m_m_wouldLose) (ch_E g m_m_wouldLose Q) 31 [some (.inr (9, 0, 0)), some (.inl (.int p1)), some (.inl (.int 0)), some (.inl (.int (m1 (9, 0, 1) (38 + 5 * Int32.toNatClampNeg p1 + 0)))), some (.inl (.int 0))] [] m1 0)) ∧ ((¬ (0 ≤ p1 ∧ p1 ≤ m1 (9, 0, 1) 0 - 1)) → ((∀ m10 : ch_M, m10 = ch_wr m1 (9, 0, 0) 19 1 → Q (.inl (some (.inl (.int 0)))) m10)))))) : ch_J g m_m_wouldLose (ch_rm m_m_wouldLose) (ch_E g m_m_wouldLose Q) 0 [some (.inr (9, 0, 0)), some (.inl (.int p1)), none, none, none] [] m 0 := by
  refine ch_aload_n (i := 0) d_m_wouldLose_0 rfl rfl ?_
  refine ch_iconst (v := 0) d_m_wouldLose_1 (by decide) ?_
  refine ch_put d_m_wouldLose_2 fp_m_48 rfl rfl rfl ?_
  generalize hmm1 : ch_wr m (9, 0, 0) 19 0 = m1
  replace h := h m1 hmm1.symm
  refine ch_aload_n (i := 0) d_m_wouldLose_5 rfl rfl ?_
  refine ch_iload_n (i := 1) d_m_wouldLose_6 rfl rfl ?_
  refine ch_callV (as := [.inl (.int p1)]) d_m_wouldLose_7 lk_m_77 mi_m_isChild me_m_isChild rfl rfl rfl ⟨Nat.le_of_ble_eq_true rfl, Nat.le_of_ble_eq_true rfl⟩ (Nat.le_of_ble_eq_true rfl) ⟨Nat.le_of_ble_eq_true rfl, Nat.le_of_ble_eq_true rfl⟩ (ch_mono (ch_Ki (fun r2 m3 q4 => ?_)) (s_m_isChild g (fun (r_ : Int32) (m_ : ch_M) => ((0 ≤ p1 ∧ p1 ≤ m1 (9, 0, 1) 0 - 1) ∧ 1 = r_ ∧ m1 = m_) ∨ ((¬ (0 ≤ p1 ∧ p1 ≤ m1 (9, 0, 1) 0 - 1)) ∧ 0 = r_ ∧ m1 = m_)) (p1) m1 ⟨(fun c_ => (Or.inl ⟨c_, rfl, rfl⟩)), (fun c_ => (Or.inr ⟨c_, rfl, rfl⟩))⟩))
  rcases q4 with ⟨c_, rfl, rfl⟩ | ⟨c_, rfl, rfl⟩
  · replace h := h.1 c_
    refine ch_if_ne (tgt := 19) d_m_wouldLose_10 (by decide) (fun _ => ?_) (fun c => absurd c (by decide))
    refine ch_iconst (v := 0) d_m_wouldLose_19 (by decide) ?_
    refine ch_istore_n (i := 2) d_m_wouldLose_20 rfl (Nat.le_of_ble_eq_true rfl) (ls' := [some (.inr (9, 0, 0)), some (.inl (.int p1)), some (.inl (.int 0)), none, none]) rfl ?_
    refine ch_aload_n (i := 0) d_m_wouldLose_21 rfl rfl ?_
    refine ch_iload_n (i := 1) d_m_wouldLose_22 rfl rfl ?_
    refine ch_iconst (v := 0) d_m_wouldLose_23 (by decide) ?_
    have b8 := h.1
    replace h := h.2
    refine ch_callV (as := [.inl (.int p1), .inl (.int 0)]) d_m_wouldLose_24 lk_m_85 mi_m_of me_m_of rfl rfl rfl ⟨Nat.le_of_ble_eq_true rfl, Nat.le_of_ble_eq_true rfl⟩ (Nat.le_of_ble_eq_true rfl) ⟨Nat.le_of_ble_eq_true rfl, Nat.le_of_ble_eq_true rfl⟩ (ch_mono (ch_Ki (fun r5 m6 q7 => ?_)) (s_m_of g (fun (r_ : Int32) (m_ : ch_M) => ((m1 (9, 0, 1) (38 + 5 * Int32.toNatClampNeg p1 + 0)) = r_ ∧ m1 = m_)) (p1) (0) m1 ⟨b8, (vp_in_nI (n := 0) (by decide) (by decide)), ⟨rfl, rfl⟩⟩))
    obtain ⟨rfl, rfl⟩ := q7
    replace h := h
    refine ch_istore_n (i := 3) d_m_wouldLose_27 rfl (Nat.le_of_ble_eq_true rfl) (ls' := [some (.inr (9, 0, 0)), some (.inl (.int p1)), some (.inl (.int 0)), some (.inl (.int (m1 (9, 0, 1) (38 + 5 * Int32.toNatClampNeg p1 + 0)))), none]) rfl ?_
    refine ch_iconst (v := 0) d_m_wouldLose_28 (by decide) ?_
    refine ch_istore (i := 4) d_m_wouldLose_29 (Nat.le_of_ble_eq_true rfl) (ls' := [some (.inr (9, 0, 0)), some (.inl (.int p1)), some (.inl (.int 0)), some (.inl (.int (m1 (9, 0, 1) (38 + 5 * Int32.toNatClampNeg p1 + 0)))), some (.inl (.int 0))]) rfl ?_
    exact h
  · replace h := h.2 c_
    refine ch_if_ne (tgt := 19) d_m_wouldLose_10 (by decide) (fun c => absurd c (by decide)) (fun _ => ?_)
    refine ch_aload_n (i := 0) d_m_wouldLose_13 rfl rfl ?_
    refine ch_iconst (v := 1) d_m_wouldLose_14 (by decide) ?_
    refine ch_callV (as := [.inl (.int 1)]) d_m_wouldLose_15 lk_m_70 mi_m_raises me_m_raises rfl rfl rfl ⟨Nat.le_of_ble_eq_true rfl, Nat.le_of_ble_eq_true rfl⟩ (Nat.le_of_ble_eq_true rfl) ⟨Nat.le_of_ble_eq_true rfl, Nat.le_of_ble_eq_true rfl⟩ (ch_mono (ch_Ki (fun r9 m10 q11 => ?_)) (s_m_raises g (fun (r_ : Int32) (m_ : ch_M) => (0 = r_ ∧ m_ = ch_wr m1 (9, 0, 0) 19 1)) (1) m1 ⟨rfl, rfl⟩))
    obtain ⟨rfl, hm_⟩ := q11
    replace h := h m10 hm_
    exact ch_iret (ty := .int) d_m_wouldLose_18 rfl rfl (Nat.le_of_ble_eq_true rfl) h
set_option maxHeartbeats 1600000 in
theorem g_m_wouldLose_31 (g : ch_G) (Q : ch_O → ch_M → Prop) (x1 : Int32) (x2 : Int32) (x3 : Int32) (x4 : Int32) (m : ch_M) (h : ((12 ≤ x4 → Q (.inl (some (.inl (.int x2)))) m) ∧ (¬ 12 ≤ x4 → (vp_in x4 12) ∧ (((¬ (m (9, 0, 1) (14 + 2 * Int32.toNatClampNeg x4) - 1) = x1 → ch_J g m_m_wouldLose (ch_rm m_m_wouldLose) (ch_E g m_m_wouldLose Q) 31 [some (.inr (9, 0, 0)), some (.inl (.int x1)), some (.inl (.int x2)), some (.inl (.int x3)), some (.inl (.int (x4 + 1)))] [] m 0) ∧ ((m (9, 0, 1) (14 + 2 * Int32.toNatClampNeg x4) - 1) = x1 → ((0 < x3 → ch_J g m_m_wouldLose (ch_rm m_m_wouldLose) (ch_E g m_m_wouldLose Q) 31 [some (.inr (9, 0, 0)), some (.inl (.int x1)), some (.inl (.int x2)), some (.inl (.int (x3 + (-1)))), some (.inl (.int (x4 + 1)))] [] m 0) ∧ (¬ 0 < x3 → ch_J g m_m_wouldLose (ch_rm m_m_wouldLose) (ch_E g m_m_wouldLose Q) 31 [some (.inr (9, 0, 0)), some (.inl (.int x1)), some (.inl (.int (x2 ||| (1 <<< (x4 &&& 31))))), some (.inl (.int (x3 + (-1)))), some (.inl (.int (x4 + 1)))] [] m 0)))))))) : ch_J g m_m_wouldLose (ch_rm m_m_wouldLose) (ch_E g m_m_wouldLose Q) 31 [some (.inr (9, 0, 0)), some (.inl (.int x1)), some (.inl (.int x2)), some (.inl (.int x3)), some (.inl (.int x4))] [] m 0 := by
  refine ch_iload d_m_wouldLose_31 rfl ?_
  refine ch_bipush (v := 12) d_m_wouldLose_33 (by decide) ?_
  refine ch_icmp_ge (tgt := 68) d_m_wouldLose_35 (by decide) (fun c => ?_) (fun c => ?_)
  · replace h := h.1 c
    refine ch_iload_n (i := 2) d_m_wouldLose_68 rfl rfl ?_
    exact ch_iret (ty := .int) d_m_wouldLose_69 rfl rfl (Nat.le_of_ble_eq_true rfl) h
  · replace h := h.2 c
    refine ch_aload_n (i := 0) d_m_wouldLose_38 rfl rfl ?_
    refine ch_iload d_m_wouldLose_39 rfl ?_
    have b4 := h.1
    replace h := h.2
    refine ch_callV (as := [.inl (.int x4)]) d_m_wouldLose_41 lk_m_109 mi_m_owner me_m_owner rfl rfl rfl ⟨Nat.le_of_ble_eq_true rfl, Nat.le_of_ble_eq_true rfl⟩ (Nat.le_of_ble_eq_true rfl) ⟨Nat.le_of_ble_eq_true rfl, Nat.le_of_ble_eq_true rfl⟩ (ch_mono (ch_Ki (fun r1 m2 q3 => ?_)) (s_m_owner g (fun (r_ : Int32) (m_ : ch_M) => ((m (9, 0, 1) (14 + 2 * Int32.toNatClampNeg x4) - 1) = r_ ∧ m = m_)) (x4) m ⟨b4, ⟨rfl, rfl⟩⟩))
    obtain ⟨rfl, rfl⟩ := q3
    replace h := h
    refine ch_iload_n (i := 1) d_m_wouldLose_44 rfl rfl ?_
    refine ch_icmp_ne (tgt := 62) d_m_wouldLose_45 (by decide) (fun c => ?_) (fun c => ?_)
    · replace h := h.1 c
      refine ch_iinc (i := 4) (v := (x4 + 1)) d_m_wouldLose_62 rfl rfl (Nat.le_of_ble_eq_true rfl) (ls' := [some (.inr (9, 0, 0)), some (.inl (.int x1)), some (.inl (.int x2)), some (.inl (.int x3)), some (.inl (.int (x4 + 1)))]) rfl ?_
      refine ch_goto (tgt := 31) d_m_wouldLose_65 (by decide) ?_
      exact h
    · replace h := h.2 c
      refine ch_iload_n (i := 3) d_m_wouldLose_48 rfl rfl ?_
      refine ch_iinc (i := 3) (v := (x3 + (-1))) d_m_wouldLose_49 rfl rfl (Nat.le_of_ble_eq_true rfl) (ls' := [some (.inr (9, 0, 0)), some (.inl (.int x1)), some (.inl (.int x2)), some (.inl (.int (x3 + (-1)))), some (.inl (.int x4))]) rfl ?_
      refine ch_if_gt (tgt := 62) d_m_wouldLose_52 (by decide) (fun c => ?_) (fun c => ?_)
      · replace h := h.1 c
        refine ch_iinc (i := 4) (v := (x4 + 1)) d_m_wouldLose_62 rfl rfl (Nat.le_of_ble_eq_true rfl) (ls' := [some (.inr (9, 0, 0)), some (.inl (.int x1)), some (.inl (.int x2)), some (.inl (.int (x3 + (-1)))), some (.inl (.int (x4 + 1)))]) rfl ?_
        refine ch_goto (tgt := 31) d_m_wouldLose_65 (by decide) ?_
        exact h
      · replace h := h.2 c
        refine ch_iload_n (i := 2) d_m_wouldLose_55 rfl rfl ?_
        refine ch_iconst (v := 1) d_m_wouldLose_56 (by decide) ?_
        refine ch_iload d_m_wouldLose_57 rfl ?_
        refine ch_ishl d_m_wouldLose_59 ?_
        refine ch_ior d_m_wouldLose_60 ?_
        refine ch_istore_n (i := 2) d_m_wouldLose_61 rfl (Nat.le_of_ble_eq_true rfl) (ls' := [some (.inr (9, 0, 0)), some (.inl (.int x1)), some (.inl (.int (x2 ||| (1 <<< (x4 &&& 31))))), some (.inl (.int (x3 + (-1)))), some (.inl (.int x4))]) rfl ?_
        refine ch_iinc (i := 4) (v := (x4 + 1)) d_m_wouldLose_62 rfl rfl (Nat.le_of_ble_eq_true rfl) (ls' := [some (.inr (9, 0, 0)), some (.inl (.int x1)), some (.inl (.int (x2 ||| (1 <<< (x4 &&& 31))))), some (.inl (.int (x3 + (-1)))), some (.inl (.int (x4 + 1)))]) rfl ?_
        refine ch_goto (tgt := 31) d_m_wouldLose_65 (by decide) ?_
        exact h
theorem e_m_measure (g : ch_G) (Q : ch_O → ch_M → Prop) (p1 : Int32) (p2 : Int32) (m : ch_M) (h : ch_J g m_m_measure (ch_rm m_m_measure) (ch_E g m_m_measure Q) 0 [some (.inr (9, 0, 0)), some (.inl (.int p1)), some (.inl (.int p2))] [] m 0) : ch_C g m_m_measure [.inr (9, 0, 0), .inl (.int p1), .inl (.int p2)] m Q :=
  ch_enter mf_m_measure (by intro v hv; simp only [List.mem_cons, List.not_mem_nil, or_false] at hv; rcases hv with rfl | rfl | rfl <;> rfl) (Nat.le_of_ble_eq_true rfl) h
set_option maxHeartbeats 1600000 in
theorem g_m_measure_0 (g : ch_G) (Q : ch_O → ch_M → Prop) (p1 : Int32) (p2 : Int32) (m : ch_M) (h : ((¬ p2 = 0 → ((¬ p2 = 1 → (vp_in p1 5) ∧ (vp_in (p2 - 1) 5) ∧ (Q (.inl (some (.inl (.int (m (9, 0, 1) (38 + 5 * Int32.toNatClampNeg p1 + Int32.toNatClampNeg (p2 - 1))))))) m)) ∧ (p2 = 1 → (∃ Y_6 : ch_B, (m_rel Y_6 (m (9, 0, 1))) ∧ ((Q (.inl (some (.inl (.int (i_bc (y_ofS (Y_6 1) p1 0 12)))))) m)))))) ∧ (p2 = 0 → (vp_in p1 5) ∧ (Q (.inl (some (.inl (.int (m (9, 0, 1) (38 + 5 * Int32.toNatClampNeg p1 + 0)))))) m)))) : ch_J g m_m_measure (ch_rm m_m_measure) (ch_E g m_m_measure Q) 0 [some (.inr (9, 0, 0)), some (.inl (.int p1)), some (.inl (.int p2))] [] m 0 := by
  refine ch_iload_n (i := 2) d_m_measure_0 rfl rfl ?_
  refine ch_if_ne (tgt := 13) d_m_measure_1 (by decide) (fun c => ?_) (fun c => ?_)
  · replace h := h.1 c
    refine ch_iload_n (i := 2) d_m_measure_13 rfl rfl ?_
    refine ch_iconst (v := 1) d_m_measure_14 (by decide) ?_
    refine ch_icmp_ne (tgt := 29) d_m_measure_15 (by decide) (fun c => ?_) (fun c => ?_)
    · replace h := h.1 c
      refine ch_aload_n (i := 0) d_m_measure_29 rfl rfl ?_
      refine ch_iload_n (i := 1) d_m_measure_30 rfl rfl ?_
      refine ch_iload_n (i := 2) d_m_measure_31 rfl rfl ?_
      refine ch_iconst (v := 1) d_m_measure_32 (by decide) ?_
      refine ch_isub d_m_measure_33 ?_
      have b4 := h.1
      replace h := h.2
      have b5 := h.1
      replace h := h.2
      refine ch_callV (as := [.inl (.int p1), .inl (.int (p2 - 1))]) d_m_measure_34 lk_m_85 mi_m_of me_m_of rfl rfl rfl ⟨Nat.le_of_ble_eq_true rfl, Nat.le_of_ble_eq_true rfl⟩ (Nat.le_of_ble_eq_true rfl) ⟨Nat.le_of_ble_eq_true rfl, Nat.le_of_ble_eq_true rfl⟩ (ch_mono (ch_Ki (fun r1 m2 q3 => ?_)) (s_m_of g (fun (r_ : Int32) (m_ : ch_M) => ((m (9, 0, 1) (38 + 5 * Int32.toNatClampNeg p1 + Int32.toNatClampNeg (p2 - 1))) = r_ ∧ m = m_)) (p1) ((p2 - 1)) m ⟨b4, b5, ⟨rfl, rfl⟩⟩))
      obtain ⟨rfl, rfl⟩ := q3
      replace h := h
      exact ch_iret (ty := .int) d_m_measure_37 rfl rfl (Nat.le_of_ble_eq_true rfl) h
    · replace h := h.2 c
      refine ch_aload_n (i := 0) d_m_measure_18 rfl rfl ?_
      refine ch_iload_n (i := 1) d_m_measure_19 rfl rfl ?_
      obtain ⟨Y_6, h⟩ := h
      have b10 := h.1
      replace h := h.2
      refine ch_callV (as := [.inl (.int p1)]) d_m_measure_20 lk_m_182 mi_m_ownSet me_m_ownSet rfl rfl rfl ⟨Nat.le_of_ble_eq_true rfl, Nat.le_of_ble_eq_true rfl⟩ (Nat.le_of_ble_eq_true rfl) ⟨Nat.le_of_ble_eq_true rfl, Nat.le_of_ble_eq_true rfl⟩ (ch_mono (ch_Ki (fun r7 m8 q9 => ?_)) (s_m_ownSet g (fun (r_ : Int32) (m_ : ch_M) => ((y_ofS (Y_6 1) p1 0 12) = r_ ∧ m = m_)) (Y_6) (p1) m ⟨b10, ⟨rfl, rfl⟩⟩))
      obtain ⟨rfl, rfl⟩ := q9
      replace h := h
      refine ch_callS (as := [.inl (.int (y_ofS (Y_6 1) p1 0 12))]) d_m_measure_23 lk_m_171 ms_i_bitCount rfl rfl ⟨Nat.le_of_ble_eq_true rfl, Nat.le_of_ble_eq_true rfl⟩ (Nat.le_of_ble_eq_true rfl) ⟨Nat.le_of_ble_eq_true rfl, Nat.le_of_ble_eq_true rfl⟩ (ch_mono (ch_Ki (fun r11 m12 q13 => ?_)) (s_i_bitCount g (fun (r_ : Int32) (m_ : ch_M) => ((i_bc (y_ofS (Y_6 1) p1 0 12)) = r_ ∧ m = m_)) ((y_ofS (Y_6 1) p1 0 12)) m ⟨rfl, rfl⟩))
      obtain ⟨rfl, rfl⟩ := q13
      replace h := h
      refine ch_goto (tgt := 37) d_m_measure_26 (by decide) ?_
      exact ch_iret (ty := .int) d_m_measure_37 rfl rfl (Nat.le_of_ble_eq_true rfl) h
  · replace h := h.2 c
    refine ch_aload_n (i := 0) d_m_measure_4 rfl rfl ?_
    refine ch_iload_n (i := 1) d_m_measure_5 rfl rfl ?_
    refine ch_iconst (v := 0) d_m_measure_6 (by decide) ?_
    have b17 := h.1
    replace h := h.2
    refine ch_callV (as := [.inl (.int p1), .inl (.int 0)]) d_m_measure_7 lk_m_85 mi_m_of me_m_of rfl rfl rfl ⟨Nat.le_of_ble_eq_true rfl, Nat.le_of_ble_eq_true rfl⟩ (Nat.le_of_ble_eq_true rfl) ⟨Nat.le_of_ble_eq_true rfl, Nat.le_of_ble_eq_true rfl⟩ (ch_mono (ch_Ki (fun r14 m15 q16 => ?_)) (s_m_of g (fun (r_ : Int32) (m_ : ch_M) => ((m (9, 0, 1) (38 + 5 * Int32.toNatClampNeg p1 + 0)) = r_ ∧ m = m_)) (p1) (0) m ⟨b17, (vp_in_nI (n := 0) (by decide) (by decide)), ⟨rfl, rfl⟩⟩))
    obtain ⟨rfl, rfl⟩ := q16
    replace h := h
    refine ch_goto (tgt := 37) d_m_measure_10 (by decide) ?_
    exact ch_iret (ty := .int) d_m_measure_37 rfl rfl (Nat.le_of_ble_eq_true rfl) h
theorem e_m_account (g : ch_G) (Q : ch_O → ch_M → Prop) (p1 : Int32) (m : ch_M) (h : ch_J g m_m_account (ch_rm m_m_account) (ch_E g m_m_account Q) 0 [some (.inr (9, 0, 0)), some (.inl (.int p1)), none, none] [] m 0) : ch_C g m_m_account [.inr (9, 0, 0), .inl (.int p1)] m Q :=
  ch_enter mf_m_account (by intro v hv; simp only [List.mem_cons, List.not_mem_nil, or_false] at hv; rcases hv with rfl | rfl <;> rfl) (Nat.le_of_ble_eq_true rfl) h
set_option maxHeartbeats 1600000 in
theorem g_m_account_0 (g : ch_G) (Q : ch_O → ch_M → Prop) (p1 : Int32) (m : ch_M) (h : (∀ m1 : ch_M, m1 = ch_wr m (9, 0, 0) 19 0 → ((p1 = 0 → Q (.inl (some (.inl (.int (m1 (9, 0, 1) (0)))))) m1) ∧ (p1 = 1 → ch_J g m_m_account (ch_rm m_m_account) (ch_E g m_m_account Q) 81 [some (.inr (9, 0, 0)), some (.inl (.int p1)), some (.inl (.int 0)), some (.inl (.int 0))] [] m1 0) ∧ (p1 = 2 → Q (.inl (some (.inl (.int (m1 (9, 0, 1) (1)))))) m1) ∧ (p1 = 3 → (∃ Y_2 : ch_B, (m_rel Y_2 (m1 (9, 0, 1))) ∧ (∀ i_, i_ < 12 → Y_2 1 i_ = -1 ∨ vp_in (Y_2 1 i_) 5) ∧ (Q (.inl (some (.inl (.int (12 - ch_cnO (Y_2 1) (-1) 12))))) m1))) ∧ (p1 = 4 → Q (.inl (some (.inl (.int (m1 (9, 0, 1) (8)))))) m1) ∧ (p1 = 5 → Q (.inl (some (.inl (.int (m1 (9, 0, 1) (3)))))) m1) ∧ (p1 = 6 → Q (.inl (some (.inl (.int (m1 (9, 0, 1) (4)))))) m1) ∧ (p1 = 7 → Q (.inl (some (.inl (.int (m1 (9, 0, 1) (5)))))) m1) ∧ (p1 = 8 → Q (.inl (some (.inl (.int (m1 (9, 0, 1) (6)))))) m1) ∧ (p1 = 9 → Q (.inl (some (.inl (.int (m1 (9, 0, 1) (7)))))) m1) ∧ (p1 = 10 → Q (.inl (some (.inl (.int (m1 (9, 0, 0) 4))))) m1) ∧ (p1 = 11 → Q (.inl (some (.inl (.int (m1 (9, 0, 0) 10))))) m1) ∧ ((Int32.toInt p1 < 0 ∨ 11 < Int32.toInt p1) → ((∀ m9 : ch_M, m9 = ch_wr m1 (9, 0, 0) 19 1 → Q (.inl (some (.inl (.int 0)))) m9)))))) : ch_J g m_m_account (ch_rm m_m_account) (ch_E g m_m_account Q) 0 [some (.inr (9, 0, 0)), some (.inl (.int p1)), none, none] [] m 0 := by
  refine ch_aload_n (i := 0) d_m_account_0 rfl rfl ?_
  refine ch_iconst (v := 0) d_m_account_1 (by decide) ?_
  refine ch_put d_m_account_2 fp_m_48 rfl rfl rfl ?_
  generalize hmm1 : ch_wr m (9, 0, 0) 19 0 = m1
  replace h := h m1 hmm1.symm
  refine ch_iconst (v := 0) d_m_account_5 (by decide) ?_
  refine ch_istore_n (i := 2) d_m_account_6 rfl (Nat.le_of_ble_eq_true rfl) (ls' := [some (.inr (9, 0, 0)), some (.inl (.int p1)), some (.inl (.int 0)), none]) rfl ?_
  refine ch_iload_n (i := 1) d_m_account_7 rfl rfl ?_
  by_cases e0 : p1 = 0
  · replace h := h.1 e0
    refine ch_tswIn (tgt := 72) (off := 64) d_m_account_8 (by rw [e0]; decide) (by rw [e0]; decide) (by rw [e0]; rfl) (by decide) ?_
    refine ch_aload_n (i := 0) d_m_account_72 rfl rfl ?_
    refine ch_get (v := .inr (9, 0, 1)) d_m_account_73 fl_m_9 rfl ?_
    refine ch_iconst (v := 0) d_m_account_76 (by decide) ?_
    refine ch_iald (n := 63) d_m_account_77 (by decide) rfl (vp_in_nI (n := 0) (by decide) (by decide)) ?_
    exact ch_iret (ty := .int) d_m_account_78 rfl rfl (Nat.le_of_ble_eq_true rfl) h
  replace h := h.2
  by_cases e1 : p1 = 1
  · replace h := h.1 e1
    refine ch_tswIn (tgt := 79) (off := 71) d_m_account_8 (by rw [e1]; decide) (by rw [e1]; decide) (by rw [e1]; rfl) (by decide) ?_
    refine ch_iconst (v := 0) d_m_account_79 (by decide) ?_
    refine ch_istore_n (i := 3) d_m_account_80 rfl (Nat.le_of_ble_eq_true rfl) (ls' := [some (.inr (9, 0, 0)), some (.inl (.int p1)), some (.inl (.int 0)), some (.inl (.int 0))]) rfl ?_
    exact h
  replace h := h.2
  by_cases e2 : p1 = 2
  · replace h := h.1 e2
    refine ch_tswIn (tgt := 108) (off := 100) d_m_account_8 (by rw [e2]; decide) (by rw [e2]; decide) (by rw [e2]; rfl) (by decide) ?_
    refine ch_aload_n (i := 0) d_m_account_108 rfl rfl ?_
    refine ch_get (v := .inr (9, 0, 1)) d_m_account_109 fl_m_9 rfl ?_
    refine ch_iconst (v := 1) d_m_account_112 (by decide) ?_
    refine ch_iald (n := 63) d_m_account_113 (by decide) rfl (vp_in_nI (n := 1) (by decide) (by decide)) ?_
    exact ch_iret (ty := .int) d_m_account_114 rfl rfl (Nat.le_of_ble_eq_true rfl) h
  replace h := h.2
  by_cases e3 : p1 = 3
  · replace h := h.1 e3
    refine ch_tswIn (tgt := 115) (off := 107) d_m_account_8 (by rw [e3]; decide) (by rw [e3]; decide) (by rw [e3]; rfl) (by decide) ?_
    refine ch_aload_n (i := 0) d_m_account_115 rfl rfl ?_
    obtain ⟨Y_2, h⟩ := h
    have b6 := h.1
    replace h := h.2
    have b7 := h.1
    replace h := h.2
    refine ch_callV (as := []) d_m_account_116 lk_m_162 mi_m_owned me_m_owned rfl rfl rfl ⟨Nat.le_of_ble_eq_true rfl, Nat.le_of_ble_eq_true rfl⟩ (Nat.le_of_ble_eq_true rfl) ⟨Nat.le_of_ble_eq_true rfl, Nat.le_of_ble_eq_true rfl⟩ (ch_mono (ch_Ki (fun r3 m4 q5 => ?_)) (s_m_owned g (fun (r_ : Int32) (m_ : ch_M) => ((12 - ch_cnO (Y_2 1) (-1) 12) = r_ ∧ m1 = m_)) (Y_2) m1 ⟨b6, b7, ⟨rfl, rfl⟩⟩))
    obtain ⟨rfl, rfl⟩ := q5
    replace h := h
    exact ch_iret (ty := .int) d_m_account_119 rfl rfl (Nat.le_of_ble_eq_true rfl) h
  replace h := h.2
  by_cases e4 : p1 = 4
  · replace h := h.1 e4
    refine ch_tswIn (tgt := 120) (off := 112) d_m_account_8 (by rw [e4]; decide) (by rw [e4]; decide) (by rw [e4]; rfl) (by decide) ?_
    refine ch_aload_n (i := 0) d_m_account_120 rfl rfl ?_
    refine ch_get (v := .inr (9, 0, 1)) d_m_account_121 fl_m_9 rfl ?_
    refine ch_bipush (v := 8) d_m_account_124 (by decide) ?_
    refine ch_iald (n := 63) d_m_account_126 (by decide) rfl (vp_in_nI (n := 8) (by decide) (by decide)) ?_
    exact ch_iret (ty := .int) d_m_account_127 rfl rfl (Nat.le_of_ble_eq_true rfl) h
  replace h := h.2
  by_cases e5 : p1 = 5
  · replace h := h.1 e5
    refine ch_tswIn (tgt := 128) (off := 120) d_m_account_8 (by rw [e5]; decide) (by rw [e5]; decide) (by rw [e5]; rfl) (by decide) ?_
    refine ch_aload_n (i := 0) d_m_account_128 rfl rfl ?_
    refine ch_get (v := .inr (9, 0, 1)) d_m_account_129 fl_m_9 rfl ?_
    refine ch_iconst (v := 3) d_m_account_132 (by decide) ?_
    refine ch_iald (n := 63) d_m_account_133 (by decide) rfl (vp_in_nI (n := 3) (by decide) (by decide)) ?_
    exact ch_iret (ty := .int) d_m_account_134 rfl rfl (Nat.le_of_ble_eq_true rfl) h
  replace h := h.2
  by_cases e6 : p1 = 6
  · replace h := h.1 e6
    refine ch_tswIn (tgt := 135) (off := 127) d_m_account_8 (by rw [e6]; decide) (by rw [e6]; decide) (by rw [e6]; rfl) (by decide) ?_
    refine ch_aload_n (i := 0) d_m_account_135 rfl rfl ?_
    refine ch_get (v := .inr (9, 0, 1)) d_m_account_136 fl_m_9 rfl ?_
    refine ch_iconst (v := 4) d_m_account_139 (by decide) ?_
    refine ch_iald (n := 63) d_m_account_140 (by decide) rfl (vp_in_nI (n := 4) (by decide) (by decide)) ?_
    exact ch_iret (ty := .int) d_m_account_141 rfl rfl (Nat.le_of_ble_eq_true rfl) h
  replace h := h.2
  by_cases e7 : p1 = 7
  · replace h := h.1 e7
    refine ch_tswIn (tgt := 142) (off := 134) d_m_account_8 (by rw [e7]; decide) (by rw [e7]; decide) (by rw [e7]; rfl) (by decide) ?_
    refine ch_aload_n (i := 0) d_m_account_142 rfl rfl ?_
    refine ch_get (v := .inr (9, 0, 1)) d_m_account_143 fl_m_9 rfl ?_
    refine ch_iconst (v := 5) d_m_account_146 (by decide) ?_
    refine ch_iald (n := 63) d_m_account_147 (by decide) rfl (vp_in_nI (n := 5) (by decide) (by decide)) ?_
    exact ch_iret (ty := .int) d_m_account_148 rfl rfl (Nat.le_of_ble_eq_true rfl) h
  replace h := h.2
  by_cases e8 : p1 = 8
  · replace h := h.1 e8
    refine ch_tswIn (tgt := 149) (off := 141) d_m_account_8 (by rw [e8]; decide) (by rw [e8]; decide) (by rw [e8]; rfl) (by decide) ?_
    refine ch_aload_n (i := 0) d_m_account_149 rfl rfl ?_
    refine ch_get (v := .inr (9, 0, 1)) d_m_account_150 fl_m_9 rfl ?_
    refine ch_bipush (v := 6) d_m_account_153 (by decide) ?_
    refine ch_iald (n := 63) d_m_account_155 (by decide) rfl (vp_in_nI (n := 6) (by decide) (by decide)) ?_
    exact ch_iret (ty := .int) d_m_account_156 rfl rfl (Nat.le_of_ble_eq_true rfl) h
  replace h := h.2
  by_cases e9 : p1 = 9
  · replace h := h.1 e9
    refine ch_tswIn (tgt := 157) (off := 149) d_m_account_8 (by rw [e9]; decide) (by rw [e9]; decide) (by rw [e9]; rfl) (by decide) ?_
    refine ch_aload_n (i := 0) d_m_account_157 rfl rfl ?_
    refine ch_get (v := .inr (9, 0, 1)) d_m_account_158 fl_m_9 rfl ?_
    refine ch_bipush (v := 7) d_m_account_161 (by decide) ?_
    refine ch_iald (n := 63) d_m_account_163 (by decide) rfl (vp_in_nI (n := 7) (by decide) (by decide)) ?_
    exact ch_iret (ty := .int) d_m_account_164 rfl rfl (Nat.le_of_ble_eq_true rfl) h
  replace h := h.2
  by_cases e10 : p1 = 10
  · replace h := h.1 e10
    refine ch_tswIn (tgt := 165) (off := 157) d_m_account_8 (by rw [e10]; decide) (by rw [e10]; decide) (by rw [e10]; rfl) (by decide) ?_
    refine ch_aload_n (i := 0) d_m_account_165 rfl rfl ?_
    refine ch_get (v := .inl (.int (m1 (9, 0, 0) 4))) d_m_account_166 fl_m_51 rfl ?_
    exact ch_iret (ty := .int) d_m_account_169 rfl rfl (Nat.le_of_ble_eq_true rfl) h
  replace h := h.2
  by_cases e11 : p1 = 11
  · replace h := h.1 e11
    refine ch_tswIn (tgt := 170) (off := 162) d_m_account_8 (by rw [e11]; decide) (by rw [e11]; decide) (by rw [e11]; rfl) (by decide) ?_
    refine ch_aload_n (i := 0) d_m_account_170 rfl rfl ?_
    refine ch_get (v := .inl (.int (m1 (9, 0, 0) 10))) d_m_account_171 fl_m_206 rfl ?_
    exact ch_iret (ty := .int) d_m_account_174 rfl rfl (Nat.le_of_ble_eq_true rfl) h
  replace h := h.2
  have hx : (Int32.toInt p1 < 0 ∨ 11 < Int32.toInt p1) := by
    have f0 : Int32.toInt p1 ≠ 0 := fun q => e0 (Int32.toInt_inj.mp (q.trans (by decide)))
    have f1 : Int32.toInt p1 ≠ 1 := fun q => e1 (Int32.toInt_inj.mp (q.trans (by decide)))
    have f2 : Int32.toInt p1 ≠ 2 := fun q => e2 (Int32.toInt_inj.mp (q.trans (by decide)))
    have f3 : Int32.toInt p1 ≠ 3 := fun q => e3 (Int32.toInt_inj.mp (q.trans (by decide)))
    have f4 : Int32.toInt p1 ≠ 4 := fun q => e4 (Int32.toInt_inj.mp (q.trans (by decide)))
    have f5 : Int32.toInt p1 ≠ 5 := fun q => e5 (Int32.toInt_inj.mp (q.trans (by decide)))
    have f6 : Int32.toInt p1 ≠ 6 := fun q => e6 (Int32.toInt_inj.mp (q.trans (by decide)))
    have f7 : Int32.toInt p1 ≠ 7 := fun q => e7 (Int32.toInt_inj.mp (q.trans (by decide)))
    have f8 : Int32.toInt p1 ≠ 8 := fun q => e8 (Int32.toInt_inj.mp (q.trans (by decide)))
    have f9 : Int32.toInt p1 ≠ 9 := fun q => e9 (Int32.toInt_inj.mp (q.trans (by decide)))
    have f10 : Int32.toInt p1 ≠ 10 := fun q => e10 (Int32.toInt_inj.mp (q.trans (by decide)))
    have f11 : Int32.toInt p1 ≠ 11 := fun q => e11 (Int32.toInt_inj.mp (q.trans (by decide)))
    omega
  replace h := h hx
  refine ch_tswOut (tgt := 175) d_m_account_8 hx (by decide) ?_
  refine ch_aload_n (i := 0) d_m_account_175 rfl rfl ?_
  refine ch_iconst (v := 1) d_m_account_176 (by decide) ?_
  refine ch_callV (as := [.inl (.int 1)]) d_m_account_177 lk_m_70 mi_m_raises me_m_raises rfl rfl rfl ⟨Nat.le_of_ble_eq_true rfl, Nat.le_of_ble_eq_true rfl⟩ (Nat.le_of_ble_eq_true rfl) ⟨Nat.le_of_ble_eq_true rfl, Nat.le_of_ble_eq_true rfl⟩ (ch_mono (ch_Ki (fun r8 m9 q10 => ?_)) (s_m_raises g (fun (r_ : Int32) (m_ : ch_M) => (0 = r_ ∧ m_ = ch_wr m1 (9, 0, 0) 19 1)) (1) m1 ⟨rfl, rfl⟩))
  obtain ⟨rfl, hm_⟩ := q10
  replace h := h m9 hm_
  exact ch_iret (ty := .int) d_m_account_180 rfl rfl (Nat.le_of_ble_eq_true rfl) h
set_option maxHeartbeats 1600000 in
theorem g_m_account_81 (g : ch_G) (Q : ch_O → ch_M → Prop) (x1 : Int32) (x2 : Int32) (x3 : Int32) (m : ch_M) (h : (((m (9, 0, 1) (0)) ≤ x3 → Q (.inl (some (.inl (.int x2)))) m) ∧ (¬ (m (9, 0, 1) (0)) ≤ x3 → (vp_in x3 5) ∧ (ch_J g m_m_account (ch_rm m_m_account) (ch_E g m_m_account Q) 81 [some (.inr (9, 0, 0)), some (.inl (.int x1)), some (.inl (.int (x2 + (m (9, 0, 1) (38 + 5 * Int32.toNatClampNeg x3 + 0))))), some (.inl (.int (x3 + 1)))] [] m 0)))) : ch_J g m_m_account (ch_rm m_m_account) (ch_E g m_m_account Q) 81 [some (.inr (9, 0, 0)), some (.inl (.int x1)), some (.inl (.int x2)), some (.inl (.int x3))] [] m 0 := by
  refine ch_iload_n (i := 3) d_m_account_81 rfl rfl ?_
  refine ch_aload_n (i := 0) d_m_account_82 rfl rfl ?_
  refine ch_get (v := .inr (9, 0, 1)) d_m_account_83 fl_m_9 rfl ?_
  refine ch_iconst (v := 0) d_m_account_86 (by decide) ?_
  refine ch_iald (n := 63) d_m_account_87 (by decide) rfl (vp_in_nI (n := 0) (by decide) (by decide)) ?_
  refine ch_icmp_ge (tgt := 106) d_m_account_88 (by decide) (fun c => ?_) (fun c => ?_)
  · replace h := h.1 c
    refine ch_iload_n (i := 2) d_m_account_106 rfl rfl ?_
    exact ch_iret (ty := .int) d_m_account_107 rfl rfl (Nat.le_of_ble_eq_true rfl) h
  · replace h := h.2 c
    refine ch_iload_n (i := 2) d_m_account_91 rfl rfl ?_
    refine ch_aload_n (i := 0) d_m_account_92 rfl rfl ?_
    refine ch_iload_n (i := 3) d_m_account_93 rfl rfl ?_
    refine ch_iconst (v := 0) d_m_account_94 (by decide) ?_
    have b4 := h.1
    replace h := h.2
    refine ch_callV (as := [.inl (.int x3), .inl (.int 0)]) d_m_account_95 lk_m_85 mi_m_of me_m_of rfl rfl rfl ⟨Nat.le_of_ble_eq_true rfl, Nat.le_of_ble_eq_true rfl⟩ (Nat.le_of_ble_eq_true rfl) ⟨Nat.le_of_ble_eq_true rfl, Nat.le_of_ble_eq_true rfl⟩ (ch_mono (ch_Ki (fun r1 m2 q3 => ?_)) (s_m_of g (fun (r_ : Int32) (m_ : ch_M) => ((m (9, 0, 1) (38 + 5 * Int32.toNatClampNeg x3 + 0)) = r_ ∧ m = m_)) (x3) (0) m ⟨b4, (vp_in_nI (n := 0) (by decide) (by decide)), ⟨rfl, rfl⟩⟩))
    obtain ⟨rfl, rfl⟩ := q3
    replace h := h
    refine ch_iadd d_m_account_98 ?_
    refine ch_istore_n (i := 2) d_m_account_99 rfl (Nat.le_of_ble_eq_true rfl) (ls' := [some (.inr (9, 0, 0)), some (.inl (.int x1)), some (.inl (.int (x2 + (m (9, 0, 1) (38 + 5 * Int32.toNatClampNeg x3 + 0))))), some (.inl (.int x3))]) rfl ?_
    refine ch_iinc (i := 3) (v := (x3 + 1)) d_m_account_100 rfl rfl (Nat.le_of_ble_eq_true rfl) (ls' := [some (.inr (9, 0, 0)), some (.inl (.int x1)), some (.inl (.int (x2 + (m (9, 0, 1) (38 + 5 * Int32.toNatClampNeg x3 + 0))))), some (.inl (.int (x3 + 1)))]) rfl ?_
    refine ch_goto (tgt := 81) d_m_account_103 (by decide) ?_
    exact h
theorem e_m_isEven (g : ch_G) (Q : ch_O → ch_M → Prop)  (m : ch_M) (h : ch_J g m_m_isEven (ch_rm m_m_isEven) (ch_E g m_m_isEven Q) 0 [some (.inr (9, 0, 0))] [] m 0) : ch_C g m_m_isEven [.inr (9, 0, 0)] m Q :=
  ch_enter mf_m_isEven (by intro v hv; simp only [List.mem_cons, List.not_mem_nil, or_false] at hv; rcases hv with rfl <;> rfl) (Nat.le_of_ble_eq_true rfl) h
set_option maxHeartbeats 1600000 in
theorem g_m_isEven_0 (g : ch_G) (Q : ch_O → ch_M → Prop)  (m : ch_M) (h : (∀ m1 : ch_M, m1 = ch_wr m (9, 0, 0) 19 0 → Q (.inl (some (.inl (.int 1)))) m1)) : ch_J g m_m_isEven (ch_rm m_m_isEven) (ch_E g m_m_isEven Q) 0 [some (.inr (9, 0, 0))] [] m 0 := by
  refine ch_aload_n (i := 0) d_m_isEven_0 rfl rfl ?_
  refine ch_iconst (v := 0) d_m_isEven_1 (by decide) ?_
  refine ch_put d_m_isEven_2 fp_m_48 rfl rfl rfl ?_
  generalize hmm1 : ch_wr m (9, 0, 0) 19 0 = m1
  replace h := h m1 hmm1.symm
  refine ch_iconst (v := 1) d_m_isEven_5 (by decide) ?_
  exact ch_iret (ty := .boolean) d_m_isEven_6 rfl rfl (Nat.le_of_ble_eq_true rfl) h
theorem e_m_faultPosition (g : ch_G) (Q : ch_O → ch_M → Prop)  (m : ch_M) (h : ch_J g m_m_faultPosition (ch_rm m_m_faultPosition) (ch_E g m_m_faultPosition Q) 0 [some (.inr (9, 0, 0))] [] m 0) : ch_C g m_m_faultPosition [.inr (9, 0, 0)] m Q :=
  ch_enter mf_m_faultPosition (by intro v hv; simp only [List.mem_cons, List.not_mem_nil, or_false] at hv; rcases hv with rfl <;> rfl) (Nat.le_of_ble_eq_true rfl) h
set_option maxHeartbeats 1600000 in
theorem g_m_faultPosition_0 (g : ch_G) (Q : ch_O → ch_M → Prop)  (m : ch_M) (h : (∀ m1 : ch_M, m1 = ch_wr m (9, 0, 0) 19 0 → Q (.inl (some (.inl (.int (m1 (9, 0, 0) 14))))) m1)) : ch_J g m_m_faultPosition (ch_rm m_m_faultPosition) (ch_E g m_m_faultPosition Q) 0 [some (.inr (9, 0, 0))] [] m 0 := by
  refine ch_aload_n (i := 0) d_m_faultPosition_0 rfl rfl ?_
  refine ch_iconst (v := 0) d_m_faultPosition_1 (by decide) ?_
  refine ch_put d_m_faultPosition_2 fp_m_48 rfl rfl rfl ?_
  generalize hmm1 : ch_wr m (9, 0, 0) 19 0 = m1
  replace h := h m1 hmm1.symm
  refine ch_aload_n (i := 0) d_m_faultPosition_5 rfl rfl ?_
  refine ch_get (v := .inl (.int (m1 (9, 0, 0) 14))) d_m_faultPosition_6 fl_m_35 rfl ?_
  exact ch_iret (ty := .int) d_m_faultPosition_9 rfl rfl (Nat.le_of_ble_eq_true rfl) h
theorem e_m_reason (g : ch_G) (Q : ch_O → ch_M → Prop) (p1 : Int32) (m : ch_M) (h : ch_J g m_m_reason (ch_rm m_m_reason) (ch_E g m_m_reason Q) 0 [some (.inr (9, 0, 0)), some (.inl (.int p1))] [] m 0) : ch_C g m_m_reason [.inr (9, 0, 0), .inl (.int p1)] m Q :=
  ch_enter mf_m_reason (by intro v hv; simp only [List.mem_cons, List.not_mem_nil, or_false] at hv; rcases hv with rfl | rfl <;> rfl) (Nat.le_of_ble_eq_true rfl) h
set_option maxHeartbeats 1600000 in
theorem g_m_reason_0 (g : ch_G) (Q : ch_O → ch_M → Prop) (p1 : Int32) (m : ch_M) (h : (∀ m1 : ch_M, m1 = ch_wr m (9, 0, 0) 19 0 → (((0 ≤ p1 ∧ p1 ≤ 2) → ((¬ (m1 (9, 0, 0) 15) = 0 → ((¬ p1 = 0 → ((¬ p1 = 1 → Q (.inl (some (.inl (.int (m1 (9, 0, 0) 17))))) m1) ∧ (p1 = 1 → Q (.inl (some (.inl (.int (m1 (9, 0, 0) 16))))) m1))) ∧ (p1 = 0 → Q (.inl (some (.inl (.int (m1 (9, 0, 0) 15))))) m1))) ∧ ((m1 (9, 0, 0) 15) = 0 → ((∀ m6 : ch_M, m6 = ch_wr m1 (9, 0, 0) 19 2 → Q (.inl (some (.inl (.int 0)))) m6))))) ∧ ((¬ (0 ≤ p1 ∧ p1 ≤ 2)) → ((∀ m9 : ch_M, m9 = ch_wr m1 (9, 0, 0) 19 1 → Q (.inl (some (.inl (.int 0)))) m9)))))) : ch_J g m_m_reason (ch_rm m_m_reason) (ch_E g m_m_reason Q) 0 [some (.inr (9, 0, 0)), some (.inl (.int p1))] [] m 0 := by
  refine ch_aload_n (i := 0) d_m_reason_0 rfl rfl ?_
  refine ch_iconst (v := 0) d_m_reason_1 (by decide) ?_
  refine ch_put d_m_reason_2 fp_m_48 rfl rfl rfl ?_
  generalize hmm1 : ch_wr m (9, 0, 0) 19 0 = m1
  replace h := h m1 hmm1.symm
  refine ch_iload_n (i := 1) d_m_reason_5 rfl rfl ?_
  refine ch_iconst (v := 0) d_m_reason_6 (by decide) ?_
  refine ch_iconst (v := 2) d_m_reason_7 (by decide) ?_
  refine ch_callS (as := [.inl (.int p1), .inl (.int 0), .inl (.int 2)]) d_m_reason_8 lk_m_73 ms_m_in rfl rfl ⟨Nat.le_of_ble_eq_true rfl, Nat.le_of_ble_eq_true rfl⟩ (Nat.le_of_ble_eq_true rfl) ⟨Nat.le_of_ble_eq_true rfl, Nat.le_of_ble_eq_true rfl⟩ (ch_mono (ch_Ki (fun r2 m3 q4 => ?_)) (s_m_in g (fun (r_ : Int32) (m_ : ch_M) => ((0 ≤ p1 ∧ p1 ≤ 2) ∧ 1 = r_ ∧ m1 = m_) ∨ ((¬ (0 ≤ p1 ∧ p1 ≤ 2)) ∧ 0 = r_ ∧ m1 = m_)) (p1) (0) (2) m1 ⟨(fun c_ => (Or.inl ⟨c_, rfl, rfl⟩)), (fun c_ => (Or.inr ⟨c_, rfl, rfl⟩))⟩))
  rcases q4 with ⟨c_, rfl, rfl⟩ | ⟨c_, rfl, rfl⟩
  · replace h := h.1 c_
    refine ch_if_ne (tgt := 20) d_m_reason_11 (by decide) (fun _ => ?_) (fun c => absurd c (by decide))
    refine ch_aload_n (i := 0) d_m_reason_20 rfl rfl ?_
    refine ch_get (v := .inl (.int (m1 (9, 0, 0) 15))) d_m_reason_21 fl_m_57 rfl ?_
    refine ch_if_ne (tgt := 33) d_m_reason_24 (by decide) (fun c => ?_) (fun c => ?_)
    · replace h := h.1 c
      refine ch_iload_n (i := 1) d_m_reason_33 rfl rfl ?_
      refine ch_if_ne (tgt := 44) d_m_reason_34 (by decide) (fun c => ?_) (fun c => ?_)
      · replace h := h.1 c
        refine ch_iload_n (i := 1) d_m_reason_44 rfl rfl ?_
        refine ch_iconst (v := 1) d_m_reason_45 (by decide) ?_
        refine ch_icmp_ne (tgt := 56) d_m_reason_46 (by decide) (fun c => ?_) (fun c => ?_)
        · replace h := h.1 c
          refine ch_aload_n (i := 0) d_m_reason_56 rfl rfl ?_
          refine ch_get (v := .inl (.int (m1 (9, 0, 0) 17))) d_m_reason_57 fl_m_63 rfl ?_
          exact ch_iret (ty := .int) d_m_reason_60 rfl rfl (Nat.le_of_ble_eq_true rfl) h
        · replace h := h.2 c
          refine ch_aload_n (i := 0) d_m_reason_49 rfl rfl ?_
          refine ch_get (v := .inl (.int (m1 (9, 0, 0) 16))) d_m_reason_50 fl_m_60 rfl ?_
          refine ch_goto (tgt := 60) d_m_reason_53 (by decide) ?_
          exact ch_iret (ty := .int) d_m_reason_60 rfl rfl (Nat.le_of_ble_eq_true rfl) h
      · replace h := h.2 c
        refine ch_aload_n (i := 0) d_m_reason_37 rfl rfl ?_
        refine ch_get (v := .inl (.int (m1 (9, 0, 0) 15))) d_m_reason_38 fl_m_57 rfl ?_
        refine ch_goto (tgt := 60) d_m_reason_41 (by decide) ?_
        exact ch_iret (ty := .int) d_m_reason_60 rfl rfl (Nat.le_of_ble_eq_true rfl) h
    · replace h := h.2 c
      refine ch_aload_n (i := 0) d_m_reason_27 rfl rfl ?_
      refine ch_iconst (v := 2) d_m_reason_28 (by decide) ?_
      refine ch_callV (as := [.inl (.int 2)]) d_m_reason_29 lk_m_70 mi_m_raises me_m_raises rfl rfl rfl ⟨Nat.le_of_ble_eq_true rfl, Nat.le_of_ble_eq_true rfl⟩ (Nat.le_of_ble_eq_true rfl) ⟨Nat.le_of_ble_eq_true rfl, Nat.le_of_ble_eq_true rfl⟩ (ch_mono (ch_Ki (fun r5 m6 q7 => ?_)) (s_m_raises g (fun (r_ : Int32) (m_ : ch_M) => (0 = r_ ∧ m_ = ch_wr m1 (9, 0, 0) 19 2)) (2) m1 ⟨rfl, rfl⟩))
      obtain ⟨rfl, hm_⟩ := q7
      replace h := h m6 hm_
      exact ch_iret (ty := .int) d_m_reason_32 rfl rfl (Nat.le_of_ble_eq_true rfl) h
  · replace h := h.2 c_
    refine ch_if_ne (tgt := 20) d_m_reason_11 (by decide) (fun c => absurd c (by decide)) (fun _ => ?_)
    refine ch_aload_n (i := 0) d_m_reason_14 rfl rfl ?_
    refine ch_iconst (v := 1) d_m_reason_15 (by decide) ?_
    refine ch_callV (as := [.inl (.int 1)]) d_m_reason_16 lk_m_70 mi_m_raises me_m_raises rfl rfl rfl ⟨Nat.le_of_ble_eq_true rfl, Nat.le_of_ble_eq_true rfl⟩ (Nat.le_of_ble_eq_true rfl) ⟨Nat.le_of_ble_eq_true rfl, Nat.le_of_ble_eq_true rfl⟩ (ch_mono (ch_Ki (fun r8 m9 q10 => ?_)) (s_m_raises g (fun (r_ : Int32) (m_ : ch_M) => (0 = r_ ∧ m_ = ch_wr m1 (9, 0, 0) 19 1)) (1) m1 ⟨rfl, rfl⟩))
    obtain ⟨rfl, hm_⟩ := q10
    replace h := h m9 hm_
    exact ch_iret (ty := .int) d_m_reason_19 rfl rfl (Nat.le_of_ble_eq_true rfl) h
theorem e_m_append (g : ch_G) (Q : ch_O → ch_M → Prop) (p1 : Int32) (m : ch_M) (h : ch_J g m_m_append (ch_rm m_m_append) (ch_E g m_m_append Q) 0 [some (.inr (9, 0, 0)), some (.inl (.int p1))] [] m 0) : ch_C g m_m_append [.inr (9, 0, 0), .inl (.int p1)] m Q :=
  ch_enter mf_m_append (by intro v hv; simp only [List.mem_cons, List.not_mem_nil, or_false] at hv; rcases hv with rfl | rfl <;> rfl) (Nat.le_of_ble_eq_true rfl) h
set_option maxHeartbeats 1600000 in
theorem g_m_append_0 (g : ch_G) (Q : ch_O → ch_M → Prop) (p1 : Int32) (m : ch_M) (h : (∀ m1 : ch_M, m1 = ch_wr m (9, 0, 0) 19 0 → ((¬ (m1 (9, 0, 0) 10) = 60 → (∀ m2 : ch_M, m2 = ch_wr m1 (9, 0, 0) 10 ((m1 (9, 0, 0) 10) + 1) → (vp_in (m1 (9, 0, 0) 10) 60) ∧ (∀ m4 : ch_M, m4 = ch_wr m2 (9, 0, 7) (Int32.toNatClampNeg (m1 (9, 0, 0) 10)) (vp_nar .char p1) → Q (.inl (some (.inl (.int (m4 (9, 0, 0) 10))))) m4))) ∧ ((m1 (9, 0, 0) 10) = 60 → ((∀ m6 : ch_M, m6 = ch_wr m1 (9, 0, 0) 19 1 → Q (.inl (some (.inl (.int 0)))) m6)))))) : ch_J g m_m_append (ch_rm m_m_append) (ch_E g m_m_append Q) 0 [some (.inr (9, 0, 0)), some (.inl (.int p1))] [] m 0 := by
  refine ch_aload_n (i := 0) d_m_append_0 rfl rfl ?_
  refine ch_iconst (v := 0) d_m_append_1 (by decide) ?_
  refine ch_put d_m_append_2 fp_m_48 rfl rfl rfl ?_
  generalize hmm1 : ch_wr m (9, 0, 0) 19 0 = m1
  replace h := h m1 hmm1.symm
  refine ch_aload_n (i := 0) d_m_append_5 rfl rfl ?_
  refine ch_get (v := .inl (.int (m1 (9, 0, 0) 10))) d_m_append_6 fl_m_206 rfl ?_
  refine ch_bipush (v := 60) d_m_append_9 (by decide) ?_
  refine ch_icmp_ne (tgt := 20) d_m_append_11 (by decide) (fun c => ?_) (fun c => ?_)
  · replace h := h.1 c
    refine ch_aload_n (i := 0) d_m_append_20 rfl rfl ?_
    refine ch_get (v := .inr (9, 0, 7)) d_m_append_21 fl_m_29 rfl ?_
    refine ch_aload_n (i := 0) d_m_append_24 rfl rfl ?_
    refine ch_dup d_m_append_25 rfl ?_
    refine ch_get (v := .inl (.int (m1 (9, 0, 0) 10))) d_m_append_26 fl_m_206 rfl ?_
    refine ch_dup_x1 d_m_append_29 rfl rfl ?_
    refine ch_iconst (v := 1) d_m_append_30 (by decide) ?_
    refine ch_iadd d_m_append_31 ?_
    refine ch_put d_m_append_32 fp_m_206 rfl rfl rfl ?_
    generalize hmm2 : ch_wr m1 (9, 0, 0) 10 ((m1 (9, 0, 0) 10) + 1) = m2
    replace h := h m2 hmm2.symm
    refine ch_iload_n (i := 1) d_m_append_35 rfl rfl ?_
    have b3 := h.1
    replace h := h.2
    refine ch_cast (n := 60) d_m_append_36 (by decide) rfl b3 ?_
    show ch_J g _ _ _ _ _ _ (ch_wr m2 (9, 0, 7) (Int32.toNatClampNeg (m1 (9, 0, 0) 10)) (vp_nar .char p1)) _
    generalize hmm4 : ch_wr m2 (9, 0, 7) (Int32.toNatClampNeg (m1 (9, 0, 0) 10)) (vp_nar .char p1) = m4
    replace h := h m4 hmm4.symm
    refine ch_aload_n (i := 0) d_m_append_37 rfl rfl ?_
    refine ch_get (v := .inl (.int (m4 (9, 0, 0) 10))) d_m_append_38 fl_m_206 rfl ?_
    exact ch_iret (ty := .int) d_m_append_41 rfl rfl (Nat.le_of_ble_eq_true rfl) h
  · replace h := h.2 c
    refine ch_aload_n (i := 0) d_m_append_14 rfl rfl ?_
    refine ch_iconst (v := 1) d_m_append_15 (by decide) ?_
    refine ch_callV (as := [.inl (.int 1)]) d_m_append_16 lk_m_70 mi_m_raises me_m_raises rfl rfl rfl ⟨Nat.le_of_ble_eq_true rfl, Nat.le_of_ble_eq_true rfl⟩ (Nat.le_of_ble_eq_true rfl) ⟨Nat.le_of_ble_eq_true rfl, Nat.le_of_ble_eq_true rfl⟩ (ch_mono (ch_Ki (fun r5 m6 q7 => ?_)) (s_m_raises g (fun (r_ : Int32) (m_ : ch_M) => (0 = r_ ∧ m_ = ch_wr m1 (9, 0, 0) 19 1)) (1) m1 ⟨rfl, rfl⟩))
    obtain ⟨rfl, hm_⟩ := q7
    replace h := h m6 hm_
    exact ch_iret (ty := .int) d_m_append_19 rfl rfl (Nat.le_of_ble_eq_true rfl) h
theorem e_m_character (g : ch_G) (Q : ch_O → ch_M → Prop) (p1 : Int32) (m : ch_M) (h : ch_J g m_m_character (ch_rm m_m_character) (ch_E g m_m_character Q) 0 [some (.inr (9, 0, 0)), some (.inl (.int p1))] [] m 0) : ch_C g m_m_character [.inr (9, 0, 0), .inl (.int p1)] m Q :=
  ch_enter mf_m_character (by intro v hv; simp only [List.mem_cons, List.not_mem_nil, or_false] at hv; rcases hv with rfl | rfl <;> rfl) (Nat.le_of_ble_eq_true rfl) h
set_option maxHeartbeats 1600000 in
theorem g_m_character_0 (g : ch_G) (Q : ch_O → ch_M → Prop) (p1 : Int32) (m : ch_M) (h : (((0 ≤ p1 ∧ p1 ≤ ((m (9, 0, 0) 8) - 1)) → (∀ m4 : ch_M, m4 = ch_wr m (9, 0, 0) 19 0 → ((¬ (m4 (9, 0, 0) 19) = 0 → Q (.inl (some (.inl (.int 97)))) m4) ∧ ((m4 (9, 0, 0) 19) = 0 → (vp_in p1 80) ∧ (narrow .char (.int (m4 (9, 0, 6) (Int32.toNatClampNeg p1))) = .int (m4 (9, 0, 6) (Int32.toNatClampNeg p1))) ∧ Q (.inl (some (.inl (.int (m4 (9, 0, 6) (Int32.toNatClampNeg p1)))))) m4)))) ∧ ((¬ (0 ≤ p1 ∧ p1 ≤ ((m (9, 0, 0) 8) - 1))) → (∀ m6 : ch_M, m6 = ch_wr m (9, 0, 0) 19 1 → ((¬ (m6 (9, 0, 0) 19) = 0 → Q (.inl (some (.inl (.int 97)))) m6) ∧ ((m6 (9, 0, 0) 19) = 0 → (vp_in p1 80) ∧ (narrow .char (.int (m6 (9, 0, 6) (Int32.toNatClampNeg p1))) = .int (m6 (9, 0, 6) (Int32.toNatClampNeg p1))) ∧ Q (.inl (some (.inl (.int (m6 (9, 0, 6) (Int32.toNatClampNeg p1)))))) m6)))))) : ch_J g m_m_character (ch_rm m_m_character) (ch_E g m_m_character Q) 0 [some (.inr (9, 0, 0)), some (.inl (.int p1))] [] m 0 := by
  refine ch_aload_n (i := 0) d_m_character_0 rfl rfl ?_
  refine ch_iload_n (i := 1) d_m_character_1 rfl rfl ?_
  refine ch_iconst (v := 0) d_m_character_2 (by decide) ?_
  refine ch_aload_n (i := 0) d_m_character_3 rfl rfl ?_
  refine ch_get (v := .inl (.int (m (9, 0, 0) 8))) d_m_character_4 fl_m_239 rfl ?_
  refine ch_iconst (v := 1) d_m_character_7 (by decide) ?_
  refine ch_isub d_m_character_8 ?_
  refine ch_callS (as := [.inl (.int p1), .inl (.int 0), .inl (.int ((m (9, 0, 0) 8) - 1))]) d_m_character_9 lk_m_73 ms_m_in rfl rfl ⟨Nat.le_of_ble_eq_true rfl, Nat.le_of_ble_eq_true rfl⟩ (Nat.le_of_ble_eq_true rfl) ⟨Nat.le_of_ble_eq_true rfl, Nat.le_of_ble_eq_true rfl⟩ (ch_mono (ch_Ki (fun r1 m2 q3 => ?_)) (s_m_in g (fun (r_ : Int32) (m_ : ch_M) => ((0 ≤ p1 ∧ p1 ≤ ((m (9, 0, 0) 8) - 1)) ∧ 1 = r_ ∧ m = m_) ∨ ((¬ (0 ≤ p1 ∧ p1 ≤ ((m (9, 0, 0) 8) - 1))) ∧ 0 = r_ ∧ m = m_)) (p1) (0) (((m (9, 0, 0) 8) - 1)) m ⟨(fun c_ => (Or.inl ⟨c_, rfl, rfl⟩)), (fun c_ => (Or.inr ⟨c_, rfl, rfl⟩))⟩))
  rcases q3 with ⟨c_, rfl, rfl⟩ | ⟨c_, rfl, rfl⟩
  · replace h := h.1 c_
    refine ch_if_eq (tgt := 19) d_m_character_12 (by decide) (fun c => absurd c (by decide)) (fun _ => ?_)
    refine ch_iconst (v := 0) d_m_character_15 (by decide) ?_
    refine ch_goto (tgt := 20) d_m_character_16 (by decide) ?_
    refine ch_put d_m_character_20 fp_m_48 rfl rfl rfl ?_
    generalize hmm4 : ch_wr m (9, 0, 0) 19 0 = m4
    replace h := h m4 hmm4.symm
    refine ch_aload_n (i := 0) d_m_character_23 rfl rfl ?_
    refine ch_get (v := .inl (.int (m4 (9, 0, 0) 19))) d_m_character_24 fl_m_48 rfl ?_
    refine ch_if_ne (tgt := 39) d_m_character_27 (by decide) (fun c => ?_) (fun c => ?_)
    · replace h := h.1 c
      refine ch_bipush (v := 97) d_m_character_39 (by decide) ?_
      exact ch_iret (ty := .char) d_m_character_41 rfl rfl (Nat.le_of_ble_eq_true rfl) h
    · replace h := h.2 c
      refine ch_aload_n (i := 0) d_m_character_30 rfl rfl ?_
      refine ch_get (v := .inr (9, 0, 6)) d_m_character_31 fl_m_25 rfl ?_
      refine ch_iload_n (i := 1) d_m_character_34 rfl rfl ?_
      have b5 := h.1
      replace h := h.2
      refine ch_cald (n := 80) d_m_character_35 (by decide) rfl b5 ?_
      refine ch_goto (tgt := 41) d_m_character_36 (by decide) ?_
      exact ch_iret (ty := .char) d_m_character_41 rfl h.1 (Nat.le_of_ble_eq_true rfl) h.2
  · replace h := h.2 c_
    refine ch_if_eq (tgt := 19) d_m_character_12 (by decide) (fun _ => ?_) (fun c => absurd c (by decide))
    refine ch_iconst (v := 1) d_m_character_19 (by decide) ?_
    refine ch_put d_m_character_20 fp_m_48 rfl rfl rfl ?_
    generalize hmm6 : ch_wr m (9, 0, 0) 19 1 = m6
    replace h := h m6 hmm6.symm
    refine ch_aload_n (i := 0) d_m_character_23 rfl rfl ?_
    refine ch_get (v := .inl (.int (m6 (9, 0, 0) 19))) d_m_character_24 fl_m_48 rfl ?_
    refine ch_if_ne (tgt := 39) d_m_character_27 (by decide) (fun c => ?_) (fun c => ?_)
    · replace h := h.1 c
      refine ch_bipush (v := 97) d_m_character_39 (by decide) ?_
      exact ch_iret (ty := .char) d_m_character_41 rfl rfl (Nat.le_of_ble_eq_true rfl) h
    · replace h := h.2 c
      refine ch_aload_n (i := 0) d_m_character_30 rfl rfl ?_
      refine ch_get (v := .inr (9, 0, 6)) d_m_character_31 fl_m_25 rfl ?_
      refine ch_iload_n (i := 1) d_m_character_34 rfl rfl ?_
      have b7 := h.1
      replace h := h.2
      refine ch_cald (n := 80) d_m_character_35 (by decide) rfl b7 ?_
      refine ch_goto (tgt := 41) d_m_character_36 (by decide) ?_
      exact ch_iret (ty := .char) d_m_character_41 rfl h.1 (Nat.le_of_ble_eq_true rfl) h.2
