theorem e_r_refuseChild (g : ch_G) (Q : ch_O → ch_M → Prop) (j1 : Nat) (p2 : Int32) (m : ch_M) (h : ch_J g m_r_refuseChild (ch_rm m_r_refuseChild) (ch_E g m_r_refuseChild Q) 0 [some (.inr (3, 0, 0)), some (.inr (1, j1, 0)), some (.inl (.int p2))] [] m 0) : ch_C g m_r_refuseChild [.inr (3, 0, 0), .inr (1, j1, 0), .inl (.int p2)] m Q :=
  ch_enter mf_r_refuseChild (by intro v hv; simp only [List.mem_cons, List.not_mem_nil, or_false] at hv; rcases hv with rfl | rfl | rfl <;> rfl) (Nat.le_of_ble_eq_true rfl) h
set_option maxHeartbeats 1600000 in
theorem g_r_refuseChild_0 (g : ch_G) (Q : ch_O → ch_M → Prop) (j1 : Nat) (p2 : Int32) (m : ch_M) (h : (((0 ≤ p2 ∧ p2 ≤ 99) → (((m (1, j1, 0) 8) < 5 → Q (.inl (some (.inl (.int 0)))) m) ∧ (¬ (m (1, j1, 0) 8) < 5 → ((∀ m5 : ch_M, m5 = r_kp m 2 (m (1, j1, 0) 8) → Q (.inl (some (.inl (.int 1)))) m5))))) ∧ ((¬ (0 ≤ p2 ∧ p2 ≤ 99)) → (∀ m2 : ch_M, m2 = r_kp m 1 0 → Q (.inl (some (.inl (.int 1)))) m2)))) : ch_J g m_r_refuseChild (ch_rm m_r_refuseChild) (ch_E g m_r_refuseChild Q) 0 [some (.inr (3, 0, 0)), some (.inr (1, j1, 0)), some (.inl (.int p2))] [] m 0 := by
  refine ch_aload_n (i := 0) d_r_refuseChild_0 rfl rfl ?_
  refine ch_iload_n (i := 2) d_r_refuseChild_1 rfl rfl ?_
  refine ch_iconst (v := 0) d_r_refuseChild_2 (by decide) ?_
  refine ch_bipush (v := 99) d_r_refuseChild_3 (by decide) ?_
  refine ch_callV (as := [.inl (.int p2), .inl (.int 0), .inl (.int 99)]) d_r_refuseChild_5 lk_r_59 mi_r_lacksRange me_r_lacksRange rfl rfl rfl ⟨Nat.le_of_ble_eq_true rfl, Nat.le_of_ble_eq_true rfl⟩ (Nat.le_of_ble_eq_true rfl) ⟨Nat.le_of_ble_eq_true rfl, Nat.le_of_ble_eq_true rfl⟩ (ch_mono (ch_Ki (fun r1 m2 q3 => ?_)) (s_r_lacksRange g (fun (r_ : Int32) (m_ : ch_M) => ((0 ≤ p2 ∧ p2 ≤ 99) ∧ 0 = r_ ∧ m = m_) ∨ ((¬ (0 ≤ p2 ∧ p2 ≤ 99)) ∧ 1 = r_ ∧ m_ = r_kp m 1 0)) (p2) (0) (99) m ⟨(fun c_ => (Or.inl ⟨c_, rfl, rfl⟩)), (fun c_ => (Or.inr ⟨c_, rfl, rfl⟩))⟩))
  rcases q3 with ⟨c_, rfl, rfl⟩ | ⟨c_, rfl, hm_⟩
  · replace h := h.1 c_
    refine ch_if_ne (tgt := 31) d_r_refuseChild_8 (by decide) (fun c => absurd c (by decide)) (fun _ => ?_)
    refine ch_aload_n (i := 1) d_r_refuseChild_11 rfl rfl ?_
    refine ch_get (v := .inl (.int (m (1, j1, 0) 8))) d_r_refuseChild_12 fl_r_63 rfl ?_
    refine ch_iconst (v := 5) d_r_refuseChild_15 (by decide) ?_
    refine ch_icmp_lt (tgt := 35) d_r_refuseChild_16 (by decide) (fun c => ?_) (fun c => ?_)
    · replace h := h.1 c
      refine ch_iconst (v := 0) d_r_refuseChild_35 (by decide) ?_
      exact ch_iret (ty := .boolean) d_r_refuseChild_36 rfl rfl (Nat.le_of_ble_eq_true rfl) h
    · replace h := h.2 c
      refine ch_aload_n (i := 0) d_r_refuseChild_19 rfl rfl ?_
      refine ch_iconst (v := 2) d_r_refuseChild_20 (by decide) ?_
      refine ch_aload_n (i := 1) d_r_refuseChild_21 rfl rfl ?_
      refine ch_get (v := .inl (.int (m (1, j1, 0) 8))) d_r_refuseChild_22 fl_r_63 rfl ?_
      refine ch_callV (as := [.inl (.int 2), .inl (.int (m (1, j1, 0) 8))]) d_r_refuseChild_25 lk_r_68 mi_r_keep me_r_keep rfl rfl rfl ⟨Nat.le_of_ble_eq_true rfl, Nat.le_of_ble_eq_true rfl⟩ (Nat.le_of_ble_eq_true rfl) ⟨Nat.le_of_ble_eq_true rfl, Nat.le_of_ble_eq_true rfl⟩ (ch_mono (ch_Ki (fun r4 m5 q6 => ?_)) (s_r_keep g (fun (r_ : Int32) (m_ : ch_M) => (1 = r_ ∧ m_ = r_kp m 2 (m (1, j1, 0) 8))) (2) ((m (1, j1, 0) 8)) m ⟨rfl, rfl⟩))
      obtain ⟨rfl, hm_⟩ := q6
      replace h := h m5 hm_
      refine ch_if_eq (tgt := 35) d_r_refuseChild_28 (by decide) (fun c => absurd c (by decide)) (fun _ => ?_)
      refine ch_iconst (v := 1) d_r_refuseChild_31 (by decide) ?_
      refine ch_goto (tgt := 36) d_r_refuseChild_32 (by decide) ?_
      exact ch_iret (ty := .boolean) d_r_refuseChild_36 rfl rfl (Nat.le_of_ble_eq_true rfl) h
  · replace h := h.2 c_ m2 hm_
    refine ch_if_ne (tgt := 31) d_r_refuseChild_8 (by decide) (fun _ => ?_) (fun c => absurd c (by decide))
    refine ch_iconst (v := 1) d_r_refuseChild_31 (by decide) ?_
    refine ch_goto (tgt := 36) d_r_refuseChild_32 (by decide) ?_
    exact ch_iret (ty := .boolean) d_r_refuseChild_36 rfl rfl (Nat.le_of_ble_eq_true rfl) h
theorem e_r_refuseChalk (g : ch_G) (Q : ch_O → ch_M → Prop) (j1 : Nat) (p2 : Int32) (p3 : Int32) (m : ch_M) (h : ch_J g m_r_refuseChalk (ch_rm m_r_refuseChalk) (ch_E g m_r_refuseChalk Q) 0 [some (.inr (3, 0, 0)), some (.inr (1, j1, 0)), some (.inl (.int p2)), some (.inl (.int p3)), none] [] m 0) : ch_C g m_r_refuseChalk [.inr (3, 0, 0), .inr (1, j1, 0), .inl (.int p2), .inl (.int p3)] m Q :=
  ch_enter mf_r_refuseChalk (by intro v hv; simp only [List.mem_cons, List.not_mem_nil, or_false] at hv; rcases hv with rfl | rfl | rfl | rfl <;> rfl) (Nat.le_of_ble_eq_true rfl) h
set_option maxHeartbeats 1600000 in
theorem g_r_refuseChalk_0 (g : ch_G) (Q : ch_O → ch_M → Prop) (j1 : Nat) (p2 : Int32) (p3 : Int32) (m : ch_M) (h : (((0 ≤ p2 ∧ p2 < m (1, j1, 0) 8) → (((0 ≤ p3 ∧ p3 ≤ 11) → (vp_in p3 12) ∧ (((m (1, j1, 1) (Int32.toNatClampNeg p3)) = (-1) → (((m (1, j1, 2) (Int32.toNatClampNeg p3)) < 9 → (vp_in p2 5) ∧ (((1 ≤ m (1, j1, 3) (Int32.toNatClampNeg p2)) → Q (.inl (some (.inl (.int 0)))) m) ∧ ((¬ 1 ≤ m (1, j1, 3) (Int32.toNatClampNeg p2)) → (∀ m9 : ch_M, m9 = r_kp m 5 (1 - m (1, j1, 3) (Int32.toNatClampNeg p2)) → Q (.inl (some (.inl (.int 1)))) m9)))) ∧ (¬ (m (1, j1, 2) (Int32.toNatClampNeg p3)) < 9 → ((∀ m13 : ch_M, m13 = r_kp m 6 p3 → Q (.inl (some (.inl (.int 1)))) m13))))) ∧ (¬ (m (1, j1, 1) (Int32.toNatClampNeg p3)) = (-1) → (((m (1, j1, 1) (Int32.toNatClampNeg p3)) = p2 → (((m (1, j1, 2) (Int32.toNatClampNeg p3)) < 9 → (vp_in p2 5) ∧ (((1 ≤ m (1, j1, 3) (Int32.toNatClampNeg p2)) → Q (.inl (some (.inl (.int 0)))) m) ∧ ((¬ 1 ≤ m (1, j1, 3) (Int32.toNatClampNeg p2)) → (∀ m16 : ch_M, m16 = r_kp m 5 (1 - m (1, j1, 3) (Int32.toNatClampNeg p2)) → Q (.inl (some (.inl (.int 1)))) m16)))) ∧ (¬ (m (1, j1, 2) (Int32.toNatClampNeg p3)) < 9 → ((∀ m20 : ch_M, m20 = r_kp m 6 p3 → Q (.inl (some (.inl (.int 1)))) m20))))) ∧ (¬ (m (1, j1, 1) (Int32.toNatClampNeg p3)) = p2 → ((∀ m23 : ch_M, m23 = r_kp m 4 (m (1, j1, 1) (Int32.toNatClampNeg p3)) → Q (.inl (some (.inl (.int 1)))) m23))))))) ∧ ((¬ (0 ≤ p3 ∧ p3 ≤ 11)) → (∀ m5 : ch_M, m5 = r_kp m 1 0 → Q (.inl (some (.inl (.int 1)))) m5)))) ∧ ((¬ (0 ≤ p2 ∧ p2 < m (1, j1, 0) 8)) → (∀ m2 : ch_M, m2 = r_kp m 3 (m (1, j1, 0) 8) → Q (.inl (some (.inl (.int 1)))) m2)))) : ch_J g m_r_refuseChalk (ch_rm m_r_refuseChalk) (ch_E g m_r_refuseChalk Q) 0 [some (.inr (3, 0, 0)), some (.inr (1, j1, 0)), some (.inl (.int p2)), some (.inl (.int p3)), none] [] m 0 := by
  refine ch_aload_n (i := 0) d_r_refuseChalk_0 rfl rfl ?_
  refine ch_aload_n (i := 1) d_r_refuseChalk_1 rfl rfl ?_
  refine ch_iload_n (i := 2) d_r_refuseChalk_2 rfl rfl ?_
  refine ch_callV (as := [.inr (1, j1, 0), .inl (.int p2)]) d_r_refuseChalk_3 lk_r_72 mi_r_lacksChild me_r_lacksChild rfl rfl rfl ⟨Nat.le_of_ble_eq_true rfl, Nat.le_of_ble_eq_true rfl⟩ (Nat.le_of_ble_eq_true rfl) ⟨Nat.le_of_ble_eq_true rfl, Nat.le_of_ble_eq_true rfl⟩ (ch_mono (ch_Ki (fun r1 m2 q3 => ?_)) (s_r_lacksChild g (fun (r_ : Int32) (m_ : ch_M) => ((0 ≤ p2 ∧ p2 < m (1, j1, 0) 8) ∧ 0 = r_ ∧ m = m_) ∨ ((¬ (0 ≤ p2 ∧ p2 < m (1, j1, 0) 8)) ∧ 1 = r_ ∧ m_ = r_kp m 3 (m (1, j1, 0) 8))) (j1) (p2) m ⟨(fun c_ => (Or.inl ⟨c_, rfl, rfl⟩)), (fun c_ => (Or.inr ⟨c_, rfl, rfl⟩))⟩))
  rcases q3 with ⟨c_, rfl, rfl⟩ | ⟨c_, rfl, hm_⟩
  · replace h := h.1 c_
    refine ch_if_ne (tgt := 20) d_r_refuseChalk_6 (by decide) (fun c => absurd c (by decide)) (fun _ => ?_)
    refine ch_aload_n (i := 0) d_r_refuseChalk_9 rfl rfl ?_
    refine ch_iload_n (i := 3) d_r_refuseChalk_10 rfl rfl ?_
    refine ch_iconst (v := 0) d_r_refuseChalk_11 (by decide) ?_
    refine ch_bipush (v := 11) d_r_refuseChalk_12 (by decide) ?_
    refine ch_callV (as := [.inl (.int p3), .inl (.int 0), .inl (.int 11)]) d_r_refuseChalk_14 lk_r_59 mi_r_lacksRange me_r_lacksRange rfl rfl rfl ⟨Nat.le_of_ble_eq_true rfl, Nat.le_of_ble_eq_true rfl⟩ (Nat.le_of_ble_eq_true rfl) ⟨Nat.le_of_ble_eq_true rfl, Nat.le_of_ble_eq_true rfl⟩ (ch_mono (ch_Ki (fun r4 m5 q6 => ?_)) (s_r_lacksRange g (fun (r_ : Int32) (m_ : ch_M) => ((0 ≤ p3 ∧ p3 ≤ 11) ∧ 0 = r_ ∧ m = m_) ∨ ((¬ (0 ≤ p3 ∧ p3 ≤ 11)) ∧ 1 = r_ ∧ m_ = r_kp m 1 0)) (p3) (0) (11) m ⟨(fun c_ => (Or.inl ⟨c_, rfl, rfl⟩)), (fun c_ => (Or.inr ⟨c_, rfl, rfl⟩))⟩))
    rcases q6 with ⟨c_, rfl, rfl⟩ | ⟨c_, rfl, hm_⟩
    · replace h := h.1 c_
      refine ch_if_eq (tgt := 22) d_r_refuseChalk_17 (by decide) (fun _ => ?_) (fun c => absurd c (by decide))
      refine ch_aload_n (i := 1) d_r_refuseChalk_22 rfl rfl ?_
      refine ch_get (v := .inr (1, j1, 1)) d_r_refuseChalk_23 fl_r_75 rfl ?_
      refine ch_iload_n (i := 3) d_r_refuseChalk_26 rfl rfl ?_
      have b7 := h.1
      replace h := h.2
      refine ch_iald (n := 12) d_r_refuseChalk_27 (by decide) rfl b7 ?_
      refine ch_istore (i := 4) d_r_refuseChalk_28 (Nat.le_of_ble_eq_true rfl) (ls' := [some (.inr (3, 0, 0)), some (.inr (1, j1, 0)), some (.inl (.int p2)), some (.inl (.int p3)), some (.inl (.int (m (1, j1, 1) (Int32.toNatClampNeg p3))))]) rfl ?_
      refine ch_iload d_r_refuseChalk_30 rfl ?_
      refine ch_iconst (v := (-1)) d_r_refuseChalk_32 (by decide) ?_
      refine ch_icmp_eq (tgt := 50) d_r_refuseChalk_33 (by decide) (fun c => ?_) (fun c => ?_)
      · replace h := h.1 c
        refine ch_aload_n (i := 1) d_r_refuseChalk_50 rfl rfl ?_
        refine ch_get (v := .inr (1, j1, 2)) d_r_refuseChalk_51 fl_r_79 rfl ?_
        refine ch_iload_n (i := 3) d_r_refuseChalk_54 rfl rfl ?_
        refine ch_iald (n := 12) d_r_refuseChalk_55 (by decide) rfl b7 ?_
        refine ch_bipush (v := 9) d_r_refuseChalk_56 (by decide) ?_
        refine ch_icmp_lt (tgt := 69) d_r_refuseChalk_58 (by decide) (fun c => ?_) (fun c => ?_)
        · replace h := h.1 c
          refine ch_aload_n (i := 0) d_r_refuseChalk_69 rfl rfl ?_
          refine ch_aload_n (i := 1) d_r_refuseChalk_70 rfl rfl ?_
          refine ch_iload_n (i := 2) d_r_refuseChalk_71 rfl rfl ?_
          refine ch_iconst (v := 1) d_r_refuseChalk_72 (by decide) ?_
          have b11 := h.1
          replace h := h.2
          refine ch_callV (as := [.inr (1, j1, 0), .inl (.int p2), .inl (.int 1)]) d_r_refuseChalk_73 lk_r_82 mi_r_lacksPebbles me_r_lacksPebbles rfl rfl rfl ⟨Nat.le_of_ble_eq_true rfl, Nat.le_of_ble_eq_true rfl⟩ (Nat.le_of_ble_eq_true rfl) ⟨Nat.le_of_ble_eq_true rfl, Nat.le_of_ble_eq_true rfl⟩ (ch_mono (ch_Ki (fun r8 m9 q10 => ?_)) (s_r_lacksPebbles g (fun (r_ : Int32) (m_ : ch_M) => ((1 ≤ m (1, j1, 3) (Int32.toNatClampNeg p2)) ∧ 0 = r_ ∧ m = m_) ∨ ((¬ 1 ≤ m (1, j1, 3) (Int32.toNatClampNeg p2)) ∧ 1 = r_ ∧ m_ = r_kp m 5 (1 - m (1, j1, 3) (Int32.toNatClampNeg p2)))) (j1) (p2) (1) m ⟨b11, (fun c_ => (Or.inl ⟨c_, rfl, rfl⟩)), (fun c_ => (Or.inr ⟨c_, rfl, rfl⟩))⟩))
          rcases q10 with ⟨c_, rfl, rfl⟩ | ⟨c_, rfl, hm_⟩
          · replace h := h.1 c_
            exact ch_iret (ty := .boolean) d_r_refuseChalk_76 rfl rfl (Nat.le_of_ble_eq_true rfl) h
          · replace h := h.2 c_ m9 hm_
            exact ch_iret (ty := .boolean) d_r_refuseChalk_76 rfl rfl (Nat.le_of_ble_eq_true rfl) h
        · replace h := h.2 c
          refine ch_aload_n (i := 0) d_r_refuseChalk_61 rfl rfl ?_
          refine ch_bipush (v := 6) d_r_refuseChalk_62 (by decide) ?_
          refine ch_iload_n (i := 3) d_r_refuseChalk_64 rfl rfl ?_
          refine ch_callV (as := [.inl (.int 6), .inl (.int p3)]) d_r_refuseChalk_65 lk_r_68 mi_r_keep me_r_keep rfl rfl rfl ⟨Nat.le_of_ble_eq_true rfl, Nat.le_of_ble_eq_true rfl⟩ (Nat.le_of_ble_eq_true rfl) ⟨Nat.le_of_ble_eq_true rfl, Nat.le_of_ble_eq_true rfl⟩ (ch_mono (ch_Ki (fun r12 m13 q14 => ?_)) (s_r_keep g (fun (r_ : Int32) (m_ : ch_M) => (1 = r_ ∧ m_ = r_kp m 6 p3)) (6) (p3) m ⟨rfl, rfl⟩))
          obtain ⟨rfl, hm_⟩ := q14
          replace h := h m13 hm_
          exact ch_iret (ty := .boolean) d_r_refuseChalk_68 rfl rfl (Nat.le_of_ble_eq_true rfl) h
      · replace h := h.2 c
        refine ch_iload d_r_refuseChalk_36 rfl ?_
        refine ch_iload_n (i := 2) d_r_refuseChalk_38 rfl rfl ?_
        refine ch_icmp_eq (tgt := 50) d_r_refuseChalk_39 (by decide) (fun c => ?_) (fun c => ?_)
        · replace h := h.1 c
          refine ch_aload_n (i := 1) d_r_refuseChalk_50 rfl rfl ?_
          refine ch_get (v := .inr (1, j1, 2)) d_r_refuseChalk_51 fl_r_79 rfl ?_
          refine ch_iload_n (i := 3) d_r_refuseChalk_54 rfl rfl ?_
          refine ch_iald (n := 12) d_r_refuseChalk_55 (by decide) rfl b7 ?_
          refine ch_bipush (v := 9) d_r_refuseChalk_56 (by decide) ?_
          refine ch_icmp_lt (tgt := 69) d_r_refuseChalk_58 (by decide) (fun c => ?_) (fun c => ?_)
          · replace h := h.1 c
            refine ch_aload_n (i := 0) d_r_refuseChalk_69 rfl rfl ?_
            refine ch_aload_n (i := 1) d_r_refuseChalk_70 rfl rfl ?_
            refine ch_iload_n (i := 2) d_r_refuseChalk_71 rfl rfl ?_
            refine ch_iconst (v := 1) d_r_refuseChalk_72 (by decide) ?_
            have b18 := h.1
            replace h := h.2
            refine ch_callV (as := [.inr (1, j1, 0), .inl (.int p2), .inl (.int 1)]) d_r_refuseChalk_73 lk_r_82 mi_r_lacksPebbles me_r_lacksPebbles rfl rfl rfl ⟨Nat.le_of_ble_eq_true rfl, Nat.le_of_ble_eq_true rfl⟩ (Nat.le_of_ble_eq_true rfl) ⟨Nat.le_of_ble_eq_true rfl, Nat.le_of_ble_eq_true rfl⟩ (ch_mono (ch_Ki (fun r15 m16 q17 => ?_)) (s_r_lacksPebbles g (fun (r_ : Int32) (m_ : ch_M) => ((1 ≤ m (1, j1, 3) (Int32.toNatClampNeg p2)) ∧ 0 = r_ ∧ m = m_) ∨ ((¬ 1 ≤ m (1, j1, 3) (Int32.toNatClampNeg p2)) ∧ 1 = r_ ∧ m_ = r_kp m 5 (1 - m (1, j1, 3) (Int32.toNatClampNeg p2)))) (j1) (p2) (1) m ⟨b18, (fun c_ => (Or.inl ⟨c_, rfl, rfl⟩)), (fun c_ => (Or.inr ⟨c_, rfl, rfl⟩))⟩))
            rcases q17 with ⟨c_, rfl, rfl⟩ | ⟨c_, rfl, hm_⟩
            · replace h := h.1 c_
              exact ch_iret (ty := .boolean) d_r_refuseChalk_76 rfl rfl (Nat.le_of_ble_eq_true rfl) h
            · replace h := h.2 c_ m16 hm_
              exact ch_iret (ty := .boolean) d_r_refuseChalk_76 rfl rfl (Nat.le_of_ble_eq_true rfl) h
          · replace h := h.2 c
            refine ch_aload_n (i := 0) d_r_refuseChalk_61 rfl rfl ?_
            refine ch_bipush (v := 6) d_r_refuseChalk_62 (by decide) ?_
            refine ch_iload_n (i := 3) d_r_refuseChalk_64 rfl rfl ?_
            refine ch_callV (as := [.inl (.int 6), .inl (.int p3)]) d_r_refuseChalk_65 lk_r_68 mi_r_keep me_r_keep rfl rfl rfl ⟨Nat.le_of_ble_eq_true rfl, Nat.le_of_ble_eq_true rfl⟩ (Nat.le_of_ble_eq_true rfl) ⟨Nat.le_of_ble_eq_true rfl, Nat.le_of_ble_eq_true rfl⟩ (ch_mono (ch_Ki (fun r19 m20 q21 => ?_)) (s_r_keep g (fun (r_ : Int32) (m_ : ch_M) => (1 = r_ ∧ m_ = r_kp m 6 p3)) (6) (p3) m ⟨rfl, rfl⟩))
            obtain ⟨rfl, hm_⟩ := q21
            replace h := h m20 hm_
            exact ch_iret (ty := .boolean) d_r_refuseChalk_68 rfl rfl (Nat.le_of_ble_eq_true rfl) h
        · replace h := h.2 c
          refine ch_aload_n (i := 0) d_r_refuseChalk_42 rfl rfl ?_
          refine ch_iconst (v := 4) d_r_refuseChalk_43 (by decide) ?_
          refine ch_iload d_r_refuseChalk_44 rfl ?_
          refine ch_callV (as := [.inl (.int 4), .inl (.int (m (1, j1, 1) (Int32.toNatClampNeg p3)))]) d_r_refuseChalk_46 lk_r_68 mi_r_keep me_r_keep rfl rfl rfl ⟨Nat.le_of_ble_eq_true rfl, Nat.le_of_ble_eq_true rfl⟩ (Nat.le_of_ble_eq_true rfl) ⟨Nat.le_of_ble_eq_true rfl, Nat.le_of_ble_eq_true rfl⟩ (ch_mono (ch_Ki (fun r22 m23 q24 => ?_)) (s_r_keep g (fun (r_ : Int32) (m_ : ch_M) => (1 = r_ ∧ m_ = r_kp m 4 (m (1, j1, 1) (Int32.toNatClampNeg p3)))) (4) ((m (1, j1, 1) (Int32.toNatClampNeg p3))) m ⟨rfl, rfl⟩))
          obtain ⟨rfl, hm_⟩ := q24
          replace h := h m23 hm_
          exact ch_iret (ty := .boolean) d_r_refuseChalk_49 rfl rfl (Nat.le_of_ble_eq_true rfl) h
    · replace h := h.2 c_ m5 hm_
      refine ch_if_eq (tgt := 22) d_r_refuseChalk_17 (by decide) (fun c => absurd c (by decide)) (fun _ => ?_)
      refine ch_iconst (v := 1) d_r_refuseChalk_20 (by decide) ?_
      exact ch_iret (ty := .boolean) d_r_refuseChalk_21 rfl rfl (Nat.le_of_ble_eq_true rfl) h
  · replace h := h.2 c_ m2 hm_
    refine ch_if_ne (tgt := 20) d_r_refuseChalk_6 (by decide) (fun _ => ?_) (fun c => absurd c (by decide))
    refine ch_iconst (v := 1) d_r_refuseChalk_20 (by decide) ?_
    exact ch_iret (ty := .boolean) d_r_refuseChalk_21 rfl rfl (Nat.le_of_ble_eq_true rfl) h
theorem e_r_refuseHop (g : ch_G) (Q : ch_O → ch_M → Prop) (j1 : Nat) (p2 : Int32) (j3 : Nat) (m : ch_M) (h : ch_J g m_r_refuseHop (ch_rm m_r_refuseHop) (ch_E g m_r_refuseHop Q) 0 [some (.inr (3, 0, 0)), some (.inr (1, j1, 0)), some (.inl (.int p2)), some (.inr (5, j3, 0)), none] [] m 0) : ch_C g m_r_refuseHop [.inr (3, 0, 0), .inr (1, j1, 0), .inl (.int p2), .inr (5, j3, 0)] m Q :=
  ch_enter mf_r_refuseHop (by intro v hv; simp only [List.mem_cons, List.not_mem_nil, or_false] at hv; rcases hv with rfl | rfl | rfl | rfl <;> rfl) (Nat.le_of_ble_eq_true rfl) h
set_option maxHeartbeats 1600000 in
theorem g_r_refuseHop_0 (g : ch_G) (Q : ch_O → ch_M → Prop) (j1 : Nat) (p2 : Int32) (j3 : Nat) (m : ch_M) (h : (((0 ≤ p2 ∧ p2 < m (1, j1, 0) 8) → (vp_in p2 5) ∧ (((m (1, j1, 5) (Int32.toNatClampNeg p2) ≤ 0) → ((¬ (m (5, j3, 0) 1) = 0 → (vp_in (m (5, j3, 0) 1) 13) ∧ ((((y_mf (m (5, j3, 1)) (Int32.toNatClampNeg (m (5, j3, 0) 1))) = (-1) → Q (.inl (some (.inl (.int 0)))) m) ∧ (¬ (y_mf (m (5, j3, 1)) (Int32.toNatClampNeg (m (5, j3, 0) 1))) = (-1) → ((∀ m13 : ch_M, m13 = r_kp m 8 (y_mf (m (5, j3, 1)) (Int32.toNatClampNeg (m (5, j3, 0) 1))) → Q (.inl (some (.inl (.int 1)))) m13)))))) ∧ ((m (5, j3, 0) 1) = 0 → ((∀ m16 : ch_M, m16 = r_kp m 1 0 → Q (.inl (some (.inl (.int 1)))) m16))))) ∧ ((¬ m (1, j1, 5) (Int32.toNatClampNeg p2) ≤ 0) → (∀ m5 : ch_M, m5 = r_kp m 7 (m (1, j1, 5) (Int32.toNatClampNeg p2)) → Q (.inl (some (.inl (.int 1)))) m5)))) ∧ ((¬ (0 ≤ p2 ∧ p2 < m (1, j1, 0) 8)) → (∀ m2 : ch_M, m2 = r_kp m 3 (m (1, j1, 0) 8) → Q (.inl (some (.inl (.int 1)))) m2)))) : ch_J g m_r_refuseHop (ch_rm m_r_refuseHop) (ch_E g m_r_refuseHop Q) 0 [some (.inr (3, 0, 0)), some (.inr (1, j1, 0)), some (.inl (.int p2)), some (.inr (5, j3, 0)), none] [] m 0 := by
  refine ch_aload_n (i := 0) d_r_refuseHop_0 rfl rfl ?_
  refine ch_aload_n (i := 1) d_r_refuseHop_1 rfl rfl ?_
  refine ch_iload_n (i := 2) d_r_refuseHop_2 rfl rfl ?_
  refine ch_callV (as := [.inr (1, j1, 0), .inl (.int p2)]) d_r_refuseHop_3 lk_r_72 mi_r_lacksChild me_r_lacksChild rfl rfl rfl ⟨Nat.le_of_ble_eq_true rfl, Nat.le_of_ble_eq_true rfl⟩ (Nat.le_of_ble_eq_true rfl) ⟨Nat.le_of_ble_eq_true rfl, Nat.le_of_ble_eq_true rfl⟩ (ch_mono (ch_Ki (fun r1 m2 q3 => ?_)) (s_r_lacksChild g (fun (r_ : Int32) (m_ : ch_M) => ((0 ≤ p2 ∧ p2 < m (1, j1, 0) 8) ∧ 0 = r_ ∧ m = m_) ∨ ((¬ (0 ≤ p2 ∧ p2 < m (1, j1, 0) 8)) ∧ 1 = r_ ∧ m_ = r_kp m 3 (m (1, j1, 0) 8))) (j1) (p2) m ⟨(fun c_ => (Or.inl ⟨c_, rfl, rfl⟩)), (fun c_ => (Or.inr ⟨c_, rfl, rfl⟩))⟩))
  rcases q3 with ⟨c_, rfl, rfl⟩ | ⟨c_, rfl, hm_⟩
  · replace h := h.1 c_
    refine ch_if_ne (tgt := 18) d_r_refuseHop_6 (by decide) (fun c => absurd c (by decide)) (fun _ => ?_)
    refine ch_aload_n (i := 0) d_r_refuseHop_9 rfl rfl ?_
    refine ch_aload_n (i := 1) d_r_refuseHop_10 rfl rfl ?_
    refine ch_iload_n (i := 2) d_r_refuseHop_11 rfl rfl ?_
    have b7 := h.1
    replace h := h.2
    refine ch_callV (as := [.inr (1, j1, 0), .inl (.int p2)]) d_r_refuseHop_12 lk_r_85 mi_r_isWanted me_r_isWanted rfl rfl rfl ⟨Nat.le_of_ble_eq_true rfl, Nat.le_of_ble_eq_true rfl⟩ (Nat.le_of_ble_eq_true rfl) ⟨Nat.le_of_ble_eq_true rfl, Nat.le_of_ble_eq_true rfl⟩ (ch_mono (ch_Ki (fun r4 m5 q6 => ?_)) (s_r_isWanted g (fun (r_ : Int32) (m_ : ch_M) => ((m (1, j1, 5) (Int32.toNatClampNeg p2) ≤ 0) ∧ 0 = r_ ∧ m = m_) ∨ ((¬ m (1, j1, 5) (Int32.toNatClampNeg p2) ≤ 0) ∧ 1 = r_ ∧ m_ = r_kp m 7 (m (1, j1, 5) (Int32.toNatClampNeg p2)))) (j1) (p2) m ⟨b7, (fun c_ => (Or.inl ⟨c_, rfl, rfl⟩)), (fun c_ => (Or.inr ⟨c_, rfl, rfl⟩))⟩))
    rcases q6 with ⟨c_, rfl, rfl⟩ | ⟨c_, rfl, hm_⟩
    · replace h := h.1 c_
      refine ch_if_eq (tgt := 20) d_r_refuseHop_15 (by decide) (fun _ => ?_) (fun c => absurd c (by decide))
      refine ch_aload_n (i := 3) d_r_refuseHop_20 rfl rfl ?_
      refine ch_get (v := .inl (.int (m (5, j3, 0) 1))) d_r_refuseHop_21 fl_r_88 rfl ?_
      refine ch_if_ne (tgt := 34) d_r_refuseHop_24 (by decide) (fun c => ?_) (fun c => ?_)
      · replace h := h.1 c
        refine ch_aload_n (i := 3) d_r_refuseHop_34 rfl rfl ?_
        have b11 := h.1
        replace h := h.2
        refine ch_callV (as := []) d_r_refuseHop_35 lk_r_93 mi_s_misfit me_s_misfit rfl rfl rfl ⟨Nat.le_of_ble_eq_true rfl, Nat.le_of_ble_eq_true rfl⟩ (Nat.le_of_ble_eq_true rfl) ⟨Nat.le_of_ble_eq_true rfl, Nat.le_of_ble_eq_true rfl⟩ (ch_mono (ch_Ki (fun r8 m9 q10 => ?_)) (s_s_misfit g (fun (r_ : Int32) (m_ : ch_M) => ((y_mf (m (5, j3, 1)) (Int32.toNatClampNeg (m (5, j3, 0) 1))) = r_ ∧ m = m_)) (j3) m ⟨b11, ⟨rfl, rfl⟩⟩))
        obtain ⟨rfl, rfl⟩ := q10
        replace h := h
        refine ch_istore (i := 4) d_r_refuseHop_38 (Nat.le_of_ble_eq_true rfl) (ls' := [some (.inr (3, 0, 0)), some (.inr (1, j1, 0)), some (.inl (.int p2)), some (.inr (5, j3, 0)), some (.inl (.int (y_mf (m (5, j3, 1)) (Int32.toNatClampNeg (m (5, j3, 0) 1)))))]) rfl ?_
        refine ch_iload d_r_refuseHop_40 rfl ?_
        refine ch_iconst (v := (-1)) d_r_refuseHop_42 (by decide) ?_
        refine ch_icmp_eq (tgt := 61) d_r_refuseHop_43 (by decide) (fun c => ?_) (fun c => ?_)
        · replace h := h.1 c
          refine ch_iconst (v := 0) d_r_refuseHop_61 (by decide) ?_
          exact ch_iret (ty := .boolean) d_r_refuseHop_62 rfl rfl (Nat.le_of_ble_eq_true rfl) h
        · replace h := h.2 c
          refine ch_aload_n (i := 0) d_r_refuseHop_46 rfl rfl ?_
          refine ch_bipush (v := 8) d_r_refuseHop_47 (by decide) ?_
          refine ch_iload d_r_refuseHop_49 rfl ?_
          refine ch_callV (as := [.inl (.int 8), .inl (.int (y_mf (m (5, j3, 1)) (Int32.toNatClampNeg (m (5, j3, 0) 1))))]) d_r_refuseHop_51 lk_r_68 mi_r_keep me_r_keep rfl rfl rfl ⟨Nat.le_of_ble_eq_true rfl, Nat.le_of_ble_eq_true rfl⟩ (Nat.le_of_ble_eq_true rfl) ⟨Nat.le_of_ble_eq_true rfl, Nat.le_of_ble_eq_true rfl⟩ (ch_mono (ch_Ki (fun r12 m13 q14 => ?_)) (s_r_keep g (fun (r_ : Int32) (m_ : ch_M) => (1 = r_ ∧ m_ = r_kp m 8 (y_mf (m (5, j3, 1)) (Int32.toNatClampNeg (m (5, j3, 0) 1))))) (8) ((y_mf (m (5, j3, 1)) (Int32.toNatClampNeg (m (5, j3, 0) 1)))) m ⟨rfl, rfl⟩))
          obtain ⟨rfl, hm_⟩ := q14
          replace h := h m13 hm_
          refine ch_if_eq (tgt := 61) d_r_refuseHop_54 (by decide) (fun c => absurd c (by decide)) (fun _ => ?_)
          refine ch_iconst (v := 1) d_r_refuseHop_57 (by decide) ?_
          refine ch_goto (tgt := 62) d_r_refuseHop_58 (by decide) ?_
          exact ch_iret (ty := .boolean) d_r_refuseHop_62 rfl rfl (Nat.le_of_ble_eq_true rfl) h
      · replace h := h.2 c
        refine ch_aload_n (i := 0) d_r_refuseHop_27 rfl rfl ?_
        refine ch_iconst (v := 1) d_r_refuseHop_28 (by decide) ?_
        refine ch_iconst (v := 0) d_r_refuseHop_29 (by decide) ?_
        refine ch_callV (as := [.inl (.int 1), .inl (.int 0)]) d_r_refuseHop_30 lk_r_68 mi_r_keep me_r_keep rfl rfl rfl ⟨Nat.le_of_ble_eq_true rfl, Nat.le_of_ble_eq_true rfl⟩ (Nat.le_of_ble_eq_true rfl) ⟨Nat.le_of_ble_eq_true rfl, Nat.le_of_ble_eq_true rfl⟩ (ch_mono (ch_Ki (fun r15 m16 q17 => ?_)) (s_r_keep g (fun (r_ : Int32) (m_ : ch_M) => (1 = r_ ∧ m_ = r_kp m 1 0)) (1) (0) m ⟨rfl, rfl⟩))
        obtain ⟨rfl, hm_⟩ := q17
        replace h := h m16 hm_
        exact ch_iret (ty := .boolean) d_r_refuseHop_33 rfl rfl (Nat.le_of_ble_eq_true rfl) h
    · replace h := h.2 c_ m5 hm_
      refine ch_if_eq (tgt := 20) d_r_refuseHop_15 (by decide) (fun c => absurd c (by decide)) (fun _ => ?_)
      refine ch_iconst (v := 1) d_r_refuseHop_18 (by decide) ?_
      exact ch_iret (ty := .boolean) d_r_refuseHop_19 rfl rfl (Nat.le_of_ble_eq_true rfl) h
  · replace h := h.2 c_ m2 hm_
    refine ch_if_ne (tgt := 18) d_r_refuseHop_6 (by decide) (fun _ => ?_) (fun c => absurd c (by decide))
    refine ch_iconst (v := 1) d_r_refuseHop_18 (by decide) ?_
    exact ch_iret (ty := .boolean) d_r_refuseHop_19 rfl rfl (Nat.le_of_ble_eq_true rfl) h
theorem e_r_refuseWarrant (g : ch_G) (Q : ch_O → ch_M → Prop) (j1 : Nat) (p2 : Int32) (m : ch_M) (h : ch_J g m_r_refuseWarrant (ch_rm m_r_refuseWarrant) (ch_E g m_r_refuseWarrant Q) 0 [some (.inr (3, 0, 0)), some (.inr (1, j1, 0)), some (.inl (.int p2))] [] m 0) : ch_C g m_r_refuseWarrant [.inr (3, 0, 0), .inr (1, j1, 0), .inl (.int p2)] m Q :=
  ch_enter mf_r_refuseWarrant (by intro v hv; simp only [List.mem_cons, List.not_mem_nil, or_false] at hv; rcases hv with rfl | rfl | rfl <;> rfl) (Nat.le_of_ble_eq_true rfl) h
set_option maxHeartbeats 1600000 in
theorem g_r_refuseWarrant_0 (g : ch_G) (Q : ch_O → ch_M → Prop) (j1 : Nat) (p2 : Int32) (m : ch_M) (h : (((0 ≤ p2 ∧ p2 < m (1, j1, 0) 8) → (vp_in p2 5) ∧ (((m (1, j1, 5) (Int32.toNatClampNeg p2) ≤ 0) → ((3 ≤ (m (1, j1, 4) (Int32.toNatClampNeg p2)) → Q (.inl (some (.inl (.int 0)))) m) ∧ (¬ 3 ≤ (m (1, j1, 4) (Int32.toNatClampNeg p2)) → ((∀ m9 : ch_M, m9 = r_kp m 9 (m (1, j1, 4) (Int32.toNatClampNeg p2)) → Q (.inl (some (.inl (.int 1)))) m9))))) ∧ ((¬ m (1, j1, 5) (Int32.toNatClampNeg p2) ≤ 0) → (∀ m5 : ch_M, m5 = r_kp m 7 (m (1, j1, 5) (Int32.toNatClampNeg p2)) → Q (.inl (some (.inl (.int 1)))) m5)))) ∧ ((¬ (0 ≤ p2 ∧ p2 < m (1, j1, 0) 8)) → (∀ m2 : ch_M, m2 = r_kp m 3 (m (1, j1, 0) 8) → Q (.inl (some (.inl (.int 1)))) m2)))) : ch_J g m_r_refuseWarrant (ch_rm m_r_refuseWarrant) (ch_E g m_r_refuseWarrant Q) 0 [some (.inr (3, 0, 0)), some (.inr (1, j1, 0)), some (.inl (.int p2))] [] m 0 := by
  refine ch_aload_n (i := 0) d_r_refuseWarrant_0 rfl rfl ?_
  refine ch_aload_n (i := 1) d_r_refuseWarrant_1 rfl rfl ?_
  refine ch_iload_n (i := 2) d_r_refuseWarrant_2 rfl rfl ?_
  refine ch_callV (as := [.inr (1, j1, 0), .inl (.int p2)]) d_r_refuseWarrant_3 lk_r_72 mi_r_lacksChild me_r_lacksChild rfl rfl rfl ⟨Nat.le_of_ble_eq_true rfl, Nat.le_of_ble_eq_true rfl⟩ (Nat.le_of_ble_eq_true rfl) ⟨Nat.le_of_ble_eq_true rfl, Nat.le_of_ble_eq_true rfl⟩ (ch_mono (ch_Ki (fun r1 m2 q3 => ?_)) (s_r_lacksChild g (fun (r_ : Int32) (m_ : ch_M) => ((0 ≤ p2 ∧ p2 < m (1, j1, 0) 8) ∧ 0 = r_ ∧ m = m_) ∨ ((¬ (0 ≤ p2 ∧ p2 < m (1, j1, 0) 8)) ∧ 1 = r_ ∧ m_ = r_kp m 3 (m (1, j1, 0) 8))) (j1) (p2) m ⟨(fun c_ => (Or.inl ⟨c_, rfl, rfl⟩)), (fun c_ => (Or.inr ⟨c_, rfl, rfl⟩))⟩))
  rcases q3 with ⟨c_, rfl, rfl⟩ | ⟨c_, rfl, hm_⟩
  · replace h := h.1 c_
    refine ch_if_ne (tgt := 43) d_r_refuseWarrant_6 (by decide) (fun c => absurd c (by decide)) (fun _ => ?_)
    refine ch_aload_n (i := 0) d_r_refuseWarrant_9 rfl rfl ?_
    refine ch_aload_n (i := 1) d_r_refuseWarrant_10 rfl rfl ?_
    refine ch_iload_n (i := 2) d_r_refuseWarrant_11 rfl rfl ?_
    have b7 := h.1
    replace h := h.2
    refine ch_callV (as := [.inr (1, j1, 0), .inl (.int p2)]) d_r_refuseWarrant_12 lk_r_85 mi_r_isWanted me_r_isWanted rfl rfl rfl ⟨Nat.le_of_ble_eq_true rfl, Nat.le_of_ble_eq_true rfl⟩ (Nat.le_of_ble_eq_true rfl) ⟨Nat.le_of_ble_eq_true rfl, Nat.le_of_ble_eq_true rfl⟩ (ch_mono (ch_Ki (fun r4 m5 q6 => ?_)) (s_r_isWanted g (fun (r_ : Int32) (m_ : ch_M) => ((m (1, j1, 5) (Int32.toNatClampNeg p2) ≤ 0) ∧ 0 = r_ ∧ m = m_) ∨ ((¬ m (1, j1, 5) (Int32.toNatClampNeg p2) ≤ 0) ∧ 1 = r_ ∧ m_ = r_kp m 7 (m (1, j1, 5) (Int32.toNatClampNeg p2)))) (j1) (p2) m ⟨b7, (fun c_ => (Or.inl ⟨c_, rfl, rfl⟩)), (fun c_ => (Or.inr ⟨c_, rfl, rfl⟩))⟩))
    rcases q6 with ⟨c_, rfl, rfl⟩ | ⟨c_, rfl, hm_⟩
    · replace h := h.1 c_
      refine ch_if_ne (tgt := 43) d_r_refuseWarrant_15 (by decide) (fun c => absurd c (by decide)) (fun _ => ?_)
      refine ch_aload_n (i := 1) d_r_refuseWarrant_18 rfl rfl ?_
      refine ch_get (v := .inr (1, j1, 4)) d_r_refuseWarrant_19 fl_r_97 rfl ?_
      refine ch_iload_n (i := 2) d_r_refuseWarrant_22 rfl rfl ?_
      refine ch_iald (n := 5) d_r_refuseWarrant_23 (by decide) rfl b7 ?_
      refine ch_iconst (v := 3) d_r_refuseWarrant_24 (by decide) ?_
      refine ch_icmp_ge (tgt := 47) d_r_refuseWarrant_25 (by decide) (fun c => ?_) (fun c => ?_)
      · replace h := h.1 c
        refine ch_iconst (v := 0) d_r_refuseWarrant_47 (by decide) ?_
        exact ch_iret (ty := .boolean) d_r_refuseWarrant_48 rfl rfl (Nat.le_of_ble_eq_true rfl) h
      · replace h := h.2 c
        refine ch_aload_n (i := 0) d_r_refuseWarrant_28 rfl rfl ?_
        refine ch_bipush (v := 9) d_r_refuseWarrant_29 (by decide) ?_
        refine ch_aload_n (i := 1) d_r_refuseWarrant_31 rfl rfl ?_
        refine ch_get (v := .inr (1, j1, 4)) d_r_refuseWarrant_32 fl_r_97 rfl ?_
        refine ch_iload_n (i := 2) d_r_refuseWarrant_35 rfl rfl ?_
        refine ch_iald (n := 5) d_r_refuseWarrant_36 (by decide) rfl b7 ?_
        refine ch_callV (as := [.inl (.int 9), .inl (.int (m (1, j1, 4) (Int32.toNatClampNeg p2)))]) d_r_refuseWarrant_37 lk_r_68 mi_r_keep me_r_keep rfl rfl rfl ⟨Nat.le_of_ble_eq_true rfl, Nat.le_of_ble_eq_true rfl⟩ (Nat.le_of_ble_eq_true rfl) ⟨Nat.le_of_ble_eq_true rfl, Nat.le_of_ble_eq_true rfl⟩ (ch_mono (ch_Ki (fun r8 m9 q10 => ?_)) (s_r_keep g (fun (r_ : Int32) (m_ : ch_M) => (1 = r_ ∧ m_ = r_kp m 9 (m (1, j1, 4) (Int32.toNatClampNeg p2)))) (9) ((m (1, j1, 4) (Int32.toNatClampNeg p2))) m ⟨rfl, rfl⟩))
        obtain ⟨rfl, hm_⟩ := q10
        replace h := h m9 hm_
        refine ch_if_eq (tgt := 47) d_r_refuseWarrant_40 (by decide) (fun c => absurd c (by decide)) (fun _ => ?_)
        refine ch_iconst (v := 1) d_r_refuseWarrant_43 (by decide) ?_
        refine ch_goto (tgt := 48) d_r_refuseWarrant_44 (by decide) ?_
        exact ch_iret (ty := .boolean) d_r_refuseWarrant_48 rfl rfl (Nat.le_of_ble_eq_true rfl) h
    · replace h := h.2 c_ m5 hm_
      refine ch_if_ne (tgt := 43) d_r_refuseWarrant_15 (by decide) (fun _ => ?_) (fun c => absurd c (by decide))
      refine ch_iconst (v := 1) d_r_refuseWarrant_43 (by decide) ?_
      refine ch_goto (tgt := 48) d_r_refuseWarrant_44 (by decide) ?_
      exact ch_iret (ty := .boolean) d_r_refuseWarrant_48 rfl rfl (Nat.le_of_ble_eq_true rfl) h
  · replace h := h.2 c_ m2 hm_
    refine ch_if_ne (tgt := 43) d_r_refuseWarrant_6 (by decide) (fun _ => ?_) (fun c => absurd c (by decide))
    refine ch_iconst (v := 1) d_r_refuseWarrant_43 (by decide) ?_
    refine ch_goto (tgt := 48) d_r_refuseWarrant_44 (by decide) ?_
    exact ch_iret (ty := .boolean) d_r_refuseWarrant_48 rfl rfl (Nat.le_of_ble_eq_true rfl) h
theorem e_r_refuseStrike (g : ch_G) (Q : ch_O → ch_M → Prop) (j1 : Nat) (p2 : Int32) (m : ch_M) (h : ch_J g m_r_refuseStrike (ch_rm m_r_refuseStrike) (ch_E g m_r_refuseStrike Q) 0 [some (.inr (3, 0, 0)), some (.inr (1, j1, 0)), some (.inl (.int p2))] [] m 0) : ch_C g m_r_refuseStrike [.inr (3, 0, 0), .inr (1, j1, 0), .inl (.int p2)] m Q :=
  ch_enter mf_r_refuseStrike (by intro v hv; simp only [List.mem_cons, List.not_mem_nil, or_false] at hv; rcases hv with rfl | rfl | rfl <;> rfl) (Nat.le_of_ble_eq_true rfl) h
set_option maxHeartbeats 1600000 in
theorem g_r_refuseStrike_0 (g : ch_G) (Q : ch_O → ch_M → Prop) (j1 : Nat) (p2 : Int32) (m : ch_M) (h : (((0 ≤ p2 ∧ p2 < m (1, j1, 0) 8) → (vp_in p2 5) ∧ ((¬ (m (1, j1, 5) (Int32.toNatClampNeg p2)) = 0 → ((((m (1, j1, 5) (Int32.toNatClampNeg p2)) ≤ m (1, j1, 3) (Int32.toNatClampNeg p2)) → Q (.inl (some (.inl (.int 0)))) m) ∧ ((¬ (m (1, j1, 5) (Int32.toNatClampNeg p2)) ≤ m (1, j1, 3) (Int32.toNatClampNeg p2)) → (∀ m6 : ch_M, m6 = r_kp m 5 ((m (1, j1, 5) (Int32.toNatClampNeg p2)) - m (1, j1, 3) (Int32.toNatClampNeg p2)) → Q (.inl (some (.inl (.int 1)))) m6)))) ∧ ((m (1, j1, 5) (Int32.toNatClampNeg p2)) = 0 → ((∀ m9 : ch_M, m9 = r_kp m 10 0 → Q (.inl (some (.inl (.int 1)))) m9))))) ∧ ((¬ (0 ≤ p2 ∧ p2 < m (1, j1, 0) 8)) → (∀ m2 : ch_M, m2 = r_kp m 3 (m (1, j1, 0) 8) → Q (.inl (some (.inl (.int 1)))) m2)))) : ch_J g m_r_refuseStrike (ch_rm m_r_refuseStrike) (ch_E g m_r_refuseStrike Q) 0 [some (.inr (3, 0, 0)), some (.inr (1, j1, 0)), some (.inl (.int p2))] [] m 0 := by
  refine ch_aload_n (i := 0) d_r_refuseStrike_0 rfl rfl ?_
  refine ch_aload_n (i := 1) d_r_refuseStrike_1 rfl rfl ?_
  refine ch_iload_n (i := 2) d_r_refuseStrike_2 rfl rfl ?_
  refine ch_callV (as := [.inr (1, j1, 0), .inl (.int p2)]) d_r_refuseStrike_3 lk_r_72 mi_r_lacksChild me_r_lacksChild rfl rfl rfl ⟨Nat.le_of_ble_eq_true rfl, Nat.le_of_ble_eq_true rfl⟩ (Nat.le_of_ble_eq_true rfl) ⟨Nat.le_of_ble_eq_true rfl, Nat.le_of_ble_eq_true rfl⟩ (ch_mono (ch_Ki (fun r1 m2 q3 => ?_)) (s_r_lacksChild g (fun (r_ : Int32) (m_ : ch_M) => ((0 ≤ p2 ∧ p2 < m (1, j1, 0) 8) ∧ 0 = r_ ∧ m = m_) ∨ ((¬ (0 ≤ p2 ∧ p2 < m (1, j1, 0) 8)) ∧ 1 = r_ ∧ m_ = r_kp m 3 (m (1, j1, 0) 8))) (j1) (p2) m ⟨(fun c_ => (Or.inl ⟨c_, rfl, rfl⟩)), (fun c_ => (Or.inr ⟨c_, rfl, rfl⟩))⟩))
  rcases q3 with ⟨c_, rfl, rfl⟩ | ⟨c_, rfl, hm_⟩
  · replace h := h.1 c_
    refine ch_if_ne (tgt := 43) d_r_refuseStrike_6 (by decide) (fun c => absurd c (by decide)) (fun _ => ?_)
    refine ch_aload_n (i := 1) d_r_refuseStrike_9 rfl rfl ?_
    refine ch_get (v := .inr (1, j1, 5)) d_r_refuseStrike_10 fl_r_100 rfl ?_
    refine ch_iload_n (i := 2) d_r_refuseStrike_13 rfl rfl ?_
    have b4 := h.1
    replace h := h.2
    refine ch_iald (n := 5) d_r_refuseStrike_14 (by decide) rfl b4 ?_
    refine ch_if_ne (tgt := 28) d_r_refuseStrike_15 (by decide) (fun c => ?_) (fun c => ?_)
    · replace h := h.1 c
      refine ch_aload_n (i := 0) d_r_refuseStrike_28 rfl rfl ?_
      refine ch_aload_n (i := 1) d_r_refuseStrike_29 rfl rfl ?_
      refine ch_iload_n (i := 2) d_r_refuseStrike_30 rfl rfl ?_
      refine ch_aload_n (i := 1) d_r_refuseStrike_31 rfl rfl ?_
      refine ch_get (v := .inr (1, j1, 5)) d_r_refuseStrike_32 fl_r_100 rfl ?_
      refine ch_iload_n (i := 2) d_r_refuseStrike_35 rfl rfl ?_
      refine ch_iald (n := 5) d_r_refuseStrike_36 (by decide) rfl b4 ?_
      refine ch_callV (as := [.inr (1, j1, 0), .inl (.int p2), .inl (.int (m (1, j1, 5) (Int32.toNatClampNeg p2)))]) d_r_refuseStrike_37 lk_r_82 mi_r_lacksPebbles me_r_lacksPebbles rfl rfl rfl ⟨Nat.le_of_ble_eq_true rfl, Nat.le_of_ble_eq_true rfl⟩ (Nat.le_of_ble_eq_true rfl) ⟨Nat.le_of_ble_eq_true rfl, Nat.le_of_ble_eq_true rfl⟩ (ch_mono (ch_Ki (fun r5 m6 q7 => ?_)) (s_r_lacksPebbles g (fun (r_ : Int32) (m_ : ch_M) => (((m (1, j1, 5) (Int32.toNatClampNeg p2)) ≤ m (1, j1, 3) (Int32.toNatClampNeg p2)) ∧ 0 = r_ ∧ m = m_) ∨ ((¬ (m (1, j1, 5) (Int32.toNatClampNeg p2)) ≤ m (1, j1, 3) (Int32.toNatClampNeg p2)) ∧ 1 = r_ ∧ m_ = r_kp m 5 ((m (1, j1, 5) (Int32.toNatClampNeg p2)) - m (1, j1, 3) (Int32.toNatClampNeg p2)))) (j1) (p2) ((m (1, j1, 5) (Int32.toNatClampNeg p2))) m ⟨b4, (fun c_ => (Or.inl ⟨c_, rfl, rfl⟩)), (fun c_ => (Or.inr ⟨c_, rfl, rfl⟩))⟩))
      rcases q7 with ⟨c_, rfl, rfl⟩ | ⟨c_, rfl, hm_⟩
      · replace h := h.1 c_
        refine ch_if_eq (tgt := 47) d_r_refuseStrike_40 (by decide) (fun _ => ?_) (fun c => absurd c (by decide))
        refine ch_iconst (v := 0) d_r_refuseStrike_47 (by decide) ?_
        exact ch_iret (ty := .boolean) d_r_refuseStrike_48 rfl rfl (Nat.le_of_ble_eq_true rfl) h
      · replace h := h.2 c_ m6 hm_
        refine ch_if_eq (tgt := 47) d_r_refuseStrike_40 (by decide) (fun c => absurd c (by decide)) (fun _ => ?_)
        refine ch_iconst (v := 1) d_r_refuseStrike_43 (by decide) ?_
        refine ch_goto (tgt := 48) d_r_refuseStrike_44 (by decide) ?_
        exact ch_iret (ty := .boolean) d_r_refuseStrike_48 rfl rfl (Nat.le_of_ble_eq_true rfl) h
    · replace h := h.2 c
      refine ch_aload_n (i := 0) d_r_refuseStrike_18 rfl rfl ?_
      refine ch_bipush (v := 10) d_r_refuseStrike_19 (by decide) ?_
      refine ch_iconst (v := 0) d_r_refuseStrike_21 (by decide) ?_
      refine ch_callV (as := [.inl (.int 10), .inl (.int 0)]) d_r_refuseStrike_22 lk_r_68 mi_r_keep me_r_keep rfl rfl rfl ⟨Nat.le_of_ble_eq_true rfl, Nat.le_of_ble_eq_true rfl⟩ (Nat.le_of_ble_eq_true rfl) ⟨Nat.le_of_ble_eq_true rfl, Nat.le_of_ble_eq_true rfl⟩ (ch_mono (ch_Ki (fun r8 m9 q10 => ?_)) (s_r_keep g (fun (r_ : Int32) (m_ : ch_M) => (1 = r_ ∧ m_ = r_kp m 10 0)) (10) (0) m ⟨rfl, rfl⟩))
      obtain ⟨rfl, hm_⟩ := q10
      replace h := h m9 hm_
      refine ch_if_ne (tgt := 43) d_r_refuseStrike_25 (by decide) (fun _ => ?_) (fun c => absurd c (by decide))
      refine ch_iconst (v := 1) d_r_refuseStrike_43 (by decide) ?_
      refine ch_goto (tgt := 48) d_r_refuseStrike_44 (by decide) ?_
      exact ch_iret (ty := .boolean) d_r_refuseStrike_48 rfl rfl (Nat.le_of_ble_eq_true rfl) h
  · replace h := h.2 c_ m2 hm_
    refine ch_if_ne (tgt := 43) d_r_refuseStrike_6 (by decide) (fun _ => ?_) (fun c => absurd c (by decide))
    refine ch_iconst (v := 1) d_r_refuseStrike_43 (by decide) ?_
    refine ch_goto (tgt := 48) d_r_refuseStrike_44 (by decide) ?_
    exact ch_iret (ty := .boolean) d_r_refuseStrike_48 rfl rfl (Nat.le_of_ble_eq_true rfl) h
theorem e_r_refuseRain (g : ch_G) (Q : ch_O → ch_M → Prop) (j1 : Nat) (p2 : Int32) (m : ch_M) (h : ch_J g m_r_refuseRain (ch_rm m_r_refuseRain) (ch_E g m_r_refuseRain Q) 0 [some (.inr (3, 0, 0)), some (.inr (1, j1, 0)), some (.inl (.int p2))] [] m 0) : ch_C g m_r_refuseRain [.inr (3, 0, 0), .inr (1, j1, 0), .inl (.int p2)] m Q :=
  ch_enter mf_r_refuseRain (by intro v hv; simp only [List.mem_cons, List.not_mem_nil, or_false] at hv; rcases hv with rfl | rfl | rfl <;> rfl) (Nat.le_of_ble_eq_true rfl) h
set_option maxHeartbeats 1600000 in
theorem g_r_refuseRain_0 (g : ch_G) (Q : ch_O → ch_M → Prop) (j1 : Nat) (p2 : Int32) (m : ch_M) (h : (((1 ≤ p2 ∧ p2 ≤ 9) → ((¬ (m (1, j1, 0) 9) = 0 → Q (.inl (some (.inl (.int 0)))) m) ∧ ((m (1, j1, 0) 9) = 0 → (((¬ (ch_cnO (m (1, j1, 1)) (-1) 12) = 12 → Q (.inl (some (.inl (.int 0)))) m) ∧ ((ch_cnO (m (1, j1, 1)) (-1) 12) = 12 → ((∀ m8 : ch_M, m8 = r_kp m 12 0 → Q (.inl (some (.inl (.int 1)))) m8)))))))) ∧ ((¬ (1 ≤ p2 ∧ p2 ≤ 9)) → (∀ m2 : ch_M, m2 = r_kp m 1 0 → Q (.inl (some (.inl (.int 1)))) m2)))) : ch_J g m_r_refuseRain (ch_rm m_r_refuseRain) (ch_E g m_r_refuseRain Q) 0 [some (.inr (3, 0, 0)), some (.inr (1, j1, 0)), some (.inl (.int p2))] [] m 0 := by
  refine ch_aload_n (i := 0) d_r_refuseRain_0 rfl rfl ?_
  refine ch_iload_n (i := 2) d_r_refuseRain_1 rfl rfl ?_
  refine ch_iconst (v := 1) d_r_refuseRain_2 (by decide) ?_
  refine ch_bipush (v := 9) d_r_refuseRain_3 (by decide) ?_
  refine ch_callV (as := [.inl (.int p2), .inl (.int 1), .inl (.int 9)]) d_r_refuseRain_5 lk_r_59 mi_r_lacksRange me_r_lacksRange rfl rfl rfl ⟨Nat.le_of_ble_eq_true rfl, Nat.le_of_ble_eq_true rfl⟩ (Nat.le_of_ble_eq_true rfl) ⟨Nat.le_of_ble_eq_true rfl, Nat.le_of_ble_eq_true rfl⟩ (ch_mono (ch_Ki (fun r1 m2 q3 => ?_)) (s_r_lacksRange g (fun (r_ : Int32) (m_ : ch_M) => ((1 ≤ p2 ∧ p2 ≤ 9) ∧ 0 = r_ ∧ m = m_) ∨ ((¬ (1 ≤ p2 ∧ p2 ≤ 9)) ∧ 1 = r_ ∧ m_ = r_kp m 1 0)) (p2) (1) (9) m ⟨(fun c_ => (Or.inl ⟨c_, rfl, rfl⟩)), (fun c_ => (Or.inr ⟨c_, rfl, rfl⟩))⟩))
  rcases q3 with ⟨c_, rfl, rfl⟩ | ⟨c_, rfl, hm_⟩
  · replace h := h.1 c_
    refine ch_if_ne (tgt := 38) d_r_refuseRain_8 (by decide) (fun c => absurd c (by decide)) (fun _ => ?_)
    refine ch_aload_n (i := 1) d_r_refuseRain_11 rfl rfl ?_
    refine ch_get (v := .inl (.int (m (1, j1, 0) 9))) d_r_refuseRain_12 fl_r_103 rfl ?_
    refine ch_if_ne (tgt := 42) d_r_refuseRain_15 (by decide) (fun c => ?_) (fun c => ?_)
    · replace h := h.1 c
      refine ch_iconst (v := 0) d_r_refuseRain_42 (by decide) ?_
      exact ch_iret (ty := .boolean) d_r_refuseRain_43 rfl rfl (Nat.le_of_ble_eq_true rfl) h
    · replace h := h.2 c
      refine ch_aload_n (i := 1) d_r_refuseRain_18 rfl rfl ?_
      refine ch_iconst (v := (-1)) d_r_refuseRain_19 (by decide) ?_
      refine ch_callV (as := [.inl (.int (-1))]) d_r_refuseRain_20 lk_r_106 mi_y_countOwned me_y_countOwned rfl rfl rfl ⟨Nat.le_of_ble_eq_true rfl, Nat.le_of_ble_eq_true rfl⟩ (Nat.le_of_ble_eq_true rfl) ⟨Nat.le_of_ble_eq_true rfl, Nat.le_of_ble_eq_true rfl⟩ (ch_mono (ch_Ki (fun r4 m5 q6 => ?_)) (s_y_countOwned g (fun (r_ : Int32) (m_ : ch_M) => ((ch_cnO (m (1, j1, 1)) (-1) 12) = r_ ∧ m = m_)) (j1) ((-1)) m ⟨rfl, rfl⟩))
      obtain ⟨rfl, rfl⟩ := q6
      replace h := h
      refine ch_bipush (v := 12) d_r_refuseRain_23 (by decide) ?_
      refine ch_icmp_ne (tgt := 42) d_r_refuseRain_25 (by decide) (fun c => ?_) (fun c => ?_)
      · replace h := h.1 c
        refine ch_iconst (v := 0) d_r_refuseRain_42 (by decide) ?_
        exact ch_iret (ty := .boolean) d_r_refuseRain_43 rfl rfl (Nat.le_of_ble_eq_true rfl) h
      · replace h := h.2 c
        refine ch_aload_n (i := 0) d_r_refuseRain_28 rfl rfl ?_
        refine ch_bipush (v := 12) d_r_refuseRain_29 (by decide) ?_
        refine ch_iconst (v := 0) d_r_refuseRain_31 (by decide) ?_
        refine ch_callV (as := [.inl (.int 12), .inl (.int 0)]) d_r_refuseRain_32 lk_r_68 mi_r_keep me_r_keep rfl rfl rfl ⟨Nat.le_of_ble_eq_true rfl, Nat.le_of_ble_eq_true rfl⟩ (Nat.le_of_ble_eq_true rfl) ⟨Nat.le_of_ble_eq_true rfl, Nat.le_of_ble_eq_true rfl⟩ (ch_mono (ch_Ki (fun r7 m8 q9 => ?_)) (s_r_keep g (fun (r_ : Int32) (m_ : ch_M) => (1 = r_ ∧ m_ = r_kp m 12 0)) (12) (0) m ⟨rfl, rfl⟩))
        obtain ⟨rfl, hm_⟩ := q9
        replace h := h m8 hm_
        refine ch_if_eq (tgt := 42) d_r_refuseRain_35 (by decide) (fun c => absurd c (by decide)) (fun _ => ?_)
        refine ch_iconst (v := 1) d_r_refuseRain_38 (by decide) ?_
        refine ch_goto (tgt := 43) d_r_refuseRain_39 (by decide) ?_
        exact ch_iret (ty := .boolean) d_r_refuseRain_43 rfl rfl (Nat.le_of_ble_eq_true rfl) h
  · replace h := h.2 c_ m2 hm_
    refine ch_if_ne (tgt := 38) d_r_refuseRain_8 (by decide) (fun _ => ?_) (fun c => absurd c (by decide))
    refine ch_iconst (v := 1) d_r_refuseRain_38 (by decide) ?_
    refine ch_goto (tgt := 43) d_r_refuseRain_39 (by decide) ?_
    exact ch_iret (ty := .boolean) d_r_refuseRain_43 rfl rfl (Nat.le_of_ble_eq_true rfl) h
theorem e_r_refuseTerm (g : ch_G) (Q : ch_O → ch_M → Prop) (j1 : Nat) (m : ch_M) (h : ch_J g m_r_refuseTerm (ch_rm m_r_refuseTerm) (ch_E g m_r_refuseTerm Q) 0 [some (.inr (3, 0, 0)), some (.inr (1, j1, 0))] [] m 0) : ch_C g m_r_refuseTerm [.inr (3, 0, 0), .inr (1, j1, 0)] m Q :=
  ch_enter mf_r_refuseTerm (by intro v hv; simp only [List.mem_cons, List.not_mem_nil, or_false] at hv; rcases hv with rfl | rfl <;> rfl) (Nat.le_of_ble_eq_true rfl) h
set_option maxHeartbeats 1600000 in
theorem g_r_refuseTerm_0 (g : ch_G) (Q : ch_O → ch_M → Prop) (j1 : Nat) (m : ch_M) (h : ((¬ (m (1, j1, 0) 8) = 0 → Q (.inl (some (.inl (.int 0)))) m) ∧ ((m (1, j1, 0) 8) = 0 → ((∀ m2 : ch_M, m2 = r_kp m 13 0 → Q (.inl (some (.inl (.int 1)))) m2))))) : ch_J g m_r_refuseTerm (ch_rm m_r_refuseTerm) (ch_E g m_r_refuseTerm Q) 0 [some (.inr (3, 0, 0)), some (.inr (1, j1, 0))] [] m 0 := by
  refine ch_aload_n (i := 1) d_r_refuseTerm_0 rfl rfl ?_
  refine ch_get (v := .inl (.int (m (1, j1, 0) 8))) d_r_refuseTerm_1 fl_r_63 rfl ?_
  refine ch_if_ne (tgt := 21) d_r_refuseTerm_4 (by decide) (fun c => ?_) (fun c => ?_)
  · replace h := h.1 c
    refine ch_iconst (v := 0) d_r_refuseTerm_21 (by decide) ?_
    exact ch_iret (ty := .boolean) d_r_refuseTerm_22 rfl rfl (Nat.le_of_ble_eq_true rfl) h
  · replace h := h.2 c
    refine ch_aload_n (i := 0) d_r_refuseTerm_7 rfl rfl ?_
    refine ch_bipush (v := 13) d_r_refuseTerm_8 (by decide) ?_
    refine ch_iconst (v := 0) d_r_refuseTerm_10 (by decide) ?_
    refine ch_callV (as := [.inl (.int 13), .inl (.int 0)]) d_r_refuseTerm_11 lk_r_68 mi_r_keep me_r_keep rfl rfl rfl ⟨Nat.le_of_ble_eq_true rfl, Nat.le_of_ble_eq_true rfl⟩ (Nat.le_of_ble_eq_true rfl) ⟨Nat.le_of_ble_eq_true rfl, Nat.le_of_ble_eq_true rfl⟩ (ch_mono (ch_Ki (fun r1 m2 q3 => ?_)) (s_r_keep g (fun (r_ : Int32) (m_ : ch_M) => (1 = r_ ∧ m_ = r_kp m 13 0)) (13) (0) m ⟨rfl, rfl⟩))
    obtain ⟨rfl, hm_⟩ := q3
    replace h := h m2 hm_
    refine ch_if_eq (tgt := 21) d_r_refuseTerm_14 (by decide) (fun c => absurd c (by decide)) (fun _ => ?_)
    refine ch_iconst (v := 1) d_r_refuseTerm_17 (by decide) ?_
    refine ch_goto (tgt := 22) d_r_refuseTerm_18 (by decide) ?_
    exact ch_iret (ty := .boolean) d_r_refuseTerm_22 rfl rfl (Nat.le_of_ble_eq_true rfl) h
theorem e_r_refuseGift (g : ch_G) (Q : ch_O → ch_M → Prop) (j1 : Nat) (p2 : Int32) (p3 : Int32) (p4 : Int32) (m : ch_M) (h : ch_J g m_r_refuseGift (ch_rm m_r_refuseGift) (ch_E g m_r_refuseGift Q) 0 [some (.inr (3, 0, 0)), some (.inr (1, j1, 0)), some (.inl (.int p2)), some (.inl (.int p3)), some (.inl (.int p4))] [] m 0) : ch_C g m_r_refuseGift [.inr (3, 0, 0), .inr (1, j1, 0), .inl (.int p2), .inl (.int p3), .inl (.int p4)] m Q :=
  ch_enter mf_r_refuseGift (by intro v hv; simp only [List.mem_cons, List.not_mem_nil, or_false] at hv; rcases hv with rfl | rfl | rfl | rfl | rfl <;> rfl) (Nat.le_of_ble_eq_true rfl) h
set_option maxHeartbeats 1600000 in
theorem g_r_refuseGift_0 (g : ch_G) (Q : ch_O → ch_M → Prop) (j1 : Nat) (p2 : Int32) (p3 : Int32) (p4 : Int32) (m : ch_M) (h : (((0 ≤ p2 ∧ p2 < m (1, j1, 0) 8) → (((0 ≤ p3 ∧ p3 < m (1, j1, 0) 8) → ((¬ p2 = p3 → (((1 ≤ p4 ∧ p4 ≤ 99) → (vp_in p2 5) ∧ (((p4 ≤ m (1, j1, 3) (Int32.toNatClampNeg p2)) → Q (.inl (some (.inl (.int 0)))) m) ∧ ((¬ p4 ≤ m (1, j1, 3) (Int32.toNatClampNeg p2)) → (∀ m11 : ch_M, m11 = r_kp m 5 (p4 - m (1, j1, 3) (Int32.toNatClampNeg p2)) → Q (.inl (some (.inl (.int 1)))) m11)))) ∧ ((¬ (1 ≤ p4 ∧ p4 ≤ 99)) → (∀ m8 : ch_M, m8 = r_kp m 1 0 → Q (.inl (some (.inl (.int 1)))) m8)))) ∧ (p2 = p3 → ((∀ m15 : ch_M, m15 = r_kp m 11 p2 → Q (.inl (some (.inl (.int 1)))) m15))))) ∧ ((¬ (0 ≤ p3 ∧ p3 < m (1, j1, 0) 8)) → (∀ m5 : ch_M, m5 = r_kp m 3 (m (1, j1, 0) 8) → Q (.inl (some (.inl (.int 1)))) m5)))) ∧ ((¬ (0 ≤ p2 ∧ p2 < m (1, j1, 0) 8)) → (∀ m2 : ch_M, m2 = r_kp m 3 (m (1, j1, 0) 8) → Q (.inl (some (.inl (.int 1)))) m2)))) : ch_J g m_r_refuseGift (ch_rm m_r_refuseGift) (ch_E g m_r_refuseGift Q) 0 [some (.inr (3, 0, 0)), some (.inr (1, j1, 0)), some (.inl (.int p2)), some (.inl (.int p3)), some (.inl (.int p4))] [] m 0 := by
  refine ch_aload_n (i := 0) d_r_refuseGift_0 rfl rfl ?_
  refine ch_aload_n (i := 1) d_r_refuseGift_1 rfl rfl ?_
  refine ch_iload_n (i := 2) d_r_refuseGift_2 rfl rfl ?_
  refine ch_callV (as := [.inr (1, j1, 0), .inl (.int p2)]) d_r_refuseGift_3 lk_r_72 mi_r_lacksChild me_r_lacksChild rfl rfl rfl ⟨Nat.le_of_ble_eq_true rfl, Nat.le_of_ble_eq_true rfl⟩ (Nat.le_of_ble_eq_true rfl) ⟨Nat.le_of_ble_eq_true rfl, Nat.le_of_ble_eq_true rfl⟩ (ch_mono (ch_Ki (fun r1 m2 q3 => ?_)) (s_r_lacksChild g (fun (r_ : Int32) (m_ : ch_M) => ((0 ≤ p2 ∧ p2 < m (1, j1, 0) 8) ∧ 0 = r_ ∧ m = m_) ∨ ((¬ (0 ≤ p2 ∧ p2 < m (1, j1, 0) 8)) ∧ 1 = r_ ∧ m_ = r_kp m 3 (m (1, j1, 0) 8))) (j1) (p2) m ⟨(fun c_ => (Or.inl ⟨c_, rfl, rfl⟩)), (fun c_ => (Or.inr ⟨c_, rfl, rfl⟩))⟩))
  rcases q3 with ⟨c_, rfl, rfl⟩ | ⟨c_, rfl, hm_⟩
  · replace h := h.1 c_
    refine ch_if_ne (tgt := 56) d_r_refuseGift_6 (by decide) (fun c => absurd c (by decide)) (fun _ => ?_)
    refine ch_aload_n (i := 0) d_r_refuseGift_9 rfl rfl ?_
    refine ch_aload_n (i := 1) d_r_refuseGift_10 rfl rfl ?_
    refine ch_iload_n (i := 3) d_r_refuseGift_11 rfl rfl ?_
    refine ch_callV (as := [.inr (1, j1, 0), .inl (.int p3)]) d_r_refuseGift_12 lk_r_72 mi_r_lacksChild me_r_lacksChild rfl rfl rfl ⟨Nat.le_of_ble_eq_true rfl, Nat.le_of_ble_eq_true rfl⟩ (Nat.le_of_ble_eq_true rfl) ⟨Nat.le_of_ble_eq_true rfl, Nat.le_of_ble_eq_true rfl⟩ (ch_mono (ch_Ki (fun r4 m5 q6 => ?_)) (s_r_lacksChild g (fun (r_ : Int32) (m_ : ch_M) => ((0 ≤ p3 ∧ p3 < m (1, j1, 0) 8) ∧ 0 = r_ ∧ m = m_) ∨ ((¬ (0 ≤ p3 ∧ p3 < m (1, j1, 0) 8)) ∧ 1 = r_ ∧ m_ = r_kp m 3 (m (1, j1, 0) 8))) (j1) (p3) m ⟨(fun c_ => (Or.inl ⟨c_, rfl, rfl⟩)), (fun c_ => (Or.inr ⟨c_, rfl, rfl⟩))⟩))
    rcases q6 with ⟨c_, rfl, rfl⟩ | ⟨c_, rfl, hm_⟩
    · replace h := h.1 c_
      refine ch_if_ne (tgt := 56) d_r_refuseGift_15 (by decide) (fun c => absurd c (by decide)) (fun _ => ?_)
      refine ch_iload_n (i := 2) d_r_refuseGift_18 rfl rfl ?_
      refine ch_iload_n (i := 3) d_r_refuseGift_19 rfl rfl ?_
      refine ch_icmp_ne (tgt := 33) d_r_refuseGift_20 (by decide) (fun c => ?_) (fun c => ?_)
      · replace h := h.1 c
        refine ch_aload_n (i := 0) d_r_refuseGift_33 rfl rfl ?_
        refine ch_iload d_r_refuseGift_34 rfl ?_
        refine ch_iconst (v := 1) d_r_refuseGift_36 (by decide) ?_
        refine ch_bipush (v := 99) d_r_refuseGift_37 (by decide) ?_
        refine ch_callV (as := [.inl (.int p4), .inl (.int 1), .inl (.int 99)]) d_r_refuseGift_39 lk_r_59 mi_r_lacksRange me_r_lacksRange rfl rfl rfl ⟨Nat.le_of_ble_eq_true rfl, Nat.le_of_ble_eq_true rfl⟩ (Nat.le_of_ble_eq_true rfl) ⟨Nat.le_of_ble_eq_true rfl, Nat.le_of_ble_eq_true rfl⟩ (ch_mono (ch_Ki (fun r7 m8 q9 => ?_)) (s_r_lacksRange g (fun (r_ : Int32) (m_ : ch_M) => ((1 ≤ p4 ∧ p4 ≤ 99) ∧ 0 = r_ ∧ m = m_) ∨ ((¬ (1 ≤ p4 ∧ p4 ≤ 99)) ∧ 1 = r_ ∧ m_ = r_kp m 1 0)) (p4) (1) (99) m ⟨(fun c_ => (Or.inl ⟨c_, rfl, rfl⟩)), (fun c_ => (Or.inr ⟨c_, rfl, rfl⟩))⟩))
        rcases q9 with ⟨c_, rfl, rfl⟩ | ⟨c_, rfl, hm_⟩
        · replace h := h.1 c_
          refine ch_if_ne (tgt := 56) d_r_refuseGift_42 (by decide) (fun c => absurd c (by decide)) (fun _ => ?_)
          refine ch_aload_n (i := 0) d_r_refuseGift_45 rfl rfl ?_
          refine ch_aload_n (i := 1) d_r_refuseGift_46 rfl rfl ?_
          refine ch_iload_n (i := 2) d_r_refuseGift_47 rfl rfl ?_
          refine ch_iload d_r_refuseGift_48 rfl ?_
          have b13 := h.1
          replace h := h.2
          refine ch_callV (as := [.inr (1, j1, 0), .inl (.int p2), .inl (.int p4)]) d_r_refuseGift_50 lk_r_82 mi_r_lacksPebbles me_r_lacksPebbles rfl rfl rfl ⟨Nat.le_of_ble_eq_true rfl, Nat.le_of_ble_eq_true rfl⟩ (Nat.le_of_ble_eq_true rfl) ⟨Nat.le_of_ble_eq_true rfl, Nat.le_of_ble_eq_true rfl⟩ (ch_mono (ch_Ki (fun r10 m11 q12 => ?_)) (s_r_lacksPebbles g (fun (r_ : Int32) (m_ : ch_M) => ((p4 ≤ m (1, j1, 3) (Int32.toNatClampNeg p2)) ∧ 0 = r_ ∧ m = m_) ∨ ((¬ p4 ≤ m (1, j1, 3) (Int32.toNatClampNeg p2)) ∧ 1 = r_ ∧ m_ = r_kp m 5 (p4 - m (1, j1, 3) (Int32.toNatClampNeg p2)))) (j1) (p2) (p4) m ⟨b13, (fun c_ => (Or.inl ⟨c_, rfl, rfl⟩)), (fun c_ => (Or.inr ⟨c_, rfl, rfl⟩))⟩))
          rcases q12 with ⟨c_, rfl, rfl⟩ | ⟨c_, rfl, hm_⟩
          · replace h := h.1 c_
            refine ch_if_eq (tgt := 60) d_r_refuseGift_53 (by decide) (fun _ => ?_) (fun c => absurd c (by decide))
            refine ch_iconst (v := 0) d_r_refuseGift_60 (by decide) ?_
            exact ch_iret (ty := .boolean) d_r_refuseGift_61 rfl rfl (Nat.le_of_ble_eq_true rfl) h
          · replace h := h.2 c_ m11 hm_
            refine ch_if_eq (tgt := 60) d_r_refuseGift_53 (by decide) (fun c => absurd c (by decide)) (fun _ => ?_)
            refine ch_iconst (v := 1) d_r_refuseGift_56 (by decide) ?_
            refine ch_goto (tgt := 61) d_r_refuseGift_57 (by decide) ?_
            exact ch_iret (ty := .boolean) d_r_refuseGift_61 rfl rfl (Nat.le_of_ble_eq_true rfl) h
        · replace h := h.2 c_ m8 hm_
          refine ch_if_ne (tgt := 56) d_r_refuseGift_42 (by decide) (fun _ => ?_) (fun c => absurd c (by decide))
          refine ch_iconst (v := 1) d_r_refuseGift_56 (by decide) ?_
          refine ch_goto (tgt := 61) d_r_refuseGift_57 (by decide) ?_
          exact ch_iret (ty := .boolean) d_r_refuseGift_61 rfl rfl (Nat.le_of_ble_eq_true rfl) h
      · replace h := h.2 c
        refine ch_aload_n (i := 0) d_r_refuseGift_23 rfl rfl ?_
        refine ch_bipush (v := 11) d_r_refuseGift_24 (by decide) ?_
        refine ch_iload_n (i := 2) d_r_refuseGift_26 rfl rfl ?_
        refine ch_callV (as := [.inl (.int 11), .inl (.int p2)]) d_r_refuseGift_27 lk_r_68 mi_r_keep me_r_keep rfl rfl rfl ⟨Nat.le_of_ble_eq_true rfl, Nat.le_of_ble_eq_true rfl⟩ (Nat.le_of_ble_eq_true rfl) ⟨Nat.le_of_ble_eq_true rfl, Nat.le_of_ble_eq_true rfl⟩ (ch_mono (ch_Ki (fun r14 m15 q16 => ?_)) (s_r_keep g (fun (r_ : Int32) (m_ : ch_M) => (1 = r_ ∧ m_ = r_kp m 11 p2)) (11) (p2) m ⟨rfl, rfl⟩))
        obtain ⟨rfl, hm_⟩ := q16
        replace h := h m15 hm_
        refine ch_if_ne (tgt := 56) d_r_refuseGift_30 (by decide) (fun _ => ?_) (fun c => absurd c (by decide))
        refine ch_iconst (v := 1) d_r_refuseGift_56 (by decide) ?_
        refine ch_goto (tgt := 61) d_r_refuseGift_57 (by decide) ?_
        exact ch_iret (ty := .boolean) d_r_refuseGift_61 rfl rfl (Nat.le_of_ble_eq_true rfl) h
    · replace h := h.2 c_ m5 hm_
      refine ch_if_ne (tgt := 56) d_r_refuseGift_15 (by decide) (fun _ => ?_) (fun c => absurd c (by decide))
      refine ch_iconst (v := 1) d_r_refuseGift_56 (by decide) ?_
      refine ch_goto (tgt := 61) d_r_refuseGift_57 (by decide) ?_
      exact ch_iret (ty := .boolean) d_r_refuseGift_61 rfl rfl (Nat.le_of_ble_eq_true rfl) h
  · replace h := h.2 c_ m2 hm_
    refine ch_if_ne (tgt := 56) d_r_refuseGift_6 (by decide) (fun _ => ?_) (fun c => absurd c (by decide))
    refine ch_iconst (v := 1) d_r_refuseGift_56 (by decide) ?_
    refine ch_goto (tgt := 61) d_r_refuseGift_57 (by decide) ?_
    exact ch_iret (ty := .boolean) d_r_refuseGift_61 rfl rfl (Nat.le_of_ble_eq_true rfl) h
