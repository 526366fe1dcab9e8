theorem e_w_tryStep (g : ch_G) (Q : ch_O → ch_M → Prop) (j1 : Nat) (p2 : Int32) (p3 : Int32) (p4 : Int32) (m : ch_M) (h : ch_J g m_w_tryStep (ch_rm m_w_tryStep) (ch_E g m_w_tryStep Q) 0 [some (.inr (8, 0, 0)), some (.inr (1, j1, 0)), some (.inl (.int p2)), some (.inl (.int p3)), some (.inl (.int p4)), none, none, none] [] m 0) : ch_C g m_w_tryStep [.inr (8, 0, 0), .inr (1, j1, 0), .inl (.int p2), .inl (.int p3), .inl (.int p4)] m Q :=
  ch_enter mf_w_tryStep (by intro v hv; simp only [List.mem_cons, List.not_mem_nil, or_false] at hv; rcases hv with rfl | rfl | rfl | rfl | rfl <;> rfl) (Nat.le_of_ble_eq_true rfl) h
set_option maxHeartbeats 1600000 in
theorem g_w_tryStep_0 (g : ch_G) (Q : ch_O → ch_M → Prop) (j1 : Nat) (p2 : Int32) (p3 : Int32) (p4 : Int32) (m : ch_M) (h : (vp_in (p3 + p4) 15) ∧ (((ch_line (ch_ob m 1 j1) p2 ((p3 + p4) - 1)) → (vp_in p3 15) ∧ (((m (8, 0, 3) (Int32.toNatClampNeg p3)) = 0 → (∀ m6 : ch_M, m6 = ch_wr m (8, 0, 1) (Int32.toNatClampNeg p3) ((m (8, 0, 1) (Int32.toNatClampNeg (p3 + p4))) + 1) → (∀ m7 : ch_M, m7 = ch_wr m6 (8, 0, 2) (Int32.toNatClampNeg p3) ((m (8, 0, 2) (Int32.toNatClampNeg (p3 + p4))) + 1) → (∀ m8 : ch_M, m8 = ch_wr m7 (8, 0, 3) (Int32.toNatClampNeg p3) p4 → Q (.inl none) m8)))) ∧ (¬ (m (8, 0, 3) (Int32.toNatClampNeg p3)) = 0 → ((((m (8, 0, 1) (Int32.toNatClampNeg (p3 + p4))) + 1) < (m (8, 0, 1) (Int32.toNatClampNeg p3)) → (∀ m9 : ch_M, m9 = ch_wr m (8, 0, 1) (Int32.toNatClampNeg p3) ((m (8, 0, 1) (Int32.toNatClampNeg (p3 + p4))) + 1) → (∀ m10 : ch_M, m10 = ch_wr m9 (8, 0, 2) (Int32.toNatClampNeg p3) ((m (8, 0, 2) (Int32.toNatClampNeg (p3 + p4))) + 1) → (∀ m11 : ch_M, m11 = ch_wr m10 (8, 0, 3) (Int32.toNatClampNeg p3) p4 → Q (.inl none) m11)))) ∧ (¬ ((m (8, 0, 1) (Int32.toNatClampNeg (p3 + p4))) + 1) < (m (8, 0, 1) (Int32.toNatClampNeg p3)) → ((¬ ((m (8, 0, 1) (Int32.toNatClampNeg (p3 + p4))) + 1) = (m (8, 0, 1) (Int32.toNatClampNeg p3)) → Q (.inl none) m) ∧ (((m (8, 0, 1) (Int32.toNatClampNeg (p3 + p4))) + 1) = (m (8, 0, 1) (Int32.toNatClampNeg p3)) → (((m (8, 0, 2) (Int32.toNatClampNeg p3)) ≤ ((m (8, 0, 2) (Int32.toNatClampNeg (p3 + p4))) + 1) → Q (.inl none) m) ∧ (¬ (m (8, 0, 2) (Int32.toNatClampNeg p3)) ≤ ((m (8, 0, 2) (Int32.toNatClampNeg (p3 + p4))) + 1) → (∀ m12 : ch_M, m12 = ch_wr m (8, 0, 1) (Int32.toNatClampNeg p3) ((m (8, 0, 1) (Int32.toNatClampNeg (p3 + p4))) + 1) → (∀ m13 : ch_M, m13 = ch_wr m12 (8, 0, 2) (Int32.toNatClampNeg p3) ((m (8, 0, 2) (Int32.toNatClampNeg (p3 + p4))) + 1) → (∀ m14 : ch_M, m14 = ch_wr m13 (8, 0, 3) (Int32.toNatClampNeg p3) p4 → Q (.inl none) m14)))))))))))) ∧ ((¬ ch_line (ch_ob m 1 j1) p2 ((p3 + p4) - 1)) → (vp_in p3 15) ∧ (((m (8, 0, 3) (Int32.toNatClampNeg p3)) = 0 → (∀ m16 : ch_M, m16 = ch_wr m (8, 0, 1) (Int32.toNatClampNeg p3) ((m (8, 0, 1) (Int32.toNatClampNeg (p3 + p4))) + 0) → (∀ m17 : ch_M, m17 = ch_wr m16 (8, 0, 2) (Int32.toNatClampNeg p3) ((m (8, 0, 2) (Int32.toNatClampNeg (p3 + p4))) + 1) → (∀ m18 : ch_M, m18 = ch_wr m17 (8, 0, 3) (Int32.toNatClampNeg p3) p4 → Q (.inl none) m18)))) ∧ (¬ (m (8, 0, 3) (Int32.toNatClampNeg p3)) = 0 → ((((m (8, 0, 1) (Int32.toNatClampNeg (p3 + p4))) + 0) < (m (8, 0, 1) (Int32.toNatClampNeg p3)) → (∀ m19 : ch_M, m19 = ch_wr m (8, 0, 1) (Int32.toNatClampNeg p3) ((m (8, 0, 1) (Int32.toNatClampNeg (p3 + p4))) + 0) → (∀ m20 : ch_M, m20 = ch_wr m19 (8, 0, 2) (Int32.toNatClampNeg p3) ((m (8, 0, 2) (Int32.toNatClampNeg (p3 + p4))) + 1) → (∀ m21 : ch_M, m21 = ch_wr m20 (8, 0, 3) (Int32.toNatClampNeg p3) p4 → Q (.inl none) m21)))) ∧ (¬ ((m (8, 0, 1) (Int32.toNatClampNeg (p3 + p4))) + 0) < (m (8, 0, 1) (Int32.toNatClampNeg p3)) → ((¬ ((m (8, 0, 1) (Int32.toNatClampNeg (p3 + p4))) + 0) = (m (8, 0, 1) (Int32.toNatClampNeg p3)) → Q (.inl none) m) ∧ (((m (8, 0, 1) (Int32.toNatClampNeg (p3 + p4))) + 0) = (m (8, 0, 1) (Int32.toNatClampNeg p3)) → (((m (8, 0, 2) (Int32.toNatClampNeg p3)) ≤ ((m (8, 0, 2) (Int32.toNatClampNeg (p3 + p4))) + 1) → Q (.inl none) m) ∧ (¬ (m (8, 0, 2) (Int32.toNatClampNeg p3)) ≤ ((m (8, 0, 2) (Int32.toNatClampNeg (p3 + p4))) + 1) → (∀ m22 : ch_M, m22 = ch_wr m (8, 0, 1) (Int32.toNatClampNeg p3) ((m (8, 0, 1) (Int32.toNatClampNeg (p3 + p4))) + 0) → (∀ m23 : ch_M, m23 = ch_wr m22 (8, 0, 2) (Int32.toNatClampNeg p3) ((m (8, 0, 2) (Int32.toNatClampNeg (p3 + p4))) + 1) → (∀ m24 : ch_M, m24 = ch_wr m23 (8, 0, 3) (Int32.toNatClampNeg p3) p4 → Q (.inl none) m24)))))))))))))) : ch_J g m_w_tryStep (ch_rm m_w_tryStep) (ch_E g m_w_tryStep Q) 0 [some (.inr (8, 0, 0)), some (.inr (1, j1, 0)), some (.inl (.int p2)), some (.inl (.int p3)), some (.inl (.int p4)), none, none, none] [] m 0 := by
  refine ch_iload_n (i := 3) d_w_tryStep_0 rfl rfl ?_
  refine ch_iload d_w_tryStep_1 rfl ?_
  refine ch_iadd d_w_tryStep_3 ?_
  refine ch_istore (i := 5) d_w_tryStep_4 (Nat.le_of_ble_eq_true rfl) (ls' := [some (.inr (8, 0, 0)), some (.inr (1, j1, 0)), some (.inl (.int p2)), some (.inl (.int p3)), some (.inl (.int p4)), some (.inl (.int (p3 + p4))), none, none]) rfl ?_
  refine ch_aload_n (i := 0) d_w_tryStep_6 rfl rfl ?_
  refine ch_get (v := .inr (8, 0, 1)) d_w_tryStep_7 fl_w_11 rfl ?_
  refine ch_iload d_w_tryStep_10 rfl ?_
  have b1 := h.1
  replace h := h.2
  refine ch_iald (n := 15) d_w_tryStep_12 (by decide) rfl b1 ?_
  refine ch_aload_n (i := 0) d_w_tryStep_13 rfl rfl ?_
  refine ch_aload_n (i := 1) d_w_tryStep_14 rfl rfl ?_
  refine ch_iload_n (i := 2) d_w_tryStep_15 rfl rfl ?_
  refine ch_iload d_w_tryStep_16 rfl ?_
  refine ch_callV (as := [.inr (1, j1, 0), .inl (.int p2), .inl (.int (p3 + p4))]) d_w_tryStep_18 lk_w_25 mi_w_lineAt me_w_lineAt rfl rfl rfl ⟨Nat.le_of_ble_eq_true rfl, Nat.le_of_ble_eq_true rfl⟩ (Nat.le_of_ble_eq_true rfl) ⟨Nat.le_of_ble_eq_true rfl, Nat.le_of_ble_eq_true rfl⟩ (ch_mono (ch_Ki (fun r2 m3 q4 => ?_)) (s_w_lineAt g (fun (r_ : Int32) (m_ : ch_M) => ((ch_line (ch_ob m 1 j1) p2 ((p3 + p4) - 1)) ∧ 1 = r_ ∧ m = m_) ∨ ((¬ ch_line (ch_ob m 1 j1) p2 ((p3 + p4) - 1)) ∧ 0 = r_ ∧ m = m_)) (j1) (p2) ((p3 + p4)) m ⟨(fun c_ => (Or.inl ⟨c_, rfl, rfl⟩)), (fun c_ => (Or.inr ⟨c_, rfl, rfl⟩))⟩))
  rcases q4 with ⟨c_, rfl, rfl⟩ | ⟨c_, rfl, rfl⟩
  · replace h := h.1 c_
    refine ch_iadd d_w_tryStep_21 ?_
    refine ch_istore (i := 6) d_w_tryStep_22 (Nat.le_of_ble_eq_true rfl) (ls' := [some (.inr (8, 0, 0)), some (.inr (1, j1, 0)), some (.inl (.int p2)), some (.inl (.int p3)), some (.inl (.int p4)), some (.inl (.int (p3 + p4))), some (.inl (.int ((m (8, 0, 1) (Int32.toNatClampNeg (p3 + p4))) + 1))), none]) rfl ?_
    refine ch_aload_n (i := 0) d_w_tryStep_24 rfl rfl ?_
    refine ch_get (v := .inr (8, 0, 2)) d_w_tryStep_25 fl_w_15 rfl ?_
    refine ch_iload d_w_tryStep_28 rfl ?_
    refine ch_iald (n := 15) d_w_tryStep_30 (by decide) rfl b1 ?_
    refine ch_iconst (v := 1) d_w_tryStep_31 (by decide) ?_
    refine ch_iadd d_w_tryStep_32 ?_
    refine ch_istore (i := 7) d_w_tryStep_33 (Nat.le_of_ble_eq_true rfl) (ls' := [some (.inr (8, 0, 0)), some (.inr (1, j1, 0)), some (.inl (.int p2)), some (.inl (.int p3)), some (.inl (.int p4)), some (.inl (.int (p3 + p4))), some (.inl (.int ((m (8, 0, 1) (Int32.toNatClampNeg (p3 + p4))) + 1))), some (.inl (.int ((m (8, 0, 2) (Int32.toNatClampNeg (p3 + p4))) + 1)))]) rfl ?_
    refine ch_aload_n (i := 0) d_w_tryStep_35 rfl rfl ?_
    refine ch_get (v := .inr (8, 0, 3)) d_w_tryStep_36 fl_w_18 rfl ?_
    refine ch_iload_n (i := 3) d_w_tryStep_39 rfl rfl ?_
    have b5 := h.1
    replace h := h.2
    refine ch_iald (n := 15) d_w_tryStep_40 (by decide) rfl b5 ?_
    refine ch_if_eq (tgt := 77) d_w_tryStep_41 (by decide) (fun c => ?_) (fun c => ?_)
    · replace h := h.1 c
      refine ch_aload_n (i := 0) d_w_tryStep_77 rfl rfl ?_
      refine ch_get (v := .inr (8, 0, 1)) d_w_tryStep_78 fl_w_11 rfl ?_
      refine ch_iload_n (i := 3) d_w_tryStep_81 rfl rfl ?_
      refine ch_iload d_w_tryStep_82 rfl ?_
      refine ch_iast (n := 15) d_w_tryStep_84 (by decide) rfl b5 ?_
      show ch_J g _ _ _ _ _ _ (ch_wr m (8, 0, 1) (Int32.toNatClampNeg p3) ((m (8, 0, 1) (Int32.toNatClampNeg (p3 + p4))) + 1)) _
      generalize hmm6 : ch_wr m (8, 0, 1) (Int32.toNatClampNeg p3) ((m (8, 0, 1) (Int32.toNatClampNeg (p3 + p4))) + 1) = m6
      replace h := h m6 hmm6.symm
      refine ch_aload_n (i := 0) d_w_tryStep_85 rfl rfl ?_
      refine ch_get (v := .inr (8, 0, 2)) d_w_tryStep_86 fl_w_15 rfl ?_
      refine ch_iload_n (i := 3) d_w_tryStep_89 rfl rfl ?_
      refine ch_iload d_w_tryStep_90 rfl ?_
      refine ch_iast (n := 15) d_w_tryStep_92 (by decide) rfl b5 ?_
      show ch_J g _ _ _ _ _ _ (ch_wr m6 (8, 0, 2) (Int32.toNatClampNeg p3) ((m (8, 0, 2) (Int32.toNatClampNeg (p3 + p4))) + 1)) _
      generalize hmm7 : ch_wr m6 (8, 0, 2) (Int32.toNatClampNeg p3) ((m (8, 0, 2) (Int32.toNatClampNeg (p3 + p4))) + 1) = m7
      replace h := h m7 hmm7.symm
      refine ch_aload_n (i := 0) d_w_tryStep_93 rfl rfl ?_
      refine ch_get (v := .inr (8, 0, 3)) d_w_tryStep_94 fl_w_18 rfl ?_
      refine ch_iload_n (i := 3) d_w_tryStep_97 rfl rfl ?_
      refine ch_iload d_w_tryStep_98 rfl ?_
      refine ch_iast (n := 15) d_w_tryStep_100 (by decide) rfl b5 ?_
      show ch_J g _ _ _ _ _ _ (ch_wr m7 (8, 0, 3) (Int32.toNatClampNeg p3) p4) _
      generalize hmm8 : ch_wr m7 (8, 0, 3) (Int32.toNatClampNeg p3) p4 = m8
      replace h := h m8 hmm8.symm
      exact ch_vret d_w_tryStep_101 rfl (Nat.le_of_ble_eq_true rfl) h
    · replace h := h.2 c
      refine ch_iload d_w_tryStep_44 rfl ?_
      refine ch_aload_n (i := 0) d_w_tryStep_46 rfl rfl ?_
      refine ch_get (v := .inr (8, 0, 1)) d_w_tryStep_47 fl_w_11 rfl ?_
      refine ch_iload_n (i := 3) d_w_tryStep_50 rfl rfl ?_
      refine ch_iald (n := 15) d_w_tryStep_51 (by decide) rfl b5 ?_
      refine ch_icmp_lt (tgt := 77) d_w_tryStep_52 (by decide) (fun c => ?_) (fun c => ?_)
      · replace h := h.1 c
        refine ch_aload_n (i := 0) d_w_tryStep_77 rfl rfl ?_
        refine ch_get (v := .inr (8, 0, 1)) d_w_tryStep_78 fl_w_11 rfl ?_
        refine ch_iload_n (i := 3) d_w_tryStep_81 rfl rfl ?_
        refine ch_iload d_w_tryStep_82 rfl ?_
        refine ch_iast (n := 15) d_w_tryStep_84 (by decide) rfl b5 ?_
        show ch_J g _ _ _ _ _ _ (ch_wr m (8, 0, 1) (Int32.toNatClampNeg p3) ((m (8, 0, 1) (Int32.toNatClampNeg (p3 + p4))) + 1)) _
        generalize hmm9 : ch_wr m (8, 0, 1) (Int32.toNatClampNeg p3) ((m (8, 0, 1) (Int32.toNatClampNeg (p3 + p4))) + 1) = m9
        replace h := h m9 hmm9.symm
        refine ch_aload_n (i := 0) d_w_tryStep_85 rfl rfl ?_
        refine ch_get (v := .inr (8, 0, 2)) d_w_tryStep_86 fl_w_15 rfl ?_
        refine ch_iload_n (i := 3) d_w_tryStep_89 rfl rfl ?_
        refine ch_iload d_w_tryStep_90 rfl ?_
        refine ch_iast (n := 15) d_w_tryStep_92 (by decide) rfl b5 ?_
        show ch_J g _ _ _ _ _ _ (ch_wr m9 (8, 0, 2) (Int32.toNatClampNeg p3) ((m (8, 0, 2) (Int32.toNatClampNeg (p3 + p4))) + 1)) _
        generalize hmm10 : ch_wr m9 (8, 0, 2) (Int32.toNatClampNeg p3) ((m (8, 0, 2) (Int32.toNatClampNeg (p3 + p4))) + 1) = m10
        replace h := h m10 hmm10.symm
        refine ch_aload_n (i := 0) d_w_tryStep_93 rfl rfl ?_
        refine ch_get (v := .inr (8, 0, 3)) d_w_tryStep_94 fl_w_18 rfl ?_
        refine ch_iload_n (i := 3) d_w_tryStep_97 rfl rfl ?_
        refine ch_iload d_w_tryStep_98 rfl ?_
        refine ch_iast (n := 15) d_w_tryStep_100 (by decide) rfl b5 ?_
        show ch_J g _ _ _ _ _ _ (ch_wr m10 (8, 0, 3) (Int32.toNatClampNeg p3) p4) _
        generalize hmm11 : ch_wr m10 (8, 0, 3) (Int32.toNatClampNeg p3) p4 = m11
        replace h := h m11 hmm11.symm
        exact ch_vret d_w_tryStep_101 rfl (Nat.le_of_ble_eq_true rfl) h
      · replace h := h.2 c
        refine ch_iload d_w_tryStep_55 rfl ?_
        refine ch_aload_n (i := 0) d_w_tryStep_57 rfl rfl ?_
        refine ch_get (v := .inr (8, 0, 1)) d_w_tryStep_58 fl_w_11 rfl ?_
        refine ch_iload_n (i := 3) d_w_tryStep_61 rfl rfl ?_
        refine ch_iald (n := 15) d_w_tryStep_62 (by decide) rfl b5 ?_
        refine ch_icmp_ne (tgt := 101) d_w_tryStep_63 (by decide) (fun c => ?_) (fun c => ?_)
        · replace h := h.1 c
          exact ch_vret d_w_tryStep_101 rfl (Nat.le_of_ble_eq_true rfl) h
        · replace h := h.2 c
          refine ch_iload d_w_tryStep_66 rfl ?_
          refine ch_aload_n (i := 0) d_w_tryStep_68 rfl rfl ?_
          refine ch_get (v := .inr (8, 0, 2)) d_w_tryStep_69 fl_w_15 rfl ?_
          refine ch_iload_n (i := 3) d_w_tryStep_72 rfl rfl ?_
          refine ch_iald (n := 15) d_w_tryStep_73 (by decide) rfl b5 ?_
          refine ch_icmp_ge (tgt := 101) d_w_tryStep_74 (by decide) (fun c => ?_) (fun c => ?_)
          · replace h := h.1 c
            exact ch_vret d_w_tryStep_101 rfl (Nat.le_of_ble_eq_true rfl) h
          · replace h := h.2 c
            refine ch_aload_n (i := 0) d_w_tryStep_77 rfl rfl ?_
            refine ch_get (v := .inr (8, 0, 1)) d_w_tryStep_78 fl_w_11 rfl ?_
            refine ch_iload_n (i := 3) d_w_tryStep_81 rfl rfl ?_
            refine ch_iload d_w_tryStep_82 rfl ?_
            refine ch_iast (n := 15) d_w_tryStep_84 (by decide) rfl b5 ?_
            show ch_J g _ _ _ _ _ _ (ch_wr m (8, 0, 1) (Int32.toNatClampNeg p3) ((m (8, 0, 1) (Int32.toNatClampNeg (p3 + p4))) + 1)) _
            generalize hmm12 : ch_wr m (8, 0, 1) (Int32.toNatClampNeg p3) ((m (8, 0, 1) (Int32.toNatClampNeg (p3 + p4))) + 1) = m12
            replace h := h m12 hmm12.symm
            refine ch_aload_n (i := 0) d_w_tryStep_85 rfl rfl ?_
            refine ch_get (v := .inr (8, 0, 2)) d_w_tryStep_86 fl_w_15 rfl ?_
            refine ch_iload_n (i := 3) d_w_tryStep_89 rfl rfl ?_
            refine ch_iload d_w_tryStep_90 rfl ?_
            refine ch_iast (n := 15) d_w_tryStep_92 (by decide) rfl b5 ?_
            show ch_J g _ _ _ _ _ _ (ch_wr m12 (8, 0, 2) (Int32.toNatClampNeg p3) ((m (8, 0, 2) (Int32.toNatClampNeg (p3 + p4))) + 1)) _
            generalize hmm13 : ch_wr m12 (8, 0, 2) (Int32.toNatClampNeg p3) ((m (8, 0, 2) (Int32.toNatClampNeg (p3 + p4))) + 1) = m13
            replace h := h m13 hmm13.symm
            refine ch_aload_n (i := 0) d_w_tryStep_93 rfl rfl ?_
            refine ch_get (v := .inr (8, 0, 3)) d_w_tryStep_94 fl_w_18 rfl ?_
            refine ch_iload_n (i := 3) d_w_tryStep_97 rfl rfl ?_
            refine ch_iload d_w_tryStep_98 rfl ?_
            refine ch_iast (n := 15) d_w_tryStep_100 (by decide) rfl b5 ?_
            show ch_J g _ _ _ _ _ _ (ch_wr m13 (8, 0, 3) (Int32.toNatClampNeg p3) p4) _
            generalize hmm14 : ch_wr m13 (8, 0, 3) (Int32.toNatClampNeg p3) p4 = m14
            replace h := h m14 hmm14.symm
            exact ch_vret d_w_tryStep_101 rfl (Nat.le_of_ble_eq_true rfl) h
  · replace h := h.2 c_
    refine ch_iadd d_w_tryStep_21 ?_
    refine ch_istore (i := 6) d_w_tryStep_22 (Nat.le_of_ble_eq_true rfl) (ls' := [some (.inr (8, 0, 0)), some (.inr (1, j1, 0)), some (.inl (.int p2)), some (.inl (.int p3)), some (.inl (.int p4)), some (.inl (.int (p3 + p4))), some (.inl (.int ((m (8, 0, 1) (Int32.toNatClampNeg (p3 + p4))) + 0))), none]) rfl ?_
    refine ch_aload_n (i := 0) d_w_tryStep_24 rfl rfl ?_
    refine ch_get (v := .inr (8, 0, 2)) d_w_tryStep_25 fl_w_15 rfl ?_
    refine ch_iload d_w_tryStep_28 rfl ?_
    refine ch_iald (n := 15) d_w_tryStep_30 (by decide) rfl b1 ?_
    refine ch_iconst (v := 1) d_w_tryStep_31 (by decide) ?_
    refine ch_iadd d_w_tryStep_32 ?_
    refine ch_istore (i := 7) d_w_tryStep_33 (Nat.le_of_ble_eq_true rfl) (ls' := [some (.inr (8, 0, 0)), some (.inr (1, j1, 0)), some (.inl (.int p2)), some (.inl (.int p3)), some (.inl (.int p4)), some (.inl (.int (p3 + p4))), some (.inl (.int ((m (8, 0, 1) (Int32.toNatClampNeg (p3 + p4))) + 0))), some (.inl (.int ((m (8, 0, 2) (Int32.toNatClampNeg (p3 + p4))) + 1)))]) rfl ?_
    refine ch_aload_n (i := 0) d_w_tryStep_35 rfl rfl ?_
    refine ch_get (v := .inr (8, 0, 3)) d_w_tryStep_36 fl_w_18 rfl ?_
    refine ch_iload_n (i := 3) d_w_tryStep_39 rfl rfl ?_
    have b15 := h.1
    replace h := h.2
    refine ch_iald (n := 15) d_w_tryStep_40 (by decide) rfl b15 ?_
    refine ch_if_eq (tgt := 77) d_w_tryStep_41 (by decide) (fun c => ?_) (fun c => ?_)
    · replace h := h.1 c
      refine ch_aload_n (i := 0) d_w_tryStep_77 rfl rfl ?_
      refine ch_get (v := .inr (8, 0, 1)) d_w_tryStep_78 fl_w_11 rfl ?_
      refine ch_iload_n (i := 3) d_w_tryStep_81 rfl rfl ?_
      refine ch_iload d_w_tryStep_82 rfl ?_
      refine ch_iast (n := 15) d_w_tryStep_84 (by decide) rfl b15 ?_
      show ch_J g _ _ _ _ _ _ (ch_wr m (8, 0, 1) (Int32.toNatClampNeg p3) ((m (8, 0, 1) (Int32.toNatClampNeg (p3 + p4))) + 0)) _
      generalize hmm16 : ch_wr m (8, 0, 1) (Int32.toNatClampNeg p3) ((m (8, 0, 1) (Int32.toNatClampNeg (p3 + p4))) + 0) = m16
      replace h := h m16 hmm16.symm
      refine ch_aload_n (i := 0) d_w_tryStep_85 rfl rfl ?_
      refine ch_get (v := .inr (8, 0, 2)) d_w_tryStep_86 fl_w_15 rfl ?_
      refine ch_iload_n (i := 3) d_w_tryStep_89 rfl rfl ?_
      refine ch_iload d_w_tryStep_90 rfl ?_
      refine ch_iast (n := 15) d_w_tryStep_92 (by decide) rfl b15 ?_
      show ch_J g _ _ _ _ _ _ (ch_wr m16 (8, 0, 2) (Int32.toNatClampNeg p3) ((m (8, 0, 2) (Int32.toNatClampNeg (p3 + p4))) + 1)) _
      generalize hmm17 : ch_wr m16 (8, 0, 2) (Int32.toNatClampNeg p3) ((m (8, 0, 2) (Int32.toNatClampNeg (p3 + p4))) + 1) = m17
      replace h := h m17 hmm17.symm
      refine ch_aload_n (i := 0) d_w_tryStep_93 rfl rfl ?_
      refine ch_get (v := .inr (8, 0, 3)) d_w_tryStep_94 fl_w_18 rfl ?_
      refine ch_iload_n (i := 3) d_w_tryStep_97 rfl rfl ?_
      refine ch_iload d_w_tryStep_98 rfl ?_
      refine ch_iast (n := 15) d_w_tryStep_100 (by decide) rfl b15 ?_
      show ch_J g _ _ _ _ _ _ (ch_wr m17 (8, 0, 3) (Int32.toNatClampNeg p3) p4) _
      generalize hmm18 : ch_wr m17 (8, 0, 3) (Int32.toNatClampNeg p3) p4 = m18
      replace h := h m18 hmm18.symm
      exact ch_vret d_w_tryStep_101 rfl (Nat.le_of_ble_eq_true rfl) h
    · replace h := h.2 c
      refine ch_iload d_w_tryStep_44 rfl ?_
      refine ch_aload_n (i := 0) d_w_tryStep_46 rfl rfl ?_
      refine ch_get (v := .inr (8, 0, 1)) d_w_tryStep_47 fl_w_11 rfl ?_
      refine ch_iload_n (i := 3) d_w_tryStep_50 rfl rfl ?_
      refine ch_iald (n := 15) d_w_tryStep_51 (by decide) rfl b15 ?_
      refine ch_icmp_lt (tgt := 77) d_w_tryStep_52 (by decide) (fun c => ?_) (fun c => ?_)
      · replace h := h.1 c
        refine ch_aload_n (i := 0) d_w_tryStep_77 rfl rfl ?_
        refine ch_get (v := .inr (8, 0, 1)) d_w_tryStep_78 fl_w_11 rfl ?_
        refine ch_iload_n (i := 3) d_w_tryStep_81 rfl rfl ?_
        refine ch_iload d_w_tryStep_82 rfl ?_
        refine ch_iast (n := 15) d_w_tryStep_84 (by decide) rfl b15 ?_
        show ch_J g _ _ _ _ _ _ (ch_wr m (8, 0, 1) (Int32.toNatClampNeg p3) ((m (8, 0, 1) (Int32.toNatClampNeg (p3 + p4))) + 0)) _
        generalize hmm19 : ch_wr m (8, 0, 1) (Int32.toNatClampNeg p3) ((m (8, 0, 1) (Int32.toNatClampNeg (p3 + p4))) + 0) = m19
        replace h := h m19 hmm19.symm
        refine ch_aload_n (i := 0) d_w_tryStep_85 rfl rfl ?_
        refine ch_get (v := .inr (8, 0, 2)) d_w_tryStep_86 fl_w_15 rfl ?_
        refine ch_iload_n (i := 3) d_w_tryStep_89 rfl rfl ?_
        refine ch_iload d_w_tryStep_90 rfl ?_
        refine ch_iast (n := 15) d_w_tryStep_92 (by decide) rfl b15 ?_
        show ch_J g _ _ _ _ _ _ (ch_wr m19 (8, 0, 2) (Int32.toNatClampNeg p3) ((m (8, 0, 2) (Int32.toNatClampNeg (p3 + p4))) + 1)) _
        generalize hmm20 : ch_wr m19 (8, 0, 2) (Int32.toNatClampNeg p3) ((m (8, 0, 2) (Int32.toNatClampNeg (p3 + p4))) + 1) = m20
        replace h := h m20 hmm20.symm
        refine ch_aload_n (i := 0) d_w_tryStep_93 rfl rfl ?_
        refine ch_get (v := .inr (8, 0, 3)) d_w_tryStep_94 fl_w_18 rfl ?_
        refine ch_iload_n (i := 3) d_w_tryStep_97 rfl rfl ?_
        refine ch_iload d_w_tryStep_98 rfl ?_
        refine ch_iast (n := 15) d_w_tryStep_100 (by decide) rfl b15 ?_
        show ch_J g _ _ _ _ _ _ (ch_wr m20 (8, 0, 3) (Int32.toNatClampNeg p3) p4) _
        generalize hmm21 : ch_wr m20 (8, 0, 3) (Int32.toNatClampNeg p3) p4 = m21
        replace h := h m21 hmm21.symm
        exact ch_vret d_w_tryStep_101 rfl (Nat.le_of_ble_eq_true rfl) h
      · replace h := h.2 c
        refine ch_iload d_w_tryStep_55 rfl ?_
        refine ch_aload_n (i := 0) d_w_tryStep_57 rfl rfl ?_
        refine ch_get (v := .inr (8, 0, 1)) d_w_tryStep_58 fl_w_11 rfl ?_
        refine ch_iload_n (i := 3) d_w_tryStep_61 rfl rfl ?_
        refine ch_iald (n := 15) d_w_tryStep_62 (by decide) rfl b15 ?_
        refine ch_icmp_ne (tgt := 101) d_w_tryStep_63 (by decide) (fun c => ?_) (fun c => ?_)
        · replace h := h.1 c
          exact ch_vret d_w_tryStep_101 rfl (Nat.le_of_ble_eq_true rfl) h
        · replace h := h.2 c
          refine ch_iload d_w_tryStep_66 rfl ?_
          refine ch_aload_n (i := 0) d_w_tryStep_68 rfl rfl ?_
          refine ch_get (v := .inr (8, 0, 2)) d_w_tryStep_69 fl_w_15 rfl ?_
          refine ch_iload_n (i := 3) d_w_tryStep_72 rfl rfl ?_
          refine ch_iald (n := 15) d_w_tryStep_73 (by decide) rfl b15 ?_
          refine ch_icmp_ge (tgt := 101) d_w_tryStep_74 (by decide) (fun c => ?_) (fun c => ?_)
          · replace h := h.1 c
            exact ch_vret d_w_tryStep_101 rfl (Nat.le_of_ble_eq_true rfl) h
          · replace h := h.2 c
            refine ch_aload_n (i := 0) d_w_tryStep_77 rfl rfl ?_
            refine ch_get (v := .inr (8, 0, 1)) d_w_tryStep_78 fl_w_11 rfl ?_
            refine ch_iload_n (i := 3) d_w_tryStep_81 rfl rfl ?_
            refine ch_iload d_w_tryStep_82 rfl ?_
            refine ch_iast (n := 15) d_w_tryStep_84 (by decide) rfl b15 ?_
            show ch_J g _ _ _ _ _ _ (ch_wr m (8, 0, 1) (Int32.toNatClampNeg p3) ((m (8, 0, 1) (Int32.toNatClampNeg (p3 + p4))) + 0)) _
            generalize hmm22 : ch_wr m (8, 0, 1) (Int32.toNatClampNeg p3) ((m (8, 0, 1) (Int32.toNatClampNeg (p3 + p4))) + 0) = m22
            replace h := h m22 hmm22.symm
            refine ch_aload_n (i := 0) d_w_tryStep_85 rfl rfl ?_
            refine ch_get (v := .inr (8, 0, 2)) d_w_tryStep_86 fl_w_15 rfl ?_
            refine ch_iload_n (i := 3) d_w_tryStep_89 rfl rfl ?_
            refine ch_iload d_w_tryStep_90 rfl ?_
            refine ch_iast (n := 15) d_w_tryStep_92 (by decide) rfl b15 ?_
            show ch_J g _ _ _ _ _ _ (ch_wr m22 (8, 0, 2) (Int32.toNatClampNeg p3) ((m (8, 0, 2) (Int32.toNatClampNeg (p3 + p4))) + 1)) _
            generalize hmm23 : ch_wr m22 (8, 0, 2) (Int32.toNatClampNeg p3) ((m (8, 0, 2) (Int32.toNatClampNeg (p3 + p4))) + 1) = m23
            replace h := h m23 hmm23.symm
            refine ch_aload_n (i := 0) d_w_tryStep_93 rfl rfl ?_
            refine ch_get (v := .inr (8, 0, 3)) d_w_tryStep_94 fl_w_18 rfl ?_
            refine ch_iload_n (i := 3) d_w_tryStep_97 rfl rfl ?_
            refine ch_iload d_w_tryStep_98 rfl ?_
            refine ch_iast (n := 15) d_w_tryStep_100 (by decide) rfl b15 ?_
            show ch_J g _ _ _ _ _ _ (ch_wr m23 (8, 0, 3) (Int32.toNatClampNeg p3) p4) _
            generalize hmm24 : ch_wr m23 (8, 0, 3) (Int32.toNatClampNeg p3) p4 = m24
            replace h := h m24 hmm24.symm
            exact ch_vret d_w_tryStep_101 rfl (Nat.le_of_ble_eq_true rfl) h
