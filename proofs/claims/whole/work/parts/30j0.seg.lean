theorem e_m_goesBy (g : ch_G) (Q : ch_O → ch_M → Prop)  (m : ch_M) (h : ch_J g m_m_goesBy (ch_rm m_m_goesBy) (ch_E g m_m_goesBy Q) 0 [some (.inr (9, 0, 0)), none, none, none] [] m 0) : ch_C g m_m_goesBy [.inr (9, 0, 0)] m Q :=
  ch_enter mf_m_goesBy (by intro v hv; simp only [List.mem_cons, List.not_mem_nil, or_false] at hv; rcases hv with rfl <;> rfl) (Nat.le_of_ble_eq_true rfl) h
set_option maxHeartbeats 1600000 in
theorem g_m_goesBy_0 (g : ch_G) (Q : ch_O → ch_M → Prop)  (m : ch_M) (h : ch_J g m_m_goesBy (ch_rm m_m_goesBy) (ch_E g m_m_goesBy Q) 4 [some (.inr (9, 0, 0)), some (.inl (.int 0)), some (.inl (.int 0)), none] [] m 0) : ch_J g m_m_goesBy (ch_rm m_m_goesBy) (ch_E g m_m_goesBy Q) 0 [some (.inr (9, 0, 0)), none, none, none] [] m 0 := by
  refine ch_iconst (v := 0) d_m_goesBy_0 (by decide) ?_
  refine ch_istore_n (i := 1) d_m_goesBy_1 rfl (Nat.le_of_ble_eq_true rfl) (ls' := [some (.inr (9, 0, 0)), some (.inl (.int 0)), none, none]) rfl ?_
  refine ch_iconst (v := 0) d_m_goesBy_2 (by decide) ?_
  refine ch_istore_n (i := 2) d_m_goesBy_3 rfl (Nat.le_of_ble_eq_true rfl) (ls' := [some (.inr (9, 0, 0)), some (.inl (.int 0)), some (.inl (.int 0)), none]) rfl ?_
  exact h
set_option maxHeartbeats 1600000 in
theorem g_m_goesBy_4 (g : ch_G) (Q : ch_O → ch_M → Prop) (x1 : Int32) (x2 : Int32) (o3 : Option ch_V) (m : ch_M) (h : (((m (9, 0, 1) (0)) ≤ x2 → ch_J g m_m_goesBy (ch_rm m_m_goesBy) (ch_E g m_m_goesBy Q) 95 [some (.inr (9, 0, 0)), some (.inl (.int x1)), some (.inl (.int 0)), o3] [] m 0) ∧ (¬ (m (9, 0, 1) (0)) ≤ x2 → ch_J g m_m_goesBy (ch_rm m_m_goesBy) (ch_E g m_m_goesBy Q) 16 [some (.inr (9, 0, 0)), some (.inl (.int x1)), some (.inl (.int x2)), some (.inl (.int 0))] [] m 0))) : ch_J g m_m_goesBy (ch_rm m_m_goesBy) (ch_E g m_m_goesBy Q) 4 [some (.inr (9, 0, 0)), some (.inl (.int x1)), some (.inl (.int x2)), o3] [] m 0 := by
  refine ch_iload_n (i := 2) d_m_goesBy_4 rfl rfl ?_
  refine ch_aload_n (i := 0) d_m_goesBy_5 rfl rfl ?_
  refine ch_get (v := .inr (9, 0, 1)) d_m_goesBy_6 fl_m_9 rfl ?_
  refine ch_iconst (v := 0) d_m_goesBy_9 (by decide) ?_
  refine ch_iald (n := 63) d_m_goesBy_10 (by decide) rfl (vp_in_nI (n := 0) (by decide) (by decide)) ?_
  refine ch_icmp_ge (tgt := 93) d_m_goesBy_11 (by decide) (fun c => ?_) (fun c => ?_)
  · replace h := h.1 c
    refine ch_iconst (v := 0) d_m_goesBy_93 (by decide) ?_
    refine ch_istore_n (i := 2) d_m_goesBy_94 rfl (Nat.le_of_ble_eq_true rfl) (ls' := [some (.inr (9, 0, 0)), some (.inl (.int x1)), some (.inl (.int 0)), o3]) rfl ?_
    exact h
  · replace h := h.2 c
    refine ch_iconst (v := 0) d_m_goesBy_14 (by decide) ?_
    refine ch_istore_n (i := 3) d_m_goesBy_15 rfl (Nat.le_of_ble_eq_true rfl) (ls' := [some (.inr (9, 0, 0)), some (.inl (.int x1)), some (.inl (.int x2)), some (.inl (.int 0))]) rfl ?_
    exact h
set_option maxHeartbeats 1600000 in
theorem g_m_goesBy_16 (g : ch_G) (Q : ch_O → ch_M → Prop) (x1 : Int32) (x2 : Int32) (x3 : Int32) (m : ch_M) (h : ((12 ≤ x3 → ch_J g m_m_goesBy (ch_rm m_m_goesBy) (ch_E g m_m_goesBy Q) 4 [some (.inr (9, 0, 0)), some (.inl (.int x1)), some (.inl (.int (x2 + 1))), some (.inl (.int x3))] [] m 0) ∧ (¬ 12 ≤ x3 → (vp_in x3 12) ∧ ((((m (9, 0, 1) (14 + 2 * Int32.toNatClampNeg x3) - 1) = x2 → (vp_in x2 5) ∧ ((((m (9, 0, 1) (38 + 5 * Int32.toNatClampNeg x2 + 0)) ≤ 0 → ((∀ m10 : ch_M, m10 = ch_wr (ch_wr m (9, 0, 1) (14 + 2 * Int32.toNatClampNeg x3) 0) (9, 0, 1) (15 + 2 * Int32.toNatClampNeg x3) 0 → ch_J g m_m_goesBy (ch_rm m_m_goesBy) (ch_E g m_m_goesBy Q) 16 [some (.inr (9, 0, 0)), some (.inl (.int (x1 ||| (1 <<< (x3 &&& 31))))), some (.inl (.int x2)), some (.inl (.int (x3 + 1)))] [] m10 0))) ∧ (¬ (m (9, 0, 1) (38 + 5 * Int32.toNatClampNeg x2 + 0)) ≤ 0 → (((∀ m16 : ch_M, m16 = ch_wr m (9, 0, 1) (38 + 5 * Int32.toNatClampNeg x2 + 0) ((m (9, 0, 1) (38 + 5 * Int32.toNatClampNeg x2 + 0)) - 1) → (∀ m18 : ch_M, m18 = ch_wr m16 (9, 0, 1) (1) ((m16 (9, 0, 1) (1)) + 1) → ch_J g m_m_goesBy (ch_rm m_m_goesBy) (ch_E g m_m_goesBy Q) 16 [some (.inr (9, 0, 0)), some (.inl (.int x1)), some (.inl (.int x2)), some (.inl (.int (x3 + 1)))] [] m18 0)))))))) ∧ (¬ (m (9, 0, 1) (14 + 2 * Int32.toNatClampNeg x3) - 1) = x2 → ch_J g m_m_goesBy (ch_rm m_m_goesBy) (ch_E g m_m_goesBy Q) 16 [some (.inr (9, 0, 0)), some (.inl (.int x1)), some (.inl (.int x2)), some (.inl (.int (x3 + 1)))] [] m 0)))))) : ch_J g m_m_goesBy (ch_rm m_m_goesBy) (ch_E g m_m_goesBy Q) 16 [some (.inr (9, 0, 0)), some (.inl (.int x1)), some (.inl (.int x2)), some (.inl (.int x3))] [] m 0 := by
  refine ch_iload_n (i := 3) d_m_goesBy_16 rfl rfl ?_
  refine ch_bipush (v := 12) d_m_goesBy_17 (by decide) ?_
  refine ch_icmp_ge (tgt := 87) d_m_goesBy_19 (by decide) (fun c => ?_) (fun c => ?_)
  · replace h := h.1 c
    refine ch_iinc (i := 2) (v := (x2 + 1)) d_m_goesBy_87 rfl rfl (Nat.le_of_ble_eq_true rfl) (ls' := [some (.inr (9, 0, 0)), some (.inl (.int x1)), some (.inl (.int (x2 + 1))), some (.inl (.int x3))]) rfl ?_
    refine ch_goto (tgt := 4) d_m_goesBy_90 (by decide) ?_
    exact h
  · replace h := h.2 c
    refine ch_aload_n (i := 0) d_m_goesBy_22 rfl rfl ?_
    refine ch_iload_n (i := 3) d_m_goesBy_23 rfl rfl ?_
    have b4 := h.1
    replace h := h.2
    refine ch_callV (as := [.inl (.int x3)]) d_m_goesBy_24 lk_m_109 mi_m_owner me_m_owner rfl rfl rfl ⟨Nat.le_of_ble_eq_true rfl, Nat.le_of_ble_eq_true rfl⟩ (Nat.le_of_ble_eq_true rfl) ⟨Nat.le_of_ble_eq_true rfl, Nat.le_of_ble_eq_true rfl⟩ (ch_mono (ch_Ki (fun r1 m2 q3 => ?_)) (s_m_owner g (fun (r_ : Int32) (m_ : ch_M) => ((m (9, 0, 1) (14 + 2 * Int32.toNatClampNeg x3) - 1) = r_ ∧ m = m_)) (x3) m ⟨b4, ⟨rfl, rfl⟩⟩))
    obtain ⟨rfl, rfl⟩ := q3
    replace h := h
    refine ch_iload_n (i := 2) d_m_goesBy_27 rfl rfl ?_
    refine ch_icmp_eq (tgt := 34) d_m_goesBy_28 (by decide) (fun c => ?_) (fun c => ?_)
    · replace h := h.1 c
      refine ch_aload_n (i := 0) d_m_goesBy_34 rfl rfl ?_
      refine ch_iload_n (i := 2) d_m_goesBy_35 rfl rfl ?_
      refine ch_iconst (v := 0) d_m_goesBy_36 (by decide) ?_
      have b8 := h.1
      replace h := h.2
      refine ch_callV (as := [.inl (.int x2), .inl (.int 0)]) d_m_goesBy_37 lk_m_85 mi_m_of me_m_of rfl rfl rfl ⟨Nat.le_of_ble_eq_true rfl, Nat.le_of_ble_eq_true rfl⟩ (Nat.le_of_ble_eq_true rfl) ⟨Nat.le_of_ble_eq_true rfl, Nat.le_of_ble_eq_true rfl⟩ (ch_mono (ch_Ki (fun r5 m6 q7 => ?_)) (s_m_of g (fun (r_ : Int32) (m_ : ch_M) => ((m (9, 0, 1) (38 + 5 * Int32.toNatClampNeg x2 + 0)) = r_ ∧ m = m_)) (x2) (0) m ⟨b8, (vp_in_nI (n := 0) (by decide) (by decide)), ⟨rfl, rfl⟩⟩))
      obtain ⟨rfl, rfl⟩ := q7
      replace h := h
      refine ch_if_le (tgt := 70) d_m_goesBy_40 (by decide) (fun c => ?_) (fun c => ?_)
      · replace h := h.1 c
        refine ch_aload_n (i := 0) d_m_goesBy_70 rfl rfl ?_
        refine ch_iload_n (i := 3) d_m_goesBy_71 rfl rfl ?_
        refine ch_callV (as := [.inl (.int x3)]) d_m_goesBy_72 lk_m_140 mi_m_frees me_m_frees rfl rfl rfl ⟨Nat.le_of_ble_eq_true rfl, Nat.le_of_ble_eq_true rfl⟩ (Nat.le_of_ble_eq_true rfl) ⟨Nat.le_of_ble_eq_true rfl, Nat.le_of_ble_eq_true rfl⟩ (ch_mono (ch_Kv (fun m10 q11 => ?_)) (s_m_frees g (fun (m_ : ch_M) => (m_ = ch_wr (ch_wr m (9, 0, 1) (14 + 2 * Int32.toNatClampNeg x3) 0) (9, 0, 1) (15 + 2 * Int32.toNatClampNeg x3) 0)) (x3) m ⟨b4, rfl⟩))
        have hm_ := q11
        replace h := h m10 hm_
        refine ch_iload_n (i := 1) d_m_goesBy_75 rfl rfl ?_
        refine ch_iconst (v := 1) d_m_goesBy_76 (by decide) ?_
        refine ch_iload_n (i := 3) d_m_goesBy_77 rfl rfl ?_
        refine ch_ishl d_m_goesBy_78 ?_
        refine ch_ior d_m_goesBy_79 ?_
        refine ch_istore_n (i := 1) d_m_goesBy_80 rfl (Nat.le_of_ble_eq_true rfl) (ls' := [some (.inr (9, 0, 0)), some (.inl (.int (x1 ||| (1 <<< (x3 &&& 31))))), some (.inl (.int x2)), some (.inl (.int x3))]) rfl ?_
        refine ch_iinc (i := 3) (v := (x3 + 1)) d_m_goesBy_81 rfl rfl (Nat.le_of_ble_eq_true rfl) (ls' := [some (.inr (9, 0, 0)), some (.inl (.int (x1 ||| (1 <<< (x3 &&& 31))))), some (.inl (.int x2)), some (.inl (.int (x3 + 1)))]) rfl ?_
        refine ch_goto (tgt := 16) d_m_goesBy_84 (by decide) ?_
        exact h
      · replace h := h.2 c
        refine ch_aload_n (i := 0) d_m_goesBy_43 rfl rfl ?_
        refine ch_iload_n (i := 2) d_m_goesBy_44 rfl rfl ?_
        refine ch_iconst (v := 0) d_m_goesBy_45 (by decide) ?_
        refine ch_aload_n (i := 0) d_m_goesBy_46 rfl rfl ?_
        refine ch_iload_n (i := 2) d_m_goesBy_47 rfl rfl ?_
        refine ch_iconst (v := 0) d_m_goesBy_48 (by decide) ?_
        refine ch_callV (as := [.inl (.int x2), .inl (.int 0)]) d_m_goesBy_49 lk_m_85 mi_m_of me_m_of rfl rfl rfl ⟨Nat.le_of_ble_eq_true rfl, Nat.le_of_ble_eq_true rfl⟩ (Nat.le_of_ble_eq_true rfl) ⟨Nat.le_of_ble_eq_true rfl, Nat.le_of_ble_eq_true rfl⟩ (ch_mono (ch_Ki (fun r12 m13 q14 => ?_)) (s_m_of g (fun (r_ : Int32) (m_ : ch_M) => ((m (9, 0, 1) (38 + 5 * Int32.toNatClampNeg x2 + 0)) = r_ ∧ m = m_)) (x2) (0) m ⟨b8, (vp_in_nI (n := 0) (by decide) (by decide)), ⟨rfl, rfl⟩⟩))
        obtain ⟨rfl, rfl⟩ := q14
        replace h := h
        refine ch_iconst (v := 1) d_m_goesBy_52 (by decide) ?_
        refine ch_isub d_m_goesBy_53 ?_
        refine ch_callV (as := [.inl (.int x2), .inl (.int 0), .inl (.int ((m (9, 0, 1) (38 + 5 * Int32.toNatClampNeg x2 + 0)) - 1))]) d_m_goesBy_54 lk_m_89 mi_m_sets me_m_sets rfl rfl rfl ⟨Nat.le_of_ble_eq_true rfl, Nat.le_of_ble_eq_true rfl⟩ (Nat.le_of_ble_eq_true rfl) ⟨Nat.le_of_ble_eq_true rfl, Nat.le_of_ble_eq_true rfl⟩ (ch_mono (ch_Kv (fun m16 q17 => ?_)) (s_m_sets g (fun (m_ : ch_M) => (m_ = ch_wr m (9, 0, 1) (38 + 5 * Int32.toNatClampNeg x2 + 0) ((m (9, 0, 1) (38 + 5 * Int32.toNatClampNeg x2 + 0)) - 1))) (x2) (0) (((m (9, 0, 1) (38 + 5 * Int32.toNatClampNeg x2 + 0)) - 1)) m ⟨b8, (vp_in_nI (n := 0) (by decide) (by decide)), rfl⟩))
        have hm_ := q17
        replace h := h m16 hm_
        refine ch_aload_n (i := 0) d_m_goesBy_57 rfl rfl ?_
        refine ch_get (v := .inr (9, 0, 1)) d_m_goesBy_58 fl_m_9 rfl ?_
        refine ch_iconst (v := 1) d_m_goesBy_61 (by decide) ?_
        refine ch_dup2 d_m_goesBy_62 rfl rfl ?_
        refine ch_iald (n := 63) d_m_goesBy_63 (by decide) rfl (vp_in_nI (n := 1) (by decide) (by decide)) ?_
        refine ch_iconst (v := 1) d_m_goesBy_64 (by decide) ?_
        refine ch_iadd d_m_goesBy_65 ?_
        refine ch_iast (n := 63) d_m_goesBy_66 (by decide) rfl (vp_in_nI (n := 1) (by decide) (by decide)) ?_
        show ch_J g _ _ _ _ _ _ (ch_wr m16 (9, 0, 1) (1) ((m16 (9, 0, 1) (1)) + 1)) _
        generalize hmm18 : ch_wr m16 (9, 0, 1) (1) ((m16 (9, 0, 1) (1)) + 1) = m18
        replace h := h m18 hmm18.symm
        refine ch_goto (tgt := 81) d_m_goesBy_67 (by decide) ?_
        refine ch_iinc (i := 3) (v := (x3 + 1)) d_m_goesBy_81 rfl rfl (Nat.le_of_ble_eq_true rfl) (ls' := [some (.inr (9, 0, 0)), some (.inl (.int x1)), some (.inl (.int x2)), some (.inl (.int (x3 + 1)))]) rfl ?_
        refine ch_goto (tgt := 16) d_m_goesBy_84 (by decide) ?_
        exact h
    · replace h := h.2 c
      refine ch_goto (tgt := 81) d_m_goesBy_31 (by decide) ?_
      refine ch_iinc (i := 3) (v := (x3 + 1)) d_m_goesBy_81 rfl rfl (Nat.le_of_ble_eq_true rfl) (ls' := [some (.inr (9, 0, 0)), some (.inl (.int x1)), some (.inl (.int x2)), some (.inl (.int (x3 + 1)))]) rfl ?_
      refine ch_goto (tgt := 16) d_m_goesBy_84 (by decide) ?_
      exact h
set_option maxHeartbeats 1600000 in
theorem g_m_goesBy_95 (g : ch_G) (Q : ch_O → ch_M → Prop) (x1 : Int32) (x2 : Int32) (o3 : Option ch_V) (m : ch_M) (h : (((m (9, 0, 1) (0)) ≤ x2 → ((∀ m4 : ch_M, m4 = ch_wr m (9, 0, 1) (6) ((m (9, 0, 1) (6)) + (i_bc x1)) → (∀ m5 : ch_M, m5 = ch_wr m4 (9, 0, 1) (7) ((m4 (9, 0, 1) (7)) + 1) → Q (.inl (some (.inl (.int x1)))) m5)))) ∧ (¬ (m (9, 0, 1) (0)) ≤ x2 → (((m (9, 0, 1) (1)) ≤ 0 → ((∀ m9 : ch_M, m9 = ch_wr m (9, 0, 1) (6) ((m (9, 0, 1) (6)) + (i_bc x1)) → (∀ m10 : ch_M, m10 = ch_wr m9 (9, 0, 1) (7) ((m9 (9, 0, 1) (7)) + 1) → Q (.inl (some (.inl (.int x1)))) m10)))) ∧ (¬ (m (9, 0, 1) (1)) ≤ 0 → (∀ m11 : ch_M, m11 = ch_wr m (9, 0, 1) (1) ((m (9, 0, 1) (1)) - 1) → (vp_in x2 5) ∧ (((∀ m17 : ch_M, m17 = ch_wr m11 (9, 0, 1) (38 + 5 * Int32.toNatClampNeg x2 + 0) ((m11 (9, 0, 1) (38 + 5 * Int32.toNatClampNeg x2 + 0)) + 1) → ch_J g m_m_goesBy (ch_rm m_m_goesBy) (ch_E g m_m_goesBy Q) 95 [some (.inr (9, 0, 0)), some (.inl (.int x1)), some (.inl (.int (x2 + 1))), o3] [] m17 0))))))))) : ch_J g m_m_goesBy (ch_rm m_m_goesBy) (ch_E g m_m_goesBy Q) 95 [some (.inr (9, 0, 0)), some (.inl (.int x1)), some (.inl (.int x2)), o3] [] m 0 := by
  refine ch_iload_n (i := 2) d_m_goesBy_95 rfl rfl ?_
  refine ch_aload_n (i := 0) d_m_goesBy_96 rfl rfl ?_
  refine ch_get (v := .inr (9, 0, 1)) d_m_goesBy_97 fl_m_9 rfl ?_
  refine ch_iconst (v := 0) d_m_goesBy_100 (by decide) ?_
  refine ch_iald (n := 63) d_m_goesBy_101 (by decide) rfl (vp_in_nI (n := 0) (by decide) (by decide)) ?_
  refine ch_icmp_ge (tgt := 144) d_m_goesBy_102 (by decide) (fun c => ?_) (fun c => ?_)
  · replace h := h.1 c
    refine ch_aload_n (i := 0) d_m_goesBy_144 rfl rfl ?_
    refine ch_get (v := .inr (9, 0, 1)) d_m_goesBy_145 fl_m_9 rfl ?_
    refine ch_bipush (v := 6) d_m_goesBy_148 (by decide) ?_
    refine ch_dup2 d_m_goesBy_150 rfl rfl ?_
    refine ch_iald (n := 63) d_m_goesBy_151 (by decide) rfl (vp_in_nI (n := 6) (by decide) (by decide)) ?_
    refine ch_iload_n (i := 1) d_m_goesBy_152 rfl rfl ?_
    refine ch_callS (as := [.inl (.int x1)]) d_m_goesBy_153 lk_m_171 ms_i_bitCount rfl rfl ⟨Nat.le_of_ble_eq_true rfl, Nat.le_of_ble_eq_true rfl⟩ (Nat.le_of_ble_eq_true rfl) ⟨Nat.le_of_ble_eq_true rfl, Nat.le_of_ble_eq_true rfl⟩ (ch_mono (ch_Ki (fun r1 m2 q3 => ?_)) (s_i_bitCount g (fun (r_ : Int32) (m_ : ch_M) => ((i_bc x1) = r_ ∧ m = m_)) (x1) m ⟨rfl, rfl⟩))
    obtain ⟨rfl, rfl⟩ := q3
    replace h := h
    refine ch_iadd d_m_goesBy_156 ?_
    refine ch_iast (n := 63) d_m_goesBy_157 (by decide) rfl (vp_in_nI (n := 6) (by decide) (by decide)) ?_
    show ch_J g _ _ _ _ _ _ (ch_wr m (9, 0, 1) (6) ((m (9, 0, 1) (6)) + (i_bc x1))) _
    generalize hmm4 : ch_wr m (9, 0, 1) (6) ((m (9, 0, 1) (6)) + (i_bc x1)) = m4
    replace h := h m4 hmm4.symm
    refine ch_aload_n (i := 0) d_m_goesBy_158 rfl rfl ?_
    refine ch_get (v := .inr (9, 0, 1)) d_m_goesBy_159 fl_m_9 rfl ?_
    refine ch_bipush (v := 7) d_m_goesBy_162 (by decide) ?_
    refine ch_dup2 d_m_goesBy_164 rfl rfl ?_
    refine ch_iald (n := 63) d_m_goesBy_165 (by decide) rfl (vp_in_nI (n := 7) (by decide) (by decide)) ?_
    refine ch_iconst (v := 1) d_m_goesBy_166 (by decide) ?_
    refine ch_iadd d_m_goesBy_167 ?_
    refine ch_iast (n := 63) d_m_goesBy_168 (by decide) rfl (vp_in_nI (n := 7) (by decide) (by decide)) ?_
    show ch_J g _ _ _ _ _ _ (ch_wr m4 (9, 0, 1) (7) ((m4 (9, 0, 1) (7)) + 1)) _
    generalize hmm5 : ch_wr m4 (9, 0, 1) (7) ((m4 (9, 0, 1) (7)) + 1) = m5
    replace h := h m5 hmm5.symm
    refine ch_iload_n (i := 1) d_m_goesBy_169 rfl rfl ?_
    exact ch_iret (ty := .int) d_m_goesBy_170 rfl rfl (Nat.le_of_ble_eq_true rfl) h
  · replace h := h.2 c
    refine ch_aload_n (i := 0) d_m_goesBy_105 rfl rfl ?_
    refine ch_get (v := .inr (9, 0, 1)) d_m_goesBy_106 fl_m_9 rfl ?_
    refine ch_iconst (v := 1) d_m_goesBy_109 (by decide) ?_
    refine ch_iald (n := 63) d_m_goesBy_110 (by decide) rfl (vp_in_nI (n := 1) (by decide) (by decide)) ?_
    refine ch_if_le (tgt := 144) d_m_goesBy_111 (by decide) (fun c => ?_) (fun c => ?_)
    · replace h := h.1 c
      refine ch_aload_n (i := 0) d_m_goesBy_144 rfl rfl ?_
      refine ch_get (v := .inr (9, 0, 1)) d_m_goesBy_145 fl_m_9 rfl ?_
      refine ch_bipush (v := 6) d_m_goesBy_148 (by decide) ?_
      refine ch_dup2 d_m_goesBy_150 rfl rfl ?_
      refine ch_iald (n := 63) d_m_goesBy_151 (by decide) rfl (vp_in_nI (n := 6) (by decide) (by decide)) ?_
      refine ch_iload_n (i := 1) d_m_goesBy_152 rfl rfl ?_
      refine ch_callS (as := [.inl (.int x1)]) d_m_goesBy_153 lk_m_171 ms_i_bitCount rfl rfl ⟨Nat.le_of_ble_eq_true rfl, Nat.le_of_ble_eq_true rfl⟩ (Nat.le_of_ble_eq_true rfl) ⟨Nat.le_of_ble_eq_true rfl, Nat.le_of_ble_eq_true rfl⟩ (ch_mono (ch_Ki (fun r6 m7 q8 => ?_)) (s_i_bitCount g (fun (r_ : Int32) (m_ : ch_M) => ((i_bc x1) = r_ ∧ m = m_)) (x1) m ⟨rfl, rfl⟩))
      obtain ⟨rfl, rfl⟩ := q8
      replace h := h
      refine ch_iadd d_m_goesBy_156 ?_
      refine ch_iast (n := 63) d_m_goesBy_157 (by decide) rfl (vp_in_nI (n := 6) (by decide) (by decide)) ?_
      show ch_J g _ _ _ _ _ _ (ch_wr m (9, 0, 1) (6) ((m (9, 0, 1) (6)) + (i_bc x1))) _
      generalize hmm9 : ch_wr m (9, 0, 1) (6) ((m (9, 0, 1) (6)) + (i_bc x1)) = m9
      replace h := h m9 hmm9.symm
      refine ch_aload_n (i := 0) d_m_goesBy_158 rfl rfl ?_
      refine ch_get (v := .inr (9, 0, 1)) d_m_goesBy_159 fl_m_9 rfl ?_
      refine ch_bipush (v := 7) d_m_goesBy_162 (by decide) ?_
      refine ch_dup2 d_m_goesBy_164 rfl rfl ?_
      refine ch_iald (n := 63) d_m_goesBy_165 (by decide) rfl (vp_in_nI (n := 7) (by decide) (by decide)) ?_
      refine ch_iconst (v := 1) d_m_goesBy_166 (by decide) ?_
      refine ch_iadd d_m_goesBy_167 ?_
      refine ch_iast (n := 63) d_m_goesBy_168 (by decide) rfl (vp_in_nI (n := 7) (by decide) (by decide)) ?_
      show ch_J g _ _ _ _ _ _ (ch_wr m9 (9, 0, 1) (7) ((m9 (9, 0, 1) (7)) + 1)) _
      generalize hmm10 : ch_wr m9 (9, 0, 1) (7) ((m9 (9, 0, 1) (7)) + 1) = m10
      replace h := h m10 hmm10.symm
      refine ch_iload_n (i := 1) d_m_goesBy_169 rfl rfl ?_
      exact ch_iret (ty := .int) d_m_goesBy_170 rfl rfl (Nat.le_of_ble_eq_true rfl) h
    · replace h := h.2 c
      refine ch_aload_n (i := 0) d_m_goesBy_114 rfl rfl ?_
      refine ch_get (v := .inr (9, 0, 1)) d_m_goesBy_115 fl_m_9 rfl ?_
      refine ch_iconst (v := 1) d_m_goesBy_118 (by decide) ?_
      refine ch_dup2 d_m_goesBy_119 rfl rfl ?_
      refine ch_iald (n := 63) d_m_goesBy_120 (by decide) rfl (vp_in_nI (n := 1) (by decide) (by decide)) ?_
      refine ch_iconst (v := 1) d_m_goesBy_121 (by decide) ?_
      refine ch_isub d_m_goesBy_122 ?_
      refine ch_iast (n := 63) d_m_goesBy_123 (by decide) rfl (vp_in_nI (n := 1) (by decide) (by decide)) ?_
      show ch_J g _ _ _ _ _ _ (ch_wr m (9, 0, 1) (1) ((m (9, 0, 1) (1)) - 1)) _
      generalize hmm11 : ch_wr m (9, 0, 1) (1) ((m (9, 0, 1) (1)) - 1) = m11
      replace h := h m11 hmm11.symm
      refine ch_aload_n (i := 0) d_m_goesBy_124 rfl rfl ?_
      refine ch_iload_n (i := 2) d_m_goesBy_125 rfl rfl ?_
      refine ch_iconst (v := 0) d_m_goesBy_126 (by decide) ?_
      refine ch_aload_n (i := 0) d_m_goesBy_127 rfl rfl ?_
      refine ch_iload_n (i := 2) d_m_goesBy_128 rfl rfl ?_
      refine ch_iconst (v := 0) d_m_goesBy_129 (by decide) ?_
      have b15 := h.1
      replace h := h.2
      refine ch_callV (as := [.inl (.int x2), .inl (.int 0)]) d_m_goesBy_130 lk_m_85 mi_m_of me_m_of rfl rfl rfl ⟨Nat.le_of_ble_eq_true rfl, Nat.le_of_ble_eq_true rfl⟩ (Nat.le_of_ble_eq_true rfl) ⟨Nat.le_of_ble_eq_true rfl, Nat.le_of_ble_eq_true rfl⟩ (ch_mono (ch_Ki (fun r12 m13 q14 => ?_)) (s_m_of g (fun (r_ : Int32) (m_ : ch_M) => ((m11 (9, 0, 1) (38 + 5 * Int32.toNatClampNeg x2 + 0)) = r_ ∧ m11 = m_)) (x2) (0) m11 ⟨b15, (vp_in_nI (n := 0) (by decide) (by decide)), ⟨rfl, rfl⟩⟩))
      obtain ⟨rfl, rfl⟩ := q14
      replace h := h
      refine ch_iconst (v := 1) d_m_goesBy_133 (by decide) ?_
      refine ch_iadd d_m_goesBy_134 ?_
      refine ch_callV (as := [.inl (.int x2), .inl (.int 0), .inl (.int ((m11 (9, 0, 1) (38 + 5 * Int32.toNatClampNeg x2 + 0)) + 1))]) d_m_goesBy_135 lk_m_89 mi_m_sets me_m_sets rfl rfl rfl ⟨Nat.le_of_ble_eq_true rfl, Nat.le_of_ble_eq_true rfl⟩ (Nat.le_of_ble_eq_true rfl) ⟨Nat.le_of_ble_eq_true rfl, Nat.le_of_ble_eq_true rfl⟩ (ch_mono (ch_Kv (fun m17 q18 => ?_)) (s_m_sets g (fun (m_ : ch_M) => (m_ = ch_wr m11 (9, 0, 1) (38 + 5 * Int32.toNatClampNeg x2 + 0) ((m11 (9, 0, 1) (38 + 5 * Int32.toNatClampNeg x2 + 0)) + 1))) (x2) (0) (((m11 (9, 0, 1) (38 + 5 * Int32.toNatClampNeg x2 + 0)) + 1)) m11 ⟨b15, (vp_in_nI (n := 0) (by decide) (by decide)), rfl⟩))
      have hm_ := q18
      replace h := h m17 hm_
      refine ch_iinc (i := 2) (v := (x2 + 1)) d_m_goesBy_138 rfl rfl (Nat.le_of_ble_eq_true rfl) (ls' := [some (.inr (9, 0, 0)), some (.inl (.int x1)), some (.inl (.int (x2 + 1))), o3]) rfl ?_
      refine ch_goto (tgt := 95) d_m_goesBy_141 (by decide) ?_
      exact h
