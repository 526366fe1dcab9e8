theorem e_m_chalks (g : ch_G) (Q : ch_O → ch_M → Prop) (p1 : Int32) (p2 : Int32) (m : ch_M) (h : ch_J g m_m_chalks (ch_rm m_m_chalks) (ch_E g m_m_chalks Q) 0 [some (.inr (9, 0, 0)), some (.inl (.int p1)), some (.inl (.int p2))] [] m 0) : ch_C g m_m_chalks [.inr (9, 0, 0), .inl (.int p1), .inl (.int p2)] m Q :=
  ch_enter mf_m_chalks (by intro v hv; simp only [List.mem_cons, List.not_mem_nil, or_false] at hv; rcases hv with rfl | rfl | rfl <;> rfl) (Nat.le_of_ble_eq_true rfl) h
set_option maxHeartbeats 1600000 in
theorem g_m_chalks_0 (g : ch_G) (Q : ch_O → ch_M → Prop) (p1 : Int32) (p2 : Int32) (m : ch_M) (h : (((0 ≤ p1 ∧ p1 ≤ m (9, 0, 1) 0 - 1) → (((0 ≤ p2 ∧ p2 ≤ 11) → (vp_in p2 12) ∧ ((((m (9, 0, 1) (14 + 2 * Int32.toNatClampNeg p2) - 1) < 0 → ch_J g m_m_chalks (ch_rm m_m_chalks) (ch_E g m_m_chalks Q) 55 [some (.inr (9, 0, 0)), some (.inl (.int p1)), some (.inl (.int p2))] [] m 0) ∧ (¬ (m (9, 0, 1) (14 + 2 * Int32.toNatClampNeg p2) - 1) < 0 → ((((m (9, 0, 1) (14 + 2 * Int32.toNatClampNeg p2) - 1) = p1 → ch_J g m_m_chalks (ch_rm m_m_chalks) (ch_E g m_m_chalks Q) 55 [some (.inr (9, 0, 0)), some (.inl (.int p1)), some (.inl (.int p2))] [] m 0) ∧ (¬ (m (9, 0, 1) (14 + 2 * Int32.toNatClampNeg p2) - 1) = p1 → (((∀ m18 : ch_M, m18 = ch_wr (ch_wr (ch_wr m (9, 0, 0) 15 4) (9, 0, 0) 16 (m (9, 0, 1) (14 + 2 * Int32.toNatClampNeg p2) - 1)) (9, 0, 0) 17 0 → Q (.inl (some (.inl (.int 0)))) m18)))))))))) ∧ ((¬ (0 ≤ p2 ∧ p2 ≤ 11)) → ((∀ m21 : ch_M, m21 = ch_wr (ch_wr (ch_wr m (9, 0, 0) 15 1) (9, 0, 0) 16 0) (9, 0, 0) 17 0 → Q (.inl (some (.inl (.int 0)))) m21))))) ∧ ((¬ (0 ≤ p1 ∧ p1 ≤ m (9, 0, 1) 0 - 1)) → (∀ m2 : ch_M, m2 = ch_wr (ch_wr (ch_wr m (9, 0, 0) 15 3) (9, 0, 0) 16 (m (9, 0, 1) (0))) (9, 0, 0) 17 0 → Q (.inl (some (.inl (.int 0)))) m2)))) : ch_J g m_m_chalks (ch_rm m_m_chalks) (ch_E g m_m_chalks Q) 0 [some (.inr (9, 0, 0)), some (.inl (.int p1)), some (.inl (.int p2))] [] m 0 := by
  refine ch_aload_n (i := 0) d_m_chalks_0 rfl rfl ?_
  refine ch_iload_n (i := 1) d_m_chalks_1 rfl rfl ?_
  refine ch_callV (as := [.inl (.int p1)]) d_m_chalks_2 lk_m_106 mi_m_isThere me_m_isThere rfl rfl rfl ⟨Nat.le_of_ble_eq_true rfl, Nat.le_of_ble_eq_true rfl⟩ (Nat.le_of_ble_eq_true rfl) ⟨Nat.le_of_ble_eq_true rfl, Nat.le_of_ble_eq_true rfl⟩ (ch_mono (ch_Ki (fun r1 m2 q3 => ?_)) (s_m_isThere g (fun (r_ : Int32) (m_ : ch_M) => ((0 ≤ p1 ∧ p1 ≤ m (9, 0, 1) 0 - 1) ∧ 1 = r_ ∧ m = m_) ∨ ((¬ (0 ≤ p1 ∧ p1 ≤ m (9, 0, 1) 0 - 1)) ∧ 0 = r_ ∧ m_ = ch_wr (ch_wr (ch_wr m (9, 0, 0) 15 3) (9, 0, 0) 16 (m (9, 0, 1) (0))) (9, 0, 0) 17 0)) (p1) m ⟨(fun c_ => (Or.inl ⟨c_, rfl, rfl⟩)), (fun c_ => (Or.inr ⟨c_, rfl, rfl⟩))⟩))
  rcases q3 with ⟨c_, rfl, rfl⟩ | ⟨c_, rfl, hm_⟩
  · replace h := h.1 c_
    refine ch_if_ne (tgt := 10) d_m_chalks_5 (by decide) (fun _ => ?_) (fun c => absurd c (by decide))
    refine ch_iload_n (i := 2) d_m_chalks_10 rfl rfl ?_
    refine ch_iconst (v := 0) d_m_chalks_11 (by decide) ?_
    refine ch_bipush (v := 11) d_m_chalks_12 (by decide) ?_
    refine ch_callS (as := [.inl (.int p2), .inl (.int 0), .inl (.int 11)]) d_m_chalks_14 lk_m_73 ms_m_in rfl rfl ⟨Nat.le_of_ble_eq_true rfl, Nat.le_of_ble_eq_true rfl⟩ (Nat.le_of_ble_eq_true rfl) ⟨Nat.le_of_ble_eq_true rfl, Nat.le_of_ble_eq_true rfl⟩ (ch_mono (ch_Ki (fun r4 m5 q6 => ?_)) (s_m_in g (fun (r_ : Int32) (m_ : ch_M) => ((0 ≤ p2 ∧ p2 ≤ 11) ∧ 1 = r_ ∧ m = m_) ∨ ((¬ (0 ≤ p2 ∧ p2 ≤ 11)) ∧ 0 = r_ ∧ m = m_)) (p2) (0) (11) m ⟨(fun c_ => (Or.inl ⟨c_, rfl, rfl⟩)), (fun c_ => (Or.inr ⟨c_, rfl, rfl⟩))⟩))
    rcases q6 with ⟨c_, rfl, rfl⟩ | ⟨c_, rfl, rfl⟩
    · replace h := h.1 c_
      refine ch_if_ne (tgt := 27) d_m_chalks_17 (by decide) (fun _ => ?_) (fun c => absurd c (by decide))
      refine ch_aload_n (i := 0) d_m_chalks_27 rfl rfl ?_
      refine ch_iload_n (i := 2) d_m_chalks_28 rfl rfl ?_
      have b10 := h.1
      replace h := h.2
      refine ch_callV (as := [.inl (.int p2)]) d_m_chalks_29 lk_m_109 mi_m_owner me_m_owner rfl rfl rfl ⟨Nat.le_of_ble_eq_true rfl, Nat.le_of_ble_eq_true rfl⟩ (Nat.le_of_ble_eq_true rfl) ⟨Nat.le_of_ble_eq_true rfl, Nat.le_of_ble_eq_true rfl⟩ (ch_mono (ch_Ki (fun r7 m8 q9 => ?_)) (s_m_owner g (fun (r_ : Int32) (m_ : ch_M) => ((m (9, 0, 1) (14 + 2 * Int32.toNatClampNeg p2) - 1) = r_ ∧ m = m_)) (p2) m ⟨b10, ⟨rfl, rfl⟩⟩))
      obtain ⟨rfl, rfl⟩ := q9
      replace h := h
      refine ch_if_lt (tgt := 55) d_m_chalks_32 (by decide) (fun c => ?_) (fun c => ?_)
      · replace h := h.1 c
        exact h
      · replace h := h.2 c
        refine ch_aload_n (i := 0) d_m_chalks_35 rfl rfl ?_
        refine ch_iload_n (i := 2) d_m_chalks_36 rfl rfl ?_
        refine ch_callV (as := [.inl (.int p2)]) d_m_chalks_37 lk_m_109 mi_m_owner me_m_owner rfl rfl rfl ⟨Nat.le_of_ble_eq_true rfl, Nat.le_of_ble_eq_true rfl⟩ (Nat.le_of_ble_eq_true rfl) ⟨Nat.le_of_ble_eq_true rfl, Nat.le_of_ble_eq_true rfl⟩ (ch_mono (ch_Ki (fun r11 m12 q13 => ?_)) (s_m_owner g (fun (r_ : Int32) (m_ : ch_M) => ((m (9, 0, 1) (14 + 2 * Int32.toNatClampNeg p2) - 1) = r_ ∧ m = m_)) (p2) m ⟨b10, ⟨rfl, rfl⟩⟩))
        obtain ⟨rfl, rfl⟩ := q13
        replace h := h
        refine ch_iload_n (i := 1) d_m_chalks_40 rfl rfl ?_
        refine ch_icmp_eq (tgt := 55) d_m_chalks_41 (by decide) (fun c => ?_) (fun c => ?_)
        · replace h := h.1 c
          exact h
        · replace h := h.2 c
          refine ch_aload_n (i := 0) d_m_chalks_44 rfl rfl ?_
          refine ch_iconst (v := 4) d_m_chalks_45 (by decide) ?_
          refine ch_aload_n (i := 0) d_m_chalks_46 rfl rfl ?_
          refine ch_iload_n (i := 2) d_m_chalks_47 rfl rfl ?_
          refine ch_callV (as := [.inl (.int p2)]) d_m_chalks_48 lk_m_109 mi_m_owner me_m_owner rfl rfl rfl ⟨Nat.le_of_ble_eq_true rfl, Nat.le_of_ble_eq_true rfl⟩ (Nat.le_of_ble_eq_true rfl) ⟨Nat.le_of_ble_eq_true rfl, Nat.le_of_ble_eq_true rfl⟩ (ch_mono (ch_Ki (fun r14 m15 q16 => ?_)) (s_m_owner g (fun (r_ : Int32) (m_ : ch_M) => ((m (9, 0, 1) (14 + 2 * Int32.toNatClampNeg p2) - 1) = r_ ∧ m = m_)) (p2) m ⟨b10, ⟨rfl, rfl⟩⟩))
          obtain ⟨rfl, rfl⟩ := q16
          replace h := h
          refine ch_callV (as := [.inl (.int 4), .inl (.int (m (9, 0, 1) (14 + 2 * Int32.toNatClampNeg p2) - 1))]) d_m_chalks_51 lk_m_81 mi_m_refuses me_m_refuses rfl rfl rfl ⟨Nat.le_of_ble_eq_true rfl, Nat.le_of_ble_eq_true rfl⟩ (Nat.le_of_ble_eq_true rfl) ⟨Nat.le_of_ble_eq_true rfl, Nat.le_of_ble_eq_true rfl⟩ (ch_mono (ch_Ki (fun r17 m18 q19 => ?_)) (s_m_refuses g (fun (r_ : Int32) (m_ : ch_M) => (0 = r_ ∧ m_ = ch_wr (ch_wr (ch_wr m (9, 0, 0) 15 4) (9, 0, 0) 16 (m (9, 0, 1) (14 + 2 * Int32.toNatClampNeg p2) - 1)) (9, 0, 0) 17 0)) (4) ((m (9, 0, 1) (14 + 2 * Int32.toNatClampNeg p2) - 1)) m ⟨rfl, rfl⟩))
          obtain ⟨rfl, hm_⟩ := q19
          replace h := h m18 hm_
          exact ch_iret (ty := .boolean) d_m_chalks_54 rfl rfl (Nat.le_of_ble_eq_true rfl) h
    · replace h := h.2 c_
      refine ch_if_ne (tgt := 27) d_m_chalks_17 (by decide) (fun c => absurd c (by decide)) (fun _ => ?_)
      refine ch_aload_n (i := 0) d_m_chalks_20 rfl rfl ?_
      refine ch_iconst (v := 1) d_m_chalks_21 (by decide) ?_
      refine ch_iconst (v := 0) d_m_chalks_22 (by decide) ?_
      refine ch_callV (as := [.inl (.int 1), .inl (.int 0)]) d_m_chalks_23 lk_m_81 mi_m_refuses me_m_refuses rfl rfl rfl ⟨Nat.le_of_ble_eq_true rfl, Nat.le_of_ble_eq_true rfl⟩ (Nat.le_of_ble_eq_true rfl) ⟨Nat.le_of_ble_eq_true rfl, Nat.le_of_ble_eq_true rfl⟩ (ch_mono (ch_Ki (fun r20 m21 q22 => ?_)) (s_m_refuses g (fun (r_ : Int32) (m_ : ch_M) => (0 = r_ ∧ m_ = ch_wr (ch_wr (ch_wr m (9, 0, 0) 15 1) (9, 0, 0) 16 0) (9, 0, 0) 17 0)) (1) (0) m ⟨rfl, rfl⟩))
      obtain ⟨rfl, hm_⟩ := q22
      replace h := h m21 hm_
      exact ch_iret (ty := .boolean) d_m_chalks_26 rfl rfl (Nat.le_of_ble_eq_true rfl) h
  · replace h := h.2 c_ m2 hm_
    refine ch_if_ne (tgt := 10) d_m_chalks_5 (by decide) (fun c => absurd c (by decide)) (fun _ => ?_)
    refine ch_iconst (v := 0) d_m_chalks_8 (by decide) ?_
    exact ch_iret (ty := .boolean) d_m_chalks_9 rfl rfl (Nat.le_of_ble_eq_true rfl) h
set_option maxHeartbeats 1600000 in
theorem g_m_chalks_55 (g : ch_G) (Q : ch_O → ch_M → Prop) (x1 : Int32) (x2 : Int32) (m : ch_M) (h : (vp_in x2 12) ∧ (((¬ (m (9, 0, 1) (15 + 2 * Int32.toNatClampNeg x2)) = 9 → (vp_in x1 5) ∧ (((1 ≤ m (9, 0, 1) (38 + 5 * Int32.toNatClampNeg x1 + 0)) → (∀ m6 : ch_M, m6 = ch_os m 9 0 (m_payB (ch_ob m 9 0) (Int32.toNatClampNeg x1) 1) → (((¬ (m6 (9, 0, 1) (14 + 2 * Int32.toNatClampNeg x2) - 1) = x1 → (vp_in ((14 + (2 * x2)) + 1) 63) ∧ (∀ m13 : ch_M, m13 = ch_wr m6 (9, 0, 1) (Int32.toNatClampNeg ((14 + (2 * x2)) + 1)) 5 → (vp_in (14 + (2 * x2)) 63) ∧ (∀ m15 : ch_M, m15 = ch_wr m13 (9, 0, 1) (Int32.toNatClampNeg (14 + (2 * x2))) (x1 + 1) → (((∀ m20 : ch_M, m20 = ch_wr m15 (9, 0, 0) 18 (m15 (9, 0, 1) (15 + 2 * Int32.toNatClampNeg x2)) → Q (.inl (some (.inl (.int 1)))) m20)))))) ∧ ((m6 (9, 0, 1) (14 + 2 * Int32.toNatClampNeg x2) - 1) = x1 → ((vp_in ((14 + (2 * x2)) + 1) 63) ∧ (∀ m26 : ch_M, m26 = ch_wr m6 (9, 0, 1) (Int32.toNatClampNeg ((14 + (2 * x2)) + 1)) (if ((m6 (9, 0, 1) (15 + 2 * Int32.toNatClampNeg x2)) + 2) < 9 then ((m6 (9, 0, 1) (15 + 2 * Int32.toNatClampNeg x2)) + 2) else 9) → (vp_in (14 + (2 * x2)) 63) ∧ (∀ m28 : ch_M, m28 = ch_wr m26 (9, 0, 1) (Int32.toNatClampNeg (14 + (2 * x2))) (x1 + 1) → (((∀ m33 : ch_M, m33 = ch_wr m28 (9, 0, 0) 18 (m28 (9, 0, 1) (15 + 2 * Int32.toNatClampNeg x2)) → Q (.inl (some (.inl (.int 1)))) m33))))))))))) ∧ ((¬ 1 ≤ m (9, 0, 1) (38 + 5 * Int32.toNatClampNeg x1 + 0)) → (∀ m6 : ch_M, m6 = ch_os m 9 0 (m_refB (ch_ob m 9 0) 5 (1 - m (9, 0, 1) (38 + 5 * Int32.toNatClampNeg x1 + 0))) → Q (.inl (some (.inl (.int 0)))) m6)))) ∧ ((m (9, 0, 1) (15 + 2 * Int32.toNatClampNeg x2)) = 9 → ((∀ m36 : ch_M, m36 = ch_wr (ch_wr (ch_wr m (9, 0, 0) 15 6) (9, 0, 0) 16 x2) (9, 0, 0) 17 0 → Q (.inl (some (.inl (.int 0)))) m36)))))) : ch_J g m_m_chalks (ch_rm m_m_chalks) (ch_E g m_m_chalks Q) 55 [some (.inr (9, 0, 0)), some (.inl (.int x1)), some (.inl (.int x2))] [] m 0 := by
  refine ch_aload_n (i := 0) d_m_chalks_55 rfl rfl ?_
  refine ch_iload_n (i := 2) d_m_chalks_56 rfl rfl ?_
  have b4 := h.1
  replace h := h.2
  refine ch_callV (as := [.inl (.int x2)]) d_m_chalks_57 lk_m_112 mi_m_chalkOf me_m_chalkOf rfl rfl rfl ⟨Nat.le_of_ble_eq_true rfl, Nat.le_of_ble_eq_true rfl⟩ (Nat.le_of_ble_eq_true rfl) ⟨Nat.le_of_ble_eq_true rfl, Nat.le_of_ble_eq_true rfl⟩ (ch_mono (ch_Ki (fun r1 m2 q3 => ?_)) (s_m_chalkOf g (fun (r_ : Int32) (m_ : ch_M) => ((m (9, 0, 1) (15 + 2 * Int32.toNatClampNeg x2)) = r_ ∧ m = m_)) (x2) m ⟨b4, ⟨rfl, rfl⟩⟩))
  obtain ⟨rfl, rfl⟩ := q3
  replace h := h
  refine ch_bipush (v := 9) d_m_chalks_60 (by decide) ?_
  refine ch_icmp_ne (tgt := 73) d_m_chalks_62 (by decide) (fun c => ?_) (fun c => ?_)
  · replace h := h.1 c
    refine ch_aload_n (i := 0) d_m_chalks_73 rfl rfl ?_
    refine ch_iload_n (i := 1) d_m_chalks_74 rfl rfl ?_
    refine ch_iconst (v := 1) d_m_chalks_75 (by decide) ?_
    have b8 := h.1
    replace h := h.2
    refine ch_callV (as := [.inl (.int x1), .inl (.int 1)]) d_m_chalks_76 lk_m_115 mi_m_pays me_m_pays rfl rfl rfl ⟨Nat.le_of_ble_eq_true rfl, Nat.le_of_ble_eq_true rfl⟩ (Nat.le_of_ble_eq_true rfl) ⟨Nat.le_of_ble_eq_true rfl, Nat.le_of_ble_eq_true rfl⟩ (ch_mono (ch_Ki (fun r5 m6 q7 => ?_)) (s_m_pays g (fun (r_ : Int32) (m_ : ch_M) => ((1 ≤ m (9, 0, 1) (38 + 5 * Int32.toNatClampNeg x1 + 0)) ∧ 1 = r_ ∧ m_ = ch_os m 9 0 (m_payB (ch_ob m 9 0) (Int32.toNatClampNeg x1) 1)) ∨ ((¬ 1 ≤ m (9, 0, 1) (38 + 5 * Int32.toNatClampNeg x1 + 0)) ∧ 0 = r_ ∧ m_ = ch_os m 9 0 (m_refB (ch_ob m 9 0) 5 (1 - m (9, 0, 1) (38 + 5 * Int32.toNatClampNeg x1 + 0))))) (x1) (1) m ⟨b8, (fun c_ => (Or.inl ⟨c_, rfl, rfl⟩)), (fun c_ => (Or.inr ⟨c_, rfl, rfl⟩))⟩))
    rcases q7 with ⟨c_, rfl, hm_⟩ | ⟨c_, rfl, hm_⟩
    · replace h := h.1 c_ m6 hm_
      refine ch_if_ne (tgt := 84) d_m_chalks_79 (by decide) (fun _ => ?_) (fun c => absurd c (by decide))
      refine ch_aload_n (i := 0) d_m_chalks_84 rfl rfl ?_
      refine ch_get (v := .inr (9, 0, 1)) d_m_chalks_85 fl_m_9 rfl ?_
      refine ch_bipush (v := 14) d_m_chalks_88 (by decide) ?_
      refine ch_iconst (v := 2) d_m_chalks_90 (by decide) ?_
      refine ch_iload_n (i := 2) d_m_chalks_91 rfl rfl ?_
      refine ch_imul d_m_chalks_92 ?_
      refine ch_iadd d_m_chalks_93 ?_
      refine ch_iconst (v := 1) d_m_chalks_94 (by decide) ?_
      refine ch_iadd d_m_chalks_95 ?_
      refine ch_aload_n (i := 0) d_m_chalks_96 rfl rfl ?_
      refine ch_iload_n (i := 2) d_m_chalks_97 rfl rfl ?_
      refine ch_callV (as := [.inl (.int x2)]) d_m_chalks_98 lk_m_109 mi_m_owner me_m_owner rfl rfl rfl ⟨Nat.le_of_ble_eq_true rfl, Nat.le_of_ble_eq_true rfl⟩ (Nat.le_of_ble_eq_true rfl) ⟨Nat.le_of_ble_eq_true rfl, Nat.le_of_ble_eq_true rfl⟩ (ch_mono (ch_Ki (fun r9 m10 q11 => ?_)) (s_m_owner g (fun (r_ : Int32) (m_ : ch_M) => ((m6 (9, 0, 1) (14 + 2 * Int32.toNatClampNeg x2) - 1) = r_ ∧ m6 = m_)) (x2) m6 ⟨b4, ⟨rfl, rfl⟩⟩))
      obtain ⟨rfl, rfl⟩ := q11
      replace h := h
      refine ch_iload_n (i := 1) d_m_chalks_101 rfl rfl ?_
      refine ch_icmp_ne (tgt := 120) d_m_chalks_102 (by decide) (fun c => ?_) (fun c => ?_)
      · replace h := h.1 c
        refine ch_iconst (v := 5) d_m_chalks_120 (by decide) ?_
        have b12 := h.1
        replace h := h.2
        refine ch_iast (n := 63) d_m_chalks_121 (by decide) rfl b12 ?_
        show ch_J g _ _ _ _ _ _ (ch_wr m6 (9, 0, 1) (Int32.toNatClampNeg ((14 + (2 * x2)) + 1)) 5) _
        generalize hmm13 : ch_wr m6 (9, 0, 1) (Int32.toNatClampNeg ((14 + (2 * x2)) + 1)) 5 = m13
        replace h := h m13 hmm13.symm
        refine ch_aload_n (i := 0) d_m_chalks_122 rfl rfl ?_
        refine ch_get (v := .inr (9, 0, 1)) d_m_chalks_123 fl_m_9 rfl ?_
        refine ch_bipush (v := 14) d_m_chalks_126 (by decide) ?_
        refine ch_iconst (v := 2) d_m_chalks_128 (by decide) ?_
        refine ch_iload_n (i := 2) d_m_chalks_129 rfl rfl ?_
        refine ch_imul d_m_chalks_130 ?_
        refine ch_iadd d_m_chalks_131 ?_
        refine ch_iload_n (i := 1) d_m_chalks_132 rfl rfl ?_
        refine ch_iconst (v := 1) d_m_chalks_133 (by decide) ?_
        refine ch_iadd d_m_chalks_134 ?_
        have b14 := h.1
        replace h := h.2
        refine ch_iast (n := 63) d_m_chalks_135 (by decide) rfl b14 ?_
        show ch_J g _ _ _ _ _ _ (ch_wr m13 (9, 0, 1) (Int32.toNatClampNeg (14 + (2 * x2))) (x1 + 1)) _
        generalize hmm15 : ch_wr m13 (9, 0, 1) (Int32.toNatClampNeg (14 + (2 * x2))) (x1 + 1) = m15
        replace h := h m15 hmm15.symm
        refine ch_aload_n (i := 0) d_m_chalks_136 rfl rfl ?_
        refine ch_aload_n (i := 0) d_m_chalks_137 rfl rfl ?_
        refine ch_iload_n (i := 2) d_m_chalks_138 rfl rfl ?_
        refine ch_callV (as := [.inl (.int x2)]) d_m_chalks_139 lk_m_112 mi_m_chalkOf me_m_chalkOf rfl rfl rfl ⟨Nat.le_of_ble_eq_true rfl, Nat.le_of_ble_eq_true rfl⟩ (Nat.le_of_ble_eq_true rfl) ⟨Nat.le_of_ble_eq_true rfl, Nat.le_of_ble_eq_true rfl⟩ (ch_mono (ch_Ki (fun r16 m17 q18 => ?_)) (s_m_chalkOf g (fun (r_ : Int32) (m_ : ch_M) => ((m15 (9, 0, 1) (15 + 2 * Int32.toNatClampNeg x2)) = r_ ∧ m15 = m_)) (x2) m15 ⟨b4, ⟨rfl, rfl⟩⟩))
        obtain ⟨rfl, rfl⟩ := q18
        replace h := h
        refine ch_callV (as := [.inl (.int (m15 (9, 0, 1) (15 + 2 * Int32.toNatClampNeg x2)))]) d_m_chalks_142 lk_m_93 mi_m_does me_m_does rfl rfl rfl ⟨Nat.le_of_ble_eq_true rfl, Nat.le_of_ble_eq_true rfl⟩ (Nat.le_of_ble_eq_true rfl) ⟨Nat.le_of_ble_eq_true rfl, Nat.le_of_ble_eq_true rfl⟩ (ch_mono (ch_Ki (fun r19 m20 q21 => ?_)) (s_m_does g (fun (r_ : Int32) (m_ : ch_M) => (1 = r_ ∧ m_ = ch_wr m15 (9, 0, 0) 18 (m15 (9, 0, 1) (15 + 2 * Int32.toNatClampNeg x2)))) ((m15 (9, 0, 1) (15 + 2 * Int32.toNatClampNeg x2))) m15 ⟨rfl, rfl⟩))
        obtain ⟨rfl, hm_⟩ := q21
        replace h := h m20 hm_
        exact ch_iret (ty := .boolean) d_m_chalks_145 rfl rfl (Nat.le_of_ble_eq_true rfl) h
      · replace h := h.2 c
        refine ch_bipush (v := 9) d_m_chalks_105 (by decide) ?_
        refine ch_aload_n (i := 0) d_m_chalks_107 rfl rfl ?_
        refine ch_iload_n (i := 2) d_m_chalks_108 rfl rfl ?_
        refine ch_callV (as := [.inl (.int x2)]) d_m_chalks_109 lk_m_112 mi_m_chalkOf me_m_chalkOf rfl rfl rfl ⟨Nat.le_of_ble_eq_true rfl, Nat.le_of_ble_eq_true rfl⟩ (Nat.le_of_ble_eq_true rfl) ⟨Nat.le_of_ble_eq_true rfl, Nat.le_of_ble_eq_true rfl⟩ (ch_mono (ch_Ki (fun r22 m23 q24 => ?_)) (s_m_chalkOf g (fun (r_ : Int32) (m_ : ch_M) => ((m6 (9, 0, 1) (15 + 2 * Int32.toNatClampNeg x2)) = r_ ∧ m6 = m_)) (x2) m6 ⟨b4, ⟨rfl, rfl⟩⟩))
        obtain ⟨rfl, rfl⟩ := q24
        replace h := h
        refine ch_iconst (v := 2) d_m_chalks_112 (by decide) ?_
        refine ch_iadd d_m_chalks_113 ?_
        refine ch_min d_m_chalks_114 lk_m_118 ⟨Nat.le_of_ble_eq_true rfl, Nat.le_of_ble_eq_true rfl⟩ ⟨Nat.le_of_ble_eq_true rfl, Nat.le_of_ble_eq_true rfl⟩ (Nat.le_of_ble_eq_true rfl) ?_
        refine ch_goto (tgt := 121) d_m_chalks_117 (by decide) ?_
        have b25 := h.1
        replace h := h.2
        refine ch_iast (n := 63) d_m_chalks_121 (by decide) rfl b25 ?_
        show ch_J g _ _ _ _ _ _ (ch_wr m6 (9, 0, 1) (Int32.toNatClampNeg ((14 + (2 * x2)) + 1)) (if ((m6 (9, 0, 1) (15 + 2 * Int32.toNatClampNeg x2)) + 2) < 9 then ((m6 (9, 0, 1) (15 + 2 * Int32.toNatClampNeg x2)) + 2) else 9)) _
        generalize hmm26 : ch_wr m6 (9, 0, 1) (Int32.toNatClampNeg ((14 + (2 * x2)) + 1)) (if ((m6 (9, 0, 1) (15 + 2 * Int32.toNatClampNeg x2)) + 2) < 9 then ((m6 (9, 0, 1) (15 + 2 * Int32.toNatClampNeg x2)) + 2) else 9) = m26
        replace h := h m26 hmm26.symm
        refine ch_aload_n (i := 0) d_m_chalks_122 rfl rfl ?_
        refine ch_get (v := .inr (9, 0, 1)) d_m_chalks_123 fl_m_9 rfl ?_
        refine ch_bipush (v := 14) d_m_chalks_126 (by decide) ?_
        refine ch_iconst (v := 2) d_m_chalks_128 (by decide) ?_
        refine ch_iload_n (i := 2) d_m_chalks_129 rfl rfl ?_
        refine ch_imul d_m_chalks_130 ?_
        refine ch_iadd d_m_chalks_131 ?_
        refine ch_iload_n (i := 1) d_m_chalks_132 rfl rfl ?_
        refine ch_iconst (v := 1) d_m_chalks_133 (by decide) ?_
        refine ch_iadd d_m_chalks_134 ?_
        have b27 := h.1
        replace h := h.2
        refine ch_iast (n := 63) d_m_chalks_135 (by decide) rfl b27 ?_
        show ch_J g _ _ _ _ _ _ (ch_wr m26 (9, 0, 1) (Int32.toNatClampNeg (14 + (2 * x2))) (x1 + 1)) _
        generalize hmm28 : ch_wr m26 (9, 0, 1) (Int32.toNatClampNeg (14 + (2 * x2))) (x1 + 1) = m28
        replace h := h m28 hmm28.symm
        refine ch_aload_n (i := 0) d_m_chalks_136 rfl rfl ?_
        refine ch_aload_n (i := 0) d_m_chalks_137 rfl rfl ?_
        refine ch_iload_n (i := 2) d_m_chalks_138 rfl rfl ?_
        refine ch_callV (as := [.inl (.int x2)]) d_m_chalks_139 lk_m_112 mi_m_chalkOf me_m_chalkOf rfl rfl rfl ⟨Nat.le_of_ble_eq_true rfl, Nat.le_of_ble_eq_true rfl⟩ (Nat.le_of_ble_eq_true rfl) ⟨Nat.le_of_ble_eq_true rfl, Nat.le_of_ble_eq_true rfl⟩ (ch_mono (ch_Ki (fun r29 m30 q31 => ?_)) (s_m_chalkOf g (fun (r_ : Int32) (m_ : ch_M) => ((m28 (9, 0, 1) (15 + 2 * Int32.toNatClampNeg x2)) = r_ ∧ m28 = m_)) (x2) m28 ⟨b4, ⟨rfl, rfl⟩⟩))
        obtain ⟨rfl, rfl⟩ := q31
        replace h := h
        refine ch_callV (as := [.inl (.int (m28 (9, 0, 1) (15 + 2 * Int32.toNatClampNeg x2)))]) d_m_chalks_142 lk_m_93 mi_m_does me_m_does rfl rfl rfl ⟨Nat.le_of_ble_eq_true rfl, Nat.le_of_ble_eq_true rfl⟩ (Nat.le_of_ble_eq_true rfl) ⟨Nat.le_of_ble_eq_true rfl, Nat.le_of_ble_eq_true rfl⟩ (ch_mono (ch_Ki (fun r32 m33 q34 => ?_)) (s_m_does g (fun (r_ : Int32) (m_ : ch_M) => (1 = r_ ∧ m_ = ch_wr m28 (9, 0, 0) 18 (m28 (9, 0, 1) (15 + 2 * Int32.toNatClampNeg x2)))) ((m28 (9, 0, 1) (15 + 2 * Int32.toNatClampNeg x2))) m28 ⟨rfl, rfl⟩))
        obtain ⟨rfl, hm_⟩ := q34
        replace h := h m33 hm_
        exact ch_iret (ty := .boolean) d_m_chalks_145 rfl rfl (Nat.le_of_ble_eq_true rfl) h
    · replace h := h.2 c_ m6 hm_
      refine ch_if_ne (tgt := 84) d_m_chalks_79 (by decide) (fun c => absurd c (by decide)) (fun _ => ?_)
      refine ch_iconst (v := 0) d_m_chalks_82 (by decide) ?_
      exact ch_iret (ty := .boolean) d_m_chalks_83 rfl rfl (Nat.le_of_ble_eq_true rfl) h
  · replace h := h.2 c
    refine ch_aload_n (i := 0) d_m_chalks_65 rfl rfl ?_
    refine ch_bipush (v := 6) d_m_chalks_66 (by decide) ?_
    refine ch_iload_n (i := 2) d_m_chalks_68 rfl rfl ?_
    refine ch_callV (as := [.inl (.int 6), .inl (.int x2)]) d_m_chalks_69 lk_m_81 mi_m_refuses me_m_refuses rfl rfl rfl ⟨Nat.le_of_ble_eq_true rfl, Nat.le_of_ble_eq_true rfl⟩ (Nat.le_of_ble_eq_true rfl) ⟨Nat.le_of_ble_eq_true rfl, Nat.le_of_ble_eq_true rfl⟩ (ch_mono (ch_Ki (fun r35 m36 q37 => ?_)) (s_m_refuses g (fun (r_ : Int32) (m_ : ch_M) => (0 = r_ ∧ m_ = ch_wr (ch_wr (ch_wr m (9, 0, 0) 15 6) (9, 0, 0) 16 x2) (9, 0, 0) 17 0)) (6) (x2) m ⟨rfl, rfl⟩))
    obtain ⟨rfl, hm_⟩ := q37
    replace h := h m36 hm_
    exact ch_iret (ty := .boolean) d_m_chalks_72 rfl rfl (Nat.le_of_ble_eq_true rfl) h
theorem e_m_gives (g : ch_G) (Q : ch_O → ch_M → Prop) (p1 : Int32) (p2 : Int32) (p3 : Int32) (m : ch_M) (h : ch_J g m_m_gives (ch_rm m_m_gives) (ch_E g m_m_gives Q) 0 [some (.inr (9, 0, 0)), some (.inl (.int p1)), some (.inl (.int p2)), some (.inl (.int p3))] [] m 0) : ch_C g m_m_gives [.inr (9, 0, 0), .inl (.int p1), .inl (.int p2), .inl (.int p3)] m Q :=
  ch_enter mf_m_gives (by intro v hv; simp only [List.mem_cons, List.not_mem_nil, or_false] at hv; rcases hv with rfl | rfl | rfl | rfl <;> rfl) (Nat.le_of_ble_eq_true rfl) h
set_option maxHeartbeats 1600000 in
theorem g_m_gives_0 (g : ch_G) (Q : ch_O → ch_M → Prop) (p1 : Int32) (p2 : Int32) (p3 : Int32) (m : ch_M) (h : (((0 ≤ p1 ∧ p1 ≤ m (9, 0, 1) 0 - 1) → (((0 ≤ p2 ∧ p2 ≤ m (9, 0, 1) 0 - 1) → ((¬ p1 = p2 → (((1 ≤ p3 ∧ p3 ≤ 99) → (vp_in p1 5) ∧ (((p3 ≤ (m (9, 0, 1) (38 + 5 * Int32.toNatClampNeg p1 + 0)) → (((∀ m18 : ch_M, m18 = ch_wr m (9, 0, 1) (38 + 5 * Int32.toNatClampNeg p1 + 0) ((m (9, 0, 1) (38 + 5 * Int32.toNatClampNeg p1 + 0)) - p3) → (vp_in p2 5) ∧ (((∀ m25 : ch_M, m25 = ch_wr m18 (9, 0, 1) (38 + 5 * Int32.toNatClampNeg p2 + 0) ((m18 (9, 0, 1) (38 + 5 * Int32.toNatClampNeg p2 + 0)) + p3) → (((∀ m31 : ch_M, m31 = ch_wr m25 (9, 0, 0) 18 (m25 (9, 0, 1) (38 + 5 * Int32.toNatClampNeg p1 + 0)) → Q (.inl (some (.inl (.int 1)))) m31)))))))))) ∧ (¬ p3 ≤ (m (9, 0, 1) (38 + 5 * Int32.toNatClampNeg p1 + 0)) → (((∀ m37 : ch_M, m37 = ch_wr (ch_wr (ch_wr m (9, 0, 0) 15 5) (9, 0, 0) 16 (p3 - (m (9, 0, 1) (38 + 5 * Int32.toNatClampNeg p1 + 0)))) (9, 0, 0) 17 0 → Q (.inl (some (.inl (.int 0)))) m37))))))) ∧ ((¬ (1 ≤ p3 ∧ p3 ≤ 99)) → ((∀ m40 : ch_M, m40 = ch_wr (ch_wr (ch_wr m (9, 0, 0) 15 1) (9, 0, 0) 16 0) (9, 0, 0) 17 0 → Q (.inl (some (.inl (.int 0)))) m40))))) ∧ (p1 = p2 → ((∀ m43 : ch_M, m43 = ch_wr (ch_wr (ch_wr m (9, 0, 0) 15 11) (9, 0, 0) 16 p1) (9, 0, 0) 17 0 → Q (.inl (some (.inl (.int 0)))) m43))))) ∧ ((¬ (0 ≤ p2 ∧ p2 ≤ m (9, 0, 1) 0 - 1)) → (∀ m5 : ch_M, m5 = ch_wr (ch_wr (ch_wr m (9, 0, 0) 15 3) (9, 0, 0) 16 (m (9, 0, 1) (0))) (9, 0, 0) 17 0 → Q (.inl (some (.inl (.int 0)))) m5)))) ∧ ((¬ (0 ≤ p1 ∧ p1 ≤ m (9, 0, 1) 0 - 1)) → (∀ m2 : ch_M, m2 = ch_wr (ch_wr (ch_wr m (9, 0, 0) 15 3) (9, 0, 0) 16 (m (9, 0, 1) (0))) (9, 0, 0) 17 0 → Q (.inl (some (.inl (.int 0)))) m2)))) : ch_J g m_m_gives (ch_rm m_m_gives) (ch_E g m_m_gives Q) 0 [some (.inr (9, 0, 0)), some (.inl (.int p1)), some (.inl (.int p2)), some (.inl (.int p3))] [] m 0 := by
  refine ch_aload_n (i := 0) d_m_gives_0 rfl rfl ?_
  refine ch_iload_n (i := 1) d_m_gives_1 rfl rfl ?_
  refine ch_callV (as := [.inl (.int p1)]) d_m_gives_2 lk_m_106 mi_m_isThere me_m_isThere rfl rfl rfl ⟨Nat.le_of_ble_eq_true rfl, Nat.le_of_ble_eq_true rfl⟩ (Nat.le_of_ble_eq_true rfl) ⟨Nat.le_of_ble_eq_true rfl, Nat.le_of_ble_eq_true rfl⟩ (ch_mono (ch_Ki (fun r1 m2 q3 => ?_)) (s_m_isThere g (fun (r_ : Int32) (m_ : ch_M) => ((0 ≤ p1 ∧ p1 ≤ m (9, 0, 1) 0 - 1) ∧ 1 = r_ ∧ m = m_) ∨ ((¬ (0 ≤ p1 ∧ p1 ≤ m (9, 0, 1) 0 - 1)) ∧ 0 = r_ ∧ m_ = ch_wr (ch_wr (ch_wr m (9, 0, 0) 15 3) (9, 0, 0) 16 (m (9, 0, 1) (0))) (9, 0, 0) 17 0)) (p1) m ⟨(fun c_ => (Or.inl ⟨c_, rfl, rfl⟩)), (fun c_ => (Or.inr ⟨c_, rfl, rfl⟩))⟩))
  rcases q3 with ⟨c_, rfl, rfl⟩ | ⟨c_, rfl, hm_⟩
  · replace h := h.1 c_
    refine ch_if_eq (tgt := 16) d_m_gives_5 (by decide) (fun c => absurd c (by decide)) (fun _ => ?_)
    refine ch_aload_n (i := 0) d_m_gives_8 rfl rfl ?_
    refine ch_iload_n (i := 2) d_m_gives_9 rfl rfl ?_
    refine ch_callV (as := [.inl (.int p2)]) d_m_gives_10 lk_m_106 mi_m_isThere me_m_isThere rfl rfl rfl ⟨Nat.le_of_ble_eq_true rfl, Nat.le_of_ble_eq_true rfl⟩ (Nat.le_of_ble_eq_true rfl) ⟨Nat.le_of_ble_eq_true rfl, Nat.le_of_ble_eq_true rfl⟩ (ch_mono (ch_Ki (fun r4 m5 q6 => ?_)) (s_m_isThere g (fun (r_ : Int32) (m_ : ch_M) => ((0 ≤ p2 ∧ p2 ≤ m (9, 0, 1) 0 - 1) ∧ 1 = r_ ∧ m = m_) ∨ ((¬ (0 ≤ p2 ∧ p2 ≤ m (9, 0, 1) 0 - 1)) ∧ 0 = r_ ∧ m_ = ch_wr (ch_wr (ch_wr m (9, 0, 0) 15 3) (9, 0, 0) 16 (m (9, 0, 1) (0))) (9, 0, 0) 17 0)) (p2) m ⟨(fun c_ => (Or.inl ⟨c_, rfl, rfl⟩)), (fun c_ => (Or.inr ⟨c_, rfl, rfl⟩))⟩))
    rcases q6 with ⟨c_, rfl, rfl⟩ | ⟨c_, rfl, hm_⟩
    · replace h := h.1 c_
      refine ch_if_ne (tgt := 18) d_m_gives_13 (by decide) (fun _ => ?_) (fun c => absurd c (by decide))
      refine ch_iload_n (i := 1) d_m_gives_18 rfl rfl ?_
      refine ch_iload_n (i := 2) d_m_gives_19 rfl rfl ?_
      refine ch_icmp_ne (tgt := 31) d_m_gives_20 (by decide) (fun c => ?_) (fun c => ?_)
      · replace h := h.1 c
        refine ch_iload_n (i := 3) d_m_gives_31 rfl rfl ?_
        refine ch_iconst (v := 1) d_m_gives_32 (by decide) ?_
        refine ch_bipush (v := 99) d_m_gives_33 (by decide) ?_
        refine ch_callS (as := [.inl (.int p3), .inl (.int 1), .inl (.int 99)]) d_m_gives_35 lk_m_73 ms_m_in rfl rfl ⟨Nat.le_of_ble_eq_true rfl, Nat.le_of_ble_eq_true rfl⟩ (Nat.le_of_ble_eq_true rfl) ⟨Nat.le_of_ble_eq_true rfl, Nat.le_of_ble_eq_true rfl⟩ (ch_mono (ch_Ki (fun r7 m8 q9 => ?_)) (s_m_in g (fun (r_ : Int32) (m_ : ch_M) => ((1 ≤ p3 ∧ p3 ≤ 99) ∧ 1 = r_ ∧ m = m_) ∨ ((¬ (1 ≤ p3 ∧ p3 ≤ 99)) ∧ 0 = r_ ∧ m = m_)) (p3) (1) (99) m ⟨(fun c_ => (Or.inl ⟨c_, rfl, rfl⟩)), (fun c_ => (Or.inr ⟨c_, rfl, rfl⟩))⟩))
        rcases q9 with ⟨c_, rfl, rfl⟩ | ⟨c_, rfl, rfl⟩
        · replace h := h.1 c_
          refine ch_if_ne (tgt := 48) d_m_gives_38 (by decide) (fun _ => ?_) (fun c => absurd c (by decide))
          refine ch_aload_n (i := 0) d_m_gives_48 rfl rfl ?_
          refine ch_iload_n (i := 1) d_m_gives_49 rfl rfl ?_
          refine ch_iconst (v := 0) d_m_gives_50 (by decide) ?_
          have b13 := h.1
          replace h := h.2
          refine ch_callV (as := [.inl (.int p1), .inl (.int 0)]) d_m_gives_51 lk_m_85 mi_m_of me_m_of rfl rfl rfl ⟨Nat.le_of_ble_eq_true rfl, Nat.le_of_ble_eq_true rfl⟩ (Nat.le_of_ble_eq_true rfl) ⟨Nat.le_of_ble_eq_true rfl, Nat.le_of_ble_eq_true rfl⟩ (ch_mono (ch_Ki (fun r10 m11 q12 => ?_)) (s_m_of g (fun (r_ : Int32) (m_ : ch_M) => ((m (9, 0, 1) (38 + 5 * Int32.toNatClampNeg p1 + 0)) = r_ ∧ m = m_)) (p1) (0) m ⟨b13, (vp_in_nI (n := 0) (by decide) (by decide)), ⟨rfl, rfl⟩⟩))
          obtain ⟨rfl, rfl⟩ := q12
          replace h := h
          refine ch_iload_n (i := 3) d_m_gives_54 rfl rfl ?_
          refine ch_icmp_ge (tgt := 72) d_m_gives_55 (by decide) (fun c => ?_) (fun c => ?_)
          · replace h := h.1 c
            refine ch_aload_n (i := 0) d_m_gives_72 rfl rfl ?_
            refine ch_iload_n (i := 1) d_m_gives_73 rfl rfl ?_
            refine ch_iconst (v := 0) d_m_gives_74 (by decide) ?_
            refine ch_aload_n (i := 0) d_m_gives_75 rfl rfl ?_
            refine ch_iload_n (i := 1) d_m_gives_76 rfl rfl ?_
            refine ch_iconst (v := 0) d_m_gives_77 (by decide) ?_
            refine ch_callV (as := [.inl (.int p1), .inl (.int 0)]) d_m_gives_78 lk_m_85 mi_m_of me_m_of rfl rfl rfl ⟨Nat.le_of_ble_eq_true rfl, Nat.le_of_ble_eq_true rfl⟩ (Nat.le_of_ble_eq_true rfl) ⟨Nat.le_of_ble_eq_true rfl, Nat.le_of_ble_eq_true rfl⟩ (ch_mono (ch_Ki (fun r14 m15 q16 => ?_)) (s_m_of g (fun (r_ : Int32) (m_ : ch_M) => ((m (9, 0, 1) (38 + 5 * Int32.toNatClampNeg p1 + 0)) = r_ ∧ m = m_)) (p1) (0) m ⟨b13, (vp_in_nI (n := 0) (by decide) (by decide)), ⟨rfl, rfl⟩⟩))
            obtain ⟨rfl, rfl⟩ := q16
            replace h := h
            refine ch_iload_n (i := 3) d_m_gives_81 rfl rfl ?_
            refine ch_isub d_m_gives_82 ?_
            refine ch_callV (as := [.inl (.int p1), .inl (.int 0), .inl (.int ((m (9, 0, 1) (38 + 5 * Int32.toNatClampNeg p1 + 0)) - p3))]) d_m_gives_83 lk_m_89 mi_m_sets me_m_sets rfl rfl rfl ⟨Nat.le_of_ble_eq_true rfl, Nat.le_of_ble_eq_true rfl⟩ (Nat.le_of_ble_eq_true rfl) ⟨Nat.le_of_ble_eq_true rfl, Nat.le_of_ble_eq_true rfl⟩ (ch_mono (ch_Kv (fun m18 q19 => ?_)) (s_m_sets g (fun (m_ : ch_M) => (m_ = ch_wr m (9, 0, 1) (38 + 5 * Int32.toNatClampNeg p1 + 0) ((m (9, 0, 1) (38 + 5 * Int32.toNatClampNeg p1 + 0)) - p3))) (p1) (0) (((m (9, 0, 1) (38 + 5 * Int32.toNatClampNeg p1 + 0)) - p3)) m ⟨b13, (vp_in_nI (n := 0) (by decide) (by decide)), rfl⟩))
            have hm_ := q19
            replace h := h m18 hm_
            refine ch_aload_n (i := 0) d_m_gives_86 rfl rfl ?_
            refine ch_iload_n (i := 2) d_m_gives_87 rfl rfl ?_
            refine ch_iconst (v := 0) d_m_gives_88 (by decide) ?_
            refine ch_aload_n (i := 0) d_m_gives_89 rfl rfl ?_
            refine ch_iload_n (i := 2) d_m_gives_90 rfl rfl ?_
            refine ch_iconst (v := 0) d_m_gives_91 (by decide) ?_
            have b23 := h.1
            replace h := h.2
            refine ch_callV (as := [.inl (.int p2), .inl (.int 0)]) d_m_gives_92 lk_m_85 mi_m_of me_m_of rfl rfl rfl ⟨Nat.le_of_ble_eq_true rfl, Nat.le_of_ble_eq_true rfl⟩ (Nat.le_of_ble_eq_true rfl) ⟨Nat.le_of_ble_eq_true rfl, Nat.le_of_ble_eq_true rfl⟩ (ch_mono (ch_Ki (fun r20 m21 q22 => ?_)) (s_m_of g (fun (r_ : Int32) (m_ : ch_M) => ((m18 (9, 0, 1) (38 + 5 * Int32.toNatClampNeg p2 + 0)) = r_ ∧ m18 = m_)) (p2) (0) m18 ⟨b23, (vp_in_nI (n := 0) (by decide) (by decide)), ⟨rfl, rfl⟩⟩))
            obtain ⟨rfl, rfl⟩ := q22
            replace h := h
            refine ch_iload_n (i := 3) d_m_gives_95 rfl rfl ?_
            refine ch_iadd d_m_gives_96 ?_
            refine ch_callV (as := [.inl (.int p2), .inl (.int 0), .inl (.int ((m18 (9, 0, 1) (38 + 5 * Int32.toNatClampNeg p2 + 0)) + p3))]) d_m_gives_97 lk_m_89 mi_m_sets me_m_sets rfl rfl rfl ⟨Nat.le_of_ble_eq_true rfl, Nat.le_of_ble_eq_true rfl⟩ (Nat.le_of_ble_eq_true rfl) ⟨Nat.le_of_ble_eq_true rfl, Nat.le_of_ble_eq_true rfl⟩ (ch_mono (ch_Kv (fun m25 q26 => ?_)) (s_m_sets g (fun (m_ : ch_M) => (m_ = ch_wr m18 (9, 0, 1) (38 + 5 * Int32.toNatClampNeg p2 + 0) ((m18 (9, 0, 1) (38 + 5 * Int32.toNatClampNeg p2 + 0)) + p3))) (p2) (0) (((m18 (9, 0, 1) (38 + 5 * Int32.toNatClampNeg p2 + 0)) + p3)) m18 ⟨b23, (vp_in_nI (n := 0) (by decide) (by decide)), rfl⟩))
            have hm_ := q26
            replace h := h m25 hm_
            refine ch_aload_n (i := 0) d_m_gives_100 rfl rfl ?_
            refine ch_aload_n (i := 0) d_m_gives_101 rfl rfl ?_
            refine ch_iload_n (i := 1) d_m_gives_102 rfl rfl ?_
            refine ch_iconst (v := 0) d_m_gives_103 (by decide) ?_
            refine ch_callV (as := [.inl (.int p1), .inl (.int 0)]) d_m_gives_104 lk_m_85 mi_m_of me_m_of rfl rfl rfl ⟨Nat.le_of_ble_eq_true rfl, Nat.le_of_ble_eq_true rfl⟩ (Nat.le_of_ble_eq_true rfl) ⟨Nat.le_of_ble_eq_true rfl, Nat.le_of_ble_eq_true rfl⟩ (ch_mono (ch_Ki (fun r27 m28 q29 => ?_)) (s_m_of g (fun (r_ : Int32) (m_ : ch_M) => ((m25 (9, 0, 1) (38 + 5 * Int32.toNatClampNeg p1 + 0)) = r_ ∧ m25 = m_)) (p1) (0) m25 ⟨b13, (vp_in_nI (n := 0) (by decide) (by decide)), ⟨rfl, rfl⟩⟩))
            obtain ⟨rfl, rfl⟩ := q29
            replace h := h
            refine ch_callV (as := [.inl (.int (m25 (9, 0, 1) (38 + 5 * Int32.toNatClampNeg p1 + 0)))]) d_m_gives_107 lk_m_93 mi_m_does me_m_does rfl rfl rfl ⟨Nat.le_of_ble_eq_true rfl, Nat.le_of_ble_eq_true rfl⟩ (Nat.le_of_ble_eq_true rfl) ⟨Nat.le_of_ble_eq_true rfl, Nat.le_of_ble_eq_true rfl⟩ (ch_mono (ch_Ki (fun r30 m31 q32 => ?_)) (s_m_does g (fun (r_ : Int32) (m_ : ch_M) => (1 = r_ ∧ m_ = ch_wr m25 (9, 0, 0) 18 (m25 (9, 0, 1) (38 + 5 * Int32.toNatClampNeg p1 + 0)))) ((m25 (9, 0, 1) (38 + 5 * Int32.toNatClampNeg p1 + 0))) m25 ⟨rfl, rfl⟩))
            obtain ⟨rfl, hm_⟩ := q32
            replace h := h m31 hm_
            exact ch_iret (ty := .boolean) d_m_gives_110 rfl rfl (Nat.le_of_ble_eq_true rfl) h
          · replace h := h.2 c
            refine ch_aload_n (i := 0) d_m_gives_58 rfl rfl ?_
            refine ch_iconst (v := 5) d_m_gives_59 (by decide) ?_
            refine ch_iload_n (i := 3) d_m_gives_60 rfl rfl ?_
            refine ch_aload_n (i := 0) d_m_gives_61 rfl rfl ?_
            refine ch_iload_n (i := 1) d_m_gives_62 rfl rfl ?_
            refine ch_iconst (v := 0) d_m_gives_63 (by decide) ?_
            refine ch_callV (as := [.inl (.int p1), .inl (.int 0)]) d_m_gives_64 lk_m_85 mi_m_of me_m_of rfl rfl rfl ⟨Nat.le_of_ble_eq_true rfl, Nat.le_of_ble_eq_true rfl⟩ (Nat.le_of_ble_eq_true rfl) ⟨Nat.le_of_ble_eq_true rfl, Nat.le_of_ble_eq_true rfl⟩ (ch_mono (ch_Ki (fun r33 m34 q35 => ?_)) (s_m_of g (fun (r_ : Int32) (m_ : ch_M) => ((m (9, 0, 1) (38 + 5 * Int32.toNatClampNeg p1 + 0)) = r_ ∧ m = m_)) (p1) (0) m ⟨b13, (vp_in_nI (n := 0) (by decide) (by decide)), ⟨rfl, rfl⟩⟩))
            obtain ⟨rfl, rfl⟩ := q35
            replace h := h
            refine ch_isub d_m_gives_67 ?_
            refine ch_callV (as := [.inl (.int 5), .inl (.int (p3 - (m (9, 0, 1) (38 + 5 * Int32.toNatClampNeg p1 + 0))))]) d_m_gives_68 lk_m_81 mi_m_refuses me_m_refuses rfl rfl rfl ⟨Nat.le_of_ble_eq_true rfl, Nat.le_of_ble_eq_true rfl⟩ (Nat.le_of_ble_eq_true rfl) ⟨Nat.le_of_ble_eq_true rfl, Nat.le_of_ble_eq_true rfl⟩ (ch_mono (ch_Ki (fun r36 m37 q38 => ?_)) (s_m_refuses g (fun (r_ : Int32) (m_ : ch_M) => (0 = r_ ∧ m_ = ch_wr (ch_wr (ch_wr m (9, 0, 0) 15 5) (9, 0, 0) 16 (p3 - (m (9, 0, 1) (38 + 5 * Int32.toNatClampNeg p1 + 0)))) (9, 0, 0) 17 0)) (5) ((p3 - (m (9, 0, 1) (38 + 5 * Int32.toNatClampNeg p1 + 0)))) m ⟨rfl, rfl⟩))
            obtain ⟨rfl, hm_⟩ := q38
            replace h := h m37 hm_
            exact ch_iret (ty := .boolean) d_m_gives_71 rfl rfl (Nat.le_of_ble_eq_true rfl) h
        · replace h := h.2 c_
          refine ch_if_ne (tgt := 48) d_m_gives_38 (by decide) (fun c => absurd c (by decide)) (fun _ => ?_)
          refine ch_aload_n (i := 0) d_m_gives_41 rfl rfl ?_
          refine ch_iconst (v := 1) d_m_gives_42 (by decide) ?_
          refine ch_iconst (v := 0) d_m_gives_43 (by decide) ?_
          refine ch_callV (as := [.inl (.int 1), .inl (.int 0)]) d_m_gives_44 lk_m_81 mi_m_refuses me_m_refuses rfl rfl rfl ⟨Nat.le_of_ble_eq_true rfl, Nat.le_of_ble_eq_true rfl⟩ (Nat.le_of_ble_eq_true rfl) ⟨Nat.le_of_ble_eq_true rfl, Nat.le_of_ble_eq_true rfl⟩ (ch_mono (ch_Ki (fun r39 m40 q41 => ?_)) (s_m_refuses g (fun (r_ : Int32) (m_ : ch_M) => (0 = r_ ∧ m_ = ch_wr (ch_wr (ch_wr m (9, 0, 0) 15 1) (9, 0, 0) 16 0) (9, 0, 0) 17 0)) (1) (0) m ⟨rfl, rfl⟩))
          obtain ⟨rfl, hm_⟩ := q41
          replace h := h m40 hm_
          exact ch_iret (ty := .boolean) d_m_gives_47 rfl rfl (Nat.le_of_ble_eq_true rfl) h
      · replace h := h.2 c
        refine ch_aload_n (i := 0) d_m_gives_23 rfl rfl ?_
        refine ch_bipush (v := 11) d_m_gives_24 (by decide) ?_
        refine ch_iload_n (i := 1) d_m_gives_26 rfl rfl ?_
        refine ch_callV (as := [.inl (.int 11), .inl (.int p1)]) d_m_gives_27 lk_m_81 mi_m_refuses me_m_refuses rfl rfl rfl ⟨Nat.le_of_ble_eq_true rfl, Nat.le_of_ble_eq_true rfl⟩ (Nat.le_of_ble_eq_true rfl) ⟨Nat.le_of_ble_eq_true rfl, Nat.le_of_ble_eq_true rfl⟩ (ch_mono (ch_Ki (fun r42 m43 q44 => ?_)) (s_m_refuses g (fun (r_ : Int32) (m_ : ch_M) => (0 = r_ ∧ m_ = ch_wr (ch_wr (ch_wr m (9, 0, 0) 15 11) (9, 0, 0) 16 p1) (9, 0, 0) 17 0)) (11) (p1) m ⟨rfl, rfl⟩))
        obtain ⟨rfl, hm_⟩ := q44
        replace h := h m43 hm_
        exact ch_iret (ty := .boolean) d_m_gives_30 rfl rfl (Nat.le_of_ble_eq_true rfl) h
    · replace h := h.2 c_ m5 hm_
      refine ch_if_ne (tgt := 18) d_m_gives_13 (by decide) (fun c => absurd c (by decide)) (fun _ => ?_)
      refine ch_iconst (v := 0) d_m_gives_16 (by decide) ?_
      exact ch_iret (ty := .boolean) d_m_gives_17 rfl rfl (Nat.le_of_ble_eq_true rfl) h
  · replace h := h.2 c_ m2 hm_
    refine ch_if_eq (tgt := 16) d_m_gives_5 (by decide) (fun _ => ?_) (fun c => absurd c (by decide))
    refine ch_iconst (v := 0) d_m_gives_16 (by decide) ?_
    exact ch_iret (ty := .boolean) d_m_gives_17 rfl rfl (Nat.le_of_ble_eq_true rfl) h
theorem e_m_writes (g : ch_G) (Q : ch_O → ch_M → Prop) (p1 : Int32) (m : ch_M) (h : ch_J g m_m_writes (ch_rm m_m_writes) (ch_E g m_m_writes Q) 0 [some (.inr (9, 0, 0)), some (.inl (.int p1)), none] [] m 0) : ch_C g m_m_writes [.inr (9, 0, 0), .inl (.int p1)] m Q :=
  ch_enter mf_m_writes (by intro v hv; simp only [List.mem_cons, List.not_mem_nil, or_false] at hv; rcases hv with rfl | rfl <;> rfl) (Nat.le_of_ble_eq_true rfl) h
set_option maxHeartbeats 1600000 in
theorem g_m_writes_0 (g : ch_G) (Q : ch_O → ch_M → Prop) (p1 : Int32) (m : ch_M) (h : (vp_in (m (9, 0, 1) 0) 6) ∧ ((((0 ≤ p1 ∧ p1 ≤ m (9, 0, 1) 0 - 1) ∧ m (9, 0, 1) (38 + 5 * Int32.toNatClampNeg p1 + 2) = 0) → (vp_in p1 5) ∧ (((3 ≤ (m (9, 0, 1) (38 + 5 * Int32.toNatClampNeg p1 + 1)) → ((∀ m10 : ch_M, m10 = ch_wr m (9, 0, 1) (38 + 5 * Int32.toNatClampNeg p1 + 2) (if (m (9, 0, 1) (38 + 5 * Int32.toNatClampNeg p1 + 1)) < 9 then (m (9, 0, 1) (38 + 5 * Int32.toNatClampNeg p1 + 1)) else 9) → ((∀ m13 : ch_M, m13 = ch_wr m10 (9, 0, 1) (38 + 5 * Int32.toNatClampNeg p1 + 1) 0 → (∀ m15 : ch_M, m15 = ch_wr m13 (9, 0, 1) (8) ((m13 (9, 0, 1) (8)) + 1) → (vp_in (9 + (m13 (9, 0, 1) (8))) 63) ∧ (∀ m17 : ch_M, m17 = ch_wr m15 (9, 0, 1) (Int32.toNatClampNeg (9 + (m13 (9, 0, 1) (8)))) p1 → (∀ m18 : ch_M, m18 = ch_wr m17 (9, 0, 1) (4) ((m17 (9, 0, 1) (4)) + 1) → (((∀ m23 : ch_M, m23 = ch_wr m18 (9, 0, 0) 18 (m18 (9, 0, 1) (38 + 5 * Int32.toNatClampNeg p1 + 2)) → Q (.inl (some (.inl (.int 1)))) m23))))))))))) ∧ (¬ 3 ≤ (m (9, 0, 1) (38 + 5 * Int32.toNatClampNeg p1 + 1)) → ((∀ m26 : ch_M, m26 = ch_wr (ch_wr (ch_wr m (9, 0, 0) 15 9) (9, 0, 0) 16 (m (9, 0, 1) (38 + 5 * Int32.toNatClampNeg p1 + 1))) (9, 0, 0) 17 0 → Q (.inl (some (.inl (.int 0)))) m26)))))) ∧ ((¬ (0 ≤ p1 ∧ p1 ≤ m (9, 0, 1) 0 - 1)) → (∀ m2 : ch_M, m2 = ch_os m 9 0 (m_refB (ch_ob m 9 0) 3 (m (9, 0, 1) 0)) → Q (.inl (some (.inl (.int 0)))) m2)) ∧ (((0 ≤ p1 ∧ p1 ≤ m (9, 0, 1) 0 - 1) ∧ ¬ m (9, 0, 1) (38 + 5 * Int32.toNatClampNeg p1 + 2) = 0) → (∀ m2 : ch_M, m2 = ch_os m 9 0 (m_refB (ch_ob m 9 0) 7 (m (9, 0, 1) (38 + 5 * Int32.toNatClampNeg p1 + 2))) → Q (.inl (some (.inl (.int 0)))) m2)))) : ch_J g m_m_writes (ch_rm m_m_writes) (ch_E g m_m_writes Q) 0 [some (.inr (9, 0, 0)), some (.inl (.int p1)), none] [] m 0 := by
  refine ch_aload_n (i := 0) d_m_writes_0 rfl rfl ?_
  refine ch_iload_n (i := 1) d_m_writes_1 rfl rfl ?_
  have b4 := h.1
  replace h := h.2
  refine ch_callV (as := [.inl (.int p1)]) d_m_writes_2 lk_m_144 mi_m_canHop me_m_canHop rfl rfl rfl ⟨Nat.le_of_ble_eq_true rfl, Nat.le_of_ble_eq_true rfl⟩ (Nat.le_of_ble_eq_true rfl) ⟨Nat.le_of_ble_eq_true rfl, Nat.le_of_ble_eq_true rfl⟩ (ch_mono (ch_Ki (fun r1 m2 q3 => ?_)) (s_m_canHop g (fun (r_ : Int32) (m_ : ch_M) => (((0 ≤ p1 ∧ p1 ≤ m (9, 0, 1) 0 - 1) ∧ m (9, 0, 1) (38 + 5 * Int32.toNatClampNeg p1 + 2) = 0) ∧ 1 = r_ ∧ m = m_) ∨ ((¬ (0 ≤ p1 ∧ p1 ≤ m (9, 0, 1) 0 - 1)) ∧ 0 = r_ ∧ m_ = ch_os m 9 0 (m_refB (ch_ob m 9 0) 3 (m (9, 0, 1) 0))) ∨ (((0 ≤ p1 ∧ p1 ≤ m (9, 0, 1) 0 - 1) ∧ ¬ m (9, 0, 1) (38 + 5 * Int32.toNatClampNeg p1 + 2) = 0) ∧ 0 = r_ ∧ m_ = ch_os m 9 0 (m_refB (ch_ob m 9 0) 7 (m (9, 0, 1) (38 + 5 * Int32.toNatClampNeg p1 + 2))))) (p1) m ⟨b4, (fun c_ => (Or.inl ⟨c_, rfl, rfl⟩)), (fun c_ => (Or.inr (Or.inl ⟨c_, rfl, rfl⟩))), (fun c_ => (Or.inr (Or.inr ⟨c_, rfl, rfl⟩)))⟩))
  rcases q3 with ⟨c_, rfl, rfl⟩ | ⟨c_, rfl, hm_⟩ | ⟨c_, rfl, hm_⟩
  · replace h := h.1 c_
    refine ch_if_ne (tgt := 10) d_m_writes_5 (by decide) (fun _ => ?_) (fun c => absurd c (by decide))
    refine ch_aload_n (i := 0) d_m_writes_10 rfl rfl ?_
    refine ch_iload_n (i := 1) d_m_writes_11 rfl rfl ?_
    refine ch_iconst (v := 1) d_m_writes_12 (by decide) ?_
    have b8 := h.1
    replace h := h.2
    refine ch_callV (as := [.inl (.int p1), .inl (.int 1)]) d_m_writes_13 lk_m_85 mi_m_of me_m_of rfl rfl rfl ⟨Nat.le_of_ble_eq_true rfl, Nat.le_of_ble_eq_true rfl⟩ (Nat.le_of_ble_eq_true rfl) ⟨Nat.le_of_ble_eq_true rfl, Nat.le_of_ble_eq_true rfl⟩ (ch_mono (ch_Ki (fun r5 m6 q7 => ?_)) (s_m_of g (fun (r_ : Int32) (m_ : ch_M) => ((m (9, 0, 1) (38 + 5 * Int32.toNatClampNeg p1 + 1)) = r_ ∧ m = m_)) (p1) (1) m ⟨b8, (vp_in_nI (n := 1) (by decide) (by decide)), ⟨rfl, rfl⟩⟩))
    obtain ⟨rfl, rfl⟩ := q7
    replace h := h
    refine ch_istore_n (i := 2) d_m_writes_16 rfl (Nat.le_of_ble_eq_true rfl) (ls' := [some (.inr (9, 0, 0)), some (.inl (.int p1)), some (.inl (.int (m (9, 0, 1) (38 + 5 * Int32.toNatClampNeg p1 + 1))))]) rfl ?_
    refine ch_iload_n (i := 2) d_m_writes_17 rfl rfl ?_
    refine ch_iconst (v := 3) d_m_writes_18 (by decide) ?_
    refine ch_icmp_ge (tgt := 30) d_m_writes_19 (by decide) (fun c => ?_) (fun c => ?_)
    · replace h := h.1 c
      refine ch_aload_n (i := 0) d_m_writes_30 rfl rfl ?_
      refine ch_iload_n (i := 1) d_m_writes_31 rfl rfl ?_
      refine ch_iconst (v := 2) d_m_writes_32 (by decide) ?_
      refine ch_bipush (v := 9) d_m_writes_33 (by decide) ?_
      refine ch_iload_n (i := 2) d_m_writes_35 rfl rfl ?_
      refine ch_min d_m_writes_36 lk_m_118 ⟨Nat.le_of_ble_eq_true rfl, Nat.le_of_ble_eq_true rfl⟩ ⟨Nat.le_of_ble_eq_true rfl, Nat.le_of_ble_eq_true rfl⟩ (Nat.le_of_ble_eq_true rfl) ?_
      refine ch_callV (as := [.inl (.int p1), .inl (.int 2), .inl (.int (if (m (9, 0, 1) (38 + 5 * Int32.toNatClampNeg p1 + 1)) < 9 then (m (9, 0, 1) (38 + 5 * Int32.toNatClampNeg p1 + 1)) else 9))]) d_m_writes_39 lk_m_89 mi_m_sets me_m_sets rfl rfl rfl ⟨Nat.le_of_ble_eq_true rfl, Nat.le_of_ble_eq_true rfl⟩ (Nat.le_of_ble_eq_true rfl) ⟨Nat.le_of_ble_eq_true rfl, Nat.le_of_ble_eq_true rfl⟩ (ch_mono (ch_Kv (fun m10 q11 => ?_)) (s_m_sets g (fun (m_ : ch_M) => (m_ = ch_wr m (9, 0, 1) (38 + 5 * Int32.toNatClampNeg p1 + 2) (if (m (9, 0, 1) (38 + 5 * Int32.toNatClampNeg p1 + 1)) < 9 then (m (9, 0, 1) (38 + 5 * Int32.toNatClampNeg p1 + 1)) else 9))) (p1) (2) ((if (m (9, 0, 1) (38 + 5 * Int32.toNatClampNeg p1 + 1)) < 9 then (m (9, 0, 1) (38 + 5 * Int32.toNatClampNeg p1 + 1)) else 9)) m ⟨b8, (vp_in_nI (n := 2) (by decide) (by decide)), rfl⟩))
      have hm_ := q11
      replace h := h m10 hm_
      refine ch_aload_n (i := 0) d_m_writes_42 rfl rfl ?_
      refine ch_iload_n (i := 1) d_m_writes_43 rfl rfl ?_
      refine ch_iconst (v := 1) d_m_writes_44 (by decide) ?_
      refine ch_iconst (v := 0) d_m_writes_45 (by decide) ?_
      refine ch_callV (as := [.inl (.int p1), .inl (.int 1), .inl (.int 0)]) d_m_writes_46 lk_m_89 mi_m_sets me_m_sets rfl rfl rfl ⟨Nat.le_of_ble_eq_true rfl, Nat.le_of_ble_eq_true rfl⟩ (Nat.le_of_ble_eq_true rfl) ⟨Nat.le_of_ble_eq_true rfl, Nat.le_of_ble_eq_true rfl⟩ (ch_mono (ch_Kv (fun m13 q14 => ?_)) (s_m_sets g (fun (m_ : ch_M) => (m_ = ch_wr m10 (9, 0, 1) (38 + 5 * Int32.toNatClampNeg p1 + 1) 0)) (p1) (1) (0) m10 ⟨b8, (vp_in_nI (n := 1) (by decide) (by decide)), rfl⟩))
      have hm_ := q14
      replace h := h m13 hm_
      refine ch_aload_n (i := 0) d_m_writes_49 rfl rfl ?_
      refine ch_get (v := .inr (9, 0, 1)) d_m_writes_50 fl_m_9 rfl ?_
      refine ch_bipush (v := 9) d_m_writes_53 (by decide) ?_
      refine ch_aload_n (i := 0) d_m_writes_55 rfl rfl ?_
      refine ch_get (v := .inr (9, 0, 1)) d_m_writes_56 fl_m_9 rfl ?_
      refine ch_bipush (v := 8) d_m_writes_59 (by decide) ?_
      refine ch_dup2 d_m_writes_61 rfl rfl ?_
      refine ch_iald (n := 63) d_m_writes_62 (by decide) rfl (vp_in_nI (n := 8) (by decide) (by decide)) ?_
      refine ch_dup_x2 d_m_writes_63 rfl rfl rfl ?_
      refine ch_iconst (v := 1) d_m_writes_64 (by decide) ?_
      refine ch_iadd d_m_writes_65 ?_
      refine ch_iast (n := 63) d_m_writes_66 (by decide) rfl (vp_in_nI (n := 8) (by decide) (by decide)) ?_
      show ch_J g _ _ _ _ _ _ (ch_wr m13 (9, 0, 1) (8) ((m13 (9, 0, 1) (8)) + 1)) _
      generalize hmm15 : ch_wr m13 (9, 0, 1) (8) ((m13 (9, 0, 1) (8)) + 1) = m15
      replace h := h m15 hmm15.symm
      refine ch_iadd d_m_writes_67 ?_
      refine ch_iload_n (i := 1) d_m_writes_68 rfl rfl ?_
      have b16 := h.1
      replace h := h.2
      refine ch_iast (n := 63) d_m_writes_69 (by decide) rfl b16 ?_
      show ch_J g _ _ _ _ _ _ (ch_wr m15 (9, 0, 1) (Int32.toNatClampNeg (9 + (m13 (9, 0, 1) (8)))) p1) _
      generalize hmm17 : ch_wr m15 (9, 0, 1) (Int32.toNatClampNeg (9 + (m13 (9, 0, 1) (8)))) p1 = m17
      replace h := h m17 hmm17.symm
      refine ch_aload_n (i := 0) d_m_writes_70 rfl rfl ?_
      refine ch_get (v := .inr (9, 0, 1)) d_m_writes_71 fl_m_9 rfl ?_
      refine ch_iconst (v := 4) d_m_writes_74 (by decide) ?_
      refine ch_dup2 d_m_writes_75 rfl rfl ?_
      refine ch_iald (n := 63) d_m_writes_76 (by decide) rfl (vp_in_nI (n := 4) (by decide) (by decide)) ?_
      refine ch_iconst (v := 1) d_m_writes_77 (by decide) ?_
      refine ch_iadd d_m_writes_78 ?_
      refine ch_iast (n := 63) d_m_writes_79 (by decide) rfl (vp_in_nI (n := 4) (by decide) (by decide)) ?_
      show ch_J g _ _ _ _ _ _ (ch_wr m17 (9, 0, 1) (4) ((m17 (9, 0, 1) (4)) + 1)) _
      generalize hmm18 : ch_wr m17 (9, 0, 1) (4) ((m17 (9, 0, 1) (4)) + 1) = m18
      replace h := h m18 hmm18.symm
      refine ch_aload_n (i := 0) d_m_writes_80 rfl rfl ?_
      refine ch_aload_n (i := 0) d_m_writes_81 rfl rfl ?_
      refine ch_iload_n (i := 1) d_m_writes_82 rfl rfl ?_
      refine ch_iconst (v := 2) d_m_writes_83 (by decide) ?_
      refine ch_callV (as := [.inl (.int p1), .inl (.int 2)]) d_m_writes_84 lk_m_85 mi_m_of me_m_of rfl rfl rfl ⟨Nat.le_of_ble_eq_true rfl, Nat.le_of_ble_eq_true rfl⟩ (Nat.le_of_ble_eq_true rfl) ⟨Nat.le_of_ble_eq_true rfl, Nat.le_of_ble_eq_true rfl⟩ (ch_mono (ch_Ki (fun r19 m20 q21 => ?_)) (s_m_of g (fun (r_ : Int32) (m_ : ch_M) => ((m18 (9, 0, 1) (38 + 5 * Int32.toNatClampNeg p1 + 2)) = r_ ∧ m18 = m_)) (p1) (2) m18 ⟨b8, (vp_in_nI (n := 2) (by decide) (by decide)), ⟨rfl, rfl⟩⟩))
      obtain ⟨rfl, rfl⟩ := q21
      replace h := h
      refine ch_callV (as := [.inl (.int (m18 (9, 0, 1) (38 + 5 * Int32.toNatClampNeg p1 + 2)))]) d_m_writes_87 lk_m_93 mi_m_does me_m_does rfl rfl rfl ⟨Nat.le_of_ble_eq_true rfl, Nat.le_of_ble_eq_true rfl⟩ (Nat.le_of_ble_eq_true rfl) ⟨Nat.le_of_ble_eq_true rfl, Nat.le_of_ble_eq_true rfl⟩ (ch_mono (ch_Ki (fun r22 m23 q24 => ?_)) (s_m_does g (fun (r_ : Int32) (m_ : ch_M) => (1 = r_ ∧ m_ = ch_wr m18 (9, 0, 0) 18 (m18 (9, 0, 1) (38 + 5 * Int32.toNatClampNeg p1 + 2)))) ((m18 (9, 0, 1) (38 + 5 * Int32.toNatClampNeg p1 + 2))) m18 ⟨rfl, rfl⟩))
      obtain ⟨rfl, hm_⟩ := q24
      replace h := h m23 hm_
      exact ch_iret (ty := .boolean) d_m_writes_90 rfl rfl (Nat.le_of_ble_eq_true rfl) h
    · replace h := h.2 c
      refine ch_aload_n (i := 0) d_m_writes_22 rfl rfl ?_
      refine ch_bipush (v := 9) d_m_writes_23 (by decide) ?_
      refine ch_iload_n (i := 2) d_m_writes_25 rfl rfl ?_
      refine ch_callV (as := [.inl (.int 9), .inl (.int (m (9, 0, 1) (38 + 5 * Int32.toNatClampNeg p1 + 1)))]) d_m_writes_26 lk_m_81 mi_m_refuses me_m_refuses rfl rfl rfl ⟨Nat.le_of_ble_eq_true rfl, Nat.le_of_ble_eq_true rfl⟩ (Nat.le_of_ble_eq_true rfl) ⟨Nat.le_of_ble_eq_true rfl, Nat.le_of_ble_eq_true rfl⟩ (ch_mono (ch_Ki (fun r25 m26 q27 => ?_)) (s_m_refuses g (fun (r_ : Int32) (m_ : ch_M) => (0 = r_ ∧ m_ = ch_wr (ch_wr (ch_wr m (9, 0, 0) 15 9) (9, 0, 0) 16 (m (9, 0, 1) (38 + 5 * Int32.toNatClampNeg p1 + 1))) (9, 0, 0) 17 0)) (9) ((m (9, 0, 1) (38 + 5 * Int32.toNatClampNeg p1 + 1))) m ⟨rfl, rfl⟩))
      obtain ⟨rfl, hm_⟩ := q27
      replace h := h m26 hm_
      exact ch_iret (ty := .boolean) d_m_writes_29 rfl rfl (Nat.le_of_ble_eq_true rfl) h
  · replace h := h.2.1 c_ m2 hm_
    refine ch_if_ne (tgt := 10) d_m_writes_5 (by decide) (fun c => absurd c (by decide)) (fun _ => ?_)
    refine ch_iconst (v := 0) d_m_writes_8 (by decide) ?_
    exact ch_iret (ty := .boolean) d_m_writes_9 rfl rfl (Nat.le_of_ble_eq_true rfl) h
  · replace h := h.2.2 c_ m2 hm_
    refine ch_if_ne (tgt := 10) d_m_writes_5 (by decide) (fun c => absurd c (by decide)) (fun _ => ?_)
    refine ch_iconst (v := 0) d_m_writes_8 (by decide) ?_
    exact ch_iret (ty := .boolean) d_m_writes_9 rfl rfl (Nat.le_of_ble_eq_true rfl) h
